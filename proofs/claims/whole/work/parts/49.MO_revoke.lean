def ws_MO_revoke : List Cond := Cond.code y_MO_revoke c_MO_revoke 9 (Option.some Jvm.ClassFile.FieldType.int) :: GW
theorem d_MO_revoke_0 : decode c_MO_revoke 0 = .ok (.aload_n 0, 1) := by decide +kernel
theorem d_MO_revoke_1 : decode c_MO_revoke 1 = .ok (.aload_n 0, 1) := by decide +kernel
theorem d_MO_revoke_2 : decode c_MO_revoke 2 = .ok (.iload_n 1, 1) := by decide +kernel
theorem d_MO_revoke_3 : decode c_MO_revoke 3 = .ok (.iload_n 2, 1) := by decide +kernel
theorem d_MO_revoke_4 : decode c_MO_revoke 4 = .ok (.aload_n 0, 1) := by decide +kernel
theorem d_MO_revoke_5 : decode c_MO_revoke 5 = .ok (.iconst 5, 1) := by decide +kernel
theorem d_MO_revoke_6 : decode c_MO_revoke 6 = .ok (.iload_n 1, 1) := by decide +kernel
theorem d_MO_revoke_7 : decode c_MO_revoke 7 = .ok (.iload_n 2, 1) := by decide +kernel
theorem d_MO_revoke_8 : decode c_MO_revoke 8 = .ok (.iload_n 3, 1) := by decide +kernel
theorem d_MO_revoke_9 : decode c_MO_revoke 9 = .ok (.iload 4, 2) := by decide +kernel
theorem d_MO_revoke_11 : decode c_MO_revoke 11 = .ok (.invokevirtual 116, 3) := by decide +kernel
theorem d_MO_revoke_14 : decode c_MO_revoke 14 = .ok (.iload 5, 2) := by decide +kernel
theorem d_MO_revoke_16 : decode c_MO_revoke 16 = .ok (.invokevirtual 151, 3) := by decide +kernel
theorem d_MO_revoke_19 : decode c_MO_revoke 19 = .ok (.putfield 81, 3) := by decide +kernel
theorem d_MO_revoke_22 : decode c_MO_revoke 22 = .ok (.aload_n 0, 1) := by decide +kernel
theorem d_MO_revoke_23 : decode c_MO_revoke 23 = .ok (.getfield 81, 3) := by decide +kernel
theorem d_MO_revoke_26 : decode c_MO_revoke 26 = .ok (.ifCond .eq 5, 3) := by decide +kernel
theorem d_MO_revoke_29 : decode c_MO_revoke 29 = .ok (.iconst 0, 1) := by decide +kernel
theorem d_MO_revoke_30 : decode c_MO_revoke 30 = .ok (.ireturn, 1) := by decide +kernel
theorem d_MO_revoke_31 : decode c_MO_revoke 31 = .ok (.iload_n 3, 1) := by decide +kernel
theorem d_MO_revoke_32 : decode c_MO_revoke 32 = .ok (.ifCond .lt 15, 3) := by decide +kernel
theorem d_MO_revoke_35 : decode c_MO_revoke 35 = .ok (.iload_n 3, 1) := by decide +kernel
theorem d_MO_revoke_36 : decode c_MO_revoke 36 = .ok (.aload_n 0, 1) := by decide +kernel
theorem d_MO_revoke_37 : decode c_MO_revoke 37 = .ok (.getfield 206, 3) := by decide +kernel
theorem d_MO_revoke_40 : decode c_MO_revoke 40 = .ok (.if_icmp .ge 7, 3) := by decide +kernel
theorem d_MO_revoke_43 : decode c_MO_revoke 43 = .ok (.iconst 1, 1) := by decide +kernel
theorem d_MO_revoke_44 : decode c_MO_revoke 44 = .ok (.goto 4, 3) := by decide +kernel
theorem d_MO_revoke_47 : decode c_MO_revoke 47 = .ok (.iconst 0, 1) := by decide +kernel
theorem d_MO_revoke_48 : decode c_MO_revoke 48 = .ok (.istore 6, 2) := by decide +kernel
theorem d_MO_revoke_50 : decode c_MO_revoke 50 = .ok (.aload_n 0, 1) := by decide +kernel
theorem d_MO_revoke_51 : decode c_MO_revoke 51 = .ok (.iload 6, 2) := by decide +kernel
theorem d_MO_revoke_53 : decode c_MO_revoke 53 = .ok (.ifCond .ne 7, 3) := by decide +kernel
theorem d_MO_revoke_56 : decode c_MO_revoke 56 = .ok (.iconst 1, 1) := by decide +kernel
theorem d_MO_revoke_57 : decode c_MO_revoke 57 = .ok (.goto 61, 3) := by decide +kernel
theorem d_MO_revoke_60 : decode c_MO_revoke 60 = .ok (.aload_n 0, 1) := by decide +kernel
theorem d_MO_revoke_61 : decode c_MO_revoke 61 = .ok (.iload_n 1, 1) := by decide +kernel
theorem d_MO_revoke_62 : decode c_MO_revoke 62 = .ok (.iload_n 3, 1) := by decide +kernel
theorem d_MO_revoke_63 : decode c_MO_revoke 63 = .ok (.invokevirtual 212, 3) := by decide +kernel
theorem d_MO_revoke_66 : decode c_MO_revoke 66 = .ok (.ifCond .ne 7, 3) := by decide +kernel
theorem d_MO_revoke_69 : decode c_MO_revoke 69 = .ok (.iconst 2, 1) := by decide +kernel
theorem d_MO_revoke_70 : decode c_MO_revoke 70 = .ok (.goto 48, 3) := by decide +kernel
theorem d_MO_revoke_73 : decode c_MO_revoke 73 = .ok (.iload 4, 2) := by decide +kernel
theorem d_MO_revoke_75 : decode c_MO_revoke 75 = .ok (.ifCond .lt 10, 3) := by decide +kernel
theorem d_MO_revoke_78 : decode c_MO_revoke 78 = .ok (.iload 4, 2) := by decide +kernel
theorem d_MO_revoke_80 : decode c_MO_revoke 80 = .ok (.bipush 10, 2) := by decide +kernel
theorem d_MO_revoke_82 : decode c_MO_revoke 82 = .ok (.if_icmp .le 7, 3) := by decide +kernel
theorem d_MO_revoke_85 : decode c_MO_revoke 85 = .ok (.iconst 3, 1) := by decide +kernel
theorem d_MO_revoke_86 : decode c_MO_revoke 86 = .ok (.goto 32, 3) := by decide +kernel
theorem d_MO_revoke_89 : decode c_MO_revoke 89 = .ok (.aload_n 0, 1) := by decide +kernel
theorem d_MO_revoke_90 : decode c_MO_revoke 90 = .ok (.getfield 68, 3) := by decide +kernel
theorem d_MO_revoke_93 : decode c_MO_revoke 93 = .ok (.iload_n 3, 1) := by decide +kernel
theorem d_MO_revoke_94 : decode c_MO_revoke 94 = .ok (.iaload, 1) := by decide +kernel
theorem d_MO_revoke_95 : decode c_MO_revoke 95 = .ok (.ifCond .ge 18, 3) := by decide +kernel
theorem d_MO_revoke_98 : decode c_MO_revoke 98 = .ok (.aload_n 0, 1) := by decide +kernel
theorem d_MO_revoke_99 : decode c_MO_revoke 99 = .ok (.getfield 26, 3) := by decide +kernel
theorem d_MO_revoke_102 : decode c_MO_revoke 102 = .ok (.aload_n 0, 1) := by decide +kernel
theorem d_MO_revoke_103 : decode c_MO_revoke 103 = .ok (.getfield 59, 3) := by decide +kernel
theorem d_MO_revoke_106 : decode c_MO_revoke 106 = .ok (.iload_n 3, 1) := by decide +kernel
theorem d_MO_revoke_107 : decode c_MO_revoke 107 = .ok (.iaload, 1) := by decide +kernel
theorem d_MO_revoke_108 : decode c_MO_revoke 108 = .ok (.iaload, 1) := by decide +kernel
theorem d_MO_revoke_109 : decode c_MO_revoke 109 = .ok (.iconst 3, 1) := by decide +kernel
theorem d_MO_revoke_110 : decode c_MO_revoke 110 = .ok (.if_icmp .eq 7, 3) := by decide +kernel
theorem d_MO_revoke_113 : decode c_MO_revoke 113 = .ok (.iconst 4, 1) := by decide +kernel
theorem d_MO_revoke_114 : decode c_MO_revoke 114 = .ok (.goto 4, 3) := by decide +kernel
theorem d_MO_revoke_117 : decode c_MO_revoke 117 = .ok (.iconst 0, 1) := by decide +kernel
theorem d_MO_revoke_118 : decode c_MO_revoke 118 = .ok (.putfield 81, 3) := by decide +kernel
theorem d_MO_revoke_121 : decode c_MO_revoke 121 = .ok (.aload_n 0, 1) := by decide +kernel
theorem d_MO_revoke_122 : decode c_MO_revoke 122 = .ok (.getfield 81, 3) := by decide +kernel
theorem d_MO_revoke_125 : decode c_MO_revoke 125 = .ok (.ifCond .eq 5, 3) := by decide +kernel
theorem d_MO_revoke_128 : decode c_MO_revoke 128 = .ok (.iconst 0, 1) := by decide +kernel
theorem d_MO_revoke_129 : decode c_MO_revoke 129 = .ok (.ireturn, 1) := by decide +kernel
theorem d_MO_revoke_130 : decode c_MO_revoke 130 = .ok (.aload_n 0, 1) := by decide +kernel
theorem d_MO_revoke_131 : decode c_MO_revoke 131 = .ok (.getfield 68, 3) := by decide +kernel
theorem d_MO_revoke_134 : decode c_MO_revoke 134 = .ok (.iload_n 3, 1) := by decide +kernel
theorem d_MO_revoke_135 : decode c_MO_revoke 135 = .ok (.iload 4, 2) := by decide +kernel
theorem d_MO_revoke_137 : decode c_MO_revoke 137 = .ok (.iastore, 1) := by decide +kernel
theorem d_MO_revoke_138 : decode c_MO_revoke 138 = .ok (.iconst 0, 1) := by decide +kernel
theorem d_MO_revoke_139 : decode c_MO_revoke 139 = .ok (.istore 7, 2) := by decide +kernel
theorem d_MO_revoke_141 : decode c_MO_revoke 141 = .ok (.iconst 0, 1) := by decide +kernel
theorem d_MO_revoke_142 : decode c_MO_revoke 142 = .ok (.istore 8, 2) := by decide +kernel
theorem d_MO_revoke_144 : decode c_MO_revoke 144 = .ok (.iload 8, 2) := by decide +kernel
theorem d_MO_revoke_146 : decode c_MO_revoke 146 = .ok (.aload_n 0, 1) := by decide +kernel
theorem d_MO_revoke_147 : decode c_MO_revoke 147 = .ok (.getfield 206, 3) := by decide +kernel
theorem d_MO_revoke_150 : decode c_MO_revoke 150 = .ok (.if_icmp .ge 30, 3) := by decide +kernel
theorem d_MO_revoke_153 : decode c_MO_revoke 153 = .ok (.aload_n 0, 1) := by decide +kernel
theorem d_MO_revoke_154 : decode c_MO_revoke 154 = .ok (.getfield 68, 3) := by decide +kernel
theorem d_MO_revoke_157 : decode c_MO_revoke 157 = .ok (.iload 8, 2) := by decide +kernel
theorem d_MO_revoke_159 : decode c_MO_revoke 159 = .ok (.iaload, 1) := by decide +kernel
theorem d_MO_revoke_160 : decode c_MO_revoke 160 = .ok (.ifCond .ge 10, 3) := by decide +kernel
theorem d_MO_revoke_163 : decode c_MO_revoke 163 = .ok (.iload 7, 2) := by decide +kernel
theorem d_MO_revoke_165 : decode c_MO_revoke 165 = .ok (.iconst 1, 1) := by decide +kernel
theorem d_MO_revoke_166 : decode c_MO_revoke 166 = .ok (.iadd, 1) := by decide +kernel
theorem d_MO_revoke_167 : decode c_MO_revoke 167 = .ok (.goto 5, 3) := by decide +kernel
theorem d_MO_revoke_170 : decode c_MO_revoke 170 = .ok (.iload 7, 2) := by decide +kernel
theorem d_MO_revoke_172 : decode c_MO_revoke 172 = .ok (.istore 7, 2) := by decide +kernel
theorem d_MO_revoke_174 : decode c_MO_revoke 174 = .ok (.iinc 8 1, 3) := by decide +kernel
theorem d_MO_revoke_177 : decode c_MO_revoke 177 = .ok (.goto (-33), 3) := by decide +kernel
theorem d_MO_revoke_180 : decode c_MO_revoke 180 = .ok (.iload 7, 2) := by decide +kernel
theorem d_MO_revoke_182 : decode c_MO_revoke 182 = .ok (.ireturn, 1) := by decide +kernel
def wq_MO_revoke_144 (post : Int32 → ST → Int64 → Prop) : Nat → Int32 → Int32 → ST → Int64 → Prop
  | 0 => fun _ _ _ _ => False
  | n + 1 => fun v7 v8 X Y => (((X 5 0) ≤ v8 → post v7 X Y) ∧ (¬ (X 5 0) ≤ v8 → (vp_in v8 12 ∧ ((0 ≤ (X 55 v8.toNatClampNeg) → wq_MO_revoke_144 post n v7 (v8 + (1 : Int32)) X Y) ∧ (¬ 0 ≤ (X 55 v8.toNatClampNeg) → wq_MO_revoke_144 post n (v7 + (1 : Int32)) (v8 + (1 : Int32)) X Y)))))
def wq_MO_revoke_118 (post : Int32 → ST → Int64 → Prop) (s0 : Int32) (v3 : Int32) (v4 : Int32) (X : ST) (Y : Int64) : Prop := ((s0 = 0 → (vp_in v3 12 ∧ (∃ n9, wq_MO_revoke_144 post n9 (0 : Int32) (0 : Int32) (up (up X 90 0 s0) 55 v3.toNatClampNeg v4) Y))) ∧ (¬ s0 = 0 → post (0 : Int32) (up X 90 0 s0) Y))
def wq_MO_revoke_48 (post : Int32 → ST → Int64 → Prop) (s0 : Int32) (v1 : Int32) (v3 : Int32) (v4 : Int32) (X : ST) (Y : Int64) : Prop := ((s0 = 0 → wq_MO_revoke_118 post (1 : Int32) v3 v4 X Y) ∧ (¬ s0 = 0 → wp_MO_may (fun (r9 : Int32) (X7 : ST) (Y8 : Int64) => ((r9 = 0 → wq_MO_revoke_118 post (2 : Int32) v3 v4 X7 Y8) ∧ (¬ r9 = 0 → ((v4 < 0 → wq_MO_revoke_118 post (3 : Int32) v3 v4 X7 Y8) ∧ (¬ v4 < 0 → ((v4 ≤ (10 : Int32) → (vp_in v3 12 ∧ ((0 ≤ (X7 55 v3.toNatClampNeg) → wq_MO_revoke_118 post (4 : Int32) v3 v4 X7 Y8) ∧ (¬ 0 ≤ (X7 55 v3.toNatClampNeg) → (vp_in (X7 51 v3.toNatClampNeg) 12 ∧ (((X7 20 (X7 51 v3.toNatClampNeg).toNatClampNeg) = (3 : Int32) → wq_MO_revoke_118 post (0 : Int32) v3 v4 X7 Y8) ∧ (¬ (X7 20 (X7 51 v3.toNatClampNeg).toNatClampNeg) = (3 : Int32) → wq_MO_revoke_118 post (4 : Int32) v3 v4 X7 Y8))))))) ∧ (¬ v4 ≤ (10 : Int32) → wq_MO_revoke_118 post (3 : Int32) v3 v4 X7 Y8))))))) X Y v1 v3))
def wp_MO_revoke (post : Int32 → ST → Int64 → Prop) (X : ST) (Y : Int64) (a1 : Int32) (a2 : Int32) (a3 : Int32) (a4 : Int32) (a5 : Int32) : Prop := wp_MO_five (fun (r19 : Int32) (X17 : ST) (Y18 : Int64) => wp_MO_signed (fun (r22 : Int32) (X20 : ST) (Y21 : Int64) => ((r22 = 0 → ((a3 < 0 → wq_MO_revoke_48 post (0 : Int32) a1 a3 a4 (up X20 90 0 r22) Y21) ∧ (¬ a3 < 0 → (((X20 5 0) ≤ a3 → wq_MO_revoke_48 post (0 : Int32) a1 a3 a4 (up X20 90 0 r22) Y21) ∧ (¬ (X20 5 0) ≤ a3 → wq_MO_revoke_48 post (1 : Int32) a1 a3 a4 (up X20 90 0 r22) Y21))))) ∧ (¬ r22 = 0 → post (0 : Int32) (up X20 90 0 r22) Y21))) X17 Y18 a1 a2 r19 a5) X Y (5 : Int32) a1 a2 a3 a4
set_option maxHeartbeats 4000000 in
set_option maxRecDepth 100000 in
theorem mt_MO_revoke (l : Launch) (hl9 : l.stackTraces = false) (dC : Nat → ClassId) (dI : Nat → Nat → Nat) (cA : Nat → ClassId) (ad : Nat → Nat) (hI : INJ ad 23) (sz : Nat) {X : ST} {Y : Int64} {a1 : Int32} {a2 : Int32} {a3 : Int32} {a4 : Int32} {a5 : Int32} {post : Int32 → ST → Int64 → Prop} (hw : wp_MO_revoke post X Y a1 a2 a3 a4 a5) : Met l y_MO_revoke ws_MO_revoke ({ frames := 3, cells := 0, slots := 0, locals := 73 } : Room) (va_Pc [.ref (ad 0), .int a1, .int a2, .int a3, .int a4, .int a5] (fun U => PM dC dI cA ad sz X Y U)) (va_Qi (fun r (u : ST × Int64) => post r u.1 u.2) (fun (u : ST × Int64) t => va_P (dC, dI) vwCl (wdM cA ad u.1 u.2) t.heap) (CA ad 23 sz)) 0 0 (CA ad 23 sz) := by
  refine Met.ofW (cc := c_MO_revoke) (maxL := 9) (ret := (some .int)) (by decide) rfl ?_
  intro p e s m args below meth c s₁ B hml hv
  obtain ⟨rfl, hsz, hP, hG⟩ := hv
  have hx := B.exec
  have hb := B.bytes
  have hr := B.returns
  have hts : ∀ w ∈ GW, w.before (([.ref (ad 0), .int a1, .int a2, .int a3, .int a4, .int a5] : List Value).toArray) s = true := fun w h => atoms_spec (ws := ws_MO_revoke) B.pre w (List.mem_cons_of_mem _ h)
  have hown : s.vm.findClass R_MO = some m.cls := findClass_of_methodNamed B.named
  have hlocks := B.notSynchronized
  subst hsz
  have hK := hG.1
  have hG9 := hG
  have hNW := hG.2
  have hD0 : ∀ (X : ST) (Y : Int64), va_D (CA ad 23 s.heap.size) (wdM cA ad X Y) := fun _ _ => zwM_D hI
  have hS : va_S (CA ad 23 s.heap.size) s.heap s.heap [] := va_S.rf
  have hl := lv_entry ([.ref (ad 0), .int a1, .int a2, .int a3, .int a4, .int a5]) (n := 9) (Nat.le_of_ble_eq_true rfl)
  rw [lg_entry_eq]
  generalize (lg_sl ([.ref (ad 0), .int a1, .int a2, .int a3, .int a4, .int a5]) ++ List.replicate (9 - (lg_sl ([.ref (ad 0), .int a1, .int a2, .int a3, .int a4, .int a5])).length) Slot.unset).toArray = ls at hl ⊢
  have hl : lv_has ls 9 [(0, .ref (ad 0)), (1, .int a1), (2, .int a2), (3, .int a3), (4, .int a4), (5, .int a5)] := hl
  have L144 : ∀ (n : Nat), ∀ (v7 : Int32) (v8 : Int32) (X : ST) (Y : Int64) (H : Heap) (locs : List Loc) (ls : Array Slot), wq_MO_revoke_144 post n v7 v8 X Y → va_P (dC, dI) vwCl (wdM cA ad X Y) H → va_S (CA ad 23 s.heap.size) s.heap H locs → lv_has ls 9 [(0, .ref (ad 0)), (7, .int v7), (8, .int v8)] → W p l e (headSpec ws_MO_revoke ({ frames := 3, cells := 0, slots := 0, locals := 73 } : Room)).room s m (([.ref (ad 0), .int a1, .int a2, .int a3, .int a4, .int a5] : List Value).toArray) below meth c H locs 0 0 (MQ below (va_Qi (fun r (u : ST × Int64) => post r u.1 u.2) (fun (u : ST × Int64) t => va_P (dC, dI) vwCl (wdM cA ad u.1 u.2) t.heap) (CA ad 23 s.heap.size)) (([.ref (ad 0), .int a1, .int a2, .int a3, .int a4, .int a5] : List Value).toArray) s 0 0 (CA ad 23 s.heap.size)) (F0 m 144 ls []) := by
    intro n
    induction n with
    | zero => intro v7 v8 X Y H locs ls hw hP hS hl; exact False.elim hw
    | succ n ih =>
      intro v7 v8 X Y H locs ls hw hP hS hl
      dsimp only [wq_MO_revoke_144] at hw
      refine lv_iload hx hb d_MO_revoke_144 (lv_at hl 2 rfl) ?_
      refine lv_aload_n hx hb d_MO_revoke_146 rfl (lv_at hl 0 rfl) ?_
      refine va_get (D := (dC, dI)) (ci := 9) (v := .int (X 5 0)) (C := R_MO) (T := T_MO) (N := 36) hx hb hts in_MO hown hK hP (0) atM_MO rfl 22 (by decide) (hts _ gw_426) (fun _ h9 => h9) rfl d_MO_revoke_147 ?_
      refine lv_icmp_ge (tgt := 180) hx hb d_MO_revoke_150 (by decide) (fun c1 => ?_) (fun c1 => ?_)
      · have hw := hw.1 c1
        refine lv_iload hx hb d_MO_revoke_180 (lv_at hl 1 rfl) ?_
        exact W.iret (v := v7) hx hb hr (fun t ht _ => ⟨⟨v7, (X, Y), rfl, hw, by show va_P _ _ _ t.heap; rw [ht]; exact hP⟩, hS.F ht⟩) hS.2.2 d_MO_revoke_182
      · have hw := hw.2 c1
        refine lv_aload_n hx hb d_MO_revoke_153 rfl (lv_at hl 0 rfl) ?_
        refine va_get (D := (dC, dI)) (ci := 9) (v := .ref (ad 20)) (C := R_MO) (T := T_MO) (N := 36) hx hb hts in_MO hown hK hP (0) atM_MO rfl 26 (by decide) (hts _ gw_430) (fun _ h9 => h9) rfl d_MO_revoke_154 ?_
        refine lv_iload hx hb d_MO_revoke_157 (lv_at hl 2 rfl) ?_
        obtain ⟨h2, hw⟩ := hw
        refine va_iald hx hb hK hP (20) 19 atM_paperReason rfl h2 d_MO_revoke_159 ?_
        refine lv_if_ge (tgt := 170) hx hb d_MO_revoke_160 (by decide) (fun c3 => ?_) (fun c3 => ?_)
        · have hw := hw.1 c3
          refine lv_iload hx hb d_MO_revoke_170 (lv_at hl 1 rfl) ?_
          refine lv_istore (lv' := [(7, .int v7), (0, .ref (ad 0)), (8, .int v8)]) hx hb d_MO_revoke_172 hl (by decide) rfl (fun ls hl => ?_)
          refine lv_iinc (k := 2) (v := v8 + (1 : Int32)) (lv' := [(8, .int (v8 + (1 : Int32))), (7, .int v7), (0, .ref (ad 0))]) hx hb d_MO_revoke_174 hl rfl rfl (by decide) rfl (fun ls hl => ?_)
          refine lv_goto (tgt := 144) hx hb d_MO_revoke_177 (by decide) ?_
          have hl := lv_sub hl (l' := [(0, .ref (ad 0)), (7, .int v7), (8, .int (v8 + (1 : Int32)))]) [2, 1, 0] rfl
          exact ih _ _ _ _ _ _ _ hw hP hS hl
        · have hw := hw.2 c3
          refine lv_iload hx hb d_MO_revoke_163 (lv_at hl 1 rfl) ?_
          refine lv_iconst (v := (1 : Int32)) hx hb d_MO_revoke_165 (by decide) ?_
          refine lv_iadd hx hb d_MO_revoke_166 ?_
          refine lv_goto (tgt := 172) hx hb d_MO_revoke_167 (by decide) ?_
          refine lv_istore (lv' := [(7, .int (v7 + (1 : Int32))), (0, .ref (ad 0)), (8, .int v8)]) hx hb d_MO_revoke_172 hl (by decide) rfl (fun ls hl => ?_)
          refine lv_iinc (k := 2) (v := v8 + (1 : Int32)) (lv' := [(8, .int (v8 + (1 : Int32))), (7, .int (v7 + (1 : Int32))), (0, .ref (ad 0))]) hx hb d_MO_revoke_174 hl rfl rfl (by decide) rfl (fun ls hl => ?_)
          refine lv_goto (tgt := 144) hx hb d_MO_revoke_177 (by decide) ?_
          have hl := lv_sub hl (l' := [(0, .ref (ad 0)), (7, .int (v7 + (1 : Int32))), (8, .int (v8 + (1 : Int32)))]) [2, 1, 0] rfl
          exact ih _ _ _ _ _ _ _ hw hP hS hl
  have L118 : ∀ (s0 : Int32) (v3 : Int32) (v4 : Int32) (X : ST) (Y : Int64) (H : Heap) (locs : List Loc) (ls : Array Slot), wq_MO_revoke_118 post s0 v3 v4 X Y → va_P (dC, dI) vwCl (wdM cA ad X Y) H → va_S (CA ad 23 s.heap.size) s.heap H locs → lv_has ls 9 [(0, .ref (ad 0)), (3, .int v3), (4, .int v4)] → W p l e (headSpec ws_MO_revoke ({ frames := 3, cells := 0, slots := 0, locals := 73 } : Room)).room s m (([.ref (ad 0), .int a1, .int a2, .int a3, .int a4, .int a5] : List Value).toArray) below meth c H locs 0 0 (MQ below (va_Qi (fun r (u : ST × Int64) => post r u.1 u.2) (fun (u : ST × Int64) t => va_P (dC, dI) vwCl (wdM cA ad u.1 u.2) t.heap) (CA ad 23 s.heap.size)) (([.ref (ad 0), .int a1, .int a2, .int a3, .int a4, .int a5] : List Value).toArray) s 0 0 (CA ad 23 s.heap.size)) (F0 m 118 ls [.int s0, .ref (ad 0)]) := by
    intro s0 v3 v4 X Y H locs ls hw hP hS hl
    unfold wq_MO_revoke_118 at hw
    refine va_put (D := (dC, dI)) (ci := 9) (v := .int s0) (ty := .int) (C := R_MO) (T := T_MO) (N := 36) hx hb hts in_MO ty_MO ty_MO_ok nm_MO hown hK hP (hD0 _ _) hS (0) atM_MO rfl 0 (by decide) (hts _ gw_297) (fun _ h9 => h9) rfl (by decide +kernel) rfl rfl (Nat.le_of_ble_eq_true rfl) d_MO_revoke_118 (fun H locs hP _ hS => ?_)
    have hP : va_P (dC, dI) vwCl (wdM cA ad (up X 90 0 s0) Y) H := by rw [← stM_MO_0]; exact hP
    refine lv_aload_n hx hb d_MO_revoke_121 rfl (lv_at hl 0 rfl) ?_
    refine va_get (D := (dC, dI)) (ci := 9) (v := .int s0) (C := R_MO) (T := T_MO) (N := 36) hx hb hts in_MO hown hK hP (0) atM_MO rfl 0 (by decide) (hts _ gw_297) (fun _ h9 => h9) rfl d_MO_revoke_122 ?_
    refine lv_if_eq (tgt := 130) hx hb d_MO_revoke_125 (by decide) (fun c4 => ?_) (fun c4 => ?_)
    · have hw := hw.1 c4
      refine lv_aload_n hx hb d_MO_revoke_130 rfl (lv_at hl 0 rfl) ?_
      refine va_get (D := (dC, dI)) (ci := 9) (v := .ref (ad 20)) (C := R_MO) (T := T_MO) (N := 36) hx hb hts in_MO hown hK hP (0) atM_MO rfl 26 (by decide) (hts _ gw_430) (fun _ h9 => h9) rfl d_MO_revoke_131 ?_
      refine lv_iload_n hx hb d_MO_revoke_134 rfl (lv_at hl 1 rfl) ?_
      refine lv_iload hx hb d_MO_revoke_135 (lv_at hl 2 rfl) ?_
      obtain ⟨h5, hw⟩ := hw
      refine va_iast hx hb hK hP (hD0 _ _) hS (20) 19 atM_paperReason rfl h5 d_MO_revoke_137 (fun H locs hP _ hS => ?_)
      have hP : va_P (dC, dI) vwCl (wdM cA ad (up (up X 90 0 s0) 55 v3.toNatClampNeg v4) Y) H := by rw [← stM_paperReason]; exact hP
      refine lv_iconst (v := (0 : Int32)) hx hb d_MO_revoke_138 (by decide) ?_
      refine lv_istore (lv' := [(7, .int (0 : Int32)), (0, .ref (ad 0)), (3, .int v3), (4, .int v4)]) hx hb d_MO_revoke_139 hl (by decide) rfl (fun ls hl => ?_)
      refine lv_iconst (v := (0 : Int32)) hx hb d_MO_revoke_141 (by decide) ?_
      refine lv_istore (lv' := [(8, .int (0 : Int32)), (7, .int (0 : Int32)), (0, .ref (ad 0)), (3, .int v3), (4, .int v4)]) hx hb d_MO_revoke_142 hl (by decide) rfl (fun ls hl => ?_)
      have hl := lv_sub hl (l' := [(0, .ref (ad 0)), (7, .int (0 : Int32)), (8, .int (0 : Int32))]) [2, 1, 0] rfl
      obtain ⟨n9, hw⟩ := hw
      exact L144 n9 _ _ _ _ _ _ _ hw hP hS hl
    · have hw := hw.2 c4
      refine lv_iconst (v := (0 : Int32)) hx hb d_MO_revoke_128 (by decide) ?_
      exact W.iret (v := (0 : Int32)) hx hb hr (fun t ht _ => ⟨⟨(0 : Int32), (up X 90 0 s0, Y), rfl, hw, by show va_P _ _ _ t.heap; rw [ht]; exact hP⟩, hS.F ht⟩) hS.2.2 d_MO_revoke_129
  have L48 : ∀ (s0 : Int32) (v1 : Int32) (v3 : Int32) (v4 : Int32) (X : ST) (Y : Int64) (H : Heap) (locs : List Loc) (ls : Array Slot), wq_MO_revoke_48 post s0 v1 v3 v4 X Y → va_P (dC, dI) vwCl (wdM cA ad X Y) H → va_S (CA ad 23 s.heap.size) s.heap H locs → lv_has ls 9 [(0, .ref (ad 0)), (1, .int v1), (3, .int v3), (4, .int v4)] → W p l e (headSpec ws_MO_revoke ({ frames := 3, cells := 0, slots := 0, locals := 73 } : Room)).room s m (([.ref (ad 0), .int a1, .int a2, .int a3, .int a4, .int a5] : List Value).toArray) below meth c H locs 0 0 (MQ below (va_Qi (fun r (u : ST × Int64) => post r u.1 u.2) (fun (u : ST × Int64) t => va_P (dC, dI) vwCl (wdM cA ad u.1 u.2) t.heap) (CA ad 23 s.heap.size)) (([.ref (ad 0), .int a1, .int a2, .int a3, .int a4, .int a5] : List Value).toArray) s 0 0 (CA ad 23 s.heap.size)) (F0 m 48 ls [.int s0]) := by
    intro s0 v1 v3 v4 X Y H locs ls hw hP hS hl
    unfold wq_MO_revoke_48 at hw
    refine lv_istore (lv' := [(6, .int s0), (0, .ref (ad 0)), (1, .int v1), (3, .int v3), (4, .int v4)]) hx hb d_MO_revoke_48 hl (by decide) rfl (fun ls hl => ?_)
    refine lv_aload_n hx hb d_MO_revoke_50 rfl (lv_at hl 1 rfl) ?_
    refine lv_iload hx hb d_MO_revoke_51 (lv_at hl 0 rfl) ?_
    refine lv_if_ne (tgt := 60) hx hb d_MO_revoke_53 (by decide) (fun c6 => ?_) (fun c6 => ?_)
    · have hw := hw.2 c6
      refine lv_aload_n hx hb d_MO_revoke_60 rfl (lv_at hl 1 rfl) ?_
      refine lv_iload_n hx hb d_MO_revoke_61 rfl (lv_at hl 2 rfl) ?_
      refine lv_iload_n hx hb d_MO_revoke_62 rfl (lv_at hl 3 rfl) ?_
      refine va_calli (va_runV (As := [.int v1, .int v3]) (rest := [.ref (ad 0)]) ⟨hx, hb, hml, hown, hts⟩ (mt_MO_may l hl9 dC dI cA ad hI _ hw) (cwV 2 hts (gV gw_432 gw_433 gw_434 gw_306 gw_431) rfl rfl rfl (by decide +kernel) ⟨Nat.le_of_ble_eq_true rfl, Nat.le_of_ble_eq_true rfl⟩) ⟨zwM_blind, va_recv hK hP (ci := 9) (q0 := 0) rfl atM_MO, zwM_pre hP hS hG9⟩ rfl rfl hl.1 rfl (lv_room (Nat.le_of_ble_eq_true rfl)) d_MO_revoke_63 ⟨Nat.le_of_ble_eq_true rfl, Nat.le_of_ble_eq_true rfl⟩) hS (fun q _ h => CA_le hS.1 q h) (fun q h => CA_le hS.1 q h) (fun r9 u9 t H locs ht hvm hw hP hz1 hk1 hS => ?_)
      obtain ⟨X7, Y8⟩ := u9
      have hP : va_P (dC, dI) vwCl (wdM cA ad X7 Y8) H := by rw [← ht]; exact hP
      try dsimp only at hw
      refine lv_if_ne (tgt := 73) hx hb d_MO_revoke_66 (by decide) (fun c10 => ?_) (fun c10 => ?_)
      · have hw := hw.2 c10
        refine lv_iload hx hb d_MO_revoke_73 (lv_at hl 4 rfl) ?_
        refine lv_if_lt (tgt := 85) hx hb d_MO_revoke_75 (by decide) (fun c11 => ?_) (fun c11 => ?_)
        · have hw := hw.1 c11
          refine lv_iconst (v := (3 : Int32)) hx hb d_MO_revoke_85 (by decide) ?_
          refine lv_goto (tgt := 118) hx hb d_MO_revoke_86 (by decide) ?_
          have hl := lv_sub hl (l' := [(0, .ref (ad 0)), (3, .int v3), (4, .int v4)]) [1, 3, 4] rfl
          exact L118 _ _ _ _ _ _ _ _ hw hP hS hl
        · have hw := hw.2 c11
          refine lv_iload hx hb d_MO_revoke_78 (lv_at hl 4 rfl) ?_
          refine lv_bipush (v := (10 : Int32)) hx hb d_MO_revoke_80 (by decide) ?_
          refine lv_icmp_le (tgt := 89) hx hb d_MO_revoke_82 (by decide) (fun c12 => ?_) (fun c12 => ?_)
          · have hw := hw.1 c12
            refine lv_aload_n hx hb d_MO_revoke_89 rfl (lv_at hl 1 rfl) ?_
            refine va_get (D := (dC, dI)) (ci := 9) (v := .ref (ad 20)) (C := R_MO) (T := T_MO) (N := 36) hx hb hts in_MO hown hK hP (0) atM_MO rfl 26 (by decide) (hts _ gw_430) (fun _ h9 => h9) rfl d_MO_revoke_90 ?_
            refine lv_iload_n hx hb d_MO_revoke_93 rfl (lv_at hl 3 rfl) ?_
            obtain ⟨h13, hw⟩ := hw
            refine va_iald hx hb hK hP (20) 19 atM_paperReason rfl h13 d_MO_revoke_94 ?_
            refine lv_if_ge (tgt := 113) hx hb d_MO_revoke_95 (by decide) (fun c14 => ?_) (fun c14 => ?_)
            · have hw := hw.1 c14
              refine lv_iconst (v := (4 : Int32)) hx hb d_MO_revoke_113 (by decide) ?_
              refine lv_goto (tgt := 118) hx hb d_MO_revoke_114 (by decide) ?_
              have hl := lv_sub hl (l' := [(0, .ref (ad 0)), (3, .int v3), (4, .int v4)]) [1, 3, 4] rfl
              exact L118 _ _ _ _ _ _ _ _ hw hP hS hl
            · have hw := hw.2 c14
              refine lv_aload_n hx hb d_MO_revoke_98 rfl (lv_at hl 1 rfl) ?_
              refine va_get (D := (dC, dI)) (ci := 9) (v := .ref (ad 6)) (C := R_MO) (T := T_MO) (N := 36) hx hb hts in_MO hown hK hP (0) atM_MO rfl 10 (by decide) (hts _ gw_345) (fun _ h9 => h9) rfl d_MO_revoke_99 ?_
              refine lv_aload_n hx hb d_MO_revoke_102 rfl (lv_at hl 1 rfl) ?_
              refine va_get (D := (dC, dI)) (ci := 9) (v := .ref (ad 17)) (C := R_MO) (T := T_MO) (N := 36) hx hb hts in_MO hown hK hP (0) atM_MO rfl 23 (by decide) (hts _ gw_427) (fun _ h9 => h9) rfl d_MO_revoke_103 ?_
              refine lv_iload_n hx hb d_MO_revoke_106 rfl (lv_at hl 3 rfl) ?_
              refine va_iald hx hb hK hP (17) 16 atM_paperOrder rfl h13 d_MO_revoke_107 ?_
              obtain ⟨h15, hw⟩ := hw
              refine va_iald hx hb hK hP (6) 5 atM_orderState rfl h15 d_MO_revoke_108 ?_
              refine lv_iconst (v := (3 : Int32)) hx hb d_MO_revoke_109 (by decide) ?_
              refine lv_icmp_eq (tgt := 117) hx hb d_MO_revoke_110 (by decide) (fun c16 => ?_) (fun c16 => ?_)
              · have hw := hw.1 c16
                refine lv_iconst (v := (0 : Int32)) hx hb d_MO_revoke_117 (by decide) ?_
                have hl := lv_sub hl (l' := [(0, .ref (ad 0)), (3, .int v3), (4, .int v4)]) [1, 3, 4] rfl
                exact L118 _ _ _ _ _ _ _ _ hw hP hS hl
              · have hw := hw.2 c16
                refine lv_iconst (v := (4 : Int32)) hx hb d_MO_revoke_113 (by decide) ?_
                refine lv_goto (tgt := 118) hx hb d_MO_revoke_114 (by decide) ?_
                have hl := lv_sub hl (l' := [(0, .ref (ad 0)), (3, .int v3), (4, .int v4)]) [1, 3, 4] rfl
                exact L118 _ _ _ _ _ _ _ _ hw hP hS hl
          · have hw := hw.2 c12
            refine lv_iconst (v := (3 : Int32)) hx hb d_MO_revoke_85 (by decide) ?_
            refine lv_goto (tgt := 118) hx hb d_MO_revoke_86 (by decide) ?_
            have hl := lv_sub hl (l' := [(0, .ref (ad 0)), (3, .int v3), (4, .int v4)]) [1, 3, 4] rfl
            exact L118 _ _ _ _ _ _ _ _ hw hP hS hl
      · have hw := hw.1 c10
        refine lv_iconst (v := (2 : Int32)) hx hb d_MO_revoke_69 (by decide) ?_
        refine lv_goto (tgt := 118) hx hb d_MO_revoke_70 (by decide) ?_
        have hl := lv_sub hl (l' := [(0, .ref (ad 0)), (3, .int v3), (4, .int v4)]) [1, 3, 4] rfl
        exact L118 _ _ _ _ _ _ _ _ hw hP hS hl
    · have hw := hw.1 c6
      refine lv_iconst (v := (1 : Int32)) hx hb d_MO_revoke_56 (by decide) ?_
      refine lv_goto (tgt := 118) hx hb d_MO_revoke_57 (by decide) ?_
      have hl := lv_sub hl (l' := [(0, .ref (ad 0)), (3, .int v3), (4, .int v4)]) [1, 3, 4] rfl
      exact L118 _ _ _ _ _ _ _ _ hw hP hS hl
  unfold wp_MO_revoke at hw
  refine lv_aload_n hx hb d_MO_revoke_0 rfl (lv_at hl 0 rfl) ?_
  refine lv_aload_n hx hb d_MO_revoke_1 rfl (lv_at hl 0 rfl) ?_
  refine lv_iload_n hx hb d_MO_revoke_2 rfl (lv_at hl 1 rfl) ?_
  refine lv_iload_n hx hb d_MO_revoke_3 rfl (lv_at hl 2 rfl) ?_
  refine lv_aload_n hx hb d_MO_revoke_4 rfl (lv_at hl 0 rfl) ?_
  refine lv_iconst (v := (5 : Int32)) hx hb d_MO_revoke_5 (by decide) ?_
  refine lv_iload_n hx hb d_MO_revoke_6 rfl (lv_at hl 1 rfl) ?_
  refine lv_iload_n hx hb d_MO_revoke_7 rfl (lv_at hl 2 rfl) ?_
  refine lv_iload_n hx hb d_MO_revoke_8 rfl (lv_at hl 3 rfl) ?_
  refine lv_iload hx hb d_MO_revoke_9 (lv_at hl 4 rfl) ?_
  refine va_calli (va_runV (As := [.int (5 : Int32), .int a1, .int a2, .int a3, .int a4]) (rest := [.int a2, .int a1, .ref (ad 0), .ref (ad 0)]) ⟨hx, hb, hml, hown, hts⟩ (mt_MO_five l hl9 dC dI cA ad hI _ hw) (cwV 5 hts (gV gw_328 gw_329 gw_330 gw_306 gw_327) rfl rfl rfl (by decide +kernel) ⟨Nat.le_of_ble_eq_true rfl, Nat.le_of_ble_eq_true rfl⟩) ⟨zwM_blind, va_recv hK hP (ci := 9) (q0 := 0) rfl atM_MO, zwM_pre hP hS hG9⟩ rfl rfl hl.1 rfl (lv_room (Nat.le_of_ble_eq_true rfl)) d_MO_revoke_11 ⟨Nat.le_of_ble_eq_true rfl, Nat.le_of_ble_eq_true rfl⟩) hS (fun q _ h => CA_le hS.1 q h) (fun q h => CA_le hS.1 q h) (fun r19 u9 t H locs ht hvm hw hP hz1 hk1 hS => ?_)
  obtain ⟨X17, Y18⟩ := u9
  have hP : va_P (dC, dI) vwCl (wdM cA ad X17 Y18) H := by rw [← ht]; exact hP
  try dsimp only at hw
  refine lv_iload hx hb d_MO_revoke_14 (lv_at hl 5 rfl) ?_
  refine va_calli (va_runV (As := [.int a1, .int a2, .int r19, .int a5]) (rest := [.ref (ad 0)]) ⟨hx, hb, hml, hown, hts⟩ (mt_MO_signed l hl9 dC dI cA ad hI _ hw) (cwV 4 hts (gV gw_382 gw_383 gw_384 gw_306 gw_381) rfl rfl rfl (by decide +kernel) ⟨Nat.le_of_ble_eq_true rfl, Nat.le_of_ble_eq_true rfl⟩) ⟨zwM_blind, va_recv hK hP (ci := 9) (q0 := 0) rfl atM_MO, zwM_pre hP hS hG9⟩ rfl rfl hl.1 rfl (lv_room (Nat.le_of_ble_eq_true rfl)) d_MO_revoke_16 ⟨Nat.le_of_ble_eq_true rfl, Nat.le_of_ble_eq_true rfl⟩) hS (fun q _ h => CA_le hS.1 q h) (fun q h => CA_le hS.1 q h) (fun r22 u9 t H locs ht hvm hw hP hz1 hk1 hS => ?_)
  obtain ⟨X20, Y21⟩ := u9
  have hP : va_P (dC, dI) vwCl (wdM cA ad X20 Y21) H := by rw [← ht]; exact hP
  try dsimp only at hw
  refine va_put (D := (dC, dI)) (ci := 9) (v := .int r22) (ty := .int) (C := R_MO) (T := T_MO) (N := 36) hx hb hts in_MO ty_MO ty_MO_ok nm_MO hown hK hP (hD0 _ _) hS (0) atM_MO rfl 0 (by decide) (hts _ gw_297) (fun _ h9 => h9) rfl (by decide +kernel) rfl rfl (Nat.le_of_ble_eq_true rfl) d_MO_revoke_19 (fun H locs hP _ hS => ?_)
  have hP : va_P (dC, dI) vwCl (wdM cA ad (up X20 90 0 r22) Y21) H := by rw [← stM_MO_0]; exact hP
  refine lv_aload_n hx hb d_MO_revoke_22 rfl (lv_at hl 0 rfl) ?_
  refine va_get (D := (dC, dI)) (ci := 9) (v := .int r22) (C := R_MO) (T := T_MO) (N := 36) hx hb hts in_MO hown hK hP (0) atM_MO rfl 0 (by decide) (hts _ gw_297) (fun _ h9 => h9) rfl d_MO_revoke_23 ?_
  refine lv_if_eq (tgt := 31) hx hb d_MO_revoke_26 (by decide) (fun c23 => ?_) (fun c23 => ?_)
  · have hw := hw.1 c23
    refine lv_iload_n hx hb d_MO_revoke_31 rfl (lv_at hl 3 rfl) ?_
    refine lv_if_lt (tgt := 47) hx hb d_MO_revoke_32 (by decide) (fun c24 => ?_) (fun c24 => ?_)
    · have hw := hw.1 c24
      refine lv_iconst (v := (0 : Int32)) hx hb d_MO_revoke_47 (by decide) ?_
      have hl := lv_sub hl (l' := [(0, .ref (ad 0)), (1, .int a1), (3, .int a3), (4, .int a4)]) [0, 1, 3, 4] rfl
      exact L48 _ _ _ _ _ _ _ _ _ hw hP hS hl
    · have hw := hw.2 c24
      refine lv_iload_n hx hb d_MO_revoke_35 rfl (lv_at hl 3 rfl) ?_
      refine lv_aload_n hx hb d_MO_revoke_36 rfl (lv_at hl 0 rfl) ?_
      refine va_get (D := (dC, dI)) (ci := 9) (v := .int (X20 5 0)) (C := R_MO) (T := T_MO) (N := 36) hx hb hts in_MO hown hK hP (0) atM_MO rfl 22 (by decide) (hts _ gw_426) (fun _ h9 => h9) rfl d_MO_revoke_37 ?_
      refine lv_icmp_ge (tgt := 47) hx hb d_MO_revoke_40 (by decide) (fun c25 => ?_) (fun c25 => ?_)
      · have hw := hw.1 c25
        refine lv_iconst (v := (0 : Int32)) hx hb d_MO_revoke_47 (by decide) ?_
        have hl := lv_sub hl (l' := [(0, .ref (ad 0)), (1, .int a1), (3, .int a3), (4, .int a4)]) [0, 1, 3, 4] rfl
        exact L48 _ _ _ _ _ _ _ _ _ hw hP hS hl
      · have hw := hw.2 c25
        refine lv_iconst (v := (1 : Int32)) hx hb d_MO_revoke_43 (by decide) ?_
        refine lv_goto (tgt := 48) hx hb d_MO_revoke_44 (by decide) ?_
        have hl := lv_sub hl (l' := [(0, .ref (ad 0)), (1, .int a1), (3, .int a3), (4, .int a4)]) [0, 1, 3, 4] rfl
        exact L48 _ _ _ _ _ _ _ _ _ hw hP hS hl
  · have hw := hw.2 c23
    refine lv_iconst (v := (0 : Int32)) hx hb d_MO_revoke_29 (by decide) ?_
    exact W.iret (v := (0 : Int32)) hx hb hr (fun t ht _ => ⟨⟨(0 : Int32), (up X20 90 0 r22, Y21), rfl, hw, by show va_P _ _ _ t.heap; rw [ht]; exact hP⟩, hS.F ht⟩) hS.2.2 d_MO_revoke_30
def ws_MO_give : List Cond := Cond.code y_MO_give c_MO_give 3 (Option.some Jvm.ClassFile.FieldType.int) :: GW
theorem d_MO_give_0 : decode c_MO_give 0 = .ok (.aload_n 0, 1) := by decide +kernel
theorem d_MO_give_1 : decode c_MO_give 1 = .ok (.getfield 47, 3) := by decide +kernel
theorem d_MO_give_4 : decode c_MO_give 4 = .ok (.iload_n 1, 1) := by decide +kernel
theorem d_MO_give_5 : decode c_MO_give 5 = .ok (.iaload, 1) := by decide +kernel
theorem d_MO_give_6 : decode c_MO_give 6 = .ok (.iconst 2, 1) := by decide +kernel
theorem d_MO_give_7 : decode c_MO_give 7 = .ok (.if_icmp .ge 7, 3) := by decide +kernel
theorem d_MO_give_10 : decode c_MO_give 10 = .ok (.iconst 1, 1) := by decide +kernel
theorem d_MO_give_11 : decode c_MO_give 11 = .ok (.goto 4, 3) := by decide +kernel
theorem d_MO_give_14 : decode c_MO_give 14 = .ok (.iconst 0, 1) := by decide +kernel
theorem d_MO_give_15 : decode c_MO_give 15 = .ok (.istore_n 2, 1) := by decide +kernel
theorem d_MO_give_16 : decode c_MO_give 16 = .ok (.aload_n 0, 1) := by decide +kernel
theorem d_MO_give_17 : decode c_MO_give 17 = .ok (.getfield 47, 3) := by decide +kernel
theorem d_MO_give_20 : decode c_MO_give 20 = .ok (.iload_n 1, 1) := by decide +kernel
theorem d_MO_give_21 : decode c_MO_give 21 = .ok (.iload_n 2, 1) := by decide +kernel
theorem d_MO_give_22 : decode c_MO_give 22 = .ok (.ifCond .eq 7, 3) := by decide +kernel
theorem d_MO_give_25 : decode c_MO_give 25 = .ok (.iconst 3, 1) := by decide +kernel
theorem d_MO_give_26 : decode c_MO_give 26 = .ok (.goto 9, 3) := by decide +kernel
theorem d_MO_give_29 : decode c_MO_give 29 = .ok (.aload_n 0, 1) := by decide +kernel
theorem d_MO_give_30 : decode c_MO_give 30 = .ok (.getfield 47, 3) := by decide +kernel
theorem d_MO_give_33 : decode c_MO_give 33 = .ok (.iload_n 1, 1) := by decide +kernel
theorem d_MO_give_34 : decode c_MO_give 34 = .ok (.iaload, 1) := by decide +kernel
theorem d_MO_give_35 : decode c_MO_give 35 = .ok (.iastore, 1) := by decide +kernel
theorem d_MO_give_36 : decode c_MO_give 36 = .ok (.iload_n 2, 1) := by decide +kernel
theorem d_MO_give_37 : decode c_MO_give 37 = .ok (.ifCond .eq 7, 3) := by decide +kernel
theorem d_MO_give_40 : decode c_MO_give 40 = .ok (.iconst 1, 1) := by decide +kernel
theorem d_MO_give_41 : decode c_MO_give 41 = .ok (.goto 4, 3) := by decide +kernel
theorem d_MO_give_44 : decode c_MO_give 44 = .ok (.iconst 0, 1) := by decide +kernel
theorem d_MO_give_45 : decode c_MO_give 45 = .ok (.ireturn, 1) := by decide +kernel
def wq_MO_give_35 (post : Int32 → ST → Int64 → Prop) (s0 : Int32) (s1 : Int32) (v2 : Int32) (X : ST) (Y : Int64) : Prop := (vp_in s1 24 ∧ ((v2 = 0 → post (0 : Int32) (up X 30 s1.toNatClampNeg s0) Y) ∧ (¬ v2 = 0 → post (1 : Int32) (up X 30 s1.toNatClampNeg s0) Y)))
def wq_MO_give_15 (post : Int32 → ST → Int64 → Prop) (s0 : Int32) (v1 : Int32) (X : ST) (Y : Int64) : Prop := ((s0 = 0 → (vp_in v1 24 ∧ wq_MO_give_35 post (X 30 v1.toNatClampNeg) v1 s0 X Y)) ∧ (¬ s0 = 0 → wq_MO_give_35 post (3 : Int32) v1 s0 X Y))
def wp_MO_give (post : Int32 → ST → Int64 → Prop) (X : ST) (Y : Int64) (a1 : Int32) : Prop := (vp_in a1 24 ∧ (((2 : Int32) ≤ (X 30 a1.toNatClampNeg) → wq_MO_give_15 post (0 : Int32) a1 X Y) ∧ (¬ (2 : Int32) ≤ (X 30 a1.toNatClampNeg) → wq_MO_give_15 post (1 : Int32) a1 X Y)))
set_option maxHeartbeats 4000000 in
set_option maxRecDepth 100000 in
theorem mt_MO_give (l : Launch) (hl9 : l.stackTraces = false) (dC : Nat → ClassId) (dI : Nat → Nat → Nat) (cA : Nat → ClassId) (ad : Nat → Nat) (hI : INJ ad 23) (sz : Nat) {X : ST} {Y : Int64} {a1 : Int32} {post : Int32 → ST → Int64 → Prop} (hw : wp_MO_give post X Y a1) : Met l y_MO_give ws_MO_give ({ frames := 0, cells := 0, slots := 0, locals := 0 } : Room) (va_Pc [.ref (ad 0), .int a1] (fun U => PM dC dI cA ad sz X Y U)) (va_Qi (fun r (u : ST × Int64) => post r u.1 u.2) (fun (u : ST × Int64) t => va_P (dC, dI) vwCl (wdM cA ad u.1 u.2) t.heap) (CA ad 23 sz)) 0 0 (CA ad 23 sz) := by
  refine Met.ofW (cc := c_MO_give) (maxL := 3) (ret := (some .int)) (by decide) rfl ?_
  intro p e s m args below meth c s₁ B hml hv
  obtain ⟨rfl, hsz, hP, hG⟩ := hv
  have hx := B.exec
  have hb := B.bytes
  have hr := B.returns
  have hts : ∀ w ∈ GW, w.before (([.ref (ad 0), .int a1] : List Value).toArray) s = true := fun w h => atoms_spec (ws := ws_MO_give) B.pre w (List.mem_cons_of_mem _ h)
  have hown : s.vm.findClass R_MO = some m.cls := findClass_of_methodNamed B.named
  have hlocks := B.notSynchronized
  subst hsz
  have hK := hG.1
  have hG9 := hG
  have hNW := hG.2
  have hD0 : ∀ (X : ST) (Y : Int64), va_D (CA ad 23 s.heap.size) (wdM cA ad X Y) := fun _ _ => zwM_D hI
  have hS : va_S (CA ad 23 s.heap.size) s.heap s.heap [] := va_S.rf
  have hl := lv_entry ([.ref (ad 0), .int a1]) (n := 3) (Nat.le_of_ble_eq_true rfl)
  rw [lg_entry_eq]
  generalize (lg_sl ([.ref (ad 0), .int a1]) ++ List.replicate (3 - (lg_sl ([.ref (ad 0), .int a1])).length) Slot.unset).toArray = ls at hl ⊢
  have hl : lv_has ls 3 [(0, .ref (ad 0)), (1, .int a1)] := hl
  have L35 : ∀ (s0 : Int32) (s1 : Int32) (v2 : Int32) (X : ST) (Y : Int64) (H : Heap) (locs : List Loc) (ls : Array Slot), wq_MO_give_35 post s0 s1 v2 X Y → va_P (dC, dI) vwCl (wdM cA ad X Y) H → va_S (CA ad 23 s.heap.size) s.heap H locs → lv_has ls 3 [(2, .int v2)] → W p l e (headSpec ws_MO_give ({ frames := 0, cells := 0, slots := 0, locals := 0 } : Room)).room s m (([.ref (ad 0), .int a1] : List Value).toArray) below meth c H locs 0 0 (MQ below (va_Qi (fun r (u : ST × Int64) => post r u.1 u.2) (fun (u : ST × Int64) t => va_P (dC, dI) vwCl (wdM cA ad u.1 u.2) t.heap) (CA ad 23 s.heap.size)) (([.ref (ad 0), .int a1] : List Value).toArray) s 0 0 (CA ad 23 s.heap.size)) (F0 m 35 ls [.int s0, .int s1, .ref (ad 13)]) := by
    intro s0 s1 v2 X Y H locs ls hw hP hS hl
    unfold wq_MO_give_35 at hw
    obtain ⟨h1, hw⟩ := hw
    refine va_iast hx hb hK hP (hD0 _ _) hS (13) 12 atM_authState rfl h1 d_MO_give_35 (fun H locs hP _ hS => ?_)
    have hP : va_P (dC, dI) vwCl (wdM cA ad (up X 30 s1.toNatClampNeg s0) Y) H := by rw [← stM_authState]; exact hP
    refine lv_iload_n hx hb d_MO_give_36 rfl (lv_at hl 0 rfl) ?_
    refine lv_if_eq (tgt := 44) hx hb d_MO_give_37 (by decide) (fun c2 => ?_) (fun c2 => ?_)
    · have hw := hw.1 c2
      refine lv_iconst (v := (0 : Int32)) hx hb d_MO_give_44 (by decide) ?_
      exact W.iret (v := (0 : Int32)) hx hb hr (fun t ht _ => ⟨⟨(0 : Int32), (up X 30 s1.toNatClampNeg s0, Y), rfl, hw, by show va_P _ _ _ t.heap; rw [ht]; exact hP⟩, hS.F ht⟩) hS.2.2 d_MO_give_45
    · have hw := hw.2 c2
      refine lv_iconst (v := (1 : Int32)) hx hb d_MO_give_40 (by decide) ?_
      refine lv_goto (tgt := 45) hx hb d_MO_give_41 (by decide) ?_
      exact W.iret (v := (1 : Int32)) hx hb hr (fun t ht _ => ⟨⟨(1 : Int32), (up X 30 s1.toNatClampNeg s0, Y), rfl, hw, by show va_P _ _ _ t.heap; rw [ht]; exact hP⟩, hS.F ht⟩) hS.2.2 d_MO_give_45
  have L15 : ∀ (s0 : Int32) (v1 : Int32) (X : ST) (Y : Int64) (H : Heap) (locs : List Loc) (ls : Array Slot), wq_MO_give_15 post s0 v1 X Y → va_P (dC, dI) vwCl (wdM cA ad X Y) H → va_S (CA ad 23 s.heap.size) s.heap H locs → lv_has ls 3 [(0, .ref (ad 0)), (1, .int v1)] → W p l e (headSpec ws_MO_give ({ frames := 0, cells := 0, slots := 0, locals := 0 } : Room)).room s m (([.ref (ad 0), .int a1] : List Value).toArray) below meth c H locs 0 0 (MQ below (va_Qi (fun r (u : ST × Int64) => post r u.1 u.2) (fun (u : ST × Int64) t => va_P (dC, dI) vwCl (wdM cA ad u.1 u.2) t.heap) (CA ad 23 s.heap.size)) (([.ref (ad 0), .int a1] : List Value).toArray) s 0 0 (CA ad 23 s.heap.size)) (F0 m 15 ls [.int s0]) := by
    intro s0 v1 X Y H locs ls hw hP hS hl
    unfold wq_MO_give_15 at hw
    refine lv_istore_n (lv' := [(2, .int s0), (0, .ref (ad 0)), (1, .int v1)]) hx hb d_MO_give_15 rfl hl (by decide) rfl (fun ls hl => ?_)
    refine lv_aload_n hx hb d_MO_give_16 rfl (lv_at hl 1 rfl) ?_
    refine va_get (D := (dC, dI)) (ci := 9) (v := .ref (ad 13)) (C := R_MO) (T := T_MO) (N := 36) hx hb hts in_MO hown hK hP (0) atM_MO rfl 18 (by decide) (hts _ gw_347) (fun _ h9 => h9) rfl d_MO_give_17 ?_
    refine lv_iload_n hx hb d_MO_give_20 rfl (lv_at hl 2 rfl) ?_
    refine lv_iload_n hx hb d_MO_give_21 rfl (lv_at hl 0 rfl) ?_
    refine lv_if_eq (tgt := 29) hx hb d_MO_give_22 (by decide) (fun c3 => ?_) (fun c3 => ?_)
    · have hw := hw.1 c3
      refine lv_aload_n hx hb d_MO_give_29 rfl (lv_at hl 1 rfl) ?_
      refine va_get (D := (dC, dI)) (ci := 9) (v := .ref (ad 13)) (C := R_MO) (T := T_MO) (N := 36) hx hb hts in_MO hown hK hP (0) atM_MO rfl 18 (by decide) (hts _ gw_347) (fun _ h9 => h9) rfl d_MO_give_30 ?_
      refine lv_iload_n hx hb d_MO_give_33 rfl (lv_at hl 2 rfl) ?_
      obtain ⟨h4, hw⟩ := hw
      refine va_iald hx hb hK hP (13) 12 atM_authState rfl h4 d_MO_give_34 ?_
      have hl := lv_sub hl (l' := [(2, .int s0)]) [0] rfl
      exact L35 _ _ _ _ _ _ _ _ hw hP hS hl
    · have hw := hw.2 c3
      refine lv_iconst (v := (3 : Int32)) hx hb d_MO_give_25 (by decide) ?_
      refine lv_goto (tgt := 35) hx hb d_MO_give_26 (by decide) ?_
      have hl := lv_sub hl (l' := [(2, .int s0)]) [0] rfl
      exact L35 _ _ _ _ _ _ _ _ hw hP hS hl
  unfold wp_MO_give at hw
  refine lv_aload_n hx hb d_MO_give_0 rfl (lv_at hl 0 rfl) ?_
  refine va_get (D := (dC, dI)) (ci := 9) (v := .ref (ad 13)) (C := R_MO) (T := T_MO) (N := 36) hx hb hts in_MO hown hK hP (0) atM_MO rfl 18 (by decide) (hts _ gw_347) (fun _ h9 => h9) rfl d_MO_give_1 ?_
  refine lv_iload_n hx hb d_MO_give_4 rfl (lv_at hl 1 rfl) ?_
  obtain ⟨h5, hw⟩ := hw
  refine va_iald hx hb hK hP (13) 12 atM_authState rfl h5 d_MO_give_5 ?_
  refine lv_iconst (v := (2 : Int32)) hx hb d_MO_give_6 (by decide) ?_
  refine lv_icmp_ge (tgt := 14) hx hb d_MO_give_7 (by decide) (fun c6 => ?_) (fun c6 => ?_)
  · have hw := hw.1 c6
    refine lv_iconst (v := (0 : Int32)) hx hb d_MO_give_14 (by decide) ?_
    have hl := lv_sub hl (l' := [(0, .ref (ad 0)), (1, .int a1)]) [0, 1] rfl
    exact L15 _ _ _ _ _ _ _ hw hP hS hl
  · have hw := hw.2 c6
    refine lv_iconst (v := (1 : Int32)) hx hb d_MO_give_10 (by decide) ?_
    refine lv_goto (tgt := 15) hx hb d_MO_give_11 (by decide) ?_
    have hl := lv_sub hl (l' := [(0, .ref (ad 0)), (1, .int a1)]) [0, 1] rfl
    exact L15 _ _ _ _ _ _ _ hw hP hS hl
