def ws_MO_account : List Cond := Cond.code y_MO_account c_MO_account 6 (Option.some Jvm.ClassFile.FieldType.int) :: GW
theorem d_MO_account_0 : decode c_MO_account 0 = .ok (.aload_n 0, 1) := by decide +kernel
theorem d_MO_account_1 : decode c_MO_account 1 = .ok (.iload_n 2, 1) := by decide +kernel
theorem d_MO_account_2 : decode c_MO_account 2 = .ok (.invokevirtual 127, 3) := by decide +kernel
theorem d_MO_account_5 : decode c_MO_account 5 = .ok (.istore 4, 2) := by decide +kernel
theorem d_MO_account_7 : decode c_MO_account 7 = .ok (.aload_n 0, 1) := by decide +kernel
theorem d_MO_account_8 : decode c_MO_account 8 = .ok (.iload_n 1, 1) := by decide +kernel
theorem d_MO_account_9 : decode c_MO_account 9 = .ok (.invokestatic 112, 3) := by decide +kernel
theorem d_MO_account_12 : decode c_MO_account 12 = .ok (.ifCond .ne 7, 3) := by decide +kernel
theorem d_MO_account_15 : decode c_MO_account 15 = .ok (.iconst 2, 1) := by decide +kernel
theorem d_MO_account_16 : decode c_MO_account 16 = .ok (.goto 34, 3) := by decide +kernel
theorem d_MO_account_19 : decode c_MO_account 19 = .ok (.iload_n 3, 1) := by decide +kernel
theorem d_MO_account_20 : decode c_MO_account 20 = .ok (.aload_n 0, 1) := by decide +kernel
theorem d_MO_account_21 : decode c_MO_account 21 = .ok (.iconst 1, 1) := by decide +kernel
theorem d_MO_account_22 : decode c_MO_account 22 = .ok (.iload_n 1, 1) := by decide +kernel
theorem d_MO_account_23 : decode c_MO_account 23 = .ok (.iload_n 2, 1) := by decide +kernel
theorem d_MO_account_24 : decode c_MO_account 24 = .ok (.iconst 0, 1) := by decide +kernel
theorem d_MO_account_25 : decode c_MO_account 25 = .ok (.iconst 0, 1) := by decide +kernel
theorem d_MO_account_26 : decode c_MO_account 26 = .ok (.invokevirtual 116, 3) := by decide +kernel
theorem d_MO_account_29 : decode c_MO_account 29 = .ok (.iload_n 1, 1) := by decide +kernel
theorem d_MO_account_30 : decode c_MO_account 30 = .ok (.invokestatic 123, 3) := by decide +kernel
theorem d_MO_account_33 : decode c_MO_account 33 = .ok (.ifCond .ne 7, 3) := by decide +kernel
theorem d_MO_account_36 : decode c_MO_account 36 = .ok (.iconst 1, 1) := by decide +kernel
theorem d_MO_account_37 : decode c_MO_account 37 = .ok (.goto 13, 3) := by decide +kernel
theorem d_MO_account_40 : decode c_MO_account 40 = .ok (.iload 4, 2) := by decide +kernel
theorem d_MO_account_42 : decode c_MO_account 42 = .ok (.ifCond .ge 7, 3) := by decide +kernel
theorem d_MO_account_45 : decode c_MO_account 45 = .ok (.iconst 2, 1) := by decide +kernel
theorem d_MO_account_46 : decode c_MO_account 46 = .ok (.goto 4, 3) := by decide +kernel
theorem d_MO_account_49 : decode c_MO_account 49 = .ok (.iconst 0, 1) := by decide +kernel
theorem d_MO_account_50 : decode c_MO_account 50 = .ok (.putfield 81, 3) := by decide +kernel
theorem d_MO_account_53 : decode c_MO_account 53 = .ok (.aload_n 0, 1) := by decide +kernel
theorem d_MO_account_54 : decode c_MO_account 54 = .ok (.getfield 81, 3) := by decide +kernel
theorem d_MO_account_57 : decode c_MO_account 57 = .ok (.ifCond .eq 5, 3) := by decide +kernel
theorem d_MO_account_60 : decode c_MO_account 60 = .ok (.iconst 0, 1) := by decide +kernel
theorem d_MO_account_61 : decode c_MO_account 61 = .ok (.ireturn, 1) := by decide +kernel
theorem d_MO_account_62 : decode c_MO_account 62 = .ok (.aload_n 0, 1) := by decide +kernel
theorem d_MO_account_63 : decode c_MO_account 63 = .ok (.iload 4, 2) := by decide +kernel
theorem d_MO_account_65 : decode c_MO_account 65 = .ok (.invokevirtual 109, 3) := by decide +kernel
theorem d_MO_account_68 : decode c_MO_account 68 = .ok (.aload_n 0, 1) := by decide +kernel
theorem d_MO_account_69 : decode c_MO_account 69 = .ok (.iload_n 1, 1) := by decide +kernel
theorem d_MO_account_70 : decode c_MO_account 70 = .ok (.invokevirtual 131, 3) := by decide +kernel
theorem d_MO_account_73 : decode c_MO_account 73 = .ok (.istore 5, 2) := by decide +kernel
theorem d_MO_account_75 : decode c_MO_account 75 = .ok (.iload 5, 2) := by decide +kernel
theorem d_MO_account_77 : decode c_MO_account 77 = .ok (.ifCond .lt 16, 3) := by decide +kernel
theorem d_MO_account_80 : decode c_MO_account 80 = .ok (.aload_n 0, 1) := by decide +kernel
theorem d_MO_account_81 : decode c_MO_account 81 = .ok (.getfield 13, 3) := by decide +kernel
theorem d_MO_account_84 : decode c_MO_account 84 = .ok (.iload 5, 2) := by decide +kernel
theorem d_MO_account_86 : decode c_MO_account 86 = .ok (.baload, 1) := by decide +kernel
theorem d_MO_account_87 : decode c_MO_account 87 = .ok (.ifCond .eq 22, 3) := by decide +kernel
theorem d_MO_account_90 : decode c_MO_account 90 = .ok (.goto 12, 3) := by decide +kernel
theorem d_MO_account_93 : decode c_MO_account 93 = .ok (.aload_n 0, 1) := by decide +kernel
theorem d_MO_account_94 : decode c_MO_account 94 = .ok (.getfield 120, 3) := by decide +kernel
theorem d_MO_account_97 : decode c_MO_account 97 = .ok (.bipush 6, 2) := by decide +kernel
theorem d_MO_account_99 : decode c_MO_account 99 = .ok (.if_icmp .ne 10, 3) := by decide +kernel
theorem d_MO_account_102 : decode c_MO_account 102 = .ok (.aload_n 0, 1) := by decide +kernel
theorem d_MO_account_103 : decode c_MO_account 103 = .ok (.iconst 3, 1) := by decide +kernel
theorem d_MO_account_104 : decode c_MO_account 104 = .ok (.putfield 81, 3) := by decide +kernel
theorem d_MO_account_107 : decode c_MO_account 107 = .ok (.iconst 0, 1) := by decide +kernel
theorem d_MO_account_108 : decode c_MO_account 108 = .ok (.ireturn, 1) := by decide +kernel
theorem d_MO_account_109 : decode c_MO_account 109 = .ok (.iload 5, 2) := by decide +kernel
theorem d_MO_account_111 : decode c_MO_account 111 = .ok (.ifCond .ge 27, 3) := by decide +kernel
theorem d_MO_account_114 : decode c_MO_account 114 = .ok (.aload_n 0, 1) := by decide +kernel
theorem d_MO_account_115 : decode c_MO_account 115 = .ok (.getfield 120, 3) := by decide +kernel
theorem d_MO_account_118 : decode c_MO_account 118 = .ok (.istore 5, 2) := by decide +kernel
theorem d_MO_account_120 : decode c_MO_account 120 = .ok (.aload_n 0, 1) := by decide +kernel
theorem d_MO_account_121 : decode c_MO_account 121 = .ok (.getfield 7, 3) := by decide +kernel
theorem d_MO_account_124 : decode c_MO_account 124 = .ok (.iload 5, 2) := by decide +kernel
theorem d_MO_account_126 : decode c_MO_account 126 = .ok (.iload_n 1, 1) := by decide +kernel
theorem d_MO_account_127 : decode c_MO_account 127 = .ok (.iastore, 1) := by decide +kernel
theorem d_MO_account_128 : decode c_MO_account 128 = .ok (.aload_n 0, 1) := by decide +kernel
theorem d_MO_account_129 : decode c_MO_account 129 = .ok (.dup, 1) := by decide +kernel
theorem d_MO_account_130 : decode c_MO_account 130 = .ok (.getfield 120, 3) := by decide +kernel
theorem d_MO_account_133 : decode c_MO_account 133 = .ok (.iconst 1, 1) := by decide +kernel
theorem d_MO_account_134 : decode c_MO_account 134 = .ok (.iadd, 1) := by decide +kernel
theorem d_MO_account_135 : decode c_MO_account 135 = .ok (.putfield 120, 3) := by decide +kernel
theorem d_MO_account_138 : decode c_MO_account 138 = .ok (.iload 5, 2) := by decide +kernel
theorem d_MO_account_140 : decode c_MO_account 140 = .ok (.ireturn, 1) := by decide +kernel
def wq_MO_account_109 (post : Int32 → ST → Int64 → Prop) (v1 : Int32) (v5 : Int32) (X : ST) (Y : Int64) : Prop := ((0 ≤ v5 → post v5 X Y) ∧ (¬ 0 ≤ v5 → (vp_in (X 2 0) 6 ∧ post (X 2 0) (up (up X 11 ((X 2 0).toNatClampNeg) v1) 2 0 ((X 2 0) + (1 : Int32))) Y)))
def wq_MO_account_102 (post : Int32 → ST → Int64 → Prop) (X : ST) (Y : Int64) : Prop := post (0 : Int32) (up X 90 0 (3 : Int32)) Y
def wq_MO_account_50 (post : Int32 → ST → Int64 → Prop) (s0 : Int32) (v1 : Int32) (v4 : Int32) (X : ST) (Y : Int64) : Prop := ((s0 = 0 → wp_MO_take (fun (X4 : ST) (Y5 : Int64) => wp_MO_holder (fun (r9 : Int32) (X7 : ST) (Y8 : Int64) => ((r9 < 0 → (((X7 2 0) = (6 : Int32) → wq_MO_account_102 post X7 Y8) ∧ (¬ (X7 2 0) = (6 : Int32) → wq_MO_account_109 post v1 r9 X7 Y8))) ∧ (¬ r9 < 0 → (vp_in r9 6 ∧ (((X7 10 r9.toNatClampNeg) = 0 → wq_MO_account_109 post v1 r9 X7 Y8) ∧ (¬ (X7 10 r9.toNatClampNeg) = 0 → wq_MO_account_102 post X7 Y8)))))) X4 Y5 v1) (up X 90 0 s0) Y v4) ∧ (¬ s0 = 0 → post (0 : Int32) (up X 90 0 s0) Y))
def wp_MO_account (post : Int32 → ST → Int64 → Prop) (X : ST) (Y : Int64) (a1 : Int32) (a2 : Int32) (a3 : Int32) : Prop := wp_MO_find (fun (r16 : Int32) (X14 : ST) (Y15 : Int64) => wp_MO_isKey (fun (r19 : Int32) (X17 : ST) (Y18 : Int64) => ((r19 = 0 → wq_MO_account_50 post (2 : Int32) a1 r16 X17 Y18) ∧ (¬ r19 = 0 → wp_MO_five (fun (r23 : Int32) (X21 : ST) (Y22 : Int64) => wp_MO_isRight (fun (r26 : Int32) (X24 : ST) (Y25 : Int64) => ((r26 = 0 → wq_MO_account_50 post (1 : Int32) a1 r16 X24 Y25) ∧ (¬ r26 = 0 → ((0 ≤ r16 → wq_MO_account_50 post (0 : Int32) a1 r16 X24 Y25) ∧ (¬ 0 ≤ r16 → wq_MO_account_50 post (2 : Int32) a1 r16 X24 Y25))))) X21 Y22 a3 r23 a1) X17 Y18 (1 : Int32) a1 a2 (0 : Int32) (0 : Int32)))) X14 Y15 a1) X Y a2
set_option maxHeartbeats 4000000 in
set_option maxRecDepth 100000 in
theorem mt_MO_account (l : Launch) (hl9 : l.stackTraces = false) (dC : Nat → ClassId) (dI : Nat → Nat → Nat) (cA : Nat → ClassId) (ad : Nat → Nat) (hI : INJ ad 23) (sz : Nat) {X : ST} {Y : Int64} {a1 : Int32} {a2 : Int32} {a3 : Int32} {post : Int32 → ST → Int64 → Prop} (hw : wp_MO_account post X Y a1 a2 a3) : Met l y_MO_account ws_MO_account ({ frames := 2, cells := 0, slots := 0, locals := 48 } : Room) (va_Pc [.ref (ad 0), .int a1, .int a2, .int a3] (fun U => PM dC dI cA ad sz X Y U)) (va_Qi (fun r (u : ST × Int64) => post r u.1 u.2) (fun (u : ST × Int64) t => va_P (dC, dI) vwCl (wdM cA ad u.1 u.2) t.heap) (CA ad 23 sz)) 0 0 (CA ad 23 sz) := by
  refine Met.ofW (cc := c_MO_account) (maxL := 6) (ret := (some .int)) (by decide) rfl ?_
  intro p e s m args below meth c s₁ B hml hv
  obtain ⟨rfl, hsz, hP, hG⟩ := hv
  have hx := B.exec
  have hb := B.bytes
  have hr := B.returns
  have hts : ∀ w ∈ GW, w.before (([.ref (ad 0), .int a1, .int a2, .int a3] : List Value).toArray) s = true := fun w h => atoms_spec (ws := ws_MO_account) B.pre w (List.mem_cons_of_mem _ h)
  have hown : s.vm.findClass R_MO = some m.cls := findClass_of_methodNamed B.named
  have hlocks := B.notSynchronized
  subst hsz
  have hK := hG.1
  have hG9 := hG
  have hNW := hG.2
  have hD0 : ∀ (X : ST) (Y : Int64), va_D (CA ad 23 s.heap.size) (wdM cA ad X Y) := fun _ _ => zwM_D hI
  have hS : va_S (CA ad 23 s.heap.size) s.heap s.heap [] := va_S.rf
  have hl := lv_entry ([.ref (ad 0), .int a1, .int a2, .int a3]) (n := 6) (Nat.le_of_ble_eq_true rfl)
  rw [lg_entry_eq]
  generalize (lg_sl ([.ref (ad 0), .int a1, .int a2, .int a3]) ++ List.replicate (6 - (lg_sl ([.ref (ad 0), .int a1, .int a2, .int a3])).length) Slot.unset).toArray = ls at hl ⊢
  have hl : lv_has ls 6 [(0, .ref (ad 0)), (1, .int a1), (2, .int a2), (3, .int a3)] := hl
  have L109 : ∀ (v1 : Int32) (v5 : Int32) (X : ST) (Y : Int64) (H : Heap) (locs : List Loc) (ls : Array Slot), wq_MO_account_109 post v1 v5 X Y → va_P (dC, dI) vwCl (wdM cA ad X Y) H → va_S (CA ad 23 s.heap.size) s.heap H locs → lv_has ls 6 [(0, .ref (ad 0)), (1, .int v1), (5, .int v5)] → W p l e (headSpec ws_MO_account ({ frames := 2, cells := 0, slots := 0, locals := 48 } : Room)).room s m (([.ref (ad 0), .int a1, .int a2, .int a3] : List Value).toArray) below meth c H locs 0 0 (MQ below (va_Qi (fun r (u : ST × Int64) => post r u.1 u.2) (fun (u : ST × Int64) t => va_P (dC, dI) vwCl (wdM cA ad u.1 u.2) t.heap) (CA ad 23 s.heap.size)) (([.ref (ad 0), .int a1, .int a2, .int a3] : List Value).toArray) s 0 0 (CA ad 23 s.heap.size)) (F0 m 109 ls []) := by
    intro v1 v5 X Y H locs ls hw hP hS hl
    unfold wq_MO_account_109 at hw
    refine lv_iload hx hb d_MO_account_109 (lv_at hl 2 rfl) ?_
    refine lv_if_ge (tgt := 138) hx hb d_MO_account_111 (by decide) (fun c1 => ?_) (fun c1 => ?_)
    · have hw := hw.1 c1
      refine lv_iload hx hb d_MO_account_138 (lv_at hl 2 rfl) ?_
      exact W.iret (v := v5) hx hb hr (fun t ht _ => ⟨⟨v5, (X, Y), rfl, hw, by show va_P _ _ _ t.heap; rw [ht]; exact hP⟩, hS.F ht⟩) hS.2.2 d_MO_account_140
    · have hw := hw.2 c1
      refine lv_aload_n hx hb d_MO_account_114 rfl (lv_at hl 0 rfl) ?_
      refine va_get (D := (dC, dI)) (ci := 9) (v := .int (X 2 0)) (C := R_MO) (T := T_MO) (N := 36) hx hb hts in_MO hown hK hP (0) atM_MO rfl 3 (by decide) (hts _ gw_331) (fun _ h9 => h9) rfl d_MO_account_115 ?_
      refine lv_istore (lv' := [(5, .int (X 2 0)), (0, .ref (ad 0)), (1, .int v1)]) hx hb d_MO_account_118 hl (by decide) rfl (fun ls hl => ?_)
      refine lv_aload_n hx hb d_MO_account_120 rfl (lv_at hl 1 rfl) ?_
      refine va_get (D := (dC, dI)) (ci := 9) (v := .ref (ad 1)) (C := R_MO) (T := T_MO) (N := 36) hx hb hts in_MO hown hK hP (0) atM_MO rfl 4 (by decide) (hts _ gw_333) (fun _ h9 => h9) rfl d_MO_account_121 ?_
      refine lv_iload hx hb d_MO_account_124 (lv_at hl 0 rfl) ?_
      refine lv_iload_n hx hb d_MO_account_126 rfl (lv_at hl 2 rfl) ?_
      obtain ⟨h2, hw⟩ := hw
      refine va_iast hx hb hK hP (hD0 _ _) hS (1) 0 atM_keys rfl h2 d_MO_account_127 (fun H locs hP _ hS => ?_)
      have hP : va_P (dC, dI) vwCl (wdM cA ad (up X 11 ((X 2 0).toNatClampNeg) v1) Y) H := by rw [← stM_keys]; exact hP
      refine lv_aload_n hx hb d_MO_account_128 rfl (lv_at hl 1 rfl) ?_
      refine lv_dup hx hb d_MO_account_129 rfl ?_
      refine va_get (D := (dC, dI)) (ci := 9) (v := .int (X 2 0)) (C := R_MO) (T := T_MO) (N := 36) hx hb hts in_MO hown hK hP (0) atM_MO rfl 3 (by decide) (hts _ gw_331) (fun _ h9 => h9) rfl d_MO_account_130 ?_
      refine lv_iconst (v := (1 : Int32)) hx hb d_MO_account_133 (by decide) ?_
      refine lv_iadd hx hb d_MO_account_134 ?_
      refine va_put (D := (dC, dI)) (ci := 9) (v := .int ((X 2 0) + (1 : Int32))) (ty := .int) (C := R_MO) (T := T_MO) (N := 36) hx hb hts in_MO ty_MO ty_MO_ok nm_MO hown hK hP (hD0 _ _) hS (0) atM_MO rfl 3 (by decide) (hts _ gw_331) (fun _ h9 => h9) rfl (by decide +kernel) rfl rfl (Nat.le_of_ble_eq_true rfl) d_MO_account_135 (fun H locs hP _ hS => ?_)
      have hP : va_P (dC, dI) vwCl (wdM cA ad (up (up X 11 ((X 2 0).toNatClampNeg) v1) 2 0 ((X 2 0) + (1 : Int32))) Y) H := by rw [← stM_MO_3]; exact hP
      refine lv_iload hx hb d_MO_account_138 (lv_at hl 0 rfl) ?_
      exact W.iret (v := X 2 0) hx hb hr (fun t ht _ => ⟨⟨X 2 0, (up (up X 11 ((X 2 0).toNatClampNeg) v1) 2 0 ((X 2 0) + (1 : Int32)), Y), rfl, hw, by show va_P _ _ _ t.heap; rw [ht]; exact hP⟩, hS.F ht⟩) hS.2.2 d_MO_account_140
  have L102 : ∀ (X : ST) (Y : Int64) (H : Heap) (locs : List Loc) (ls : Array Slot), wq_MO_account_102 post X Y → va_P (dC, dI) vwCl (wdM cA ad X Y) H → va_S (CA ad 23 s.heap.size) s.heap H locs → lv_has ls 6 [(0, .ref (ad 0))] → W p l e (headSpec ws_MO_account ({ frames := 2, cells := 0, slots := 0, locals := 48 } : Room)).room s m (([.ref (ad 0), .int a1, .int a2, .int a3] : List Value).toArray) below meth c H locs 0 0 (MQ below (va_Qi (fun r (u : ST × Int64) => post r u.1 u.2) (fun (u : ST × Int64) t => va_P (dC, dI) vwCl (wdM cA ad u.1 u.2) t.heap) (CA ad 23 s.heap.size)) (([.ref (ad 0), .int a1, .int a2, .int a3] : List Value).toArray) s 0 0 (CA ad 23 s.heap.size)) (F0 m 102 ls []) := by
    intro X Y H locs ls hw hP hS hl
    unfold wq_MO_account_102 at hw
    refine lv_aload_n hx hb d_MO_account_102 rfl (lv_at hl 0 rfl) ?_
    refine lv_iconst (v := (3 : Int32)) hx hb d_MO_account_103 (by decide) ?_
    refine va_put (D := (dC, dI)) (ci := 9) (v := .int (3 : Int32)) (ty := .int) (C := R_MO) (T := T_MO) (N := 36) hx hb hts in_MO ty_MO ty_MO_ok nm_MO hown hK hP (hD0 _ _) hS (0) atM_MO rfl 0 (by decide) (hts _ gw_297) (fun _ h9 => h9) rfl (by decide +kernel) rfl rfl (Nat.le_of_ble_eq_true rfl) d_MO_account_104 (fun H locs hP _ hS => ?_)
    have hP : va_P (dC, dI) vwCl (wdM cA ad (up X 90 0 (3 : Int32)) Y) H := by rw [← stM_MO_0]; exact hP
    refine lv_iconst (v := (0 : Int32)) hx hb d_MO_account_107 (by decide) ?_
    exact W.iret (v := (0 : Int32)) hx hb hr (fun t ht _ => ⟨⟨(0 : Int32), (up X 90 0 (3 : Int32), Y), rfl, hw, by show va_P _ _ _ t.heap; rw [ht]; exact hP⟩, hS.F ht⟩) hS.2.2 d_MO_account_108
  have L50 : ∀ (s0 : Int32) (v1 : Int32) (v4 : Int32) (X : ST) (Y : Int64) (H : Heap) (locs : List Loc) (ls : Array Slot), wq_MO_account_50 post s0 v1 v4 X Y → va_P (dC, dI) vwCl (wdM cA ad X Y) H → va_S (CA ad 23 s.heap.size) s.heap H locs → lv_has ls 6 [(0, .ref (ad 0)), (1, .int v1), (4, .int v4)] → W p l e (headSpec ws_MO_account ({ frames := 2, cells := 0, slots := 0, locals := 48 } : Room)).room s m (([.ref (ad 0), .int a1, .int a2, .int a3] : List Value).toArray) below meth c H locs 0 0 (MQ below (va_Qi (fun r (u : ST × Int64) => post r u.1 u.2) (fun (u : ST × Int64) t => va_P (dC, dI) vwCl (wdM cA ad u.1 u.2) t.heap) (CA ad 23 s.heap.size)) (([.ref (ad 0), .int a1, .int a2, .int a3] : List Value).toArray) s 0 0 (CA ad 23 s.heap.size)) (F0 m 50 ls [.int s0, .ref (ad 0)]) := by
    intro s0 v1 v4 X Y H locs ls hw hP hS hl
    unfold wq_MO_account_50 at hw
    refine va_put (D := (dC, dI)) (ci := 9) (v := .int s0) (ty := .int) (C := R_MO) (T := T_MO) (N := 36) hx hb hts in_MO ty_MO ty_MO_ok nm_MO hown hK hP (hD0 _ _) hS (0) atM_MO rfl 0 (by decide) (hts _ gw_297) (fun _ h9 => h9) rfl (by decide +kernel) rfl rfl (Nat.le_of_ble_eq_true rfl) d_MO_account_50 (fun H locs hP _ hS => ?_)
    have hP : va_P (dC, dI) vwCl (wdM cA ad (up X 90 0 s0) Y) H := by rw [← stM_MO_0]; exact hP
    refine lv_aload_n hx hb d_MO_account_53 rfl (lv_at hl 0 rfl) ?_
    refine va_get (D := (dC, dI)) (ci := 9) (v := .int s0) (C := R_MO) (T := T_MO) (N := 36) hx hb hts in_MO hown hK hP (0) atM_MO rfl 0 (by decide) (hts _ gw_297) (fun _ h9 => h9) rfl d_MO_account_54 ?_
    refine lv_if_eq (tgt := 62) hx hb d_MO_account_57 (by decide) (fun c3 => ?_) (fun c3 => ?_)
    · have hw := hw.1 c3
      refine lv_aload_n hx hb d_MO_account_62 rfl (lv_at hl 0 rfl) ?_
      refine lv_iload hx hb d_MO_account_63 (lv_at hl 2 rfl) ?_
      refine va_callv (va_runV (As := [.int v4]) (rest := []) ⟨hx, hb, hml, hown, hts⟩ (mt_MO_take l hl9 dC dI cA ad hI _ hw) (cwV 1 hts (gV gw_321 gw_322 gw_323 gw_306 gw_320) rfl rfl rfl (by decide +kernel) ⟨Nat.le_of_ble_eq_true rfl, Nat.le_of_ble_eq_true rfl⟩) ⟨zwM_blind, va_recv hK hP (ci := 9) (q0 := 0) rfl atM_MO, zwM_pre hP hS hG9⟩ rfl rfl hl.1 rfl (lv_room (Nat.le_of_ble_eq_true rfl)) d_MO_account_65 ⟨Nat.le_of_ble_eq_true rfl, Nat.le_of_ble_eq_true rfl⟩) hS (fun q _ h => CA_le hS.1 q h) (fun q h => CA_le hS.1 q h) (fun u9 t H locs ht hvm hw hP hz1 hk1 hS => ?_)
      obtain ⟨X4, Y5⟩ := u9
      have hP : va_P (dC, dI) vwCl (wdM cA ad X4 Y5) H := by rw [← ht]; exact hP
      try dsimp only at hw
      refine lv_aload_n hx hb d_MO_account_68 rfl (lv_at hl 0 rfl) ?_
      refine lv_iload_n hx hb d_MO_account_69 rfl (lv_at hl 1 rfl) ?_
      refine va_calli (va_runV (As := [.int v1]) (rest := []) ⟨hx, hb, hml, hown, hts⟩ (mt_MO_holder l hl9 dC dI cA ad hI _ hw) (cwV 1 hts (gV gw_342 gw_343 gw_344 gw_306 gw_341) rfl rfl rfl (by decide +kernel) ⟨Nat.le_of_ble_eq_true rfl, Nat.le_of_ble_eq_true rfl⟩) ⟨zwM_blind, va_recv hK hP (ci := 9) (q0 := 0) rfl atM_MO, zwM_pre hP hS hG9⟩ rfl rfl hl.1 rfl (lv_room (Nat.le_of_ble_eq_true rfl)) d_MO_account_70 ⟨Nat.le_of_ble_eq_true rfl, Nat.le_of_ble_eq_true rfl⟩) hS (fun q _ h => CA_le hS.1 q h) (fun q h => CA_le hS.1 q h) (fun r9 u9 t H locs ht hvm hw hP hz1 hk1 hS => ?_)
      obtain ⟨X7, Y8⟩ := u9
      have hP : va_P (dC, dI) vwCl (wdM cA ad X7 Y8) H := by rw [← ht]; exact hP
      try dsimp only at hw
      refine lv_istore (lv' := [(5, .int r9), (0, .ref (ad 0)), (1, .int v1), (4, .int v4)]) hx hb d_MO_account_73 hl (by decide) rfl (fun ls hl => ?_)
      refine lv_iload hx hb d_MO_account_75 (lv_at hl 0 rfl) ?_
      refine lv_if_lt (tgt := 93) hx hb d_MO_account_77 (by decide) (fun c10 => ?_) (fun c10 => ?_)
      · have hw := hw.1 c10
        refine lv_aload_n hx hb d_MO_account_93 rfl (lv_at hl 1 rfl) ?_
        refine va_get (D := (dC, dI)) (ci := 9) (v := .int (X7 2 0)) (C := R_MO) (T := T_MO) (N := 36) hx hb hts in_MO hown hK hP (0) atM_MO rfl 3 (by decide) (hts _ gw_331) (fun _ h9 => h9) rfl d_MO_account_94 ?_
        refine lv_bipush (v := (6 : Int32)) hx hb d_MO_account_97 (by decide) ?_
        refine lv_icmp_ne (tgt := 109) hx hb d_MO_account_99 (by decide) (fun c11 => ?_) (fun c11 => ?_)
        · have hw := hw.2 c11
          have hl := lv_sub hl (l' := [(0, .ref (ad 0)), (1, .int v1), (5, .int r9)]) [1, 2, 0] rfl
          exact L109 _ _ _ _ _ _ _ hw hP hS hl
        · have hw := hw.1 c11
          have hl := lv_sub hl (l' := [(0, .ref (ad 0))]) [1] rfl
          exact L102 _ _ _ _ _ hw hP hS hl
      · have hw := hw.2 c10
        refine lv_aload_n hx hb d_MO_account_80 rfl (lv_at hl 1 rfl) ?_
        refine va_get (D := (dC, dI)) (ci := 9) (v := .ref (ad 2)) (C := R_MO) (T := T_MO) (N := 36) hx hb hts in_MO hown hK hP (0) atM_MO rfl 5 (by decide) (hts _ gw_332) (fun _ h9 => h9) rfl d_MO_account_81 ?_
        refine lv_iload hx hb d_MO_account_84 (lv_at hl 0 rfl) ?_
        obtain ⟨h12, hw⟩ := hw
        refine va_zald hx hb hK hP (2) 1 atM_closed rfl h12 d_MO_account_86 ?_
        refine lv_if_eq (tgt := 109) hx hb d_MO_account_87 (by decide) (fun c13 => ?_) (fun c13 => ?_)
        · have hw := hw.1 c13
          have hl := lv_sub hl (l' := [(0, .ref (ad 0)), (1, .int v1), (5, .int r9)]) [1, 2, 0] rfl
          exact L109 _ _ _ _ _ _ _ hw hP hS hl
        · have hw := hw.2 c13
          refine lv_goto (tgt := 102) hx hb d_MO_account_90 (by decide) ?_
          have hl := lv_sub hl (l' := [(0, .ref (ad 0))]) [1] rfl
          exact L102 _ _ _ _ _ hw hP hS hl
    · have hw := hw.2 c3
      refine lv_iconst (v := (0 : Int32)) hx hb d_MO_account_60 (by decide) ?_
      exact W.iret (v := (0 : Int32)) hx hb hr (fun t ht _ => ⟨⟨(0 : Int32), (up X 90 0 s0, Y), rfl, hw, by show va_P _ _ _ t.heap; rw [ht]; exact hP⟩, hS.F ht⟩) hS.2.2 d_MO_account_61
  unfold wp_MO_account at hw
  refine lv_aload_n hx hb d_MO_account_0 rfl (lv_at hl 0 rfl) ?_
  refine lv_iload_n hx hb d_MO_account_1 rfl (lv_at hl 2 rfl) ?_
  refine va_calli (va_runV (As := [.int a2]) (rest := []) ⟨hx, hb, hml, hown, hts⟩ (mt_MO_find l hl9 dC dI cA ad hI _ hw) (cwV 1 hts (gV gw_338 gw_339 gw_340 gw_306 gw_337) rfl rfl rfl (by decide +kernel) ⟨Nat.le_of_ble_eq_true rfl, Nat.le_of_ble_eq_true rfl⟩) ⟨zwM_blind, va_recv hK hP (ci := 9) (q0 := 0) rfl atM_MO, zwM_pre hP hS hG9⟩ rfl rfl hl.1 rfl (lv_room (Nat.le_of_ble_eq_true rfl)) d_MO_account_2 ⟨Nat.le_of_ble_eq_true rfl, Nat.le_of_ble_eq_true rfl⟩) hS (fun q _ h => CA_le hS.1 q h) (fun q h => CA_le hS.1 q h) (fun r16 u9 t H locs ht hvm hw hP hz1 hk1 hS => ?_)
  obtain ⟨X14, Y15⟩ := u9
  have hP : va_P (dC, dI) vwCl (wdM cA ad X14 Y15) H := by rw [← ht]; exact hP
  try dsimp only at hw
  refine lv_istore (lv' := [(4, .int r16), (0, .ref (ad 0)), (1, .int a1), (2, .int a2), (3, .int a3)]) hx hb d_MO_account_5 hl (by decide) rfl (fun ls hl => ?_)
  refine lv_aload_n hx hb d_MO_account_7 rfl (lv_at hl 1 rfl) ?_
  refine lv_iload_n hx hb d_MO_account_8 rfl (lv_at hl 2 rfl) ?_
  refine va_calli (va_runS (As := [.int a1]) (rest := [.ref (ad 0)]) ⟨hx, hb, hml, hown, hts⟩ (mt_MO_isKey l hl9 dC dI cA ad hI _ hw) (va_cwS 1 hts (gS gw_325 gw_326 gw_306 gw_324) rfl rfl rfl (by decide +kernel) ⟨Nat.le_of_ble_eq_true rfl, Nat.le_of_ble_eq_true rfl⟩) ⟨zwM_blind, zwM_pre hP hS hG9⟩ rfl rfl hl.1 rfl (lv_room (Nat.le_of_ble_eq_true rfl)) d_MO_account_9 ⟨Nat.le_of_ble_eq_true rfl, Nat.le_of_ble_eq_true rfl⟩) hS (fun q _ h => CA_le hS.1 q h) (fun q h => CA_le hS.1 q h) (fun r19 u9 t H locs ht hvm hw hP hz1 hk1 hS => ?_)
  obtain ⟨X17, Y18⟩ := u9
  have hP : va_P (dC, dI) vwCl (wdM cA ad X17 Y18) H := by rw [← ht]; exact hP
  try dsimp only at hw
  refine lv_if_ne (tgt := 19) hx hb d_MO_account_12 (by decide) (fun c20 => ?_) (fun c20 => ?_)
  · have hw := hw.2 c20
    refine lv_iload_n hx hb d_MO_account_19 rfl (lv_at hl 4 rfl) ?_
    refine lv_aload_n hx hb d_MO_account_20 rfl (lv_at hl 1 rfl) ?_
    refine lv_iconst (v := (1 : Int32)) hx hb d_MO_account_21 (by decide) ?_
    refine lv_iload_n hx hb d_MO_account_22 rfl (lv_at hl 2 rfl) ?_
    refine lv_iload_n hx hb d_MO_account_23 rfl (lv_at hl 3 rfl) ?_
    refine lv_iconst (v := (0 : Int32)) hx hb d_MO_account_24 (by decide) ?_
    refine lv_iconst (v := (0 : Int32)) hx hb d_MO_account_25 (by decide) ?_
    refine va_calli (va_runV (As := [.int (1 : Int32), .int a1, .int a2, .int (0 : Int32), .int (0 : Int32)]) (rest := [.int a3, .ref (ad 0)]) ⟨hx, hb, hml, hown, hts⟩ (mt_MO_five l hl9 dC dI cA ad hI _ hw) (cwV 5 hts (gV gw_328 gw_329 gw_330 gw_306 gw_327) rfl rfl rfl (by decide +kernel) ⟨Nat.le_of_ble_eq_true rfl, Nat.le_of_ble_eq_true rfl⟩) ⟨zwM_blind, va_recv hK hP (ci := 9) (q0 := 0) rfl atM_MO, zwM_pre hP hS hG9⟩ rfl rfl hl.1 rfl (lv_room (Nat.le_of_ble_eq_true rfl)) d_MO_account_26 ⟨Nat.le_of_ble_eq_true rfl, Nat.le_of_ble_eq_true rfl⟩) hS (fun q _ h => CA_le hS.1 q h) (fun q h => CA_le hS.1 q h) (fun r23 u9 t H locs ht hvm hw hP hz1 hk1 hS => ?_)
    obtain ⟨X21, Y22⟩ := u9
    have hP : va_P (dC, dI) vwCl (wdM cA ad X21 Y22) H := by rw [← ht]; exact hP
    try dsimp only at hw
    refine lv_iload_n hx hb d_MO_account_29 rfl (lv_at hl 2 rfl) ?_
    refine va_calli (va_runS (As := [.int a3, .int r23, .int a1]) (rest := [.ref (ad 0)]) ⟨hx, hb, hml, hown, hts⟩ (mt_MO_isRight l hl9 dC dI cA ad hI _ hw) (va_cwS 3 hts (gS gw_335 gw_336 gw_306 gw_334) rfl rfl rfl (by decide +kernel) ⟨Nat.le_of_ble_eq_true rfl, Nat.le_of_ble_eq_true rfl⟩) ⟨zwM_blind, zwM_pre hP hS hG9⟩ rfl rfl hl.1 rfl (lv_room (Nat.le_of_ble_eq_true rfl)) d_MO_account_30 ⟨Nat.le_of_ble_eq_true rfl, Nat.le_of_ble_eq_true rfl⟩) hS (fun q _ h => CA_le hS.1 q h) (fun q h => CA_le hS.1 q h) (fun r26 u9 t H locs ht hvm hw hP hz1 hk1 hS => ?_)
    obtain ⟨X24, Y25⟩ := u9
    have hP : va_P (dC, dI) vwCl (wdM cA ad X24 Y25) H := by rw [← ht]; exact hP
    try dsimp only at hw
    refine lv_if_ne (tgt := 40) hx hb d_MO_account_33 (by decide) (fun c27 => ?_) (fun c27 => ?_)
    · have hw := hw.2 c27
      refine lv_iload hx hb d_MO_account_40 (lv_at hl 0 rfl) ?_
      refine lv_if_ge (tgt := 49) hx hb d_MO_account_42 (by decide) (fun c28 => ?_) (fun c28 => ?_)
      · have hw := hw.1 c28
        refine lv_iconst (v := (0 : Int32)) hx hb d_MO_account_49 (by decide) ?_
        have hl := lv_sub hl (l' := [(0, .ref (ad 0)), (1, .int a1), (4, .int r16)]) [1, 2, 0] rfl
        exact L50 _ _ _ _ _ _ _ _ hw hP hS hl
      · have hw := hw.2 c28
        refine lv_iconst (v := (2 : Int32)) hx hb d_MO_account_45 (by decide) ?_
        refine lv_goto (tgt := 50) hx hb d_MO_account_46 (by decide) ?_
        have hl := lv_sub hl (l' := [(0, .ref (ad 0)), (1, .int a1), (4, .int r16)]) [1, 2, 0] rfl
        exact L50 _ _ _ _ _ _ _ _ hw hP hS hl
    · have hw := hw.1 c27
      refine lv_iconst (v := (1 : Int32)) hx hb d_MO_account_36 (by decide) ?_
      refine lv_goto (tgt := 50) hx hb d_MO_account_37 (by decide) ?_
      have hl := lv_sub hl (l' := [(0, .ref (ad 0)), (1, .int a1), (4, .int r16)]) [1, 2, 0] rfl
      exact L50 _ _ _ _ _ _ _ _ hw hP hS hl
  · have hw := hw.1 c20
    refine lv_iconst (v := (2 : Int32)) hx hb d_MO_account_15 (by decide) ?_
    refine lv_goto (tgt := 50) hx hb d_MO_account_16 (by decide) ?_
    have hl := lv_sub hl (l' := [(0, .ref (ad 0)), (1, .int a1), (4, .int r16)]) [1, 2, 0] rfl
    exact L50 _ _ _ _ _ _ _ _ hw hP hS hl
