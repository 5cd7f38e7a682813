def ws_MO_deactivate : List Cond := Cond.code y_MO_deactivate c_MO_deactivate 7 (Option.some Jvm.ClassFile.FieldType.int) :: GW
theorem d_MO_deactivate_0 : decode c_MO_deactivate 0 = .ok (.aload_n 0, 1) := by decide +kernel
theorem d_MO_deactivate_1 : decode c_MO_deactivate 1 = .ok (.aload_n 0, 1) := by decide +kernel
theorem d_MO_deactivate_2 : decode c_MO_deactivate 2 = .ok (.iload_n 1, 1) := by decide +kernel
theorem d_MO_deactivate_3 : decode c_MO_deactivate 3 = .ok (.iload_n 2, 1) := by decide +kernel
theorem d_MO_deactivate_4 : decode c_MO_deactivate 4 = .ok (.aload_n 0, 1) := by decide +kernel
theorem d_MO_deactivate_5 : decode c_MO_deactivate 5 = .ok (.bipush 6, 2) := by decide +kernel
theorem d_MO_deactivate_7 : decode c_MO_deactivate 7 = .ok (.iload_n 1, 1) := by decide +kernel
theorem d_MO_deactivate_8 : decode c_MO_deactivate 8 = .ok (.iload_n 2, 1) := by decide +kernel
theorem d_MO_deactivate_9 : decode c_MO_deactivate 9 = .ok (.iload_n 3, 1) := by decide +kernel
theorem d_MO_deactivate_10 : decode c_MO_deactivate 10 = .ok (.iconst 0, 1) := by decide +kernel
theorem d_MO_deactivate_11 : decode c_MO_deactivate 11 = .ok (.invokevirtual 116, 3) := by decide +kernel
theorem d_MO_deactivate_14 : decode c_MO_deactivate 14 = .ok (.iload 4, 2) := by decide +kernel
theorem d_MO_deactivate_16 : decode c_MO_deactivate 16 = .ok (.invokevirtual 151, 3) := by decide +kernel
theorem d_MO_deactivate_19 : decode c_MO_deactivate 19 = .ok (.putfield 81, 3) := by decide +kernel
theorem d_MO_deactivate_22 : decode c_MO_deactivate 22 = .ok (.aload_n 0, 1) := by decide +kernel
theorem d_MO_deactivate_23 : decode c_MO_deactivate 23 = .ok (.getfield 81, 3) := by decide +kernel
theorem d_MO_deactivate_26 : decode c_MO_deactivate 26 = .ok (.ifCond .eq 5, 3) := by decide +kernel
theorem d_MO_deactivate_29 : decode c_MO_deactivate 29 = .ok (.iconst 0, 1) := by decide +kernel
theorem d_MO_deactivate_30 : decode c_MO_deactivate 30 = .ok (.ireturn, 1) := by decide +kernel
theorem d_MO_deactivate_31 : decode c_MO_deactivate 31 = .ok (.iconst 0, 1) := by decide +kernel
theorem d_MO_deactivate_32 : decode c_MO_deactivate 32 = .ok (.istore 5, 2) := by decide +kernel
theorem d_MO_deactivate_34 : decode c_MO_deactivate 34 = .ok (.iload_n 3, 1) := by decide +kernel
theorem d_MO_deactivate_35 : decode c_MO_deactivate 35 = .ok (.iconst (-1), 1) := by decide +kernel
theorem d_MO_deactivate_36 : decode c_MO_deactivate 36 = .ok (.if_icmp .ne 58, 3) := by decide +kernel
theorem d_MO_deactivate_39 : decode c_MO_deactivate 39 = .ok (.aload_n 0, 1) := by decide +kernel
theorem d_MO_deactivate_40 : decode c_MO_deactivate 40 = .ok (.getfield 13, 3) := by decide +kernel
theorem d_MO_deactivate_43 : decode c_MO_deactivate 43 = .ok (.iload_n 1, 1) := by decide +kernel
theorem d_MO_deactivate_44 : decode c_MO_deactivate 44 = .ok (.iconst 1, 1) := by decide +kernel
theorem d_MO_deactivate_45 : decode c_MO_deactivate 45 = .ok (.bastore, 1) := by decide +kernel
theorem d_MO_deactivate_46 : decode c_MO_deactivate 46 = .ok (.iconst 0, 1) := by decide +kernel
theorem d_MO_deactivate_47 : decode c_MO_deactivate 47 = .ok (.istore 6, 2) := by decide +kernel
theorem d_MO_deactivate_49 : decode c_MO_deactivate 49 = .ok (.iload 6, 2) := by decide +kernel
theorem d_MO_deactivate_51 : decode c_MO_deactivate 51 = .ok (.aload_n 0, 1) := by decide +kernel
theorem d_MO_deactivate_52 : decode c_MO_deactivate 52 = .ok (.getfield 137, 3) := by decide +kernel
theorem d_MO_deactivate_55 : decode c_MO_deactivate 55 = .ok (.if_icmp .ge 36, 3) := by decide +kernel
theorem d_MO_deactivate_58 : decode c_MO_deactivate 58 = .ok (.aload_n 0, 1) := by decide +kernel
theorem d_MO_deactivate_59 : decode c_MO_deactivate 59 = .ok (.getfield 38, 3) := by decide +kernel
theorem d_MO_deactivate_62 : decode c_MO_deactivate 62 = .ok (.iload 6, 2) := by decide +kernel
theorem d_MO_deactivate_64 : decode c_MO_deactivate 64 = .ok (.iaload, 1) := by decide +kernel
theorem d_MO_deactivate_65 : decode c_MO_deactivate 65 = .ok (.iload_n 1, 1) := by decide +kernel
theorem d_MO_deactivate_66 : decode c_MO_deactivate 66 = .ok (.if_icmp .ne 15, 3) := by decide +kernel
theorem d_MO_deactivate_69 : decode c_MO_deactivate 69 = .ok (.iload 5, 2) := by decide +kernel
theorem d_MO_deactivate_71 : decode c_MO_deactivate 71 = .ok (.aload_n 0, 1) := by decide +kernel
theorem d_MO_deactivate_72 : decode c_MO_deactivate 72 = .ok (.iload 6, 2) := by decide +kernel
theorem d_MO_deactivate_74 : decode c_MO_deactivate 74 = .ok (.invokevirtual 215, 3) := by decide +kernel
theorem d_MO_deactivate_77 : decode c_MO_deactivate 77 = .ok (.iadd, 1) := by decide +kernel
theorem d_MO_deactivate_78 : decode c_MO_deactivate 78 = .ok (.goto 5, 3) := by decide +kernel
theorem d_MO_deactivate_81 : decode c_MO_deactivate 81 = .ok (.iload 5, 2) := by decide +kernel
theorem d_MO_deactivate_83 : decode c_MO_deactivate 83 = .ok (.istore 5, 2) := by decide +kernel
theorem d_MO_deactivate_85 : decode c_MO_deactivate 85 = .ok (.iinc 6 1, 3) := by decide +kernel
theorem d_MO_deactivate_88 : decode c_MO_deactivate 88 = .ok (.goto (-39), 3) := by decide +kernel
theorem d_MO_deactivate_91 : decode c_MO_deactivate 91 = .ok (.goto 66, 3) := by decide +kernel
theorem d_MO_deactivate_94 : decode c_MO_deactivate 94 = .ok (.aload_n 0, 1) := by decide +kernel
theorem d_MO_deactivate_95 : decode c_MO_deactivate 95 = .ok (.aload_n 0, 1) := by decide +kernel
theorem d_MO_deactivate_96 : decode c_MO_deactivate 96 = .ok (.iload_n 3, 1) := by decide +kernel
theorem d_MO_deactivate_97 : decode c_MO_deactivate 97 = .ok (.invokevirtual 169, 3) := by decide +kernel
theorem d_MO_deactivate_100 : decode c_MO_deactivate 100 = .ok (.ifCond .ne 7, 3) := by decide +kernel
theorem d_MO_deactivate_103 : decode c_MO_deactivate 103 = .ok (.iconst 1, 1) := by decide +kernel
theorem d_MO_deactivate_104 : decode c_MO_deactivate 104 = .ok (.goto 32, 3) := by decide +kernel
theorem d_MO_deactivate_107 : decode c_MO_deactivate 107 = .ok (.aload_n 0, 1) := by decide +kernel
theorem d_MO_deactivate_108 : decode c_MO_deactivate 108 = .ok (.getfield 38, 3) := by decide +kernel
theorem d_MO_deactivate_111 : decode c_MO_deactivate 111 = .ok (.iload_n 3, 1) := by decide +kernel
theorem d_MO_deactivate_112 : decode c_MO_deactivate 112 = .ok (.iaload, 1) := by decide +kernel
theorem d_MO_deactivate_113 : decode c_MO_deactivate 113 = .ok (.iload_n 1, 1) := by decide +kernel
theorem d_MO_deactivate_114 : decode c_MO_deactivate 114 = .ok (.if_icmp .eq 7, 3) := by decide +kernel
theorem d_MO_deactivate_117 : decode c_MO_deactivate 117 = .ok (.iconst 2, 1) := by decide +kernel
theorem d_MO_deactivate_118 : decode c_MO_deactivate 118 = .ok (.goto 18, 3) := by decide +kernel
theorem d_MO_deactivate_121 : decode c_MO_deactivate 121 = .ok (.aload_n 0, 1) := by decide +kernel
theorem d_MO_deactivate_122 : decode c_MO_deactivate 122 = .ok (.getfield 47, 3) := by decide +kernel
theorem d_MO_deactivate_125 : decode c_MO_deactivate 125 = .ok (.iload_n 3, 1) := by decide +kernel
theorem d_MO_deactivate_126 : decode c_MO_deactivate 126 = .ok (.iaload, 1) := by decide +kernel
theorem d_MO_deactivate_127 : decode c_MO_deactivate 127 = .ok (.iconst 1, 1) := by decide +kernel
theorem d_MO_deactivate_128 : decode c_MO_deactivate 128 = .ok (.if_icmp .le 7, 3) := by decide +kernel
theorem d_MO_deactivate_131 : decode c_MO_deactivate 131 = .ok (.iconst 4, 1) := by decide +kernel
theorem d_MO_deactivate_132 : decode c_MO_deactivate 132 = .ok (.goto 4, 3) := by decide +kernel
theorem d_MO_deactivate_135 : decode c_MO_deactivate 135 = .ok (.iconst 0, 1) := by decide +kernel
theorem d_MO_deactivate_136 : decode c_MO_deactivate 136 = .ok (.putfield 81, 3) := by decide +kernel
theorem d_MO_deactivate_139 : decode c_MO_deactivate 139 = .ok (.aload_n 0, 1) := by decide +kernel
theorem d_MO_deactivate_140 : decode c_MO_deactivate 140 = .ok (.getfield 81, 3) := by decide +kernel
theorem d_MO_deactivate_143 : decode c_MO_deactivate 143 = .ok (.ifCond .ne 11, 3) := by decide +kernel
theorem d_MO_deactivate_146 : decode c_MO_deactivate 146 = .ok (.aload_n 0, 1) := by decide +kernel
theorem d_MO_deactivate_147 : decode c_MO_deactivate 147 = .ok (.iload_n 3, 1) := by decide +kernel
theorem d_MO_deactivate_148 : decode c_MO_deactivate 148 = .ok (.invokevirtual 215, 3) := by decide +kernel
theorem d_MO_deactivate_151 : decode c_MO_deactivate 151 = .ok (.goto 4, 3) := by decide +kernel
theorem d_MO_deactivate_154 : decode c_MO_deactivate 154 = .ok (.iconst 0, 1) := by decide +kernel
theorem d_MO_deactivate_155 : decode c_MO_deactivate 155 = .ok (.istore 5, 2) := by decide +kernel
theorem d_MO_deactivate_157 : decode c_MO_deactivate 157 = .ok (.aload_n 0, 1) := by decide +kernel
theorem d_MO_deactivate_158 : decode c_MO_deactivate 158 = .ok (.invokevirtual 166, 3) := by decide +kernel
theorem d_MO_deactivate_161 : decode c_MO_deactivate 161 = .ok (.iload 5, 2) := by decide +kernel
theorem d_MO_deactivate_163 : decode c_MO_deactivate 163 = .ok (.ireturn, 1) := by decide +kernel
def wq_MO_deactivate_157 (post : Int32 → ST → Int64 → Prop) (v5 : Int32) (X : ST) (Y : Int64) : Prop := wp_MO_settle (fun (X1 : ST) (Y2 : Int64) => post v5 X1 Y2) X Y
def wq_MO_deactivate_136 (post : Int32 → ST → Int64 → Prop) (s0 : Int32) (v3 : Int32) (X : ST) (Y : Int64) : Prop := ((s0 = 0 → wp_MO_give (fun (r7 : Int32) (X5 : ST) (Y6 : Int64) => wq_MO_deactivate_157 post r7 X5 Y6) (up X 90 0 s0) Y v3) ∧ (¬ s0 = 0 → wq_MO_deactivate_157 post (0 : Int32) (up X 90 0 s0) Y))
def wq_MO_deactivate_49 (post : Int32 → ST → Int64 → Prop) (v1 : Int32) : Nat → Int32 → Int32 → ST → Int64 → Prop
  | 0 => fun _ _ _ _ => False
  | n + 1 => fun v5 v6 X Y => (((X 4 0) ≤ v6 → wq_MO_deactivate_157 post v5 X Y) ∧ (¬ (X 4 0) ≤ v6 → (vp_in v6 24 ∧ (((X 31 v6.toNatClampNeg) = v1 → wp_MO_give (fun (r13 : Int32) (X11 : ST) (Y12 : Int64) => wq_MO_deactivate_49 post v1 n (v5 + r13) (v6 + (1 : Int32)) X11 Y12) X Y v6) ∧ (¬ (X 31 v6.toNatClampNeg) = v1 → wq_MO_deactivate_49 post v1 n v5 (v6 + (1 : Int32)) X Y)))))
def wp_MO_deactivate (post : Int32 → ST → Int64 → Prop) (X : ST) (Y : Int64) (a1 : Int32) (a2 : Int32) (a3 : Int32) (a4 : Int32) : Prop := wp_MO_five (fun (r16 : Int32) (X14 : ST) (Y15 : Int64) => wp_MO_signed (fun (r19 : Int32) (X17 : ST) (Y18 : Int64) => ((r19 = 0 → ((a3 = (-1 : Int32) → (vp_in a1 6 ∧ (∃ n9, wq_MO_deactivate_49 post a1 n9 (0 : Int32) (0 : Int32) (up (up X17 90 0 r19) 10 a1.toNatClampNeg (vp_nar .boolean (1 : Int32))) Y18))) ∧ (¬ a3 = (-1 : Int32) → wp_MO_isAuth (fun (r25 : Int32) (X23 : ST) (Y24 : Int64) => ((r25 = 0 → wq_MO_deactivate_136 post (1 : Int32) a3 X23 Y24) ∧ (¬ r25 = 0 → (vp_in a3 24 ∧ (((X23 31 a3.toNatClampNeg) = a1 → (((X23 30 a3.toNatClampNeg) ≤ (1 : Int32) → wq_MO_deactivate_136 post (0 : Int32) a3 X23 Y24) ∧ (¬ (X23 30 a3.toNatClampNeg) ≤ (1 : Int32) → wq_MO_deactivate_136 post (4 : Int32) a3 X23 Y24))) ∧ (¬ (X23 31 a3.toNatClampNeg) = a1 → wq_MO_deactivate_136 post (2 : Int32) a3 X23 Y24)))))) (up X17 90 0 r19) Y18 a3))) ∧ (¬ r19 = 0 → post (0 : Int32) (up X17 90 0 r19) Y18))) X14 Y15 a1 a2 r16 a4) X Y (6 : Int32) a1 a2 a3 (0 : Int32)
set_option maxHeartbeats 4000000 in
set_option maxRecDepth 100000 in
theorem mt_MO_deactivate (l : Launch) (hl9 : l.stackTraces = false) (dC : Nat → ClassId) (dI : Nat → Nat → Nat) (cA : Nat → ClassId) (ad : Nat → Nat) (hI : INJ ad 23) (sz : Nat) {X : ST} {Y : Int64} {a1 : Int32} {a2 : Int32} {a3 : Int32} {a4 : Int32} {post : Int32 → ST → Int64 → Prop} (hw : wp_MO_deactivate post X Y a1 a2 a3 a4) : Met l y_MO_deactivate ws_MO_deactivate ({ frames := 3, cells := 0, slots := 0, locals := 73 } : Room) (va_Pc [.ref (ad 0), .int a1, .int a2, .int a3, .int a4] (fun U => PM dC dI cA ad sz X Y U)) (va_Qi (fun r (u : ST × Int64) => post r u.1 u.2) (fun (u : ST × Int64) t => va_P (dC, dI) vwCl (wdM cA ad u.1 u.2) t.heap) (CA ad 23 sz)) 0 0 (CA ad 23 sz) := by
  refine Met.ofW (cc := c_MO_deactivate) (maxL := 7) (ret := (some .int)) (by decide) rfl ?_
  intro p e s m args below meth c s₁ B hml hv
  obtain ⟨rfl, hsz, hP, hG⟩ := hv
  have hx := B.exec
  have hb := B.bytes
  have hr := B.returns
  have hts : ∀ w ∈ GW, w.before (([.ref (ad 0), .int a1, .int a2, .int a3, .int a4] : List Value).toArray) s = true := fun w h => atoms_spec (ws := ws_MO_deactivate) B.pre w (List.mem_cons_of_mem _ h)
  have hown : s.vm.findClass R_MO = some m.cls := findClass_of_methodNamed B.named
  have hlocks := B.notSynchronized
  subst hsz
  have hK := hG.1
  have hG9 := hG
  have hNW := hG.2
  have hD0 : ∀ (X : ST) (Y : Int64), va_D (CA ad 23 s.heap.size) (wdM cA ad X Y) := fun _ _ => zwM_D hI
  have hS : va_S (CA ad 23 s.heap.size) s.heap s.heap [] := va_S.rf
  have hl := lv_entry ([.ref (ad 0), .int a1, .int a2, .int a3, .int a4]) (n := 7) (Nat.le_of_ble_eq_true rfl)
  rw [lg_entry_eq]
  generalize (lg_sl ([.ref (ad 0), .int a1, .int a2, .int a3, .int a4]) ++ List.replicate (7 - (lg_sl ([.ref (ad 0), .int a1, .int a2, .int a3, .int a4])).length) Slot.unset).toArray = ls at hl ⊢
  have hl : lv_has ls 7 [(0, .ref (ad 0)), (1, .int a1), (2, .int a2), (3, .int a3), (4, .int a4)] := hl
  have L157 : ∀ (v5 : Int32) (X : ST) (Y : Int64) (H : Heap) (locs : List Loc) (ls : Array Slot), wq_MO_deactivate_157 post v5 X Y → va_P (dC, dI) vwCl (wdM cA ad X Y) H → va_S (CA ad 23 s.heap.size) s.heap H locs → lv_has ls 7 [(0, .ref (ad 0)), (5, .int v5)] → W p l e (headSpec ws_MO_deactivate ({ frames := 3, cells := 0, slots := 0, locals := 73 } : Room)).room s m (([.ref (ad 0), .int a1, .int a2, .int a3, .int a4] : List Value).toArray) below meth c H locs 0 0 (MQ below (va_Qi (fun r (u : ST × Int64) => post r u.1 u.2) (fun (u : ST × Int64) t => va_P (dC, dI) vwCl (wdM cA ad u.1 u.2) t.heap) (CA ad 23 s.heap.size)) (([.ref (ad 0), .int a1, .int a2, .int a3, .int a4] : List Value).toArray) s 0 0 (CA ad 23 s.heap.size)) (F0 m 157 ls []) := by
    intro v5 X Y H locs ls hw hP hS hl
    unfold wq_MO_deactivate_157 at hw
    refine lv_aload_n hx hb d_MO_deactivate_157 rfl (lv_at hl 0 rfl) ?_
    refine va_callv (va_runV (As := []) (rest := []) ⟨hx, hb, hml, hown, hts⟩ (mt_MO_settle l hl9 dC dI cA ad hI _ hw) (cwV 0 hts (gV gw_366 gw_367 gw_368 gw_306 gw_365) rfl rfl rfl (by decide +kernel) ⟨Nat.le_of_ble_eq_true rfl, Nat.le_of_ble_eq_true rfl⟩) ⟨zwM_blind, va_recv hK hP (ci := 9) (q0 := 0) rfl atM_MO, zwM_pre hP hS hG9⟩ rfl rfl hl.1 rfl (lv_room (Nat.le_of_ble_eq_true rfl)) d_MO_deactivate_158 ⟨Nat.le_of_ble_eq_true rfl, Nat.le_of_ble_eq_true rfl⟩) hS (fun q _ h => CA_le hS.1 q h) (fun q h => CA_le hS.1 q h) (fun u9 t H locs ht hvm hw hP hz1 hk1 hS => ?_)
    obtain ⟨X1, Y2⟩ := u9
    have hP : va_P (dC, dI) vwCl (wdM cA ad X1 Y2) H := by rw [← ht]; exact hP
    try dsimp only at hw
    refine lv_iload hx hb d_MO_deactivate_161 (lv_at hl 1 rfl) ?_
    exact W.iret (v := v5) hx hb hr (fun t ht _ => ⟨⟨v5, (X1, Y2), rfl, hw, by show va_P _ _ _ t.heap; rw [ht]; exact hP⟩, hS.F ht⟩) hS.2.2 d_MO_deactivate_163
  have L136 : ∀ (s0 : Int32) (v3 : Int32) (X : ST) (Y : Int64) (H : Heap) (locs : List Loc) (ls : Array Slot), wq_MO_deactivate_136 post s0 v3 X Y → va_P (dC, dI) vwCl (wdM cA ad X Y) H → va_S (CA ad 23 s.heap.size) s.heap H locs → lv_has ls 7 [(0, .ref (ad 0)), (3, .int v3)] → W p l e (headSpec ws_MO_deactivate ({ frames := 3, cells := 0, slots := 0, locals := 73 } : Room)).room s m (([.ref (ad 0), .int a1, .int a2, .int a3, .int a4] : List Value).toArray) below meth c H locs 0 0 (MQ below (va_Qi (fun r (u : ST × Int64) => post r u.1 u.2) (fun (u : ST × Int64) t => va_P (dC, dI) vwCl (wdM cA ad u.1 u.2) t.heap) (CA ad 23 s.heap.size)) (([.ref (ad 0), .int a1, .int a2, .int a3, .int a4] : List Value).toArray) s 0 0 (CA ad 23 s.heap.size)) (F0 m 136 ls [.int s0, .ref (ad 0)]) := by
    intro s0 v3 X Y H locs ls hw hP hS hl
    unfold wq_MO_deactivate_136 at hw
    refine va_put (D := (dC, dI)) (ci := 9) (v := .int s0) (ty := .int) (C := R_MO) (T := T_MO) (N := 36) hx hb hts in_MO ty_MO ty_MO_ok nm_MO hown hK hP (hD0 _ _) hS (0) atM_MO rfl 0 (by decide) (hts _ gw_297) (fun _ h9 => h9) rfl (by decide +kernel) rfl rfl (Nat.le_of_ble_eq_true rfl) d_MO_deactivate_136 (fun H locs hP _ hS => ?_)
    have hP : va_P (dC, dI) vwCl (wdM cA ad (up X 90 0 s0) Y) H := by rw [← stM_MO_0]; exact hP
    refine lv_aload_n hx hb d_MO_deactivate_139 rfl (lv_at hl 0 rfl) ?_
    refine va_get (D := (dC, dI)) (ci := 9) (v := .int s0) (C := R_MO) (T := T_MO) (N := 36) hx hb hts in_MO hown hK hP (0) atM_MO rfl 0 (by decide) (hts _ gw_297) (fun _ h9 => h9) rfl d_MO_deactivate_140 ?_
    refine lv_if_ne (tgt := 154) hx hb d_MO_deactivate_143 (by decide) (fun c4 => ?_) (fun c4 => ?_)
    · have hw := hw.2 c4
      refine lv_iconst (v := (0 : Int32)) hx hb d_MO_deactivate_154 (by decide) ?_
      refine lv_istore (lv' := [(5, .int (0 : Int32)), (0, .ref (ad 0)), (3, .int v3)]) hx hb d_MO_deactivate_155 hl (by decide) rfl (fun ls hl => ?_)
      have hl := lv_sub hl (l' := [(0, .ref (ad 0)), (5, .int (0 : Int32))]) [1, 0] rfl
      exact L157 _ _ _ _ _ _ hw hP hS hl
    · have hw := hw.1 c4
      refine lv_aload_n hx hb d_MO_deactivate_146 rfl (lv_at hl 0 rfl) ?_
      refine lv_iload_n hx hb d_MO_deactivate_147 rfl (lv_at hl 1 rfl) ?_
      refine va_calli (va_runV (As := [.int v3]) (rest := []) ⟨hx, hb, hml, hown, hts⟩ (mt_MO_give l hl9 dC dI cA ad hI _ hw) (cwV 1 hts (gV gw_436 gw_437 gw_438 gw_306 gw_435) rfl rfl rfl (by decide +kernel) ⟨Nat.le_of_ble_eq_true rfl, Nat.le_of_ble_eq_true rfl⟩) ⟨zwM_blind, va_recv hK hP (ci := 9) (q0 := 0) rfl atM_MO, zwM_pre hP hS hG9⟩ rfl rfl hl.1 rfl (lv_room (Nat.le_of_ble_eq_true rfl)) d_MO_deactivate_148 ⟨Nat.le_of_ble_eq_true rfl, Nat.le_of_ble_eq_true rfl⟩) hS (fun q _ h => CA_le hS.1 q h) (fun q h => CA_le hS.1 q h) (fun r7 u9 t H locs ht hvm hw hP hz1 hk1 hS => ?_)
      obtain ⟨X5, Y6⟩ := u9
      have hP : va_P (dC, dI) vwCl (wdM cA ad X5 Y6) H := by rw [← ht]; exact hP
      try dsimp only at hw
      refine lv_goto (tgt := 155) hx hb d_MO_deactivate_151 (by decide) ?_
      refine lv_istore (lv' := [(5, .int r7), (0, .ref (ad 0)), (3, .int v3)]) hx hb d_MO_deactivate_155 hl (by decide) rfl (fun ls hl => ?_)
      have hl := lv_sub hl (l' := [(0, .ref (ad 0)), (5, .int r7)]) [1, 0] rfl
      exact L157 _ _ _ _ _ _ hw hP hS hl
  have L49 : ∀ (v1 : Int32), ∀ (n : Nat), ∀ (v5 : Int32) (v6 : Int32) (X : ST) (Y : Int64) (H : Heap) (locs : List Loc) (ls : Array Slot), wq_MO_deactivate_49 post v1 n v5 v6 X Y → va_P (dC, dI) vwCl (wdM cA ad X Y) H → va_S (CA ad 23 s.heap.size) s.heap H locs → lv_has ls 7 [(0, .ref (ad 0)), (1, .int v1), (5, .int v5), (6, .int v6)] → W p l e (headSpec ws_MO_deactivate ({ frames := 3, cells := 0, slots := 0, locals := 73 } : Room)).room s m (([.ref (ad 0), .int a1, .int a2, .int a3, .int a4] : List Value).toArray) below meth c H locs 0 0 (MQ below (va_Qi (fun r (u : ST × Int64) => post r u.1 u.2) (fun (u : ST × Int64) t => va_P (dC, dI) vwCl (wdM cA ad u.1 u.2) t.heap) (CA ad 23 s.heap.size)) (([.ref (ad 0), .int a1, .int a2, .int a3, .int a4] : List Value).toArray) s 0 0 (CA ad 23 s.heap.size)) (F0 m 49 ls []) := by
    intro v1 n
    induction n with
    | zero => intro v5 v6 X Y H locs ls hw hP hS hl; exact False.elim hw
    | succ n ih =>
      intro v5 v6 X Y H locs ls hw hP hS hl
      dsimp only [wq_MO_deactivate_49] at hw
      refine lv_iload hx hb d_MO_deactivate_49 (lv_at hl 3 rfl) ?_
      refine lv_aload_n hx hb d_MO_deactivate_51 rfl (lv_at hl 0 rfl) ?_
      refine va_get (D := (dC, dI)) (ci := 9) (v := .int (X 4 0)) (C := R_MO) (T := T_MO) (N := 36) hx hb hts in_MO hown hK hP (0) atM_MO rfl 14 (by decide) (hts _ gw_350) (fun _ h9 => h9) rfl d_MO_deactivate_52 ?_
      refine lv_icmp_ge (tgt := 91) hx hb d_MO_deactivate_55 (by decide) (fun c8 => ?_) (fun c8 => ?_)
      · have hw := hw.1 c8
        refine lv_goto (tgt := 157) hx hb d_MO_deactivate_91 (by decide) ?_
        have hl := lv_sub hl (l' := [(0, .ref (ad 0)), (5, .int v5)]) [0, 2] rfl
        exact L157 _ _ _ _ _ _ hw hP hS hl
      · have hw := hw.2 c8
        refine lv_aload_n hx hb d_MO_deactivate_58 rfl (lv_at hl 0 rfl) ?_
        refine va_get (D := (dC, dI)) (ci := 9) (v := .ref (ad 10)) (C := R_MO) (T := T_MO) (N := 36) hx hb hts in_MO hown hK hP (0) atM_MO rfl 15 (by decide) (hts _ gw_351) (fun _ h9 => h9) rfl d_MO_deactivate_59 ?_
        refine lv_iload hx hb d_MO_deactivate_62 (lv_at hl 3 rfl) ?_
        obtain ⟨h9, hw⟩ := hw
        refine va_iald hx hb hK hP (10) 9 atM_authAccount rfl h9 d_MO_deactivate_64 ?_
        refine lv_iload_n hx hb d_MO_deactivate_65 rfl (lv_at hl 1 rfl) ?_
        refine lv_icmp_ne (tgt := 81) hx hb d_MO_deactivate_66 (by decide) (fun c10 => ?_) (fun c10 => ?_)
        · have hw := hw.2 c10
          refine lv_iload hx hb d_MO_deactivate_81 (lv_at hl 2 rfl) ?_
          refine lv_istore (lv' := [(5, .int v5), (0, .ref (ad 0)), (1, .int v1), (6, .int v6)]) hx hb d_MO_deactivate_83 hl (by decide) rfl (fun ls hl => ?_)
          refine lv_iinc (k := 3) (v := v6 + (1 : Int32)) (lv' := [(6, .int (v6 + (1 : Int32))), (5, .int v5), (0, .ref (ad 0)), (1, .int v1)]) hx hb d_MO_deactivate_85 hl rfl rfl (by decide) rfl (fun ls hl => ?_)
          refine lv_goto (tgt := 49) hx hb d_MO_deactivate_88 (by decide) ?_
          have hl := lv_sub hl (l' := [(0, .ref (ad 0)), (1, .int v1), (5, .int v5), (6, .int (v6 + (1 : Int32)))]) [2, 3, 1, 0] rfl
          exact ih _ _ _ _ _ _ _ hw hP hS hl
        · have hw := hw.1 c10
          refine lv_iload hx hb d_MO_deactivate_69 (lv_at hl 2 rfl) ?_
          refine lv_aload_n hx hb d_MO_deactivate_71 rfl (lv_at hl 0 rfl) ?_
          refine lv_iload hx hb d_MO_deactivate_72 (lv_at hl 3 rfl) ?_
          refine va_calli (va_runV (As := [.int v6]) (rest := [.int v5]) ⟨hx, hb, hml, hown, hts⟩ (mt_MO_give l hl9 dC dI cA ad hI _ hw) (cwV 1 hts (gV gw_436 gw_437 gw_438 gw_306 gw_435) rfl rfl rfl (by decide +kernel) ⟨Nat.le_of_ble_eq_true rfl, Nat.le_of_ble_eq_true rfl⟩) ⟨zwM_blind, va_recv hK hP (ci := 9) (q0 := 0) rfl atM_MO, zwM_pre hP hS hG9⟩ rfl rfl hl.1 rfl (lv_room (Nat.le_of_ble_eq_true rfl)) d_MO_deactivate_74 ⟨Nat.le_of_ble_eq_true rfl, Nat.le_of_ble_eq_true rfl⟩) hS (fun q _ h => CA_le hS.1 q h) (fun q h => CA_le hS.1 q h) (fun r13 u9 t H locs ht hvm hw hP hz1 hk1 hS => ?_)
          obtain ⟨X11, Y12⟩ := u9
          have hP : va_P (dC, dI) vwCl (wdM cA ad X11 Y12) H := by rw [← ht]; exact hP
          try dsimp only at hw
          refine lv_iadd hx hb d_MO_deactivate_77 ?_
          refine lv_goto (tgt := 83) hx hb d_MO_deactivate_78 (by decide) ?_
          refine lv_istore (lv' := [(5, .int (v5 + r13)), (0, .ref (ad 0)), (1, .int v1), (6, .int v6)]) hx hb d_MO_deactivate_83 hl (by decide) rfl (fun ls hl => ?_)
          refine lv_iinc (k := 3) (v := v6 + (1 : Int32)) (lv' := [(6, .int (v6 + (1 : Int32))), (5, .int (v5 + r13)), (0, .ref (ad 0)), (1, .int v1)]) hx hb d_MO_deactivate_85 hl rfl rfl (by decide) rfl (fun ls hl => ?_)
          refine lv_goto (tgt := 49) hx hb d_MO_deactivate_88 (by decide) ?_
          have hl := lv_sub hl (l' := [(0, .ref (ad 0)), (1, .int v1), (5, .int (v5 + r13)), (6, .int (v6 + (1 : Int32)))]) [2, 3, 1, 0] rfl
          exact ih _ _ _ _ _ _ _ hw hP hS hl
  unfold wp_MO_deactivate at hw
  refine lv_aload_n hx hb d_MO_deactivate_0 rfl (lv_at hl 0 rfl) ?_
  refine lv_aload_n hx hb d_MO_deactivate_1 rfl (lv_at hl 0 rfl) ?_
  refine lv_iload_n hx hb d_MO_deactivate_2 rfl (lv_at hl 1 rfl) ?_
  refine lv_iload_n hx hb d_MO_deactivate_3 rfl (lv_at hl 2 rfl) ?_
  refine lv_aload_n hx hb d_MO_deactivate_4 rfl (lv_at hl 0 rfl) ?_
  refine lv_bipush (v := (6 : Int32)) hx hb d_MO_deactivate_5 (by decide) ?_
  refine lv_iload_n hx hb d_MO_deactivate_7 rfl (lv_at hl 1 rfl) ?_
  refine lv_iload_n hx hb d_MO_deactivate_8 rfl (lv_at hl 2 rfl) ?_
  refine lv_iload_n hx hb d_MO_deactivate_9 rfl (lv_at hl 3 rfl) ?_
  refine lv_iconst (v := (0 : Int32)) hx hb d_MO_deactivate_10 (by decide) ?_
  refine va_calli (va_runV (As := [.int (6 : Int32), .int a1, .int a2, .int a3, .int (0 : Int32)]) (rest := [.int a2, .int a1, .ref (ad 0), .ref (ad 0)]) ⟨hx, hb, hml, hown, hts⟩ (mt_MO_five l hl9 dC dI cA ad hI _ hw) (cwV 5 hts (gV gw_328 gw_329 gw_330 gw_306 gw_327) rfl rfl rfl (by decide +kernel) ⟨Nat.le_of_ble_eq_true rfl, Nat.le_of_ble_eq_true rfl⟩) ⟨zwM_blind, va_recv hK hP (ci := 9) (q0 := 0) rfl atM_MO, zwM_pre hP hS hG9⟩ rfl rfl hl.1 rfl (lv_room (Nat.le_of_ble_eq_true rfl)) d_MO_deactivate_11 ⟨Nat.le_of_ble_eq_true rfl, Nat.le_of_ble_eq_true rfl⟩) hS (fun q _ h => CA_le hS.1 q h) (fun q h => CA_le hS.1 q h) (fun r16 u9 t H locs ht hvm hw hP hz1 hk1 hS => ?_)
  obtain ⟨X14, Y15⟩ := u9
  have hP : va_P (dC, dI) vwCl (wdM cA ad X14 Y15) H := by rw [← ht]; exact hP
  try dsimp only at hw
  refine lv_iload hx hb d_MO_deactivate_14 (lv_at hl 4 rfl) ?_
  refine va_calli (va_runV (As := [.int a1, .int a2, .int r16, .int a4]) (rest := [.ref (ad 0)]) ⟨hx, hb, hml, hown, hts⟩ (mt_MO_signed l hl9 dC dI cA ad hI _ hw) (cwV 4 hts (gV gw_382 gw_383 gw_384 gw_306 gw_381) rfl rfl rfl (by decide +kernel) ⟨Nat.le_of_ble_eq_true rfl, Nat.le_of_ble_eq_true rfl⟩) ⟨zwM_blind, va_recv hK hP (ci := 9) (q0 := 0) rfl atM_MO, zwM_pre hP hS hG9⟩ rfl rfl hl.1 rfl (lv_room (Nat.le_of_ble_eq_true rfl)) d_MO_deactivate_16 ⟨Nat.le_of_ble_eq_true rfl, Nat.le_of_ble_eq_true rfl⟩) hS (fun q _ h => CA_le hS.1 q h) (fun q h => CA_le hS.1 q h) (fun r19 u9 t H locs ht hvm hw hP hz1 hk1 hS => ?_)
  obtain ⟨X17, Y18⟩ := u9
  have hP : va_P (dC, dI) vwCl (wdM cA ad X17 Y18) H := by rw [← ht]; exact hP
  try dsimp only at hw
  refine va_put (D := (dC, dI)) (ci := 9) (v := .int r19) (ty := .int) (C := R_MO) (T := T_MO) (N := 36) hx hb hts in_MO ty_MO ty_MO_ok nm_MO hown hK hP (hD0 _ _) hS (0) atM_MO rfl 0 (by decide) (hts _ gw_297) (fun _ h9 => h9) rfl (by decide +kernel) rfl rfl (Nat.le_of_ble_eq_true rfl) d_MO_deactivate_19 (fun H locs hP _ hS => ?_)
  have hP : va_P (dC, dI) vwCl (wdM cA ad (up X17 90 0 r19) Y18) H := by rw [← stM_MO_0]; exact hP
  refine lv_aload_n hx hb d_MO_deactivate_22 rfl (lv_at hl 0 rfl) ?_
  refine va_get (D := (dC, dI)) (ci := 9) (v := .int r19) (C := R_MO) (T := T_MO) (N := 36) hx hb hts in_MO hown hK hP (0) atM_MO rfl 0 (by decide) (hts _ gw_297) (fun _ h9 => h9) rfl d_MO_deactivate_23 ?_
  refine lv_if_eq (tgt := 31) hx hb d_MO_deactivate_26 (by decide) (fun c20 => ?_) (fun c20 => ?_)
  · have hw := hw.1 c20
    refine lv_iconst (v := (0 : Int32)) hx hb d_MO_deactivate_31 (by decide) ?_
    refine lv_istore (lv' := [(5, .int (0 : Int32)), (0, .ref (ad 0)), (1, .int a1), (2, .int a2), (3, .int a3), (4, .int a4)]) hx hb d_MO_deactivate_32 hl (by decide) rfl (fun ls hl => ?_)
    refine lv_iload_n hx hb d_MO_deactivate_34 rfl (lv_at hl 4 rfl) ?_
    refine lv_iconst (v := (-1 : Int32)) hx hb d_MO_deactivate_35 (by decide) ?_
    refine lv_icmp_ne (tgt := 94) hx hb d_MO_deactivate_36 (by decide) (fun c21 => ?_) (fun c21 => ?_)
    · have hw := hw.2 c21
      refine lv_aload_n hx hb d_MO_deactivate_94 rfl (lv_at hl 1 rfl) ?_
      refine lv_aload_n hx hb d_MO_deactivate_95 rfl (lv_at hl 1 rfl) ?_
      refine lv_iload_n hx hb d_MO_deactivate_96 rfl (lv_at hl 4 rfl) ?_
      refine va_calli (va_runV (As := [.int a3]) (rest := [.ref (ad 0)]) ⟨hx, hb, hml, hown, hts⟩ (mt_MO_isAuth l hl9 dC dI cA ad hI _ hw) (cwV 1 hts (gV gw_390 gw_391 gw_392 gw_306 gw_389) rfl rfl rfl (by decide +kernel) ⟨Nat.le_of_ble_eq_true rfl, Nat.le_of_ble_eq_true rfl⟩) ⟨zwM_blind, va_recv hK hP (ci := 9) (q0 := 0) rfl atM_MO, zwM_pre hP hS hG9⟩ rfl rfl hl.1 rfl (lv_room (Nat.le_of_ble_eq_true rfl)) d_MO_deactivate_97 ⟨Nat.le_of_ble_eq_true rfl, Nat.le_of_ble_eq_true rfl⟩) hS (fun q _ h => CA_le hS.1 q h) (fun q h => CA_le hS.1 q h) (fun r25 u9 t H locs ht hvm hw hP hz1 hk1 hS => ?_)
      obtain ⟨X23, Y24⟩ := u9
      have hP : va_P (dC, dI) vwCl (wdM cA ad X23 Y24) H := by rw [← ht]; exact hP
      try dsimp only at hw
      refine lv_if_ne (tgt := 107) hx hb d_MO_deactivate_100 (by decide) (fun c26 => ?_) (fun c26 => ?_)
      · have hw := hw.2 c26
        refine lv_aload_n hx hb d_MO_deactivate_107 rfl (lv_at hl 1 rfl) ?_
        refine va_get (D := (dC, dI)) (ci := 9) (v := .ref (ad 10)) (C := R_MO) (T := T_MO) (N := 36) hx hb hts in_MO hown hK hP (0) atM_MO rfl 15 (by decide) (hts _ gw_351) (fun _ h9 => h9) rfl d_MO_deactivate_108 ?_
        refine lv_iload_n hx hb d_MO_deactivate_111 rfl (lv_at hl 4 rfl) ?_
        obtain ⟨h27, hw⟩ := hw
        refine va_iald hx hb hK hP (10) 9 atM_authAccount rfl h27 d_MO_deactivate_112 ?_
        refine lv_iload_n hx hb d_MO_deactivate_113 rfl (lv_at hl 2 rfl) ?_
        refine lv_icmp_eq (tgt := 121) hx hb d_MO_deactivate_114 (by decide) (fun c28 => ?_) (fun c28 => ?_)
        · have hw := hw.1 c28
          refine lv_aload_n hx hb d_MO_deactivate_121 rfl (lv_at hl 1 rfl) ?_
          refine va_get (D := (dC, dI)) (ci := 9) (v := .ref (ad 13)) (C := R_MO) (T := T_MO) (N := 36) hx hb hts in_MO hown hK hP (0) atM_MO rfl 18 (by decide) (hts _ gw_347) (fun _ h9 => h9) rfl d_MO_deactivate_122 ?_
          refine lv_iload_n hx hb d_MO_deactivate_125 rfl (lv_at hl 4 rfl) ?_
          refine va_iald hx hb hK hP (13) 12 atM_authState rfl h27 d_MO_deactivate_126 ?_
          refine lv_iconst (v := (1 : Int32)) hx hb d_MO_deactivate_127 (by decide) ?_
          refine lv_icmp_le (tgt := 135) hx hb d_MO_deactivate_128 (by decide) (fun c29 => ?_) (fun c29 => ?_)
          · have hw := hw.1 c29
            refine lv_iconst (v := (0 : Int32)) hx hb d_MO_deactivate_135 (by decide) ?_
            have hl := lv_sub hl (l' := [(0, .ref (ad 0)), (3, .int a3)]) [1, 4] rfl
            exact L136 _ _ _ _ _ _ _ hw hP hS hl
          · have hw := hw.2 c29
            refine lv_iconst (v := (4 : Int32)) hx hb d_MO_deactivate_131 (by decide) ?_
            refine lv_goto (tgt := 136) hx hb d_MO_deactivate_132 (by decide) ?_
            have hl := lv_sub hl (l' := [(0, .ref (ad 0)), (3, .int a3)]) [1, 4] rfl
            exact L136 _ _ _ _ _ _ _ hw hP hS hl
        · have hw := hw.2 c28
          refine lv_iconst (v := (2 : Int32)) hx hb d_MO_deactivate_117 (by decide) ?_
          refine lv_goto (tgt := 136) hx hb d_MO_deactivate_118 (by decide) ?_
          have hl := lv_sub hl (l' := [(0, .ref (ad 0)), (3, .int a3)]) [1, 4] rfl
          exact L136 _ _ _ _ _ _ _ hw hP hS hl
      · have hw := hw.1 c26
        refine lv_iconst (v := (1 : Int32)) hx hb d_MO_deactivate_103 (by decide) ?_
        refine lv_goto (tgt := 136) hx hb d_MO_deactivate_104 (by decide) ?_
        have hl := lv_sub hl (l' := [(0, .ref (ad 0)), (3, .int a3)]) [1, 4] rfl
        exact L136 _ _ _ _ _ _ _ hw hP hS hl
    · have hw := hw.1 c21
      refine lv_aload_n hx hb d_MO_deactivate_39 rfl (lv_at hl 1 rfl) ?_
      refine va_get (D := (dC, dI)) (ci := 9) (v := .ref (ad 2)) (C := R_MO) (T := T_MO) (N := 36) hx hb hts in_MO hown hK hP (0) atM_MO rfl 5 (by decide) (hts _ gw_332) (fun _ h9 => h9) rfl d_MO_deactivate_40 ?_
      refine lv_iload_n hx hb d_MO_deactivate_43 rfl (lv_at hl 2 rfl) ?_
      refine lv_iconst (v := (1 : Int32)) hx hb d_MO_deactivate_44 (by decide) ?_
      obtain ⟨h22, hw⟩ := hw
      refine va_zast hx hb hK hP (hD0 _ _) hS (2) 1 atM_closed rfl h22 d_MO_deactivate_45 (fun H locs hP _ hS => ?_)
      have hP : va_P (dC, dI) vwCl (wdM cA ad (up (up X17 90 0 r19) 10 a1.toNatClampNeg (vp_nar .boolean (1 : Int32))) Y18) H := by rw [← stM_closed]; exact hP
      refine lv_iconst (v := (0 : Int32)) hx hb d_MO_deactivate_46 (by decide) ?_
      refine lv_istore (lv' := [(6, .int (0 : Int32)), (5, .int (0 : Int32)), (0, .ref (ad 0)), (1, .int a1), (2, .int a2), (3, .int a3), (4, .int a4)]) hx hb d_MO_deactivate_47 hl (by decide) rfl (fun ls hl => ?_)
      have hl := lv_sub hl (l' := [(0, .ref (ad 0)), (1, .int a1), (5, .int (0 : Int32)), (6, .int (0 : Int32))]) [2, 3, 1, 0] rfl
      obtain ⟨n9, hw⟩ := hw
      exact L49 _ n9 _ _ _ _ _ _ _ hw hP hS hl
  · have hw := hw.2 c20
    refine lv_iconst (v := (0 : Int32)) hx hb d_MO_deactivate_29 (by decide) ?_
    exact W.iret (v := (0 : Int32)) hx hb hr (fun t ht _ => ⟨⟨(0 : Int32), (up X17 90 0 r19, Y18), rfl, hw, by show va_P _ _ _ t.heap; rw [ht]; exact hP⟩, hS.F ht⟩) hS.2.2 d_MO_deactivate_30
