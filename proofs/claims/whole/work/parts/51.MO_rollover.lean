def ws_MO_rollover : List Cond := Cond.code y_MO_rollover c_MO_rollover 8 (Option.some Jvm.ClassFile.FieldType.int) :: GW
theorem d_MO_rollover_0 : decode c_MO_rollover 0 = .ok (.aload_n 0, 1) := by decide +kernel
theorem d_MO_rollover_1 : decode c_MO_rollover 1 = .ok (.bipush 7, 2) := by decide +kernel
theorem d_MO_rollover_3 : decode c_MO_rollover 3 = .ok (.iload_n 1, 1) := by decide +kernel
theorem d_MO_rollover_4 : decode c_MO_rollover 4 = .ok (.iload_n 2, 1) := by decide +kernel
theorem d_MO_rollover_5 : decode c_MO_rollover 5 = .ok (.iload_n 3, 1) := by decide +kernel
theorem d_MO_rollover_6 : decode c_MO_rollover 6 = .ok (.iconst 0, 1) := by decide +kernel
theorem d_MO_rollover_7 : decode c_MO_rollover 7 = .ok (.invokevirtual 116, 3) := by decide +kernel
theorem d_MO_rollover_10 : decode c_MO_rollover 10 = .ok (.istore 6, 2) := by decide +kernel
theorem d_MO_rollover_12 : decode c_MO_rollover 12 = .ok (.aload_n 0, 1) := by decide +kernel
theorem d_MO_rollover_13 : decode c_MO_rollover 13 = .ok (.aload_n 0, 1) := by decide +kernel
theorem d_MO_rollover_14 : decode c_MO_rollover 14 = .ok (.iload_n 1, 1) := by decide +kernel
theorem d_MO_rollover_15 : decode c_MO_rollover 15 = .ok (.iload_n 2, 1) := by decide +kernel
theorem d_MO_rollover_16 : decode c_MO_rollover 16 = .ok (.iload 6, 2) := by decide +kernel
theorem d_MO_rollover_18 : decode c_MO_rollover 18 = .ok (.iload 4, 2) := by decide +kernel
theorem d_MO_rollover_20 : decode c_MO_rollover 20 = .ok (.invokevirtual 151, 3) := by decide +kernel
theorem d_MO_rollover_23 : decode c_MO_rollover 23 = .ok (.putfield 81, 3) := by decide +kernel
theorem d_MO_rollover_26 : decode c_MO_rollover 26 = .ok (.aload_n 0, 1) := by decide +kernel
theorem d_MO_rollover_27 : decode c_MO_rollover 27 = .ok (.getfield 81, 3) := by decide +kernel
theorem d_MO_rollover_30 : decode c_MO_rollover 30 = .ok (.ifCond .eq 5, 3) := by decide +kernel
theorem d_MO_rollover_33 : decode c_MO_rollover 33 = .ok (.iconst 0, 1) := by decide +kernel
theorem d_MO_rollover_34 : decode c_MO_rollover 34 = .ok (.ireturn, 1) := by decide +kernel
theorem d_MO_rollover_35 : decode c_MO_rollover 35 = .ok (.aload_n 0, 1) := by decide +kernel
theorem d_MO_rollover_36 : decode c_MO_rollover 36 = .ok (.iload_n 3, 1) := by decide +kernel
theorem d_MO_rollover_37 : decode c_MO_rollover 37 = .ok (.invokestatic 112, 3) := by decide +kernel
theorem d_MO_rollover_40 : decode c_MO_rollover 40 = .ok (.ifCond .ne 7, 3) := by decide +kernel
theorem d_MO_rollover_43 : decode c_MO_rollover 43 = .ok (.iconst 3, 1) := by decide +kernel
theorem d_MO_rollover_44 : decode c_MO_rollover 44 = .ok (.goto 31, 3) := by decide +kernel
theorem d_MO_rollover_47 : decode c_MO_rollover 47 = .ok (.iload 5, 2) := by decide +kernel
theorem d_MO_rollover_49 : decode c_MO_rollover 49 = .ok (.iload 6, 2) := by decide +kernel
theorem d_MO_rollover_51 : decode c_MO_rollover 51 = .ok (.iload_n 3, 1) := by decide +kernel
theorem d_MO_rollover_52 : decode c_MO_rollover 52 = .ok (.invokestatic 123, 3) := by decide +kernel
theorem d_MO_rollover_55 : decode c_MO_rollover 55 = .ok (.ifCond .ne 7, 3) := by decide +kernel
theorem d_MO_rollover_58 : decode c_MO_rollover 58 = .ok (.iconst 2, 1) := by decide +kernel
theorem d_MO_rollover_59 : decode c_MO_rollover 59 = .ok (.goto 16, 3) := by decide +kernel
theorem d_MO_rollover_62 : decode c_MO_rollover 62 = .ok (.aload_n 0, 1) := by decide +kernel
theorem d_MO_rollover_63 : decode c_MO_rollover 63 = .ok (.iload_n 3, 1) := by decide +kernel
theorem d_MO_rollover_64 : decode c_MO_rollover 64 = .ok (.invokevirtual 131, 3) := by decide +kernel
theorem d_MO_rollover_67 : decode c_MO_rollover 67 = .ok (.ifCond .lt 7, 3) := by decide +kernel
theorem d_MO_rollover_70 : decode c_MO_rollover 70 = .ok (.iconst 4, 1) := by decide +kernel
theorem d_MO_rollover_71 : decode c_MO_rollover 71 = .ok (.goto 4, 3) := by decide +kernel
theorem d_MO_rollover_74 : decode c_MO_rollover 74 = .ok (.iconst 0, 1) := by decide +kernel
theorem d_MO_rollover_75 : decode c_MO_rollover 75 = .ok (.putfield 81, 3) := by decide +kernel
theorem d_MO_rollover_78 : decode c_MO_rollover 78 = .ok (.aload_n 0, 1) := by decide +kernel
theorem d_MO_rollover_79 : decode c_MO_rollover 79 = .ok (.getfield 81, 3) := by decide +kernel
theorem d_MO_rollover_82 : decode c_MO_rollover 82 = .ok (.ifCond .eq 5, 3) := by decide +kernel
theorem d_MO_rollover_85 : decode c_MO_rollover 85 = .ok (.iconst 0, 1) := by decide +kernel
theorem d_MO_rollover_86 : decode c_MO_rollover 86 = .ok (.ireturn, 1) := by decide +kernel
theorem d_MO_rollover_87 : decode c_MO_rollover 87 = .ok (.aload_n 0, 1) := by decide +kernel
theorem d_MO_rollover_88 : decode c_MO_rollover 88 = .ok (.getfield 7, 3) := by decide +kernel
theorem d_MO_rollover_91 : decode c_MO_rollover 91 = .ok (.iload_n 1, 1) := by decide +kernel
theorem d_MO_rollover_92 : decode c_MO_rollover 92 = .ok (.iaload, 1) := by decide +kernel
theorem d_MO_rollover_93 : decode c_MO_rollover 93 = .ok (.istore 7, 2) := by decide +kernel
theorem d_MO_rollover_95 : decode c_MO_rollover 95 = .ok (.aload_n 0, 1) := by decide +kernel
theorem d_MO_rollover_96 : decode c_MO_rollover 96 = .ok (.getfield 7, 3) := by decide +kernel
theorem d_MO_rollover_99 : decode c_MO_rollover 99 = .ok (.iload_n 1, 1) := by decide +kernel
theorem d_MO_rollover_100 : decode c_MO_rollover 100 = .ok (.iload_n 3, 1) := by decide +kernel
theorem d_MO_rollover_101 : decode c_MO_rollover 101 = .ok (.iastore, 1) := by decide +kernel
theorem d_MO_rollover_102 : decode c_MO_rollover 102 = .ok (.iload 7, 2) := by decide +kernel
theorem d_MO_rollover_104 : decode c_MO_rollover 104 = .ok (.ireturn, 1) := by decide +kernel
def wq_MO_rollover_75 (post : Int32 → ST → Int64 → Prop) (s0 : Int32) (v1 : Int32) (v3 : Int32) (X : ST) (Y : Int64) : Prop := ((s0 = 0 → (vp_in v1 6 ∧ post (X 11 v1.toNatClampNeg) (up (up X 90 0 s0) 11 v1.toNatClampNeg v3) Y)) ∧ (¬ s0 = 0 → post (0 : Int32) (up X 90 0 s0) Y))
def wp_MO_rollover (post : Int32 → ST → Int64 → Prop) (X : ST) (Y : Int64) (a1 : Int32) (a2 : Int32) (a3 : Int32) (a4 : Int32) (a5 : Int32) : Prop := wp_MO_five (fun (r5 : Int32) (X3 : ST) (Y4 : Int64) => wp_MO_signed (fun (r8 : Int32) (X6 : ST) (Y7 : Int64) => ((r8 = 0 → wp_MO_isKey (fun (r12 : Int32) (X10 : ST) (Y11 : Int64) => ((r12 = 0 → wq_MO_rollover_75 post (3 : Int32) a1 a3 X10 Y11) ∧ (¬ r12 = 0 → wp_MO_isRight (fun (r16 : Int32) (X14 : ST) (Y15 : Int64) => ((r16 = 0 → wq_MO_rollover_75 post (2 : Int32) a1 a3 X14 Y15) ∧ (¬ r16 = 0 → wp_MO_holder (fun (r20 : Int32) (X18 : ST) (Y19 : Int64) => ((r20 < 0 → wq_MO_rollover_75 post (0 : Int32) a1 a3 X18 Y19) ∧ (¬ r20 < 0 → wq_MO_rollover_75 post (4 : Int32) a1 a3 X18 Y19))) X14 Y15 a3))) X10 Y11 a5 r5 a3))) (up X6 90 0 r8) Y7 a3) ∧ (¬ r8 = 0 → post (0 : Int32) (up X6 90 0 r8) Y7))) X3 Y4 a1 a2 r5 a4) X Y (7 : Int32) a1 a2 a3 (0 : Int32)
set_option maxHeartbeats 4000000 in
set_option maxRecDepth 100000 in
theorem mt_MO_rollover (l : Launch) (hl9 : l.stackTraces = false) (dC : Nat → ClassId) (dI : Nat → Nat → Nat) (cA : Nat → ClassId) (ad : Nat → Nat) (hI : INJ ad 23) (sz : Nat) {X : ST} {Y : Int64} {a1 : Int32} {a2 : Int32} {a3 : Int32} {a4 : Int32} {a5 : Int32} {post : Int32 → ST → Int64 → Prop} (hw : wp_MO_rollover post X Y a1 a2 a3 a4 a5) : Met l y_MO_rollover ws_MO_rollover ({ frames := 3, cells := 0, slots := 0, locals := 73 } : Room) (va_Pc [.ref (ad 0), .int a1, .int a2, .int a3, .int a4, .int a5] (fun U => PM dC dI cA ad sz X Y U)) (va_Qi (fun r (u : ST × Int64) => post r u.1 u.2) (fun (u : ST × Int64) t => va_P (dC, dI) vwCl (wdM cA ad u.1 u.2) t.heap) (CA ad 23 sz)) 0 0 (CA ad 23 sz) := by
  refine Met.ofW (cc := c_MO_rollover) (maxL := 8) (ret := (some .int)) (by decide) rfl ?_
  intro p e s m args below meth c s₁ B hml hv
  obtain ⟨rfl, hsz, hP, hG⟩ := hv
  have hx := B.exec
  have hb := B.bytes
  have hr := B.returns
  have hts : ∀ w ∈ GW, w.before (([.ref (ad 0), .int a1, .int a2, .int a3, .int a4, .int a5] : List Value).toArray) s = true := fun w h => atoms_spec (ws := ws_MO_rollover) B.pre w (List.mem_cons_of_mem _ h)
  have hown : s.vm.findClass R_MO = some m.cls := findClass_of_methodNamed B.named
  have hlocks := B.notSynchronized
  subst hsz
  have hK := hG.1
  have hG9 := hG
  have hNW := hG.2
  have hD0 : ∀ (X : ST) (Y : Int64), va_D (CA ad 23 s.heap.size) (wdM cA ad X Y) := fun _ _ => zwM_D hI
  have hS : va_S (CA ad 23 s.heap.size) s.heap s.heap [] := va_S.rf
  have hl := lv_entry ([.ref (ad 0), .int a1, .int a2, .int a3, .int a4, .int a5]) (n := 8) (Nat.le_of_ble_eq_true rfl)
  rw [lg_entry_eq]
  generalize (lg_sl ([.ref (ad 0), .int a1, .int a2, .int a3, .int a4, .int a5]) ++ List.replicate (8 - (lg_sl ([.ref (ad 0), .int a1, .int a2, .int a3, .int a4, .int a5])).length) Slot.unset).toArray = ls at hl ⊢
  have hl : lv_has ls 8 [(0, .ref (ad 0)), (1, .int a1), (2, .int a2), (3, .int a3), (4, .int a4), (5, .int a5)] := hl
  have L75 : ∀ (s0 : Int32) (v1 : Int32) (v3 : Int32) (X : ST) (Y : Int64) (H : Heap) (locs : List Loc) (ls : Array Slot), wq_MO_rollover_75 post s0 v1 v3 X Y → va_P (dC, dI) vwCl (wdM cA ad X Y) H → va_S (CA ad 23 s.heap.size) s.heap H locs → lv_has ls 8 [(0, .ref (ad 0)), (1, .int v1), (3, .int v3)] → W p l e (headSpec ws_MO_rollover ({ frames := 3, cells := 0, slots := 0, locals := 73 } : Room)).room s m (([.ref (ad 0), .int a1, .int a2, .int a3, .int a4, .int a5] : List Value).toArray) below meth c H locs 0 0 (MQ below (va_Qi (fun r (u : ST × Int64) => post r u.1 u.2) (fun (u : ST × Int64) t => va_P (dC, dI) vwCl (wdM cA ad u.1 u.2) t.heap) (CA ad 23 s.heap.size)) (([.ref (ad 0), .int a1, .int a2, .int a3, .int a4, .int a5] : List Value).toArray) s 0 0 (CA ad 23 s.heap.size)) (F0 m 75 ls [.int s0, .ref (ad 0)]) := by
    intro s0 v1 v3 X Y H locs ls hw hP hS hl
    unfold wq_MO_rollover_75 at hw
    refine va_put (D := (dC, dI)) (ci := 9) (v := .int s0) (ty := .int) (C := R_MO) (T := T_MO) (N := 36) hx hb hts in_MO ty_MO ty_MO_ok nm_MO hown hK hP (hD0 _ _) hS (0) atM_MO rfl 0 (by decide) (hts _ gw_297) (fun _ h9 => h9) rfl (by decide +kernel) rfl rfl (Nat.le_of_ble_eq_true rfl) d_MO_rollover_75 (fun H locs hP _ hS => ?_)
    have hP : va_P (dC, dI) vwCl (wdM cA ad (up X 90 0 s0) Y) H := by rw [← stM_MO_0]; exact hP
    refine lv_aload_n hx hb d_MO_rollover_78 rfl (lv_at hl 0 rfl) ?_
    refine va_get (D := (dC, dI)) (ci := 9) (v := .int s0) (C := R_MO) (T := T_MO) (N := 36) hx hb hts in_MO hown hK hP (0) atM_MO rfl 0 (by decide) (hts _ gw_297) (fun _ h9 => h9) rfl d_MO_rollover_79 ?_
    refine lv_if_eq (tgt := 87) hx hb d_MO_rollover_82 (by decide) (fun c1 => ?_) (fun c1 => ?_)
    · have hw := hw.1 c1
      refine lv_aload_n hx hb d_MO_rollover_87 rfl (lv_at hl 0 rfl) ?_
      refine va_get (D := (dC, dI)) (ci := 9) (v := .ref (ad 1)) (C := R_MO) (T := T_MO) (N := 36) hx hb hts in_MO hown hK hP (0) atM_MO rfl 4 (by decide) (hts _ gw_333) (fun _ h9 => h9) rfl d_MO_rollover_88 ?_
      refine lv_iload_n hx hb d_MO_rollover_91 rfl (lv_at hl 1 rfl) ?_
      obtain ⟨h2, hw⟩ := hw
      refine va_iald hx hb hK hP (1) 0 atM_keys rfl h2 d_MO_rollover_92 ?_
      refine W.eq (g2 := F0 m 93 ls [.int (X 11 v1.toNatClampNeg)]) rfl ?_
      refine lv_istore (lv' := [(7, .int (X 11 v1.toNatClampNeg)), (0, .ref (ad 0)), (1, .int v1), (3, .int v3)]) hx hb d_MO_rollover_93 hl (by decide) rfl (fun ls hl => ?_)
      refine lv_aload_n hx hb d_MO_rollover_95 rfl (lv_at hl 1 rfl) ?_
      refine va_get (D := (dC, dI)) (ci := 9) (v := .ref (ad 1)) (C := R_MO) (T := T_MO) (N := 36) hx hb hts in_MO hown hK hP (0) atM_MO rfl 4 (by decide) (hts _ gw_333) (fun _ h9 => h9) rfl d_MO_rollover_96 ?_
      refine lv_iload_n hx hb d_MO_rollover_99 rfl (lv_at hl 2 rfl) ?_
      refine lv_iload_n hx hb d_MO_rollover_100 rfl (lv_at hl 3 rfl) ?_
      refine va_iast hx hb hK hP (hD0 _ _) hS (1) 0 atM_keys rfl h2 d_MO_rollover_101 (fun H locs hP _ hS => ?_)
      have hP : va_P (dC, dI) vwCl (wdM cA ad (up (up X 90 0 s0) 11 v1.toNatClampNeg v3) Y) H := by rw [← stM_keys]; exact hP
      refine lv_iload hx hb d_MO_rollover_102 (lv_at hl 0 rfl) ?_
      exact W.iret (v := X 11 v1.toNatClampNeg) hx hb hr (fun t ht _ => ⟨⟨X 11 v1.toNatClampNeg, (up (up X 90 0 s0) 11 v1.toNatClampNeg v3, Y), rfl, hw, by show va_P _ _ _ t.heap; rw [ht]; exact hP⟩, hS.F ht⟩) hS.2.2 d_MO_rollover_104
    · have hw := hw.2 c1
      refine lv_iconst (v := (0 : Int32)) hx hb d_MO_rollover_85 (by decide) ?_
      exact W.iret (v := (0 : Int32)) hx hb hr (fun t ht _ => ⟨⟨(0 : Int32), (up X 90 0 s0, Y), rfl, hw, by show va_P _ _ _ t.heap; rw [ht]; exact hP⟩, hS.F ht⟩) hS.2.2 d_MO_rollover_86
  unfold wp_MO_rollover at hw
  refine lv_aload_n hx hb d_MO_rollover_0 rfl (lv_at hl 0 rfl) ?_
  refine lv_bipush (v := (7 : Int32)) hx hb d_MO_rollover_1 (by decide) ?_
  refine lv_iload_n hx hb d_MO_rollover_3 rfl (lv_at hl 1 rfl) ?_
  refine lv_iload_n hx hb d_MO_rollover_4 rfl (lv_at hl 2 rfl) ?_
  refine lv_iload_n hx hb d_MO_rollover_5 rfl (lv_at hl 3 rfl) ?_
  refine lv_iconst (v := (0 : Int32)) hx hb d_MO_rollover_6 (by decide) ?_
  refine va_calli (va_runV (As := [.int (7 : Int32), .int a1, .int a2, .int a3, .int (0 : Int32)]) (rest := []) ⟨hx, hb, hml, hown, hts⟩ (mt_MO_five l hl9 dC dI cA ad hI _ hw) (cwV 5 hts (gV gw_328 gw_329 gw_330 gw_306 gw_327) rfl rfl rfl (by decide +kernel) ⟨Nat.le_of_ble_eq_true rfl, Nat.le_of_ble_eq_true rfl⟩) ⟨zwM_blind, va_recv hK hP (ci := 9) (q0 := 0) rfl atM_MO, zwM_pre hP hS hG9⟩ rfl rfl hl.1 rfl (lv_room (Nat.le_of_ble_eq_true rfl)) d_MO_rollover_7 ⟨Nat.le_of_ble_eq_true rfl, Nat.le_of_ble_eq_true rfl⟩) hS (fun q _ h => CA_le hS.1 q h) (fun q h => CA_le hS.1 q h) (fun r5 u9 t H locs ht hvm hw hP hz1 hk1 hS => ?_)
  obtain ⟨X3, Y4⟩ := u9
  have hP : va_P (dC, dI) vwCl (wdM cA ad X3 Y4) H := by rw [← ht]; exact hP
  try dsimp only at hw
  refine lv_istore (lv' := [(6, .int r5), (0, .ref (ad 0)), (1, .int a1), (2, .int a2), (3, .int a3), (4, .int a4), (5, .int a5)]) hx hb d_MO_rollover_10 hl (by decide) rfl (fun ls hl => ?_)
  refine lv_aload_n hx hb d_MO_rollover_12 rfl (lv_at hl 1 rfl) ?_
  refine lv_aload_n hx hb d_MO_rollover_13 rfl (lv_at hl 1 rfl) ?_
  refine lv_iload_n hx hb d_MO_rollover_14 rfl (lv_at hl 2 rfl) ?_
  refine lv_iload_n hx hb d_MO_rollover_15 rfl (lv_at hl 3 rfl) ?_
  refine lv_iload hx hb d_MO_rollover_16 (lv_at hl 0 rfl) ?_
  refine lv_iload hx hb d_MO_rollover_18 (lv_at hl 5 rfl) ?_
  refine va_calli (va_runV (As := [.int a1, .int a2, .int r5, .int a4]) (rest := [.ref (ad 0)]) ⟨hx, hb, hml, hown, hts⟩ (mt_MO_signed l hl9 dC dI cA ad hI _ hw) (cwV 4 hts (gV gw_382 gw_383 gw_384 gw_306 gw_381) rfl rfl rfl (by decide +kernel) ⟨Nat.le_of_ble_eq_true rfl, Nat.le_of_ble_eq_true rfl⟩) ⟨zwM_blind, va_recv hK hP (ci := 9) (q0 := 0) rfl atM_MO, zwM_pre hP hS hG9⟩ rfl rfl hl.1 rfl (lv_room (Nat.le_of_ble_eq_true rfl)) d_MO_rollover_20 ⟨Nat.le_of_ble_eq_true rfl, Nat.le_of_ble_eq_true rfl⟩) hS (fun q _ h => CA_le hS.1 q h) (fun q h => CA_le hS.1 q h) (fun r8 u9 t H locs ht hvm hw hP hz1 hk1 hS => ?_)
  obtain ⟨X6, Y7⟩ := u9
  have hP : va_P (dC, dI) vwCl (wdM cA ad X6 Y7) H := by rw [← ht]; exact hP
  try dsimp only at hw
  refine va_put (D := (dC, dI)) (ci := 9) (v := .int r8) (ty := .int) (C := R_MO) (T := T_MO) (N := 36) hx hb hts in_MO ty_MO ty_MO_ok nm_MO hown hK hP (hD0 _ _) hS (0) atM_MO rfl 0 (by decide) (hts _ gw_297) (fun _ h9 => h9) rfl (by decide +kernel) rfl rfl (Nat.le_of_ble_eq_true rfl) d_MO_rollover_23 (fun H locs hP _ hS => ?_)
  have hP : va_P (dC, dI) vwCl (wdM cA ad (up X6 90 0 r8) Y7) H := by rw [← stM_MO_0]; exact hP
  refine lv_aload_n hx hb d_MO_rollover_26 rfl (lv_at hl 1 rfl) ?_
  refine va_get (D := (dC, dI)) (ci := 9) (v := .int r8) (C := R_MO) (T := T_MO) (N := 36) hx hb hts in_MO hown hK hP (0) atM_MO rfl 0 (by decide) (hts _ gw_297) (fun _ h9 => h9) rfl d_MO_rollover_27 ?_
  refine lv_if_eq (tgt := 35) hx hb d_MO_rollover_30 (by decide) (fun c9 => ?_) (fun c9 => ?_)
  · have hw := hw.1 c9
    refine lv_aload_n hx hb d_MO_rollover_35 rfl (lv_at hl 1 rfl) ?_
    refine lv_iload_n hx hb d_MO_rollover_36 rfl (lv_at hl 4 rfl) ?_
    refine va_calli (va_runS (As := [.int a3]) (rest := [.ref (ad 0)]) ⟨hx, hb, hml, hown, hts⟩ (mt_MO_isKey l hl9 dC dI cA ad hI _ hw) (va_cwS 1 hts (gS gw_325 gw_326 gw_306 gw_324) rfl rfl rfl (by decide +kernel) ⟨Nat.le_of_ble_eq_true rfl, Nat.le_of_ble_eq_true rfl⟩) ⟨zwM_blind, zwM_pre hP hS hG9⟩ rfl rfl hl.1 rfl (lv_room (Nat.le_of_ble_eq_true rfl)) d_MO_rollover_37 ⟨Nat.le_of_ble_eq_true rfl, Nat.le_of_ble_eq_true rfl⟩) hS (fun q _ h => CA_le hS.1 q h) (fun q h => CA_le hS.1 q h) (fun r12 u9 t H locs ht hvm hw hP hz1 hk1 hS => ?_)
    obtain ⟨X10, Y11⟩ := u9
    have hP : va_P (dC, dI) vwCl (wdM cA ad X10 Y11) H := by rw [← ht]; exact hP
    try dsimp only at hw
    refine lv_if_ne (tgt := 47) hx hb d_MO_rollover_40 (by decide) (fun c13 => ?_) (fun c13 => ?_)
    · have hw := hw.2 c13
      refine lv_iload hx hb d_MO_rollover_47 (lv_at hl 6 rfl) ?_
      refine lv_iload hx hb d_MO_rollover_49 (lv_at hl 0 rfl) ?_
      refine lv_iload_n hx hb d_MO_rollover_51 rfl (lv_at hl 4 rfl) ?_
      refine va_calli (va_runS (As := [.int a5, .int r5, .int a3]) (rest := [.ref (ad 0)]) ⟨hx, hb, hml, hown, hts⟩ (mt_MO_isRight l hl9 dC dI cA ad hI _ hw) (va_cwS 3 hts (gS gw_335 gw_336 gw_306 gw_334) rfl rfl rfl (by decide +kernel) ⟨Nat.le_of_ble_eq_true rfl, Nat.le_of_ble_eq_true rfl⟩) ⟨zwM_blind, zwM_pre hP hS hG9⟩ rfl rfl hl.1 rfl (lv_room (Nat.le_of_ble_eq_true rfl)) d_MO_rollover_52 ⟨Nat.le_of_ble_eq_true rfl, Nat.le_of_ble_eq_true rfl⟩) hS (fun q _ h => CA_le hS.1 q h) (fun q h => CA_le hS.1 q h) (fun r16 u9 t H locs ht hvm hw hP hz1 hk1 hS => ?_)
      obtain ⟨X14, Y15⟩ := u9
      have hP : va_P (dC, dI) vwCl (wdM cA ad X14 Y15) H := by rw [← ht]; exact hP
      try dsimp only at hw
      refine lv_if_ne (tgt := 62) hx hb d_MO_rollover_55 (by decide) (fun c17 => ?_) (fun c17 => ?_)
      · have hw := hw.2 c17
        refine lv_aload_n hx hb d_MO_rollover_62 rfl (lv_at hl 1 rfl) ?_
        refine lv_iload_n hx hb d_MO_rollover_63 rfl (lv_at hl 4 rfl) ?_
        refine va_calli (va_runV (As := [.int a3]) (rest := [.ref (ad 0)]) ⟨hx, hb, hml, hown, hts⟩ (mt_MO_holder l hl9 dC dI cA ad hI _ hw) (cwV 1 hts (gV gw_342 gw_343 gw_344 gw_306 gw_341) rfl rfl rfl (by decide +kernel) ⟨Nat.le_of_ble_eq_true rfl, Nat.le_of_ble_eq_true rfl⟩) ⟨zwM_blind, va_recv hK hP (ci := 9) (q0 := 0) rfl atM_MO, zwM_pre hP hS hG9⟩ rfl rfl hl.1 rfl (lv_room (Nat.le_of_ble_eq_true rfl)) d_MO_rollover_64 ⟨Nat.le_of_ble_eq_true rfl, Nat.le_of_ble_eq_true rfl⟩) hS (fun q _ h => CA_le hS.1 q h) (fun q h => CA_le hS.1 q h) (fun r20 u9 t H locs ht hvm hw hP hz1 hk1 hS => ?_)
        obtain ⟨X18, Y19⟩ := u9
        have hP : va_P (dC, dI) vwCl (wdM cA ad X18 Y19) H := by rw [← ht]; exact hP
        try dsimp only at hw
        refine lv_if_lt (tgt := 74) hx hb d_MO_rollover_67 (by decide) (fun c21 => ?_) (fun c21 => ?_)
        · have hw := hw.1 c21
          refine lv_iconst (v := (0 : Int32)) hx hb d_MO_rollover_74 (by decide) ?_
          have hl := lv_sub hl (l' := [(0, .ref (ad 0)), (1, .int a1), (3, .int a3)]) [1, 2, 4] rfl
          exact L75 _ _ _ _ _ _ _ _ hw hP hS hl
        · have hw := hw.2 c21
          refine lv_iconst (v := (4 : Int32)) hx hb d_MO_rollover_70 (by decide) ?_
          refine lv_goto (tgt := 75) hx hb d_MO_rollover_71 (by decide) ?_
          have hl := lv_sub hl (l' := [(0, .ref (ad 0)), (1, .int a1), (3, .int a3)]) [1, 2, 4] rfl
          exact L75 _ _ _ _ _ _ _ _ hw hP hS hl
      · have hw := hw.1 c17
        refine lv_iconst (v := (2 : Int32)) hx hb d_MO_rollover_58 (by decide) ?_
        refine lv_goto (tgt := 75) hx hb d_MO_rollover_59 (by decide) ?_
        have hl := lv_sub hl (l' := [(0, .ref (ad 0)), (1, .int a1), (3, .int a3)]) [1, 2, 4] rfl
        exact L75 _ _ _ _ _ _ _ _ hw hP hS hl
    · have hw := hw.1 c13
      refine lv_iconst (v := (3 : Int32)) hx hb d_MO_rollover_43 (by decide) ?_
      refine lv_goto (tgt := 75) hx hb d_MO_rollover_44 (by decide) ?_
      have hl := lv_sub hl (l' := [(0, .ref (ad 0)), (1, .int a1), (3, .int a3)]) [1, 2, 4] rfl
      exact L75 _ _ _ _ _ _ _ _ hw hP hS hl
  · have hw := hw.2 c9
    refine lv_iconst (v := (0 : Int32)) hx hb d_MO_rollover_33 (by decide) ?_
    exact W.iret (v := (0 : Int32)) hx hb hr (fun t ht _ => ⟨⟨(0 : Int32), (up X6 90 0 r8, Y7), rfl, hw, by show va_P _ _ _ t.heap; rw [ht]; exact hP⟩, hS.F ht⟩) hS.2.2 d_MO_rollover_34
def ws_MO_feed : List Cond := Cond.code y_MO_feed c_MO_feed 5 (Option.some Jvm.ClassFile.FieldType.boolean) :: GW
theorem d_MO_feed_0 : decode c_MO_feed 0 = .ok (.aload_n 0, 1) := by decide +kernel
theorem d_MO_feed_1 : decode c_MO_feed 1 = .ok (.iconst 0, 1) := by decide +kernel
theorem d_MO_feed_2 : decode c_MO_feed 2 = .ok (.putfield 81, 3) := by decide +kernel
theorem d_MO_feed_5 : decode c_MO_feed 5 = .ok (.iload_n 3, 1) := by decide +kernel
theorem d_MO_feed_6 : decode c_MO_feed 6 = .ok (.iconst 1, 1) := by decide +kernel
theorem d_MO_feed_7 : decode c_MO_feed 7 = .ok (.if_icmp .lt 20, 3) := by decide +kernel
theorem d_MO_feed_10 : decode c_MO_feed 10 = .ok (.iload_n 3, 1) := by decide +kernel
theorem d_MO_feed_11 : decode c_MO_feed 11 = .ok (.bipush 8, 2) := by decide +kernel
theorem d_MO_feed_13 : decode c_MO_feed 13 = .ok (.if_icmp .gt 14, 3) := by decide +kernel
theorem d_MO_feed_16 : decode c_MO_feed 16 = .ok (.aload_n 0, 1) := by decide +kernel
theorem d_MO_feed_17 : decode c_MO_feed 17 = .ok (.getfield 182, 3) := by decide +kernel
theorem d_MO_feed_20 : decode c_MO_feed 20 = .ok (.iload_n 3, 1) := by decide +kernel
theorem d_MO_feed_21 : decode c_MO_feed 21 = .ok (.iadd, 1) := by decide +kernel
theorem d_MO_feed_22 : decode c_MO_feed 22 = .ok (.bipush 96, 2) := by decide +kernel
theorem d_MO_feed_24 : decode c_MO_feed 24 = .ok (.if_icmp .le 5, 3) := by decide +kernel
theorem d_MO_feed_27 : decode c_MO_feed 27 = .ok (.iconst 0, 1) := by decide +kernel
theorem d_MO_feed_28 : decode c_MO_feed 28 = .ok (.ireturn, 1) := by decide +kernel
theorem d_MO_feed_29 : decode c_MO_feed 29 = .ok (.iload_n 3, 1) := by decide +kernel
theorem d_MO_feed_30 : decode c_MO_feed 30 = .ok (.iconst 1, 1) := by decide +kernel
theorem d_MO_feed_31 : decode c_MO_feed 31 = .ok (.isub, 1) := by decide +kernel
theorem d_MO_feed_32 : decode c_MO_feed 32 = .ok (.istore 4, 2) := by decide +kernel
theorem d_MO_feed_34 : decode c_MO_feed 34 = .ok (.iload 4, 2) := by decide +kernel
theorem d_MO_feed_36 : decode c_MO_feed 36 = .ok (.ifCond .lt 40, 3) := by decide +kernel
theorem d_MO_feed_39 : decode c_MO_feed 39 = .ok (.aload_n 0, 1) := by decide +kernel
theorem d_MO_feed_40 : decode c_MO_feed 40 = .ok (.getfield 74, 3) := by decide +kernel
theorem d_MO_feed_43 : decode c_MO_feed 43 = .ok (.aload_n 0, 1) := by decide +kernel
theorem d_MO_feed_44 : decode c_MO_feed 44 = .ok (.getfield 182, 3) := by decide +kernel
theorem d_MO_feed_47 : decode c_MO_feed 47 = .ok (.lload_n 1, 1) := by decide +kernel
theorem d_MO_feed_48 : decode c_MO_feed 48 = .ok (.bipush 8, 2) := by decide +kernel
theorem d_MO_feed_50 : decode c_MO_feed 50 = .ok (.iload 4, 2) := by decide +kernel
theorem d_MO_feed_52 : decode c_MO_feed 52 = .ok (.imul, 1) := by decide +kernel
theorem d_MO_feed_53 : decode c_MO_feed 53 = .ok (.lshr, 1) := by decide +kernel
theorem d_MO_feed_54 : decode c_MO_feed 54 = .ok (.ldc2_w 218, 3) := by decide +kernel
theorem d_MO_feed_57 : decode c_MO_feed 57 = .ok (.land, 1) := by decide +kernel
theorem d_MO_feed_58 : decode c_MO_feed 58 = .ok (.l2i, 1) := by decide +kernel
theorem d_MO_feed_59 : decode c_MO_feed 59 = .ok (.iastore, 1) := by decide +kernel
theorem d_MO_feed_60 : decode c_MO_feed 60 = .ok (.aload_n 0, 1) := by decide +kernel
theorem d_MO_feed_61 : decode c_MO_feed 61 = .ok (.dup, 1) := by decide +kernel
theorem d_MO_feed_62 : decode c_MO_feed 62 = .ok (.getfield 182, 3) := by decide +kernel
theorem d_MO_feed_65 : decode c_MO_feed 65 = .ok (.iconst 1, 1) := by decide +kernel
theorem d_MO_feed_66 : decode c_MO_feed 66 = .ok (.iadd, 1) := by decide +kernel
theorem d_MO_feed_67 : decode c_MO_feed 67 = .ok (.putfield 182, 3) := by decide +kernel
theorem d_MO_feed_70 : decode c_MO_feed 70 = .ok (.iinc 4 (-1), 3) := by decide +kernel
theorem d_MO_feed_73 : decode c_MO_feed 73 = .ok (.goto (-39), 3) := by decide +kernel
theorem d_MO_feed_76 : decode c_MO_feed 76 = .ok (.iconst 1, 1) := by decide +kernel
theorem d_MO_feed_77 : decode c_MO_feed 77 = .ok (.ireturn, 1) := by decide +kernel
def wq_MO_feed_34 (post : Int32 → ST → Int64 → Prop) (v1 : Int64) : Nat → Int32 → ST → Int64 → Prop
  | 0 => fun _ _ _ => False
  | n + 1 => fun v4 X Y => ((v4 < 0 → post (1 : Int32) X Y) ∧ (¬ v4 < 0 → (vp_in (X 7 0) 96 ∧ wq_MO_feed_34 post v1 n (v4 + (-1 : Int32)) (up (up X 63 ((X 7 0).toNatClampNeg) (((v1 >>> (((8 : Int32) * v4).toInt64 &&& 63)) &&& (255 : Int64)).toInt32)) 7 0 ((X 7 0) + (1 : Int32))) Y)))
def wp_MO_feed (post : Int32 → ST → Int64 → Prop) (X : ST) (Y : Int64) (a1 : Int64) (a2 : Int32) : Prop := ((a2 < (1 : Int32) → post (0 : Int32) (up X 90 0 (0 : Int32)) Y) ∧ (¬ a2 < (1 : Int32) → (((8 : Int32) < a2 → post (0 : Int32) (up X 90 0 (0 : Int32)) Y) ∧ (¬ (8 : Int32) < a2 → ((((X 7 0) + a2) ≤ (96 : Int32) → (∃ n9, wq_MO_feed_34 post a1 n9 (a2 - (1 : Int32)) (up X 90 0 (0 : Int32)) Y)) ∧ (¬ ((X 7 0) + a2) ≤ (96 : Int32) → post (0 : Int32) (up X 90 0 (0 : Int32)) Y))))))
set_option maxHeartbeats 4000000 in
set_option maxRecDepth 100000 in
theorem mt_MO_feed (l : Launch) (hl9 : l.stackTraces = false) (dC : Nat → ClassId) (dI : Nat → Nat → Nat) (cA : Nat → ClassId) (ad : Nat → Nat) (hI : INJ ad 23) (sz : Nat) {X : ST} {Y : Int64} {a1 : Int64} {a2 : Int32} {post : Int32 → ST → Int64 → Prop} (hw : wp_MO_feed post X Y a1 a2) : Met l y_MO_feed ws_MO_feed ({ frames := 0, cells := 0, slots := 0, locals := 0 } : Room) (va_Pc [.ref (ad 0), .long a1, .int a2] (fun U => PM dC dI cA ad sz X Y U)) (va_Qi (fun r (u : ST × Int64) => post r u.1 u.2) (fun (u : ST × Int64) t => va_P (dC, dI) vwCl (wdM cA ad u.1 u.2) t.heap) (CA ad 23 sz)) 0 0 (CA ad 23 sz) := by
  refine Met.ofW (cc := c_MO_feed) (maxL := 5) (ret := (some .boolean)) (by decide) rfl ?_
  intro p e s m args below meth c s₁ B hml hv
  obtain ⟨rfl, hsz, hP, hG⟩ := hv
  have hx := B.exec
  have hb := B.bytes
  have hr := B.returns
  have hts : ∀ w ∈ GW, w.before (([.ref (ad 0), .long a1, .int a2] : List Value).toArray) s = true := fun w h => atoms_spec (ws := ws_MO_feed) B.pre w (List.mem_cons_of_mem _ h)
  have hown : s.vm.findClass R_MO = some m.cls := findClass_of_methodNamed B.named
  have hlocks := B.notSynchronized
  subst hsz
  have hK := hG.1
  have hG9 := hG
  have hNW := hG.2
  have hD0 : ∀ (X : ST) (Y : Int64), va_D (CA ad 23 s.heap.size) (wdM cA ad X Y) := fun _ _ => zwM_D hI
  have hS : va_S (CA ad 23 s.heap.size) s.heap s.heap [] := va_S.rf
  have hl := lv_entry ([.ref (ad 0), .long a1, .int a2]) (n := 5) (Nat.le_of_ble_eq_true rfl)
  rw [lg_entry_eq]
  generalize (lg_sl ([.ref (ad 0), .long a1, .int a2]) ++ List.replicate (5 - (lg_sl ([.ref (ad 0), .long a1, .int a2])).length) Slot.unset).toArray = ls at hl ⊢
  have hl : lv_has ls 5 [(0, .ref (ad 0)), (1, .long a1), (3, .int a2)] := hl
  have L34 : ∀ (v1 : Int64), ∀ (n : Nat), ∀ (v4 : Int32) (X : ST) (Y : Int64) (H : Heap) (locs : List Loc) (ls : Array Slot), wq_MO_feed_34 post v1 n v4 X Y → va_P (dC, dI) vwCl (wdM cA ad X Y) H → va_S (CA ad 23 s.heap.size) s.heap H locs → lv_has ls 5 [(0, .ref (ad 0)), (1, .long v1), (4, .int v4)] → W p l e (headSpec ws_MO_feed ({ frames := 0, cells := 0, slots := 0, locals := 0 } : Room)).room s m (([.ref (ad 0), .long a1, .int a2] : List Value).toArray) below meth c H locs 0 0 (MQ below (va_Qi (fun r (u : ST × Int64) => post r u.1 u.2) (fun (u : ST × Int64) t => va_P (dC, dI) vwCl (wdM cA ad u.1 u.2) t.heap) (CA ad 23 s.heap.size)) (([.ref (ad 0), .long a1, .int a2] : List Value).toArray) s 0 0 (CA ad 23 s.heap.size)) (F0 m 34 ls []) := by
    intro v1 n
    induction n with
    | zero => intro v4 X Y H locs ls hw hP hS hl; exact False.elim hw
    | succ n ih =>
      intro v4 X Y H locs ls hw hP hS hl
      dsimp only [wq_MO_feed_34] at hw
      refine lv_iload hx hb d_MO_feed_34 (lv_at hl 2 rfl) ?_
      refine lv_if_lt (tgt := 76) hx hb d_MO_feed_36 (by decide) (fun c1 => ?_) (fun c1 => ?_)
      · have hw := hw.1 c1
        refine lv_iconst (v := (1 : Int32)) hx hb d_MO_feed_76 (by decide) ?_
        exact W.zret (v := (1 : Int32)) hx hb hr (by decide) (fun t ht _ => ⟨⟨(1 : Int32), (X, Y), rfl, hw, by show va_P _ _ _ t.heap; rw [ht]; exact hP⟩, hS.F ht⟩) hS.2.2 d_MO_feed_77
      · have hw := hw.2 c1
        refine lv_aload_n hx hb d_MO_feed_39 rfl (lv_at hl 0 rfl) ?_
        refine va_get (D := (dC, dI)) (ci := 9) (v := .ref (ad 22)) (C := R_MO) (T := T_MO) (N := 36) hx hb hts in_MO hown hK hP (0) atM_MO rfl 29 (by decide) (hts _ gw_398) (fun _ h9 => h9) rfl d_MO_feed_40 ?_
        refine lv_aload_n hx hb d_MO_feed_43 rfl (lv_at hl 0 rfl) ?_
        refine va_get (D := (dC, dI)) (ci := 9) (v := .int (X 7 0)) (C := R_MO) (T := T_MO) (N := 36) hx hb hts in_MO hown hK hP (0) atM_MO rfl 30 (by decide) (hts _ gw_399) (fun _ h9 => h9) rfl d_MO_feed_44 ?_
        refine lv_lload_n hx hb d_MO_feed_47 rfl (lv_at hl 1 rfl) ?_
        refine lv_bipush (v := (8 : Int32)) hx hb d_MO_feed_48 (by decide) ?_
        refine lv_iload hx hb d_MO_feed_50 (lv_at hl 2 rfl) ?_
        refine lv_imul hx hb d_MO_feed_52 ?_
        refine lv_lshr hx hb d_MO_feed_53 rfl ?_
        refine lv_ldc2 (v := (255 : Int64)) hx hb hown (hts _ gw_439) d_MO_feed_54 ?_
        refine lv_land hx hb d_MO_feed_57 ?_
        refine lv_l2i hx hb d_MO_feed_58 rfl ?_
        obtain ⟨h2, hw⟩ := hw
        refine va_iast hx hb hK hP (hD0 _ _) hS (22) 21 atM_text rfl h2 d_MO_feed_59 (fun H locs hP _ hS => ?_)
        have hP : va_P (dC, dI) vwCl (wdM cA ad (up X 63 ((X 7 0).toNatClampNeg) (((v1 >>> (((8 : Int32) * v4).toInt64 &&& 63)) &&& (255 : Int64)).toInt32)) Y) H := by rw [← stM_text]; exact hP
        refine lv_aload_n hx hb d_MO_feed_60 rfl (lv_at hl 0 rfl) ?_
        refine lv_dup hx hb d_MO_feed_61 rfl ?_
        refine va_get (D := (dC, dI)) (ci := 9) (v := .int (X 7 0)) (C := R_MO) (T := T_MO) (N := 36) hx hb hts in_MO hown hK hP (0) atM_MO rfl 30 (by decide) (hts _ gw_399) (fun _ h9 => h9) rfl d_MO_feed_62 ?_
        refine lv_iconst (v := (1 : Int32)) hx hb d_MO_feed_65 (by decide) ?_
        refine lv_iadd hx hb d_MO_feed_66 ?_
        refine va_put (D := (dC, dI)) (ci := 9) (v := .int ((X 7 0) + (1 : Int32))) (ty := .int) (C := R_MO) (T := T_MO) (N := 36) hx hb hts in_MO ty_MO ty_MO_ok nm_MO hown hK hP (hD0 _ _) hS (0) atM_MO rfl 30 (by decide) (hts _ gw_399) (fun _ h9 => h9) rfl (by decide +kernel) rfl rfl (Nat.le_of_ble_eq_true rfl) d_MO_feed_67 (fun H locs hP _ hS => ?_)
        have hP : va_P (dC, dI) vwCl (wdM cA ad (up (up X 63 ((X 7 0).toNatClampNeg) (((v1 >>> (((8 : Int32) * v4).toInt64 &&& 63)) &&& (255 : Int64)).toInt32)) 7 0 ((X 7 0) + (1 : Int32))) Y) H := by rw [← stM_MO_30]; exact hP
        refine lv_iinc (k := 2) (v := v4 + (-1 : Int32)) (lv' := [(4, .int (v4 + (-1 : Int32))), (0, .ref (ad 0)), (1, .long v1)]) hx hb d_MO_feed_70 hl rfl rfl (by decide) rfl (fun ls hl => ?_)
        refine lv_goto (tgt := 34) hx hb d_MO_feed_73 (by decide) ?_
        have hl := lv_sub hl (l' := [(0, .ref (ad 0)), (1, .long v1), (4, .int (v4 + (-1 : Int32)))]) [1, 2, 0] rfl
        exact ih _ _ _ _ _ _ hw hP hS hl
  unfold wp_MO_feed at hw
  refine lv_aload_n hx hb d_MO_feed_0 rfl (lv_at hl 0 rfl) ?_
  refine lv_iconst (v := (0 : Int32)) hx hb d_MO_feed_1 (by decide) ?_
  refine va_put (D := (dC, dI)) (ci := 9) (v := .int (0 : Int32)) (ty := .int) (C := R_MO) (T := T_MO) (N := 36) hx hb hts in_MO ty_MO ty_MO_ok nm_MO hown hK hP (hD0 _ _) hS (0) atM_MO rfl 0 (by decide) (hts _ gw_297) (fun _ h9 => h9) rfl (by decide +kernel) rfl rfl (Nat.le_of_ble_eq_true rfl) d_MO_feed_2 (fun H locs hP _ hS => ?_)
  have hP : va_P (dC, dI) vwCl (wdM cA ad (up X 90 0 (0 : Int32)) Y) H := by rw [← stM_MO_0]; exact hP
  refine lv_iload_n hx hb d_MO_feed_5 rfl (lv_at hl 2 rfl) ?_
  refine lv_iconst (v := (1 : Int32)) hx hb d_MO_feed_6 (by decide) ?_
  refine lv_icmp_lt (tgt := 27) hx hb d_MO_feed_7 (by decide) (fun c3 => ?_) (fun c3 => ?_)
  · have hw := hw.1 c3
    refine lv_iconst (v := (0 : Int32)) hx hb d_MO_feed_27 (by decide) ?_
    exact W.zret (v := (0 : Int32)) hx hb hr (by decide) (fun t ht _ => ⟨⟨(0 : Int32), (up X 90 0 (0 : Int32), Y), rfl, hw, by show va_P _ _ _ t.heap; rw [ht]; exact hP⟩, hS.F ht⟩) hS.2.2 d_MO_feed_28
  · have hw := hw.2 c3
    refine lv_iload_n hx hb d_MO_feed_10 rfl (lv_at hl 2 rfl) ?_
    refine lv_bipush (v := (8 : Int32)) hx hb d_MO_feed_11 (by decide) ?_
    refine lv_icmp_gt (tgt := 27) hx hb d_MO_feed_13 (by decide) (fun c4 => ?_) (fun c4 => ?_)
    · have hw := hw.1 c4
      refine lv_iconst (v := (0 : Int32)) hx hb d_MO_feed_27 (by decide) ?_
      exact W.zret (v := (0 : Int32)) hx hb hr (by decide) (fun t ht _ => ⟨⟨(0 : Int32), (up X 90 0 (0 : Int32), Y), rfl, hw, by show va_P _ _ _ t.heap; rw [ht]; exact hP⟩, hS.F ht⟩) hS.2.2 d_MO_feed_28
    · have hw := hw.2 c4
      refine lv_aload_n hx hb d_MO_feed_16 rfl (lv_at hl 0 rfl) ?_
      refine va_get (D := (dC, dI)) (ci := 9) (v := .int (X 7 0)) (C := R_MO) (T := T_MO) (N := 36) hx hb hts in_MO hown hK hP (0) atM_MO rfl 30 (by decide) (hts _ gw_399) (fun _ h9 => h9) rfl d_MO_feed_17 ?_
      refine lv_iload_n hx hb d_MO_feed_20 rfl (lv_at hl 2 rfl) ?_
      refine lv_iadd hx hb d_MO_feed_21 ?_
      refine lv_bipush (v := (96 : Int32)) hx hb d_MO_feed_22 (by decide) ?_
      refine lv_icmp_le (tgt := 29) hx hb d_MO_feed_24 (by decide) (fun c5 => ?_) (fun c5 => ?_)
      · have hw := hw.1 c5
        refine lv_iload_n hx hb d_MO_feed_29 rfl (lv_at hl 2 rfl) ?_
        refine lv_iconst (v := (1 : Int32)) hx hb d_MO_feed_30 (by decide) ?_
        refine lv_isub hx hb d_MO_feed_31 ?_
        refine lv_istore (lv' := [(4, .int (a2 - (1 : Int32))), (0, .ref (ad 0)), (1, .long a1), (3, .int a2)]) hx hb d_MO_feed_32 hl (by decide) rfl (fun ls hl => ?_)
        have hl := lv_sub hl (l' := [(0, .ref (ad 0)), (1, .long a1), (4, .int (a2 - (1 : Int32)))]) [1, 2, 0] rfl
        obtain ⟨n9, hw⟩ := hw
        exact L34 _ n9 _ _ _ _ _ _ hw hP hS hl
      · have hw := hw.2 c5
        refine lv_iconst (v := (0 : Int32)) hx hb d_MO_feed_27 (by decide) ?_
        exact W.zret (v := (0 : Int32)) hx hb hr (by decide) (fun t ht _ => ⟨⟨(0 : Int32), (up X 90 0 (0 : Int32), Y), rfl, hw, by show va_P _ _ _ t.heap; rw [ht]; exact hP⟩, hS.F ht⟩) hS.2.2 d_MO_feed_28
def ws_MO_clear : List Cond := Cond.code y_MO_clear c_MO_clear 2 (Option.some Jvm.ClassFile.FieldType.int) :: GW
theorem d_MO_clear_0 : decode c_MO_clear 0 = .ok (.aload_n 0, 1) := by decide +kernel
theorem d_MO_clear_1 : decode c_MO_clear 1 = .ok (.iconst 0, 1) := by decide +kernel
theorem d_MO_clear_2 : decode c_MO_clear 2 = .ok (.putfield 81, 3) := by decide +kernel
theorem d_MO_clear_5 : decode c_MO_clear 5 = .ok (.aload_n 0, 1) := by decide +kernel
theorem d_MO_clear_6 : decode c_MO_clear 6 = .ok (.getfield 182, 3) := by decide +kernel
theorem d_MO_clear_9 : decode c_MO_clear 9 = .ok (.istore_n 1, 1) := by decide +kernel
theorem d_MO_clear_10 : decode c_MO_clear 10 = .ok (.aload_n 0, 1) := by decide +kernel
theorem d_MO_clear_11 : decode c_MO_clear 11 = .ok (.iconst 0, 1) := by decide +kernel
theorem d_MO_clear_12 : decode c_MO_clear 12 = .ok (.putfield 182, 3) := by decide +kernel
theorem d_MO_clear_15 : decode c_MO_clear 15 = .ok (.iload_n 1, 1) := by decide +kernel
theorem d_MO_clear_16 : decode c_MO_clear 16 = .ok (.ireturn, 1) := by decide +kernel
def wp_MO_clear (post : Int32 → ST → Int64 → Prop) (X : ST) (Y : Int64) : Prop := post (X 7 0) (up (up X 90 0 (0 : Int32)) 7 0 (0 : Int32)) Y
set_option maxHeartbeats 4000000 in
set_option maxRecDepth 100000 in
theorem mt_MO_clear (l : Launch) (hl9 : l.stackTraces = false) (dC : Nat → ClassId) (dI : Nat → Nat → Nat) (cA : Nat → ClassId) (ad : Nat → Nat) (hI : INJ ad 23) (sz : Nat) {X : ST} {Y : Int64} {post : Int32 → ST → Int64 → Prop} (hw : wp_MO_clear post X Y) : Met l y_MO_clear ws_MO_clear ({ frames := 0, cells := 0, slots := 0, locals := 0 } : Room) (va_Pc [.ref (ad 0)] (fun U => PM dC dI cA ad sz X Y U)) (va_Qi (fun r (u : ST × Int64) => post r u.1 u.2) (fun (u : ST × Int64) t => va_P (dC, dI) vwCl (wdM cA ad u.1 u.2) t.heap) (CA ad 23 sz)) 0 0 (CA ad 23 sz) := by
  refine Met.ofW (cc := c_MO_clear) (maxL := 2) (ret := (some .int)) (by decide) rfl ?_
  intro p e s m args below meth c s₁ B hml hv
  obtain ⟨rfl, hsz, hP, hG⟩ := hv
  have hx := B.exec
  have hb := B.bytes
  have hr := B.returns
  have hts : ∀ w ∈ GW, w.before (([.ref (ad 0)] : List Value).toArray) s = true := fun w h => atoms_spec (ws := ws_MO_clear) B.pre w (List.mem_cons_of_mem _ h)
  have hown : s.vm.findClass R_MO = some m.cls := findClass_of_methodNamed B.named
  have hlocks := B.notSynchronized
  subst hsz
  have hK := hG.1
  have hG9 := hG
  have hNW := hG.2
  have hD0 : ∀ (X : ST) (Y : Int64), va_D (CA ad 23 s.heap.size) (wdM cA ad X Y) := fun _ _ => zwM_D hI
  have hS : va_S (CA ad 23 s.heap.size) s.heap s.heap [] := va_S.rf
  have hl := lv_entry ([.ref (ad 0)]) (n := 2) (Nat.le_of_ble_eq_true rfl)
  rw [lg_entry_eq]
  generalize (lg_sl ([.ref (ad 0)]) ++ List.replicate (2 - (lg_sl ([.ref (ad 0)])).length) Slot.unset).toArray = ls at hl ⊢
  have hl : lv_has ls 2 [(0, .ref (ad 0))] := hl
  unfold wp_MO_clear at hw
  refine lv_aload_n hx hb d_MO_clear_0 rfl (lv_at hl 0 rfl) ?_
  refine lv_iconst (v := (0 : Int32)) hx hb d_MO_clear_1 (by decide) ?_
  refine va_put (D := (dC, dI)) (ci := 9) (v := .int (0 : Int32)) (ty := .int) (C := R_MO) (T := T_MO) (N := 36) hx hb hts in_MO ty_MO ty_MO_ok nm_MO hown hK hP (hD0 _ _) hS (0) atM_MO rfl 0 (by decide) (hts _ gw_297) (fun _ h9 => h9) rfl (by decide +kernel) rfl rfl (Nat.le_of_ble_eq_true rfl) d_MO_clear_2 (fun H locs hP _ hS => ?_)
  have hP : va_P (dC, dI) vwCl (wdM cA ad (up X 90 0 (0 : Int32)) Y) H := by rw [← stM_MO_0]; exact hP
  refine lv_aload_n hx hb d_MO_clear_5 rfl (lv_at hl 0 rfl) ?_
  refine va_get (D := (dC, dI)) (ci := 9) (v := .int (X 7 0)) (C := R_MO) (T := T_MO) (N := 36) hx hb hts in_MO hown hK hP (0) atM_MO rfl 30 (by decide) (hts _ gw_399) (fun _ h9 => h9) rfl d_MO_clear_6 ?_
  refine lv_istore_n (lv' := [(1, .int (X 7 0)), (0, .ref (ad 0))]) hx hb d_MO_clear_9 rfl hl (by decide) rfl (fun ls hl => ?_)
  refine lv_aload_n hx hb d_MO_clear_10 rfl (lv_at hl 1 rfl) ?_
  refine lv_iconst (v := (0 : Int32)) hx hb d_MO_clear_11 (by decide) ?_
  refine va_put (D := (dC, dI)) (ci := 9) (v := .int (0 : Int32)) (ty := .int) (C := R_MO) (T := T_MO) (N := 36) hx hb hts in_MO ty_MO ty_MO_ok nm_MO hown hK hP (hD0 _ _) hS (0) atM_MO rfl 30 (by decide) (hts _ gw_399) (fun _ h9 => h9) rfl (by decide +kernel) rfl rfl (Nat.le_of_ble_eq_true rfl) d_MO_clear_12 (fun H locs hP _ hS => ?_)
  have hP : va_P (dC, dI) vwCl (wdM cA ad (up (up X 90 0 (0 : Int32)) 7 0 (0 : Int32)) Y) H := by rw [← stM_MO_30]; exact hP
  refine lv_iload_n hx hb d_MO_clear_15 rfl (lv_at hl 0 rfl) ?_
  exact W.iret (v := X 7 0) hx hb hr (fun t ht _ => ⟨⟨X 7 0, (up (up X 90 0 (0 : Int32)) 7 0 (0 : Int32), Y), rfl, hw, by show va_P _ _ _ t.heap; rw [ht]; exact hP⟩, hS.F ht⟩) hS.2.2 d_MO_clear_16
