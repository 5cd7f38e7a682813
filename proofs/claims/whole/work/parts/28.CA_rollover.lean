def ws_CA_rollover : List Cond := Cond.code y_CA_rollover c_CA_rollover 8 (Option.some Jvm.ClassFile.FieldType.int) :: GW
theorem d_CA_rollover_0 : decode c_CA_rollover 0 = .ok (.aload_n 0, 1) := by decide +kernel
theorem d_CA_rollover_1 : decode c_CA_rollover 1 = .ok (.bipush 7, 2) := by decide +kernel
theorem d_CA_rollover_3 : decode c_CA_rollover 3 = .ok (.iload_n 1, 1) := by decide +kernel
theorem d_CA_rollover_4 : decode c_CA_rollover 4 = .ok (.iload_n 2, 1) := by decide +kernel
theorem d_CA_rollover_5 : decode c_CA_rollover 5 = .ok (.iload_n 3, 1) := by decide +kernel
theorem d_CA_rollover_6 : decode c_CA_rollover 6 = .ok (.iconst 0, 1) := by decide +kernel
theorem d_CA_rollover_7 : decode c_CA_rollover 7 = .ok (.invokevirtual 96, 3) := by decide +kernel
theorem d_CA_rollover_10 : decode c_CA_rollover 10 = .ok (.istore 6, 2) := by decide +kernel
theorem d_CA_rollover_12 : decode c_CA_rollover 12 = .ok (.aload_n 0, 1) := by decide +kernel
theorem d_CA_rollover_13 : decode c_CA_rollover 13 = .ok (.iload_n 1, 1) := by decide +kernel
theorem d_CA_rollover_14 : decode c_CA_rollover 14 = .ok (.iload_n 2, 1) := by decide +kernel
theorem d_CA_rollover_15 : decode c_CA_rollover 15 = .ok (.iload 6, 2) := by decide +kernel
theorem d_CA_rollover_17 : decode c_CA_rollover 17 = .ok (.iload 4, 2) := by decide +kernel
theorem d_CA_rollover_19 : decode c_CA_rollover 19 = .ok (.invokevirtual 126, 3) := by decide +kernel
theorem d_CA_rollover_22 : decode c_CA_rollover 22 = .ok (.iload_n 3, 1) := by decide +kernel
theorem d_CA_rollover_23 : decode c_CA_rollover 23 = .ok (.invokestatic 77, 3) := by decide +kernel
theorem d_CA_rollover_26 : decode c_CA_rollover 26 = .ok (.ifCond .ne 11, 3) := by decide +kernel
theorem d_CA_rollover_29 : decode c_CA_rollover 29 = .ok (.new 93, 3) := by decide +kernel
theorem d_CA_rollover_32 : decode c_CA_rollover 32 = .ok (.dup, 1) := by decide +kernel
theorem d_CA_rollover_33 : decode c_CA_rollover 33 = .ok (.invokespecial 95, 3) := by decide +kernel
theorem d_CA_rollover_36 : decode c_CA_rollover 36 = .ok (.athrow, 1) := by decide +kernel
theorem d_CA_rollover_37 : decode c_CA_rollover 37 = .ok (.iload 5, 2) := by decide +kernel
theorem d_CA_rollover_39 : decode c_CA_rollover 39 = .ok (.iload 6, 2) := by decide +kernel
theorem d_CA_rollover_41 : decode c_CA_rollover 41 = .ok (.iload_n 3, 1) := by decide +kernel
theorem d_CA_rollover_42 : decode c_CA_rollover 42 = .ok (.invokestatic 100, 3) := by decide +kernel
theorem d_CA_rollover_45 : decode c_CA_rollover 45 = .ok (.ifCond .ne 11, 3) := by decide +kernel
theorem d_CA_rollover_48 : decode c_CA_rollover 48 = .ok (.new 104, 3) := by decide +kernel
theorem d_CA_rollover_51 : decode c_CA_rollover 51 = .ok (.dup, 1) := by decide +kernel
theorem d_CA_rollover_52 : decode c_CA_rollover 52 = .ok (.invokespecial 106, 3) := by decide +kernel
theorem d_CA_rollover_55 : decode c_CA_rollover 55 = .ok (.athrow, 1) := by decide +kernel
theorem d_CA_rollover_56 : decode c_CA_rollover 56 = .ok (.aload_n 0, 1) := by decide +kernel
theorem d_CA_rollover_57 : decode c_CA_rollover 57 = .ok (.iload_n 3, 1) := by decide +kernel
theorem d_CA_rollover_58 : decode c_CA_rollover 58 = .ok (.invokevirtual 110, 3) := by decide +kernel
theorem d_CA_rollover_61 : decode c_CA_rollover 61 = .ok (.iconst (-1), 1) := by decide +kernel
theorem d_CA_rollover_62 : decode c_CA_rollover 62 = .ok (.if_icmp .eq 11, 3) := by decide +kernel
theorem d_CA_rollover_65 : decode c_CA_rollover 65 = .ok (.new 120, 3) := by decide +kernel
theorem d_CA_rollover_68 : decode c_CA_rollover 68 = .ok (.dup, 1) := by decide +kernel
theorem d_CA_rollover_69 : decode c_CA_rollover 69 = .ok (.invokespecial 122, 3) := by decide +kernel
theorem d_CA_rollover_72 : decode c_CA_rollover 72 = .ok (.athrow, 1) := by decide +kernel
theorem d_CA_rollover_73 : decode c_CA_rollover 73 = .ok (.aload_n 0, 1) := by decide +kernel
theorem d_CA_rollover_74 : decode c_CA_rollover 74 = .ok (.getfield 11, 3) := by decide +kernel
theorem d_CA_rollover_77 : decode c_CA_rollover 77 = .ok (.iload_n 1, 1) := by decide +kernel
theorem d_CA_rollover_78 : decode c_CA_rollover 78 = .ok (.aaload, 1) := by decide +kernel
theorem d_CA_rollover_79 : decode c_CA_rollover 79 = .ok (.getfield 164, 3) := by decide +kernel
theorem d_CA_rollover_82 : decode c_CA_rollover 82 = .ok (.istore 7, 2) := by decide +kernel
theorem d_CA_rollover_84 : decode c_CA_rollover 84 = .ok (.aload_n 0, 1) := by decide +kernel
theorem d_CA_rollover_85 : decode c_CA_rollover 85 = .ok (.getfield 11, 3) := by decide +kernel
theorem d_CA_rollover_88 : decode c_CA_rollover 88 = .ok (.iload_n 1, 1) := by decide +kernel
theorem d_CA_rollover_89 : decode c_CA_rollover 89 = .ok (.aaload, 1) := by decide +kernel
theorem d_CA_rollover_90 : decode c_CA_rollover 90 = .ok (.iload_n 3, 1) := by decide +kernel
theorem d_CA_rollover_91 : decode c_CA_rollover 91 = .ok (.putfield 164, 3) := by decide +kernel
theorem d_CA_rollover_94 : decode c_CA_rollover 94 = .ok (.iload 7, 2) := by decide +kernel
theorem d_CA_rollover_96 : decode c_CA_rollover 96 = .ok (.ireturn, 1) := by decide +kernel
def wp_CA_rollover (post : Int32 → ST → Prop) (px : String → ST → Prop) (X : ST) (a1 : Int32) (a2 : Int32) (a3 : Int32) (a4 : Int32) (a5 : Int32) : Prop := wp_CA_digest (fun (r2 : Int32) (X1 : ST) => wp_CA_acceptSigned (fun (X3 : ST) => wp_CA_isKey (fun (r6 : Int32) (X5 : ST) => ((r6 = 0 → px "java/lang/IllegalArgumentException" X5) ∧ (¬ r6 = 0 → wp_CA_isRight (fun (r9 : Int32) (X8 : ST) => ((r9 = 0 → px "java/lang/UnsupportedOperationException" X8) ∧ (¬ r9 = 0 → wp_CA_accountWithKey (fun (r12 : Int32) (X11 : ST) => ((r12 = (-1 : Int32) → (vp_in a1 6 ∧ post (X11 11 a1.toNatClampNeg) (up X11 11 a1.toNatClampNeg a3))) ∧ (¬ r12 = (-1 : Int32) → px "java/lang/IllegalStateException" X11))) X8 a3))) X5 a5 r2 a3))) X3 a3) px X1 a1 a2 r2 a4) X (7 : Int32) a1 a2 a3 (0 : Int32)
set_option maxHeartbeats 4000000 in
set_option maxRecDepth 100000 in
theorem mt_CA_rollover (l : Launch) (hl9 : l.stackTraces = false) (dC : Nat → ClassId) (dI : Nat → Nat → Nat) (cA : Nat → ClassId) (ad : Nat → Nat) (hI : INJ ad 125) (sz : Nat) {X : ST} {a1 : Int32} {a2 : Int32} {a3 : Int32} {a4 : Int32} {a5 : Int32} {post : Int32 → ST → Prop} {px : String → ST → Prop} (hw : wp_CA_rollover post px X a1 a2 a3 a4 a5) : xt_Met l y_CA_rollover ws_CA_rollover ({ frames := 7, cells := 2, slots := 12, locals := 114 } : Room) (va_Pc [.ref (ad 0), .int a1, .int a2, .int a3, .int a4, .int a5] (fun U => PC dC dI cA ad sz X U)) (va_Qi (fun r (u : ST) => post r u) (fun (u : ST) t => va_P (dC, dI) vwCl (wdC cA ad u) t.heap) (CA ad 125 sz)) (xt_X (fun (u : String × ST) => px u.1 u.2) (fun E (u : String × ST) t => u.1 = E ∧ va_P (dC, dI) vwCl (wdC cA ad u.2) t.heap) (CA ad 125 sz)) 2 12 (CA ad 125 sz) := by
  refine xt_ofW (cc := c_CA_rollover) (maxL := 8) (ret := (some .int)) (by decide) rfl ?_
  intro p e s m args below meth c s₁ B hml hEx hv
  obtain ⟨rfl, hsz, hP, hG⟩ := hv
  have hx := B.exec
  have hb := B.bytes
  have hr := B.returns
  have hts : ∀ w ∈ GW, w.before (([.ref (ad 0), .int a1, .int a2, .int a3, .int a4, .int a5] : List Value).toArray) s = true := fun w h => atoms_spec (ws := ws_CA_rollover) B.pre w (List.mem_cons_of_mem _ h)
  have hown : s.vm.findClass R_CA = some m.cls := findClass_of_methodNamed B.named
  have hlocks := B.notSynchronized
  subst hsz
  have hK := hG.1
  have hG9 := hG
  have hNW := hG.2.1
  have hD0 : ∀ (X : ST), va_D (CA ad 125 s.heap.size) (wdC cA ad X) := fun _ => zwC_D hI
  have hS : va_S (CA ad 125 s.heap.size) s.heap s.heap [] := va_S.rf
  have hl := lv_entry ([.ref (ad 0), .int a1, .int a2, .int a3, .int a4, .int a5]) (n := 8) (Nat.le_of_ble_eq_true rfl)
  rw [lg_entry_eq]
  generalize (lg_sl ([.ref (ad 0), .int a1, .int a2, .int a3, .int a4, .int a5]) ++ List.replicate (8 - (lg_sl ([.ref (ad 0), .int a1, .int a2, .int a3, .int a4, .int a5])).length) Slot.unset).toArray = ls at hl ⊢
  have hl : lv_has ls 8 [(0, .ref (ad 0)), (1, .int a1), (2, .int a2), (3, .int a3), (4, .int a4), (5, .int a5)] := hl
  unfold wp_CA_rollover at hw
  refine lv_aload_n hx hb d_CA_rollover_0 rfl (lv_at hl 0 rfl) ?_
  refine lv_bipush (v := (7 : Int32)) hx hb d_CA_rollover_1 (by decide) ?_
  refine lv_iload_n hx hb d_CA_rollover_3 rfl (lv_at hl 1 rfl) ?_
  refine lv_iload_n hx hb d_CA_rollover_4 rfl (lv_at hl 2 rfl) ?_
  refine lv_iload_n hx hb d_CA_rollover_5 rfl (lv_at hl 3 rfl) ?_
  refine lv_iconst (v := (0 : Int32)) hx hb d_CA_rollover_6 (by decide) ?_
  refine va_calli (va_runV (As := [.int (7 : Int32), .int a1, .int a2, .int a3, .int (0 : Int32)]) (rest := []) ⟨hx, hb, hml, hown, hts⟩ (mt_CA_digest l hl9 dC dI cA ad hI _ hw) (cwV 5 hts (gV gw_43 gw_44 gw_45 gw_13 gw_42) rfl rfl rfl (by decide +kernel) ⟨Nat.le_of_ble_eq_true rfl, Nat.le_of_ble_eq_true rfl⟩) ⟨zwC_blind, va_recv hK hP (ci := 0) (q0 := 0) rfl atC_CA, zwC_pre hP hS hG9⟩ rfl rfl hl.1 rfl (lv_room (Nat.le_of_ble_eq_true rfl)) d_CA_rollover_7 ⟨Nat.le_of_ble_eq_true rfl, Nat.le_of_ble_eq_true rfl⟩) hS (fun q _ h => CA_le hS.1 q h) (fun q h => CA_le hS.1 q h) (fun r2 X1 t H locs ht hvm hw hP hz1 hk1 hS => ?_)
  have hP : va_P (dC, dI) vwCl (wdC cA ad X1) H := by rw [← ht]; exact hP
  try dsimp only at hw
  refine lv_istore (lv' := [(6, .int r2), (0, .ref (ad 0)), (1, .int a1), (2, .int a2), (3, .int a3), (4, .int a4), (5, .int a5)]) hx hb d_CA_rollover_10 hl (by decide) rfl (fun ls hl => ?_)
  refine lv_aload_n hx hb d_CA_rollover_12 rfl (lv_at hl 1 rfl) ?_
  refine lv_iload_n hx hb d_CA_rollover_13 rfl (lv_at hl 2 rfl) ?_
  refine lv_iload_n hx hb d_CA_rollover_14 rfl (lv_at hl 3 rfl) ?_
  refine lv_iload hx hb d_CA_rollover_15 (lv_at hl 0 rfl) ?_
  refine lv_iload hx hb d_CA_rollover_17 (lv_at hl 5 rfl) ?_
  refine xt_callv (xt_runV (As := [.int a1, .int a2, .int r2, .int a4]) (rest := []) ⟨hx, hb, hml, hown, hts⟩ (mt_CA_acceptSigned l hl9 dC dI cA ad hI _ hw) (cwV 4 hts (gV gw_125 gw_126 gw_127 gw_13 gw_124) rfl rfl rfl (by decide +kernel) ⟨Nat.le_of_ble_eq_true rfl, Nat.le_of_ble_eq_true rfl⟩) ⟨zwC_blind, va_recv hK hP (ci := 0) (q0 := 0) rfl atC_CA, zwC_pre hP hS hG9⟩ rfl rfl hl.1 rfl (lv_room (Nat.le_of_ble_eq_true rfl)) d_CA_rollover_19 ⟨Nat.le_of_ble_eq_true rfl, Nat.le_of_ble_eq_true rfl⟩) hS (fun q _ h => CA_le hS.1 q h) (fun q h => CA_le hS.1 q h) (fun q _ h => CA_le hS.1 q h) (fun E ce q9 u9 t H locs ht ha hw hB hz1 hk1 hS hce hcv hcl => ?_) (fun X3 t H locs ht hvm hw hP hz1 hk1 hS => ?_)
  · obtain ⟨E9, X9⟩ := u9
    obtain ⟨rfl, hP⟩ := hB
    exact xt_out (E := E9) (fun x hx => (hEx x hx).elim) hlocks hce hcv hcl (fun t9 ht9 ha9 => ⟨(E9, X9), hw, ⟨rfl, by show va_P _ _ _ t9.heap; rw [ht9, ← ht]; exact hP⟩, hS.F ht9⟩) hS.2.2 (Nat.le_of_ble_eq_true rfl) (Nat.le_of_ble_eq_true rfl)
  have hP : va_P (dC, dI) vwCl (wdC cA ad X3) H := by rw [← ht]; exact hP
  try dsimp only at hw
  refine lv_iload_n hx hb d_CA_rollover_22 rfl (lv_at hl 4 rfl) ?_
  refine va_calli (va_runS (As := [.int a3]) (rest := []) ⟨hx, hb, hml, hown, hts⟩ (mt_CA_isKey l hl9 dC dI cA ad hI _ hw) (va_cwS 1 hts (gS gw_20 gw_21 gw_13 gw_19) rfl rfl rfl (by decide +kernel) ⟨Nat.le_of_ble_eq_true rfl, Nat.le_of_ble_eq_true rfl⟩) ⟨zwC_blind, zwC_pre hP hS hG9⟩ rfl rfl hl.1 rfl (lv_room (Nat.le_of_ble_eq_true rfl)) d_CA_rollover_23 ⟨Nat.le_of_ble_eq_true rfl, Nat.le_of_ble_eq_true rfl⟩) hS (fun q _ h => CA_le hS.1 q h) (fun q h => CA_le hS.1 q h) (fun r6 X5 t H locs ht hvm hw hP hz1 hk1 hS => ?_)
  have hP : va_P (dC, dI) vwCl (wdC cA ad X5) H := by rw [← ht]; exact hP
  try dsimp only at hw
  refine lv_if_ne (tgt := 37) hx hb d_CA_rollover_26 (by decide) (fun c7 => ?_) (fun c7 => ?_)
  · have hw := hw.2 c7
    refine lv_iload hx hb d_CA_rollover_37 (lv_at hl 6 rfl) ?_
    refine lv_iload hx hb d_CA_rollover_39 (lv_at hl 0 rfl) ?_
    refine lv_iload_n hx hb d_CA_rollover_41 rfl (lv_at hl 4 rfl) ?_
    refine va_calli (va_runS (As := [.int a5, .int r2, .int a3]) (rest := []) ⟨hx, hb, hml, hown, hts⟩ (mt_CA_isRight l hl9 dC dI cA ad hI _ hw) (va_cwS 3 hts (gS gw_47 gw_48 gw_13 gw_46) rfl rfl rfl (by decide +kernel) ⟨Nat.le_of_ble_eq_true rfl, Nat.le_of_ble_eq_true rfl⟩) ⟨zwC_blind, zwC_pre hP hS hG9⟩ rfl rfl hl.1 rfl (lv_room (Nat.le_of_ble_eq_true rfl)) d_CA_rollover_42 ⟨Nat.le_of_ble_eq_true rfl, Nat.le_of_ble_eq_true rfl⟩) hS (fun q _ h => CA_le hS.1 q h) (fun q h => CA_le hS.1 q h) (fun r9 X8 t H locs ht hvm hw hP hz1 hk1 hS => ?_)
    have hP : va_P (dC, dI) vwCl (wdC cA ad X8) H := by rw [← ht]; exact hP
    try dsimp only at hw
    refine lv_if_ne (tgt := 56) hx hb d_CA_rollover_45 (by decide) (fun c10 => ?_) (fun c10 => ?_)
    · have hw := hw.2 c10
      refine lv_aload_n hx hb d_CA_rollover_56 rfl (lv_at hl 1 rfl) ?_
      refine lv_iload_n hx hb d_CA_rollover_57 rfl (lv_at hl 4 rfl) ?_
      refine va_calli (va_runV (As := [.int a3]) (rest := []) ⟨hx, hb, hml, hown, hts⟩ (mt_CA_accountWithKey l hl9 dC dI cA ad hI _ hw) (cwV 1 hts (gV gw_57 gw_58 gw_59 gw_13 gw_56) rfl rfl rfl (by decide +kernel) ⟨Nat.le_of_ble_eq_true rfl, Nat.le_of_ble_eq_true rfl⟩) ⟨zwC_blind, va_recv hK hP (ci := 0) (q0 := 0) rfl atC_CA, zwC_pre hP hS hG9⟩ rfl rfl hl.1 rfl (lv_room (Nat.le_of_ble_eq_true rfl)) d_CA_rollover_58 ⟨Nat.le_of_ble_eq_true rfl, Nat.le_of_ble_eq_true rfl⟩) hS (fun q _ h => CA_le hS.1 q h) (fun q h => CA_le hS.1 q h) (fun r12 X11 t H locs ht hvm hw hP hz1 hk1 hS => ?_)
      have hP : va_P (dC, dI) vwCl (wdC cA ad X11) H := by rw [← ht]; exact hP
      try dsimp only at hw
      refine lv_iconst (v := (-1 : Int32)) hx hb d_CA_rollover_61 (by decide) ?_
      refine lv_icmp_eq (tgt := 73) hx hb d_CA_rollover_62 (by decide) (fun c13 => ?_) (fun c13 => ?_)
      · have hw := hw.1 c13
        refine lv_aload_n hx hb d_CA_rollover_73 rfl (lv_at hl 1 rfl) ?_
        refine va_get (D := (dC, dI)) (ci := 0) (v := .ref (ad 1)) (C := R_CA) (T := T_CA) (N := 14) hx hb hts in_CA hown hK hP (0) atC_CA rfl 6 (by decide) (hts _ gw_33) (fun _ h9 => h9) rfl d_CA_rollover_74 ?_
        refine lv_iload_n hx hb d_CA_rollover_77 rfl (lv_at hl 2 rfl) ?_
        obtain ⟨h14, hw⟩ := hw
        refine va_aldq hx hb hK hP (1) 0 atC_aAcc rfl h14 d_CA_rollover_78 ?_
        refine W.eq (g2 := F0 m 79 ls [.ref (ad (11 + a1.toNatClampNeg))]) rfl ?_
        refine va_get (D := (dC, dI)) (ci := 4) (v := .int (X11 11 a1.toNatClampNeg)) (C := R_Acc) (T := T_Acc) (N := 2) hx hb hts in_Acc hown hK hP (11 + a1.toNatClampNeg) (atC_Acc (zw_lt h14)) rfl 1 (by decide) (hts _ gw_34) (fun _ h9 => h9) rfl d_CA_rollover_79 ?_
        refine lv_istore (lv' := [(7, .int (X11 11 a1.toNatClampNeg)), (6, .int r2), (0, .ref (ad 0)), (1, .int a1), (2, .int a2), (3, .int a3), (4, .int a4), (5, .int a5)]) hx hb d_CA_rollover_82 hl (by decide) rfl (fun ls hl => ?_)
        refine lv_aload_n hx hb d_CA_rollover_84 rfl (lv_at hl 2 rfl) ?_
        refine va_get (D := (dC, dI)) (ci := 0) (v := .ref (ad 1)) (C := R_CA) (T := T_CA) (N := 14) hx hb hts in_CA hown hK hP (0) atC_CA rfl 6 (by decide) (hts _ gw_33) (fun _ h9 => h9) rfl d_CA_rollover_85 ?_
        refine lv_iload_n hx hb d_CA_rollover_88 rfl (lv_at hl 3 rfl) ?_
        refine va_aldq hx hb hK hP (1) 0 atC_aAcc rfl h14 d_CA_rollover_89 ?_
        refine W.eq (g2 := F0 m 90 ls [.ref (ad (11 + a1.toNatClampNeg))]) rfl ?_
        refine lv_iload_n hx hb d_CA_rollover_90 rfl (lv_at hl 5 rfl) ?_
        refine va_put (D := (dC, dI)) (ci := 4) (v := .int a3) (ty := .int) (C := R_Acc) (T := T_Acc) (N := 2) hx hb hts in_Acc ty_Acc ty_Acc_ok nm_Acc hown hK hP (hD0 _) hS (11 + a1.toNatClampNeg) (atC_Acc (zw_lt h14)) rfl 1 (by decide) (hts _ gw_34) (fun _ h9 => h9) rfl (by decide +kernel) rfl rfl (Nat.le_of_ble_eq_true rfl) d_CA_rollover_91 (fun H locs hP _ hS => ?_)
        have hP : va_P (dC, dI) vwCl (wdC cA ad (up X11 11 a1.toNatClampNeg a3)) H := by rw [← stC_Acc_1 (zw_lt h14)]; exact hP
        refine lv_iload hx hb d_CA_rollover_94 (lv_at hl 0 rfl) ?_
        refine xt_ret ?_
        refine W.widen (k := 2) (n := 12) (Nat.le_of_ble_eq_true rfl) (Nat.le_of_ble_eq_true rfl) ?_
        exact W.iret (v := X11 11 a1.toNatClampNeg) hx hb hr (fun t ht _ => ⟨⟨X11 11 a1.toNatClampNeg, up X11 11 a1.toNatClampNeg a3, rfl, hw, by show va_P _ _ _ t.heap; rw [ht]; exact hP⟩, hS.F ht⟩) hS.2.2 d_CA_rollover_96
      · have hw := hw.2 c13
        exact xt_throw0 (cls := "java/lang/IllegalStateException") (names := ["java/lang/RuntimeException", "java/lang/Exception"]) (ic := 122) hx hb hl9 hown (by decide +kernel) (by decide +kernel) (hts _ gw_60) (hts _ gw_61) (hts _ gw_62) (xc_hat xa_2 hts hG9 hP hS) (hl.1.trans hml.symm) d_CA_rollover_65 d_CA_rollover_68 d_CA_rollover_69 d_CA_rollover_72 (fun x hx => (hEx x hx).elim) hlocks (fun t ha hz hk => ⟨("java/lang/IllegalStateException", X11), hw, ⟨rfl, zw_keep hP hk⟩, zw_F hS hz hk⟩) hS.2.2 (Nat.le_of_ble_eq_true rfl) (Nat.le_of_ble_eq_true rfl) (Nat.le_of_ble_eq_true rfl) (Nat.le_of_ble_eq_true rfl) (Nat.le_of_ble_eq_true rfl) (Nat.le_of_ble_eq_true rfl)
    · have hw := hw.1 c10
      exact xt_throw0 (cls := "java/lang/UnsupportedOperationException") (names := ["java/lang/RuntimeException", "java/lang/Exception"]) (ic := 106) hx hb hl9 hown (by decide +kernel) (by decide +kernel) (hts _ gw_49) (hts _ gw_50) (hts _ gw_51) (xc_hat xa_1 hts hG9 hP hS) (hl.1.trans hml.symm) d_CA_rollover_48 d_CA_rollover_51 d_CA_rollover_52 d_CA_rollover_55 (fun x hx => (hEx x hx).elim) hlocks (fun t ha hz hk => ⟨("java/lang/UnsupportedOperationException", X8), hw, ⟨rfl, zw_keep hP hk⟩, zw_F hS hz hk⟩) hS.2.2 (Nat.le_of_ble_eq_true rfl) (Nat.le_of_ble_eq_true rfl) (Nat.le_of_ble_eq_true rfl) (Nat.le_of_ble_eq_true rfl) (Nat.le_of_ble_eq_true rfl) (Nat.le_of_ble_eq_true rfl)
  · have hw := hw.1 c7
    exact xt_throw0 (cls := "java/lang/IllegalArgumentException") (names := ["java/lang/RuntimeException", "java/lang/Exception"]) (ic := 95) hx hb hl9 hown (by decide +kernel) (by decide +kernel) (hts _ gw_39) (hts _ gw_40) (hts _ gw_41) (xc_hat xa_0 hts hG9 hP hS) (hl.1.trans hml.symm) d_CA_rollover_29 d_CA_rollover_32 d_CA_rollover_33 d_CA_rollover_36 (fun x hx => (hEx x hx).elim) hlocks (fun t ha hz hk => ⟨("java/lang/IllegalArgumentException", X5), hw, ⟨rfl, zw_keep hP hk⟩, zw_F hS hz hk⟩) hS.2.2 (Nat.le_of_ble_eq_true rfl) (Nat.le_of_ble_eq_true rfl) (Nat.le_of_ble_eq_true rfl) (Nat.le_of_ble_eq_true rfl) (Nat.le_of_ble_eq_true rfl) (Nat.le_of_ble_eq_true rfl)
def ws_Txt_append : List Cond := Cond.code y_Txt_append c_Txt_append 5 (Option.some Jvm.ClassFile.FieldType.boolean) :: GW
theorem d_Txt_append_0 : decode c_Txt_append 0 = .ok (.iload_n 3, 1) := by decide +kernel
theorem d_Txt_append_1 : decode c_Txt_append 1 = .ok (.bipush 96, 2) := by decide +kernel
theorem d_Txt_append_3 : decode c_Txt_append 3 = .ok (.aload_n 0, 1) := by decide +kernel
theorem d_Txt_append_4 : decode c_Txt_append 4 = .ok (.getfield 15, 3) := by decide +kernel
theorem d_Txt_append_7 : decode c_Txt_append 7 = .ok (.isub, 1) := by decide +kernel
theorem d_Txt_append_8 : decode c_Txt_append 8 = .ok (.if_icmp .le 5, 3) := by decide +kernel
theorem d_Txt_append_11 : decode c_Txt_append 11 = .ok (.iconst 0, 1) := by decide +kernel
theorem d_Txt_append_12 : decode c_Txt_append 12 = .ok (.ireturn, 1) := by decide +kernel
theorem d_Txt_append_13 : decode c_Txt_append 13 = .ok (.iload_n 3, 1) := by decide +kernel
theorem d_Txt_append_14 : decode c_Txt_append 14 = .ok (.iconst 1, 1) := by decide +kernel
theorem d_Txt_append_15 : decode c_Txt_append 15 = .ok (.isub, 1) := by decide +kernel
theorem d_Txt_append_16 : decode c_Txt_append 16 = .ok (.istore 4, 2) := by decide +kernel
theorem d_Txt_append_18 : decode c_Txt_append 18 = .ok (.iload 4, 2) := by decide +kernel
theorem d_Txt_append_20 : decode c_Txt_append 20 = .ok (.ifCond .lt 40, 3) := by decide +kernel
theorem d_Txt_append_23 : decode c_Txt_append 23 = .ok (.aload_n 0, 1) := by decide +kernel
theorem d_Txt_append_24 : decode c_Txt_append 24 = .ok (.getfield 9, 3) := by decide +kernel
theorem d_Txt_append_27 : decode c_Txt_append 27 = .ok (.aload_n 0, 1) := by decide +kernel
theorem d_Txt_append_28 : decode c_Txt_append 28 = .ok (.getfield 15, 3) := by decide +kernel
theorem d_Txt_append_31 : decode c_Txt_append 31 = .ok (.lload_n 1, 1) := by decide +kernel
theorem d_Txt_append_32 : decode c_Txt_append 32 = .ok (.bipush 8, 2) := by decide +kernel
theorem d_Txt_append_34 : decode c_Txt_append 34 = .ok (.iload 4, 2) := by decide +kernel
theorem d_Txt_append_36 : decode c_Txt_append 36 = .ok (.imul, 1) := by decide +kernel
theorem d_Txt_append_37 : decode c_Txt_append 37 = .ok (.lushr, 1) := by decide +kernel
theorem d_Txt_append_38 : decode c_Txt_append 38 = .ok (.l2i, 1) := by decide +kernel
theorem d_Txt_append_39 : decode c_Txt_append 39 = .ok (.sipush 255, 3) := by decide +kernel
theorem d_Txt_append_42 : decode c_Txt_append 42 = .ok (.iand, 1) := by decide +kernel
theorem d_Txt_append_43 : decode c_Txt_append 43 = .ok (.iastore, 1) := by decide +kernel
theorem d_Txt_append_44 : decode c_Txt_append 44 = .ok (.aload_n 0, 1) := by decide +kernel
theorem d_Txt_append_45 : decode c_Txt_append 45 = .ok (.dup, 1) := by decide +kernel
theorem d_Txt_append_46 : decode c_Txt_append 46 = .ok (.getfield 15, 3) := by decide +kernel
theorem d_Txt_append_49 : decode c_Txt_append 49 = .ok (.iconst 1, 1) := by decide +kernel
theorem d_Txt_append_50 : decode c_Txt_append 50 = .ok (.iadd, 1) := by decide +kernel
theorem d_Txt_append_51 : decode c_Txt_append 51 = .ok (.putfield 15, 3) := by decide +kernel
theorem d_Txt_append_54 : decode c_Txt_append 54 = .ok (.iinc 4 (-1), 3) := by decide +kernel
theorem d_Txt_append_57 : decode c_Txt_append 57 = .ok (.goto (-39), 3) := by decide +kernel
theorem d_Txt_append_60 : decode c_Txt_append 60 = .ok (.iconst 1, 1) := by decide +kernel
theorem d_Txt_append_61 : decode c_Txt_append 61 = .ok (.ireturn, 1) := by decide +kernel
def wq_Txt_append_18 (post : Int32 → ST → Prop) (v1 : Int64) : Nat → Int32 → ST → Prop
  | 0 => fun _ _ => False
  | n + 1 => fun v4 X => ((v4 < 0 → post (1 : Int32) X) ∧ (¬ v4 < 0 → (vp_in (X 7 0) 96 ∧ wq_Txt_append_18 post v1 n (v4 + (-1 : Int32)) (up (up X 63 ((X 7 0).toNatClampNeg) ((((v1.toUInt64 >>> (((8 : Int32) * v4).toInt64.toUInt64 &&& Int64.toUInt64 63)).toInt64).toInt32) &&& (255 : Int32))) 7 0 ((X 7 0) + (1 : Int32))))))
def wp_Txt_append (post : Int32 → ST → Prop) (X : ST) (a1 : Int64) (a2 : Int32) : Prop := ((a2 ≤ ((96 : Int32) - (X 7 0)) → (∃ n9, wq_Txt_append_18 post a1 n9 (a2 - (1 : Int32)) X)) ∧ (¬ a2 ≤ ((96 : Int32) - (X 7 0)) → post (0 : Int32) X))
set_option maxHeartbeats 4000000 in
set_option maxRecDepth 100000 in
theorem mt_Txt_append (l : Launch) (hl9 : l.stackTraces = false) (dC : Nat → ClassId) (dI : Nat → Nat → Nat) (cA : Nat → ClassId) (ad : Nat → Nat) (hI : INJ ad 125) (sz : Nat) {X : ST} {a1 : Int64} {a2 : Int32} {post : Int32 → ST → Prop} (hw : wp_Txt_append post X a1 a2) : Met l y_Txt_append ws_Txt_append ({ frames := 0, cells := 0, slots := 0, locals := 0 } : Room) (va_Pc [.ref (ad 8), .long a1, .int a2] (fun U => PC dC dI cA ad sz X U)) (va_Qi (fun r (u : ST) => post r u) (fun (u : ST) t => va_P (dC, dI) vwCl (wdC cA ad u) t.heap) (CA ad 125 sz)) 0 0 (CA ad 125 sz) := by
  refine Met.ofW (cc := c_Txt_append) (maxL := 5) (ret := (some .boolean)) (by decide) rfl ?_
  intro p e s m args below meth c s₁ B hml hv
  obtain ⟨rfl, hsz, hP, hG⟩ := hv
  have hx := B.exec
  have hb := B.bytes
  have hr := B.returns
  have hts : ∀ w ∈ GW, w.before (([.ref (ad 8), .long a1, .int a2] : List Value).toArray) s = true := fun w h => atoms_spec (ws := ws_Txt_append) B.pre w (List.mem_cons_of_mem _ h)
  have hown : s.vm.findClass R_Txt = some m.cls := findClass_of_methodNamed B.named
  have hlocks := B.notSynchronized
  subst hsz
  have hK := hG.1
  have hG9 := hG
  have hNW := hG.2.1
  have hD0 : ∀ (X : ST), va_D (CA ad 125 s.heap.size) (wdC cA ad X) := fun _ => zwC_D hI
  have hS : va_S (CA ad 125 s.heap.size) s.heap s.heap [] := va_S.rf
  have hl := lv_entry ([.ref (ad 8), .long a1, .int a2]) (n := 5) (Nat.le_of_ble_eq_true rfl)
  rw [lg_entry_eq]
  generalize (lg_sl ([.ref (ad 8), .long a1, .int a2]) ++ List.replicate (5 - (lg_sl ([.ref (ad 8), .long a1, .int a2])).length) Slot.unset).toArray = ls at hl ⊢
  have hl : lv_has ls 5 [(0, .ref (ad 8)), (1, .long a1), (3, .int a2)] := hl
  have L18 : ∀ (v1 : Int64), ∀ (n : Nat), ∀ (v4 : Int32) (X : ST) (H : Heap) (locs : List Loc) (ls : Array Slot), wq_Txt_append_18 post v1 n v4 X → va_P (dC, dI) vwCl (wdC cA ad X) H → va_S (CA ad 125 s.heap.size) s.heap H locs → lv_has ls 5 [(0, .ref (ad 8)), (1, .long v1), (4, .int v4)] → W p l e (headSpec ws_Txt_append ({ frames := 0, cells := 0, slots := 0, locals := 0 } : Room)).room s m (([.ref (ad 8), .long a1, .int a2] : List Value).toArray) below meth c H locs 0 0 (MQ below (va_Qi (fun r (u : ST) => post r u) (fun (u : ST) t => va_P (dC, dI) vwCl (wdC cA ad u) t.heap) (CA ad 125 s.heap.size)) (([.ref (ad 8), .long a1, .int a2] : List Value).toArray) s 0 0 (CA ad 125 s.heap.size)) (F0 m 18 ls []) := by
    intro v1 n
    induction n with
    | zero => intro v4 X H locs ls hw hP hS hl; exact False.elim hw
    | succ n ih =>
      intro v4 X H locs ls hw hP hS hl
      dsimp only [wq_Txt_append_18] at hw
      refine lv_iload hx hb d_Txt_append_18 (lv_at hl 2 rfl) ?_
      refine lv_if_lt (tgt := 60) hx hb d_Txt_append_20 (by decide) (fun c1 => ?_) (fun c1 => ?_)
      · have hw := hw.1 c1
        refine lv_iconst (v := (1 : Int32)) hx hb d_Txt_append_60 (by decide) ?_
        exact W.zret (v := (1 : Int32)) hx hb hr (by decide) (fun t ht _ => ⟨⟨(1 : Int32), X, rfl, hw, by show va_P _ _ _ t.heap; rw [ht]; exact hP⟩, hS.F ht⟩) hS.2.2 d_Txt_append_61
      · have hw := hw.2 c1
        refine lv_aload_n hx hb d_Txt_append_23 rfl (lv_at hl 0 rfl) ?_
        refine va_get (D := (dC, dI)) (ci := 2) (v := .ref (ad 9)) (C := R_Txt) (T := T_Txt) (N := 2) hx hb hts in_Txt hown hK hP (8) atC_Txt rfl 1 (by decide) (hts _ gw_227) (fun _ h9 => h9) rfl d_Txt_append_24 ?_
        refine lv_aload_n hx hb d_Txt_append_27 rfl (lv_at hl 0 rfl) ?_
        refine va_get (D := (dC, dI)) (ci := 2) (v := .int (X 7 0)) (C := R_Txt) (T := T_Txt) (N := 2) hx hb hts in_Txt hown hK hP (8) atC_Txt rfl 0 (by decide) (hts _ gw_228) (fun _ h9 => h9) rfl d_Txt_append_28 ?_
        refine lv_lload_n hx hb d_Txt_append_31 rfl (lv_at hl 1 rfl) ?_
        refine lv_bipush (v := (8 : Int32)) hx hb d_Txt_append_32 (by decide) ?_
        refine lv_iload hx hb d_Txt_append_34 (lv_at hl 2 rfl) ?_
        refine lv_imul hx hb d_Txt_append_36 ?_
        refine lv_lushr hx hb d_Txt_append_37 rfl ?_
        refine lv_l2i hx hb d_Txt_append_38 rfl ?_
        refine lv_sipush (v := (255 : Int32)) hx hb d_Txt_append_39 (by decide) ?_
        refine lv_iand hx hb d_Txt_append_42 ?_
        obtain ⟨h2, hw⟩ := hw
        refine va_iast hx hb hK hP (hD0 _) hS (9) 6 atC_iTxt rfl h2 d_Txt_append_43 (fun H locs hP _ hS => ?_)
        have hP : va_P (dC, dI) vwCl (wdC cA ad (up X 63 ((X 7 0).toNatClampNeg) ((((v1.toUInt64 >>> (((8 : Int32) * v4).toInt64.toUInt64 &&& Int64.toUInt64 63)).toInt64).toInt32) &&& (255 : Int32)))) H := by rw [← stC_iTxt]; exact hP
        refine lv_aload_n hx hb d_Txt_append_44 rfl (lv_at hl 0 rfl) ?_
        refine lv_dup hx hb d_Txt_append_45 rfl ?_
        refine va_get (D := (dC, dI)) (ci := 2) (v := .int (X 7 0)) (C := R_Txt) (T := T_Txt) (N := 2) hx hb hts in_Txt hown hK hP (8) atC_Txt rfl 0 (by decide) (hts _ gw_228) (fun _ h9 => h9) rfl d_Txt_append_46 ?_
        refine lv_iconst (v := (1 : Int32)) hx hb d_Txt_append_49 (by decide) ?_
        refine lv_iadd hx hb d_Txt_append_50 ?_
        refine va_put (D := (dC, dI)) (ci := 2) (v := .int ((X 7 0) + (1 : Int32))) (ty := .int) (C := R_Txt) (T := T_Txt) (N := 2) hx hb hts in_Txt ty_Txt ty_Txt_ok nm_Txt hown hK hP (hD0 _) hS (8) atC_Txt rfl 0 (by decide) (hts _ gw_228) (fun _ h9 => h9) rfl (by decide +kernel) rfl rfl (Nat.le_of_ble_eq_true rfl) d_Txt_append_51 (fun H locs hP _ hS => ?_)
        have hP : va_P (dC, dI) vwCl (wdC cA ad (up (up X 63 ((X 7 0).toNatClampNeg) ((((v1.toUInt64 >>> (((8 : Int32) * v4).toInt64.toUInt64 &&& Int64.toUInt64 63)).toInt64).toInt32) &&& (255 : Int32))) 7 0 ((X 7 0) + (1 : Int32)))) H := by rw [← stC_Txt_0]; exact hP
        refine lv_iinc (k := 2) (v := v4 + (-1 : Int32)) (lv' := [(4, .int (v4 + (-1 : Int32))), (0, .ref (ad 8)), (1, .long v1)]) hx hb d_Txt_append_54 hl rfl rfl (by decide) rfl (fun ls hl => ?_)
        refine lv_goto (tgt := 18) hx hb d_Txt_append_57 (by decide) ?_
        have hl := lv_sub hl (l' := [(0, .ref (ad 8)), (1, .long v1), (4, .int (v4 + (-1 : Int32)))]) [1, 2, 0] rfl
        exact ih _ _ _ _ _ hw hP hS hl
  unfold wp_Txt_append at hw
  refine lv_iload_n hx hb d_Txt_append_0 rfl (lv_at hl 2 rfl) ?_
  refine lv_bipush (v := (96 : Int32)) hx hb d_Txt_append_1 (by decide) ?_
  refine lv_aload_n hx hb d_Txt_append_3 rfl (lv_at hl 0 rfl) ?_
  refine va_get (D := (dC, dI)) (ci := 2) (v := .int (X 7 0)) (C := R_Txt) (T := T_Txt) (N := 2) hx hb hts in_Txt hown hK hP (8) atC_Txt rfl 0 (by decide) (hts _ gw_228) (fun _ h9 => h9) rfl d_Txt_append_4 ?_
  refine lv_isub hx hb d_Txt_append_7 ?_
  refine lv_icmp_le (tgt := 13) hx hb d_Txt_append_8 (by decide) (fun c3 => ?_) (fun c3 => ?_)
  · have hw := hw.1 c3
    refine lv_iload_n hx hb d_Txt_append_13 rfl (lv_at hl 2 rfl) ?_
    refine lv_iconst (v := (1 : Int32)) hx hb d_Txt_append_14 (by decide) ?_
    refine lv_isub hx hb d_Txt_append_15 ?_
    refine lv_istore (lv' := [(4, .int (a2 - (1 : Int32))), (0, .ref (ad 8)), (1, .long a1), (3, .int a2)]) hx hb d_Txt_append_16 hl (by decide) rfl (fun ls hl => ?_)
    have hl := lv_sub hl (l' := [(0, .ref (ad 8)), (1, .long a1), (4, .int (a2 - (1 : Int32)))]) [1, 2, 0] rfl
    obtain ⟨n9, hw⟩ := hw
    exact L18 _ n9 _ _ _ _ _ hw hP hS hl
  · have hw := hw.2 c3
    refine lv_iconst (v := (0 : Int32)) hx hb d_Txt_append_11 (by decide) ?_
    exact W.zret (v := (0 : Int32)) hx hb hr (by decide) (fun t ht _ => ⟨⟨(0 : Int32), X, rfl, hw, by show va_P _ _ _ t.heap; rw [ht]; exact hP⟩, hS.F ht⟩) hS.2.2 d_Txt_append_12
def ws_CA_feed : List Cond := Cond.code y_CA_feed c_CA_feed 4 (Option.some Jvm.ClassFile.FieldType.boolean) :: GW
theorem d_CA_feed_0 : decode c_CA_feed 0 = .ok (.iload_n 3, 1) := by decide +kernel
theorem d_CA_feed_1 : decode c_CA_feed 1 = .ok (.iconst 1, 1) := by decide +kernel
theorem d_CA_feed_2 : decode c_CA_feed 2 = .ok (.if_icmp .lt 25, 3) := by decide +kernel
theorem d_CA_feed_5 : decode c_CA_feed 5 = .ok (.iload_n 3, 1) := by decide +kernel
theorem d_CA_feed_6 : decode c_CA_feed 6 = .ok (.bipush 8, 2) := by decide +kernel
theorem d_CA_feed_8 : decode c_CA_feed 8 = .ok (.if_icmp .gt 19, 3) := by decide +kernel
theorem d_CA_feed_11 : decode c_CA_feed 11 = .ok (.aload_n 0, 1) := by decide +kernel
theorem d_CA_feed_12 : decode c_CA_feed 12 = .ok (.getfield 49, 3) := by decide +kernel
theorem d_CA_feed_15 : decode c_CA_feed 15 = .ok (.lload_n 1, 1) := by decide +kernel
theorem d_CA_feed_16 : decode c_CA_feed 16 = .ok (.iload_n 3, 1) := by decide +kernel
theorem d_CA_feed_17 : decode c_CA_feed 17 = .ok (.invokevirtual 217, 3) := by decide +kernel
theorem d_CA_feed_20 : decode c_CA_feed 20 = .ok (.ifCond .eq 7, 3) := by decide +kernel
theorem d_CA_feed_23 : decode c_CA_feed 23 = .ok (.iconst 1, 1) := by decide +kernel
theorem d_CA_feed_24 : decode c_CA_feed 24 = .ok (.goto 4, 3) := by decide +kernel
theorem d_CA_feed_27 : decode c_CA_feed 27 = .ok (.iconst 0, 1) := by decide +kernel
theorem d_CA_feed_28 : decode c_CA_feed 28 = .ok (.ireturn, 1) := by decide +kernel
def wp_CA_feed (post : Int32 → ST → Prop) (X : ST) (a1 : Int64) (a2 : Int32) : Prop := ((a2 < (1 : Int32) → post (0 : Int32) X) ∧ (¬ a2 < (1 : Int32) → (((8 : Int32) < a2 → post (0 : Int32) X) ∧ (¬ (8 : Int32) < a2 → wp_Txt_append (fun (r4 : Int32) (X3 : ST) => ((r4 = 0 → post (0 : Int32) X3) ∧ (¬ r4 = 0 → post (1 : Int32) X3))) X a1 a2))))
set_option maxHeartbeats 4000000 in
set_option maxRecDepth 100000 in
theorem mt_CA_feed (l : Launch) (hl9 : l.stackTraces = false) (dC : Nat → ClassId) (dI : Nat → Nat → Nat) (cA : Nat → ClassId) (ad : Nat → Nat) (hI : INJ ad 125) (sz : Nat) {X : ST} {a1 : Int64} {a2 : Int32} {post : Int32 → ST → Prop} (hw : wp_CA_feed post X a1 a2) : Met l y_CA_feed ws_CA_feed ({ frames := 1, cells := 0, slots := 0, locals := 24 } : Room) (va_Pc [.ref (ad 0), .long a1, .int a2] (fun U => PC dC dI cA ad sz X U)) (va_Qi (fun r (u : ST) => post r u) (fun (u : ST) t => va_P (dC, dI) vwCl (wdC cA ad u) t.heap) (CA ad 125 sz)) 0 0 (CA ad 125 sz) := by
  refine Met.ofW (cc := c_CA_feed) (maxL := 4) (ret := (some .boolean)) (by decide) rfl ?_
  intro p e s m args below meth c s₁ B hml hv
  obtain ⟨rfl, hsz, hP, hG⟩ := hv
  have hx := B.exec
  have hb := B.bytes
  have hr := B.returns
  have hts : ∀ w ∈ GW, w.before (([.ref (ad 0), .long a1, .int a2] : List Value).toArray) s = true := fun w h => atoms_spec (ws := ws_CA_feed) B.pre w (List.mem_cons_of_mem _ h)
  have hown : s.vm.findClass R_CA = some m.cls := findClass_of_methodNamed B.named
  have hlocks := B.notSynchronized
  subst hsz
  have hK := hG.1
  have hG9 := hG
  have hNW := hG.2.1
  have hD0 : ∀ (X : ST), va_D (CA ad 125 s.heap.size) (wdC cA ad X) := fun _ => zwC_D hI
  have hS : va_S (CA ad 125 s.heap.size) s.heap s.heap [] := va_S.rf
  have hl := lv_entry ([.ref (ad 0), .long a1, .int a2]) (n := 4) (Nat.le_of_ble_eq_true rfl)
  rw [lg_entry_eq]
  generalize (lg_sl ([.ref (ad 0), .long a1, .int a2]) ++ List.replicate (4 - (lg_sl ([.ref (ad 0), .long a1, .int a2])).length) Slot.unset).toArray = ls at hl ⊢
  have hl : lv_has ls 4 [(0, .ref (ad 0)), (1, .long a1), (3, .int a2)] := hl
  unfold wp_CA_feed at hw
  refine lv_iload_n hx hb d_CA_feed_0 rfl (lv_at hl 2 rfl) ?_
  refine lv_iconst (v := (1 : Int32)) hx hb d_CA_feed_1 (by decide) ?_
  refine lv_icmp_lt (tgt := 27) hx hb d_CA_feed_2 (by decide) (fun c1 => ?_) (fun c1 => ?_)
  · have hw := hw.1 c1
    refine lv_iconst (v := (0 : Int32)) hx hb d_CA_feed_27 (by decide) ?_
    exact W.zret (v := (0 : Int32)) hx hb hr (by decide) (fun t ht _ => ⟨⟨(0 : Int32), X, rfl, hw, by show va_P _ _ _ t.heap; rw [ht]; exact hP⟩, hS.F ht⟩) hS.2.2 d_CA_feed_28
  · have hw := hw.2 c1
    refine lv_iload_n hx hb d_CA_feed_5 rfl (lv_at hl 2 rfl) ?_
    refine lv_bipush (v := (8 : Int32)) hx hb d_CA_feed_6 (by decide) ?_
    refine lv_icmp_gt (tgt := 27) hx hb d_CA_feed_8 (by decide) (fun c2 => ?_) (fun c2 => ?_)
    · have hw := hw.1 c2
      refine lv_iconst (v := (0 : Int32)) hx hb d_CA_feed_27 (by decide) ?_
      exact W.zret (v := (0 : Int32)) hx hb hr (by decide) (fun t ht _ => ⟨⟨(0 : Int32), X, rfl, hw, by show va_P _ _ _ t.heap; rw [ht]; exact hP⟩, hS.F ht⟩) hS.2.2 d_CA_feed_28
    · have hw := hw.2 c2
      refine lv_aload_n hx hb d_CA_feed_11 rfl (lv_at hl 0 rfl) ?_
      refine va_get (D := (dC, dI)) (ci := 0) (v := .ref (ad 8)) (C := R_CA) (T := T_CA) (N := 14) hx hb hts in_CA hown hK hP (0) atC_CA rfl 12 (by decide) (hts _ gw_153) (fun _ h9 => h9) rfl d_CA_feed_12 ?_
      refine lv_lload_n hx hb d_CA_feed_15 rfl (lv_at hl 1 rfl) ?_
      refine lv_iload_n hx hb d_CA_feed_16 rfl (lv_at hl 2 rfl) ?_
      refine va_calli (va_runV (As := [.long a1, .int a2]) (rest := []) ⟨hx, hb, hml, hown, hts⟩ (mt_Txt_append l hl9 dC dI cA ad hI _ hw) (cwV 2 hts (gV gw_230 gw_231 gw_232 gw_233 gw_229) rfl rfl rfl (by decide +kernel) ⟨Nat.le_of_ble_eq_true rfl, Nat.le_of_ble_eq_true rfl⟩) ⟨zwC_blind, va_recv hK hP (ci := 2) (q0 := 8) rfl atC_Txt, zwC_pre hP hS hG9⟩ rfl rfl hl.1 rfl (lv_room (Nat.le_of_ble_eq_true rfl)) d_CA_feed_17 ⟨Nat.le_of_ble_eq_true rfl, Nat.le_of_ble_eq_true rfl⟩) hS (fun q _ h => CA_le hS.1 q h) (fun q h => CA_le hS.1 q h) (fun r4 X3 t H locs ht hvm hw hP hz1 hk1 hS => ?_)
      have hP : va_P (dC, dI) vwCl (wdC cA ad X3) H := by rw [← ht]; exact hP
      try dsimp only at hw
      refine lv_if_eq (tgt := 27) hx hb d_CA_feed_20 (by decide) (fun c5 => ?_) (fun c5 => ?_)
      · have hw := hw.1 c5
        refine lv_iconst (v := (0 : Int32)) hx hb d_CA_feed_27 (by decide) ?_
        exact W.zret (v := (0 : Int32)) hx hb hr (by decide) (fun t ht _ => ⟨⟨(0 : Int32), X3, rfl, hw, by show va_P _ _ _ t.heap; rw [ht]; exact hP⟩, hS.F ht⟩) hS.2.2 d_CA_feed_28
      · have hw := hw.2 c5
        refine lv_iconst (v := (1 : Int32)) hx hb d_CA_feed_23 (by decide) ?_
        refine lv_goto (tgt := 28) hx hb d_CA_feed_24 (by decide) ?_
        exact W.zret (v := (1 : Int32)) hx hb hr (by decide) (fun t ht _ => ⟨⟨(1 : Int32), X3, rfl, hw, by show va_P _ _ _ t.heap; rw [ht]; exact hP⟩, hS.F ht⟩) hS.2.2 d_CA_feed_28
def ws_CA_clear : List Cond := Cond.code y_CA_clear c_CA_clear 2 (Option.some Jvm.ClassFile.FieldType.int) :: GW
theorem d_CA_clear_0 : decode c_CA_clear 0 = .ok (.aload_n 0, 1) := by decide +kernel
theorem d_CA_clear_1 : decode c_CA_clear 1 = .ok (.getfield 49, 3) := by decide +kernel
theorem d_CA_clear_4 : decode c_CA_clear 4 = .ok (.getfield 221, 3) := by decide +kernel
theorem d_CA_clear_7 : decode c_CA_clear 7 = .ok (.istore_n 1, 1) := by decide +kernel
theorem d_CA_clear_8 : decode c_CA_clear 8 = .ok (.aload_n 0, 1) := by decide +kernel
theorem d_CA_clear_9 : decode c_CA_clear 9 = .ok (.getfield 49, 3) := by decide +kernel
theorem d_CA_clear_12 : decode c_CA_clear 12 = .ok (.iconst 0, 1) := by decide +kernel
theorem d_CA_clear_13 : decode c_CA_clear 13 = .ok (.putfield 221, 3) := by decide +kernel
theorem d_CA_clear_16 : decode c_CA_clear 16 = .ok (.iload_n 1, 1) := by decide +kernel
theorem d_CA_clear_17 : decode c_CA_clear 17 = .ok (.ireturn, 1) := by decide +kernel
def wp_CA_clear (post : Int32 → ST → Prop) (X : ST) : Prop := post (X 7 0) (up X 7 0 (0 : Int32))
set_option maxHeartbeats 4000000 in
set_option maxRecDepth 100000 in
theorem mt_CA_clear (l : Launch) (hl9 : l.stackTraces = false) (dC : Nat → ClassId) (dI : Nat → Nat → Nat) (cA : Nat → ClassId) (ad : Nat → Nat) (hI : INJ ad 125) (sz : Nat) {X : ST} {post : Int32 → ST → Prop} (hw : wp_CA_clear post X) : Met l y_CA_clear ws_CA_clear ({ frames := 0, cells := 0, slots := 0, locals := 0 } : Room) (va_Pc [.ref (ad 0)] (fun U => PC dC dI cA ad sz X U)) (va_Qi (fun r (u : ST) => post r u) (fun (u : ST) t => va_P (dC, dI) vwCl (wdC cA ad u) t.heap) (CA ad 125 sz)) 0 0 (CA ad 125 sz) := by
  refine Met.ofW (cc := c_CA_clear) (maxL := 2) (ret := (some .int)) (by decide) rfl ?_
  intro p e s m args below meth c s₁ B hml hv
  obtain ⟨rfl, hsz, hP, hG⟩ := hv
  have hx := B.exec
  have hb := B.bytes
  have hr := B.returns
  have hts : ∀ w ∈ GW, w.before (([.ref (ad 0)] : List Value).toArray) s = true := fun w h => atoms_spec (ws := ws_CA_clear) B.pre w (List.mem_cons_of_mem _ h)
  have hown : s.vm.findClass R_CA = some m.cls := findClass_of_methodNamed B.named
  have hlocks := B.notSynchronized
  subst hsz
  have hK := hG.1
  have hG9 := hG
  have hNW := hG.2.1
  have hD0 : ∀ (X : ST), va_D (CA ad 125 s.heap.size) (wdC cA ad X) := fun _ => zwC_D hI
  have hS : va_S (CA ad 125 s.heap.size) s.heap s.heap [] := va_S.rf
  have hl := lv_entry ([.ref (ad 0)]) (n := 2) (Nat.le_of_ble_eq_true rfl)
  rw [lg_entry_eq]
  generalize (lg_sl ([.ref (ad 0)]) ++ List.replicate (2 - (lg_sl ([.ref (ad 0)])).length) Slot.unset).toArray = ls at hl ⊢
  have hl : lv_has ls 2 [(0, .ref (ad 0))] := hl
  unfold wp_CA_clear at hw
  refine lv_aload_n hx hb d_CA_clear_0 rfl (lv_at hl 0 rfl) ?_
  refine va_get (D := (dC, dI)) (ci := 0) (v := .ref (ad 8)) (C := R_CA) (T := T_CA) (N := 14) hx hb hts in_CA hown hK hP (0) atC_CA rfl 12 (by decide) (hts _ gw_153) (fun _ h9 => h9) rfl d_CA_clear_1 ?_
  refine va_get (D := (dC, dI)) (ci := 2) (v := .int (X 7 0)) (C := R_Txt) (T := T_Txt) (N := 2) hx hb hts in_Txt hown hK hP (8) atC_Txt rfl 0 (by decide) (hts _ gw_154) (fun _ h9 => h9) rfl d_CA_clear_4 ?_
  refine lv_istore_n (lv' := [(1, .int (X 7 0)), (0, .ref (ad 0))]) hx hb d_CA_clear_7 rfl hl (by decide) rfl (fun ls hl => ?_)
  refine lv_aload_n hx hb d_CA_clear_8 rfl (lv_at hl 1 rfl) ?_
  refine va_get (D := (dC, dI)) (ci := 0) (v := .ref (ad 8)) (C := R_CA) (T := T_CA) (N := 14) hx hb hts in_CA hown hK hP (0) atC_CA rfl 12 (by decide) (hts _ gw_153) (fun _ h9 => h9) rfl d_CA_clear_9 ?_
  refine lv_iconst (v := (0 : Int32)) hx hb d_CA_clear_12 (by decide) ?_
  refine va_put (D := (dC, dI)) (ci := 2) (v := .int (0 : Int32)) (ty := .int) (C := R_Txt) (T := T_Txt) (N := 2) hx hb hts in_Txt ty_Txt ty_Txt_ok nm_Txt hown hK hP (hD0 _) hS (8) atC_Txt rfl 0 (by decide) (hts _ gw_154) (fun _ h9 => h9) rfl (by decide +kernel) rfl rfl (Nat.le_of_ble_eq_true rfl) d_CA_clear_13 (fun H locs hP _ hS => ?_)
  have hP : va_P (dC, dI) vwCl (wdC cA ad (up X 7 0 (0 : Int32))) H := by rw [← stC_Txt_0]; exact hP
  refine lv_iload_n hx hb d_CA_clear_16 rfl (lv_at hl 0 rfl) ?_
  exact W.iret (v := X 7 0) hx hb hr (fun t ht _ => ⟨⟨X 7 0, up X 7 0 (0 : Int32), rfl, hw, by show va_P _ _ _ t.heap; rw [ht]; exact hP⟩, hS.F ht⟩) hS.2.2 d_CA_clear_17
