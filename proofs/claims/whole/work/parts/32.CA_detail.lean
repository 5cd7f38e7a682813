def ws_CA_detail : List Cond := Cond.code y_CA_detail c_CA_detail 4 (Option.some Jvm.ClassFile.FieldType.int) :: GW
theorem d_CA_detail_0 : decode c_CA_detail 0 = .ok (.aload_n 0, 1) := by decide +kernel
theorem d_CA_detail_1 : decode c_CA_detail 1 = .ok (.iload_n 1, 1) := by decide +kernel
theorem d_CA_detail_2 : decode c_CA_detail 2 = .ok (.iload_n 2, 1) := by decide +kernel
theorem d_CA_detail_3 : decode c_CA_detail 3 = .ok (.invokevirtual 235, 3) := by decide +kernel
theorem d_CA_detail_6 : decode c_CA_detail 6 = .ok (.iload_n 1, 1) := by decide +kernel
theorem d_CA_detail_7 : decode c_CA_detail 7 = .ok (.tableswitch 69 0 3 #[29, 36, 47, 58], 29) := by decide +kernel
theorem d_CA_detail_36 : decode c_CA_detail 36 = .ok (.aload_n 0, 1) := by decide +kernel
theorem d_CA_detail_37 : decode c_CA_detail 37 = .ok (.iload_n 2, 1) := by decide +kernel
theorem d_CA_detail_38 : decode c_CA_detail 38 = .ok (.iload_n 3, 1) := by decide +kernel
theorem d_CA_detail_39 : decode c_CA_detail 39 = .ok (.invokevirtual 239, 3) := by decide +kernel
theorem d_CA_detail_42 : decode c_CA_detail 42 = .ok (.ireturn, 1) := by decide +kernel
theorem d_CA_detail_43 : decode c_CA_detail 43 = .ok (.aload_n 0, 1) := by decide +kernel
theorem d_CA_detail_44 : decode c_CA_detail 44 = .ok (.getfield 17, 3) := by decide +kernel
theorem d_CA_detail_47 : decode c_CA_detail 47 = .ok (.iload_n 2, 1) := by decide +kernel
theorem d_CA_detail_48 : decode c_CA_detail 48 = .ok (.aaload, 1) := by decide +kernel
theorem d_CA_detail_49 : decode c_CA_detail 49 = .ok (.iload_n 3, 1) := by decide +kernel
theorem d_CA_detail_50 : decode c_CA_detail 50 = .ok (.invokevirtual 242, 3) := by decide +kernel
theorem d_CA_detail_53 : decode c_CA_detail 53 = .ok (.ireturn, 1) := by decide +kernel
theorem d_CA_detail_54 : decode c_CA_detail 54 = .ok (.aload_n 0, 1) := by decide +kernel
theorem d_CA_detail_55 : decode c_CA_detail 55 = .ok (.getfield 23, 3) := by decide +kernel
theorem d_CA_detail_58 : decode c_CA_detail 58 = .ok (.iload_n 2, 1) := by decide +kernel
theorem d_CA_detail_59 : decode c_CA_detail 59 = .ok (.aaload, 1) := by decide +kernel
theorem d_CA_detail_60 : decode c_CA_detail 60 = .ok (.iload_n 3, 1) := by decide +kernel
theorem d_CA_detail_61 : decode c_CA_detail 61 = .ok (.invokevirtual 245, 3) := by decide +kernel
theorem d_CA_detail_64 : decode c_CA_detail 64 = .ok (.ireturn, 1) := by decide +kernel
theorem d_CA_detail_65 : decode c_CA_detail 65 = .ok (.aload_n 0, 1) := by decide +kernel
theorem d_CA_detail_66 : decode c_CA_detail 66 = .ok (.getfield 29, 3) := by decide +kernel
theorem d_CA_detail_69 : decode c_CA_detail 69 = .ok (.iload_n 2, 1) := by decide +kernel
theorem d_CA_detail_70 : decode c_CA_detail 70 = .ok (.aaload, 1) := by decide +kernel
theorem d_CA_detail_71 : decode c_CA_detail 71 = .ok (.iload_n 3, 1) := by decide +kernel
theorem d_CA_detail_72 : decode c_CA_detail 72 = .ok (.invokevirtual 246, 3) := by decide +kernel
theorem d_CA_detail_75 : decode c_CA_detail 75 = .ok (.ireturn, 1) := by decide +kernel
theorem d_CA_detail_76 : decode c_CA_detail 76 = .ok (.aload_n 0, 1) := by decide +kernel
theorem d_CA_detail_77 : decode c_CA_detail 77 = .ok (.getfield 35, 3) := by decide +kernel
theorem d_CA_detail_80 : decode c_CA_detail 80 = .ok (.iload_n 2, 1) := by decide +kernel
theorem d_CA_detail_81 : decode c_CA_detail 81 = .ok (.aaload, 1) := by decide +kernel
theorem d_CA_detail_82 : decode c_CA_detail 82 = .ok (.iload_n 3, 1) := by decide +kernel
theorem d_CA_detail_83 : decode c_CA_detail 83 = .ok (.invokevirtual 247, 3) := by decide +kernel
theorem d_CA_detail_86 : decode c_CA_detail 86 = .ok (.ireturn, 1) := by decide +kernel
def wp_CA_detail (post : Int32 → ST → Prop) (px : String → ST → Prop) (X : ST) (a1 : Int32) (a2 : Int32) (a3 : Int32) : Prop := wp_CA_requireThere (fun (X1 : ST) => ((a1 < (0 : Int32) → (vp_in a2 12 ∧ wp_Cer_told (fun (r7 : Int32) (X6 : ST) => post r7 X6) X1 a2.toNatClampNeg a3)) ∧ (¬ a1 < (0 : Int32) → (((3 : Int32) < a1 → (vp_in a2 12 ∧ wp_Cer_told (fun (r10 : Int32) (X9 : ST) => post r10 X9) X1 a2.toNatClampNeg a3)) ∧ (¬ (3 : Int32) < a1 → ((a1 = (0 : Int32) → wp_CA_accountDetail (fun (r13 : Int32) (X12 : ST) => post r13 X12) X1 a2 a3) ∧ (¬ a1 = (0 : Int32) → ((a1 = (1 : Int32) → (vp_in a2 12 ∧ wp_Ord_told (fun (r17 : Int32) (X16 : ST) => post r17 X16) X1 a2.toNatClampNeg a3)) ∧ (¬ a1 = (1 : Int32) → ((a1 = (2 : Int32) → (vp_in a2 24 ∧ wp_Aut_told (fun (r21 : Int32) (X20 : ST) => post r21 X20) X1 a2.toNatClampNeg a3)) ∧ (¬ a1 = (2 : Int32) → ((a1 = (3 : Int32) → (vp_in a2 48 ∧ wp_Cha_told (fun (r25 : Int32) (X24 : ST) => post r25 X24) X1 a2.toNatClampNeg a3)) ∧ (¬ a1 = (3 : Int32) → False))))))))))))) px X a1 a2
set_option maxHeartbeats 4000000 in
set_option maxRecDepth 100000 in
theorem mt_CA_detail (l : Launch) (hl9 : l.stackTraces = false) (dC : Nat → ClassId) (dI : Nat → Nat → Nat) (cA : Nat → ClassId) (ad : Nat → Nat) (hI : INJ ad 125) (sz : Nat) {X : ST} {a1 : Int32} {a2 : Int32} {a3 : Int32} {post : Int32 → ST → Prop} {px : String → ST → Prop} (hw : wp_CA_detail post px X a1 a2 a3) : xt_Met l y_CA_detail ws_CA_detail ({ frames := 7, cells := 1, slots := 6, locals := 113 } : Room) (va_Pc [.ref (ad 0), .int a1, .int a2, .int a3] (fun U => PC dC dI cA ad sz X U)) (va_Qi (fun r (u : ST) => post r u) (fun (u : ST) t => va_P (dC, dI) vwCl (wdC cA ad u) t.heap) (CA ad 125 sz)) (xt_X (fun (u : String × ST) => px u.1 u.2) (fun E (u : String × ST) t => u.1 = E ∧ va_P (dC, dI) vwCl (wdC cA ad u.2) t.heap) (CA ad 125 sz)) 1 6 (CA ad 125 sz) := by
  refine xt_ofW (cc := c_CA_detail) (maxL := 4) (ret := (some .int)) (by decide) rfl ?_
  intro p e s m args below meth c s₁ B hml hEx hv
  obtain ⟨rfl, hsz, hP, hG⟩ := hv
  have hx := B.exec
  have hb := B.bytes
  have hr := B.returns
  have hts : ∀ w ∈ GW, w.before (([.ref (ad 0), .int a1, .int a2, .int a3] : List Value).toArray) s = true := fun w h => atoms_spec (ws := ws_CA_detail) B.pre w (List.mem_cons_of_mem _ h)
  have hown : s.vm.findClass R_CA = some m.cls := findClass_of_methodNamed B.named
  have hlocks := B.notSynchronized
  subst hsz
  have hK := hG.1
  have hG9 := hG
  have hNW := hG.2.1
  have hD0 : ∀ (X : ST), va_D (CA ad 125 s.heap.size) (wdC cA ad X) := fun _ => zwC_D hI
  have hS : va_S (CA ad 125 s.heap.size) s.heap s.heap [] := va_S.rf
  have hl := lv_entry ([.ref (ad 0), .int a1, .int a2, .int a3]) (n := 4) (Nat.le_of_ble_eq_true rfl)
  rw [lg_entry_eq]
  generalize (lg_sl ([.ref (ad 0), .int a1, .int a2, .int a3]) ++ List.replicate (4 - (lg_sl ([.ref (ad 0), .int a1, .int a2, .int a3])).length) Slot.unset).toArray = ls at hl ⊢
  have hl : lv_has ls 4 [(0, .ref (ad 0)), (1, .int a1), (2, .int a2), (3, .int a3)] := hl
  unfold wp_CA_detail at hw
  refine lv_aload_n hx hb d_CA_detail_0 rfl (lv_at hl 0 rfl) ?_
  refine lv_iload_n hx hb d_CA_detail_1 rfl (lv_at hl 1 rfl) ?_
  refine lv_iload_n hx hb d_CA_detail_2 rfl (lv_at hl 2 rfl) ?_
  refine xt_callv (xt_runV (As := [.int a1, .int a2]) (rest := []) ⟨hx, hb, hml, hown, hts⟩ (mt_CA_requireThere l hl9 dC dI cA ad hI _ hw) (cwV 2 hts (gV gw_252 gw_253 gw_254 gw_13 gw_251) rfl rfl rfl (by decide +kernel) ⟨Nat.le_of_ble_eq_true rfl, Nat.le_of_ble_eq_true rfl⟩) ⟨zwC_blind, va_recv hK hP (ci := 0) (q0 := 0) rfl atC_CA, zwC_pre hP hS hG9⟩ rfl rfl hl.1 rfl (lv_room (Nat.le_of_ble_eq_true rfl)) d_CA_detail_3 ⟨Nat.le_of_ble_eq_true rfl, Nat.le_of_ble_eq_true rfl⟩) hS (fun q _ h => CA_le hS.1 q h) (fun q h => CA_le hS.1 q h) (fun q _ h => CA_le hS.1 q h) (fun E ce q9 u9 t H locs ht ha hw hB hz1 hk1 hS hce hcv hcl => ?_) (fun X1 t H locs ht hvm hw hP hz1 hk1 hS => ?_)
  · obtain ⟨E9, X9⟩ := u9
    obtain ⟨rfl, hP⟩ := hB
    exact xt_out (E := E9) (fun x hx => (hEx x hx).elim) hlocks hce hcv hcl (fun t9 ht9 ha9 => ⟨(E9, X9), hw, ⟨rfl, by show va_P _ _ _ t9.heap; rw [ht9, ← ht]; exact hP⟩, hS.F ht9⟩) hS.2.2 (Nat.le_of_ble_eq_true rfl) (Nat.le_of_ble_eq_true rfl)
  have hP : va_P (dC, dI) vwCl (wdC cA ad X1) H := by rw [← ht]; exact hP
  try dsimp only at hw
  refine lv_iload_n hx hb d_CA_detail_6 rfl (lv_at hl 1 rfl) ?_
  by_cases c3 : a1 < (0 : Int32)
  · have hw := hw.1 c3
    refine lv_tableOut (tgt := 76) hx hb d_CA_detail_7 (Or.inl (by have q := Int32.lt_iff_toInt_lt.mp c3; exact q)) (by decide) ?_
    refine lv_aload_n hx hb d_CA_detail_76 rfl (lv_at hl 0 rfl) ?_
    refine va_get (D := (dC, dI)) (ci := 0) (v := .ref (ad 5)) (C := R_CA) (T := T_CA) (N := 14) hx hb hts in_CA hown hK hP (0) atC_CA rfl 10 (by decide) (hts _ gw_191) (fun _ h9 => h9) rfl d_CA_detail_77 ?_
    refine lv_iload_n hx hb d_CA_detail_80 rfl (lv_at hl 2 rfl) ?_
    obtain ⟨h5, hw⟩ := hw
    refine va_aldq hx hb hK hP (5) 4 atC_aCer rfl h5 d_CA_detail_81 ?_
    refine W.eq (g2 := F0 m 82 ls [.ref (ad (113 + a2.toNatClampNeg))]) rfl ?_
    refine lv_iload_n hx hb d_CA_detail_82 rfl (lv_at hl 3 rfl) ?_
    refine va_calli (va_runV (As := [.int a3]) (rest := []) ⟨hx, hb, hml, hown, hts⟩ (mt_Cer_told l hl9 dC dI cA ad hI _ hw) (cwV 1 hts (gV gw_276 gw_277 gw_278 gw_279 gw_275) rfl rfl rfl (by decide +kernel) ⟨Nat.le_of_ble_eq_true rfl, Nat.le_of_ble_eq_true rfl⟩) ⟨zwC_blind, va_recv hK hP (ci := 8) (q0 := 113 + a2.toNatClampNeg) rfl (atC_Cer (zw_lt h5)), zwC_pre hP hS hG9⟩ rfl rfl hl.1 rfl (lv_room (Nat.le_of_ble_eq_true rfl)) d_CA_detail_83 ⟨Nat.le_of_ble_eq_true rfl, Nat.le_of_ble_eq_true rfl⟩) hS (fun q _ h => CA_le hS.1 q h) (fun q h => CA_le hS.1 q h) (fun r7 X6 t H locs ht hvm hw hP hz1 hk1 hS => ?_)
    have hP : va_P (dC, dI) vwCl (wdC cA ad X6) H := by rw [← ht]; exact hP
    try dsimp only at hw
    refine xt_ret ?_
    exact W.iret (v := r7) hx hb hr (fun t ht _ => ⟨⟨r7, X6, rfl, hw, by show va_P _ _ _ t.heap; rw [ht]; exact hP⟩, hS.F ht⟩) hS.2.2 d_CA_detail_86
  have hw := hw.2 c3
  by_cases c4 : (3 : Int32) < a1
  · have hw := hw.1 c4
    refine lv_tableOut (tgt := 76) hx hb d_CA_detail_7 (Or.inr (by have q := Int32.lt_iff_toInt_lt.mp c4; exact q)) (by decide) ?_
    refine lv_aload_n hx hb d_CA_detail_76 rfl (lv_at hl 0 rfl) ?_
    refine va_get (D := (dC, dI)) (ci := 0) (v := .ref (ad 5)) (C := R_CA) (T := T_CA) (N := 14) hx hb hts in_CA hown hK hP (0) atC_CA rfl 10 (by decide) (hts _ gw_191) (fun _ h9 => h9) rfl d_CA_detail_77 ?_
    refine lv_iload_n hx hb d_CA_detail_80 rfl (lv_at hl 2 rfl) ?_
    obtain ⟨h8, hw⟩ := hw
    refine va_aldq hx hb hK hP (5) 4 atC_aCer rfl h8 d_CA_detail_81 ?_
    refine W.eq (g2 := F0 m 82 ls [.ref (ad (113 + a2.toNatClampNeg))]) rfl ?_
    refine lv_iload_n hx hb d_CA_detail_82 rfl (lv_at hl 3 rfl) ?_
    refine va_calli (va_runV (As := [.int a3]) (rest := []) ⟨hx, hb, hml, hown, hts⟩ (mt_Cer_told l hl9 dC dI cA ad hI _ hw) (cwV 1 hts (gV gw_276 gw_277 gw_278 gw_279 gw_275) rfl rfl rfl (by decide +kernel) ⟨Nat.le_of_ble_eq_true rfl, Nat.le_of_ble_eq_true rfl⟩) ⟨zwC_blind, va_recv hK hP (ci := 8) (q0 := 113 + a2.toNatClampNeg) rfl (atC_Cer (zw_lt h8)), zwC_pre hP hS hG9⟩ rfl rfl hl.1 rfl (lv_room (Nat.le_of_ble_eq_true rfl)) d_CA_detail_83 ⟨Nat.le_of_ble_eq_true rfl, Nat.le_of_ble_eq_true rfl⟩) hS (fun q _ h => CA_le hS.1 q h) (fun q h => CA_le hS.1 q h) (fun r10 X9 t H locs ht hvm hw hP hz1 hk1 hS => ?_)
    have hP : va_P (dC, dI) vwCl (wdC cA ad X9) H := by rw [← ht]; exact hP
    try dsimp only at hw
    refine xt_ret ?_
    exact W.iret (v := r10) hx hb hr (fun t ht _ => ⟨⟨r10, X9, rfl, hw, by show va_P _ _ _ t.heap; rw [ht]; exact hP⟩, hS.F ht⟩) hS.2.2 d_CA_detail_86
  have hw := hw.2 c4
  by_cases c11 : a1 = (0 : Int32)
  · have hw := hw.1 c11
    refine lv_tableIn (off := 29) (tgt := 36) hx hb d_CA_detail_7 (by rw [c11]; decide) (by rw [c11]; decide) (by rw [c11]; decide) (by decide) ?_
    refine lv_aload_n hx hb d_CA_detail_36 rfl (lv_at hl 0 rfl) ?_
    refine lv_iload_n hx hb d_CA_detail_37 rfl (lv_at hl 2 rfl) ?_
    refine lv_iload_n hx hb d_CA_detail_38 rfl (lv_at hl 3 rfl) ?_
    refine va_calli (va_runV (As := [.int a2, .int a3]) (rest := []) ⟨hx, hb, hml, hown, hts⟩ (mt_CA_accountDetail l hl9 dC dI cA ad hI _ hw) (cwV 2 hts (gV gw_281 gw_282 gw_283 gw_13 gw_280) rfl rfl rfl (by decide +kernel) ⟨Nat.le_of_ble_eq_true rfl, Nat.le_of_ble_eq_true rfl⟩) ⟨zwC_blind, va_recv hK hP (ci := 0) (q0 := 0) rfl atC_CA, zwC_pre hP hS hG9⟩ rfl rfl hl.1 rfl (lv_room (Nat.le_of_ble_eq_true rfl)) d_CA_detail_39 ⟨Nat.le_of_ble_eq_true rfl, Nat.le_of_ble_eq_true rfl⟩) hS (fun q _ h => CA_le hS.1 q h) (fun q h => CA_le hS.1 q h) (fun r13 X12 t H locs ht hvm hw hP hz1 hk1 hS => ?_)
    have hP : va_P (dC, dI) vwCl (wdC cA ad X12) H := by rw [← ht]; exact hP
    try dsimp only at hw
    refine xt_ret ?_
    exact W.iret (v := r13) hx hb hr (fun t ht _ => ⟨⟨r13, X12, rfl, hw, by show va_P _ _ _ t.heap; rw [ht]; exact hP⟩, hS.F ht⟩) hS.2.2 d_CA_detail_42
  have hw := hw.2 c11
  by_cases c14 : a1 = (1 : Int32)
  · have hw := hw.1 c14
    refine lv_tableIn (off := 36) (tgt := 43) hx hb d_CA_detail_7 (by rw [c14]; decide) (by rw [c14]; decide) (by rw [c14]; decide) (by decide) ?_
    refine lv_aload_n hx hb d_CA_detail_43 rfl (lv_at hl 0 rfl) ?_
    refine va_get (D := (dC, dI)) (ci := 0) (v := .ref (ad 2)) (C := R_CA) (T := T_CA) (N := 14) hx hb hts in_CA hown hK hP (0) atC_CA rfl 7 (by decide) (hts _ gw_102) (fun _ h9 => h9) rfl d_CA_detail_44 ?_
    refine lv_iload_n hx hb d_CA_detail_47 rfl (lv_at hl 2 rfl) ?_
    obtain ⟨h15, hw⟩ := hw
    refine va_aldq hx hb hK hP (2) 1 atC_aOrd rfl h15 d_CA_detail_48 ?_
    refine W.eq (g2 := F0 m 49 ls [.ref (ad (17 + a2.toNatClampNeg))]) rfl ?_
    refine lv_iload_n hx hb d_CA_detail_49 rfl (lv_at hl 3 rfl) ?_
    refine va_calli (va_runV (As := [.int a3]) (rest := []) ⟨hx, hb, hml, hown, hts⟩ (mt_Ord_told l hl9 dC dI cA ad hI _ hw) (cwV 1 hts (gV gw_285 gw_286 gw_287 gw_96 gw_284) rfl rfl rfl (by decide +kernel) ⟨Nat.le_of_ble_eq_true rfl, Nat.le_of_ble_eq_true rfl⟩) ⟨zwC_blind, va_recv hK hP (ci := 5) (q0 := 17 + a2.toNatClampNeg) rfl (atC_Ord (zw_lt h15)), zwC_pre hP hS hG9⟩ rfl rfl hl.1 rfl (lv_room (Nat.le_of_ble_eq_true rfl)) d_CA_detail_50 ⟨Nat.le_of_ble_eq_true rfl, Nat.le_of_ble_eq_true rfl⟩) hS (fun q _ h => CA_le hS.1 q h) (fun q h => CA_le hS.1 q h) (fun r17 X16 t H locs ht hvm hw hP hz1 hk1 hS => ?_)
    have hP : va_P (dC, dI) vwCl (wdC cA ad X16) H := by rw [← ht]; exact hP
    try dsimp only at hw
    refine xt_ret ?_
    exact W.iret (v := r17) hx hb hr (fun t ht _ => ⟨⟨r17, X16, rfl, hw, by show va_P _ _ _ t.heap; rw [ht]; exact hP⟩, hS.F ht⟩) hS.2.2 d_CA_detail_53
  have hw := hw.2 c14
  by_cases c18 : a1 = (2 : Int32)
  · have hw := hw.1 c18
    refine lv_tableIn (off := 47) (tgt := 54) hx hb d_CA_detail_7 (by rw [c18]; decide) (by rw [c18]; decide) (by rw [c18]; decide) (by decide) ?_
    refine lv_aload_n hx hb d_CA_detail_54 rfl (lv_at hl 0 rfl) ?_
    refine va_get (D := (dC, dI)) (ci := 0) (v := .ref (ad 3)) (C := R_CA) (T := T_CA) (N := 14) hx hb hts in_CA hown hK hP (0) atC_CA rfl 8 (by decide) (hts _ gw_75) (fun _ h9 => h9) rfl d_CA_detail_55 ?_
    refine lv_iload_n hx hb d_CA_detail_58 rfl (lv_at hl 2 rfl) ?_
    obtain ⟨h19, hw⟩ := hw
    refine va_aldq hx hb hK hP (3) 2 atC_aAut rfl h19 d_CA_detail_59 ?_
    refine W.eq (g2 := F0 m 60 ls [.ref (ad (41 + a2.toNatClampNeg))]) rfl ?_
    refine lv_iload_n hx hb d_CA_detail_60 rfl (lv_at hl 3 rfl) ?_
    refine va_calli (va_runV (As := [.int a3]) (rest := []) ⟨hx, hb, hml, hown, hts⟩ (mt_Aut_told l hl9 dC dI cA ad hI _ hw) (cwV 1 hts (gV gw_289 gw_290 gw_291 gw_115 gw_288) rfl rfl rfl (by decide +kernel) ⟨Nat.le_of_ble_eq_true rfl, Nat.le_of_ble_eq_true rfl⟩) ⟨zwC_blind, va_recv hK hP (ci := 6) (q0 := 41 + a2.toNatClampNeg) rfl (atC_Aut (zw_lt h19)), zwC_pre hP hS hG9⟩ rfl rfl hl.1 rfl (lv_room (Nat.le_of_ble_eq_true rfl)) d_CA_detail_61 ⟨Nat.le_of_ble_eq_true rfl, Nat.le_of_ble_eq_true rfl⟩) hS (fun q _ h => CA_le hS.1 q h) (fun q h => CA_le hS.1 q h) (fun r21 X20 t H locs ht hvm hw hP hz1 hk1 hS => ?_)
    have hP : va_P (dC, dI) vwCl (wdC cA ad X20) H := by rw [← ht]; exact hP
    try dsimp only at hw
    refine xt_ret ?_
    exact W.iret (v := r21) hx hb hr (fun t ht _ => ⟨⟨r21, X20, rfl, hw, by show va_P _ _ _ t.heap; rw [ht]; exact hP⟩, hS.F ht⟩) hS.2.2 d_CA_detail_64
  have hw := hw.2 c18
  by_cases c22 : a1 = (3 : Int32)
  · have hw := hw.1 c22
    refine lv_tableIn (off := 58) (tgt := 65) hx hb d_CA_detail_7 (by rw [c22]; decide) (by rw [c22]; decide) (by rw [c22]; decide) (by decide) ?_
    refine lv_aload_n hx hb d_CA_detail_65 rfl (lv_at hl 0 rfl) ?_
    refine va_get (D := (dC, dI)) (ci := 0) (v := .ref (ad 4)) (C := R_CA) (T := T_CA) (N := 14) hx hb hts in_CA hown hK hP (0) atC_CA rfl 9 (by decide) (hts _ gw_87) (fun _ h9 => h9) rfl d_CA_detail_66 ?_
    refine lv_iload_n hx hb d_CA_detail_69 rfl (lv_at hl 2 rfl) ?_
    obtain ⟨h23, hw⟩ := hw
    refine va_aldq hx hb hK hP (4) 3 atC_aCha rfl h23 d_CA_detail_70 ?_
    refine W.eq (g2 := F0 m 71 ls [.ref (ad (65 + a2.toNatClampNeg))]) rfl ?_
    refine lv_iload_n hx hb d_CA_detail_71 rfl (lv_at hl 3 rfl) ?_
    refine va_calli (va_runV (As := [.int a3]) (rest := []) ⟨hx, hb, hml, hown, hts⟩ (mt_Cha_told l hl9 dC dI cA ad hI _ hw) (cwV 1 hts (gV gw_293 gw_294 gw_295 gw_296 gw_292) rfl rfl rfl (by decide +kernel) ⟨Nat.le_of_ble_eq_true rfl, Nat.le_of_ble_eq_true rfl⟩) ⟨zwC_blind, va_recv hK hP (ci := 7) (q0 := 65 + a2.toNatClampNeg) rfl (atC_Cha (zw_lt h23)), zwC_pre hP hS hG9⟩ rfl rfl hl.1 rfl (lv_room (Nat.le_of_ble_eq_true rfl)) d_CA_detail_72 ⟨Nat.le_of_ble_eq_true rfl, Nat.le_of_ble_eq_true rfl⟩) hS (fun q _ h => CA_le hS.1 q h) (fun q h => CA_le hS.1 q h) (fun r25 X24 t H locs ht hvm hw hP hz1 hk1 hS => ?_)
    have hP : va_P (dC, dI) vwCl (wdC cA ad X24) H := by rw [← ht]; exact hP
    try dsimp only at hw
    refine xt_ret ?_
    exact W.iret (v := r25) hx hb hr (fun t ht _ => ⟨⟨r25, X24, rfl, hw, by show va_P _ _ _ t.heap; rw [ht]; exact hP⟩, hS.F ht⟩) hS.2.2 d_CA_detail_75
  have hw := hw.2 c22
  exact hw.elim
