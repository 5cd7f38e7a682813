def ws_Ord_authorizationTold : List Cond := Cond.code y_Ord_authorizationTold c_Ord_authorizationTold 2 (Option.some Jvm.ClassFile.FieldType.int) :: GW
theorem d_Ord_authorizationTold_0 : decode c_Ord_authorizationTold 0 = .ok (.iload_n 1, 1) := by decide +kernel
theorem d_Ord_authorizationTold_1 : decode c_Ord_authorizationTold 1 = .ok (.iconst 5, 1) := by decide +kernel
theorem d_Ord_authorizationTold_2 : decode c_Ord_authorizationTold 2 = .ok (.if_icmp .lt 24, 3) := by decide +kernel
theorem d_Ord_authorizationTold_5 : decode c_Ord_authorizationTold 5 = .ok (.iload_n 1, 1) := by decide +kernel
theorem d_Ord_authorizationTold_6 : decode c_Ord_authorizationTold 6 = .ok (.iconst 5, 1) := by decide +kernel
theorem d_Ord_authorizationTold_7 : decode c_Ord_authorizationTold 7 = .ok (.aload_n 0, 1) := by decide +kernel
theorem d_Ord_authorizationTold_8 : decode c_Ord_authorizationTold 8 = .ok (.getfield 22, 3) := by decide +kernel
theorem d_Ord_authorizationTold_11 : decode c_Ord_authorizationTold 11 = .ok (.iadd, 1) := by decide +kernel
theorem d_Ord_authorizationTold_12 : decode c_Ord_authorizationTold 12 = .ok (.if_icmp .ge 14, 3) := by decide +kernel
theorem d_Ord_authorizationTold_15 : decode c_Ord_authorizationTold 15 = .ok (.aload_n 0, 1) := by decide +kernel
theorem d_Ord_authorizationTold_16 : decode c_Ord_authorizationTold 16 = .ok (.getfield 15, 3) := by decide +kernel
theorem d_Ord_authorizationTold_19 : decode c_Ord_authorizationTold 19 = .ok (.iload_n 1, 1) := by decide +kernel
theorem d_Ord_authorizationTold_20 : decode c_Ord_authorizationTold 20 = .ok (.iconst 5, 1) := by decide +kernel
theorem d_Ord_authorizationTold_21 : decode c_Ord_authorizationTold 21 = .ok (.isub, 1) := by decide +kernel
theorem d_Ord_authorizationTold_22 : decode c_Ord_authorizationTold 22 = .ok (.iaload, 1) := by decide +kernel
theorem d_Ord_authorizationTold_23 : decode c_Ord_authorizationTold 23 = .ok (.goto 4, 3) := by decide +kernel
theorem d_Ord_authorizationTold_26 : decode c_Ord_authorizationTold 26 = .ok (.iconst (-1), 1) := by decide +kernel
theorem d_Ord_authorizationTold_27 : decode c_Ord_authorizationTold 27 = .ok (.ireturn, 1) := by decide +kernel
def wp_Ord_authorizationTold (post : Int32 → ST → Prop) (X : ST) (i0 : Nat) (a1 : Int32) : Prop := ((a1 < (5 : Int32) → post (-1 : Int32) X) ∧ (¬ a1 < (5 : Int32) → (i0 < 12 ∧ ((((5 : Int32) + (X 25 i0)) ≤ a1 → post (-1 : Int32) X) ∧ (¬ ((5 : Int32) + (X 25 i0)) ≤ a1 → (vp_in (a1 - (5 : Int32)) 4 ∧ post (X (1000 + (a1 - (5 : Int32)).toNatClampNeg) i0) X))))))
set_option maxHeartbeats 4000000 in
set_option maxRecDepth 100000 in
theorem mt_Ord_authorizationTold (l : Launch) (hl9 : l.stackTraces = false) (dC : Nat → ClassId) (dI : Nat → Nat → Nat) (cA : Nat → ClassId) (ad : Nat → Nat) (hI : INJ ad 125) (sz : Nat) {X : ST} {i0 : Nat} {a1 : Int32} {post : Int32 → ST → Prop} (hw : wp_Ord_authorizationTold post X i0 a1) : Met l y_Ord_authorizationTold ws_Ord_authorizationTold ({ frames := 0, cells := 0, slots := 0, locals := 0 } : Room) (va_Pc [.ref (ad (17 + i0)), .int a1] (fun U => PC dC dI cA ad sz X U)) (va_Qi (fun r (u : ST) => post r u) (fun (u : ST) t => va_P (dC, dI) vwCl (wdC cA ad u) t.heap) (CA ad 125 sz)) 0 0 (CA ad 125 sz) := by
  refine Met.ofW (cc := c_Ord_authorizationTold) (maxL := 2) (ret := (some .int)) (by decide) rfl ?_
  intro p e s m args below meth c s₁ B hml hv
  obtain ⟨rfl, hsz, hP, hG⟩ := hv
  have hx := B.exec
  have hb := B.bytes
  have hr := B.returns
  have hts : ∀ w ∈ GW, w.before (([.ref (ad (17 + i0)), .int a1] : List Value).toArray) s = true := fun w h => atoms_spec (ws := ws_Ord_authorizationTold) B.pre w (List.mem_cons_of_mem _ h)
  have hown : s.vm.findClass R_Ord = some m.cls := findClass_of_methodNamed B.named
  have hlocks := B.notSynchronized
  subst hsz
  have hK := hG.1
  have hG9 := hG
  have hNW := hG.2.1
  have hD0 : ∀ (X : ST), va_D (CA ad 125 s.heap.size) (wdC cA ad X) := fun _ => zwC_D hI
  have hS : va_S (CA ad 125 s.heap.size) s.heap s.heap [] := va_S.rf
  have hl := lv_entry ([.ref (ad (17 + i0)), .int a1]) (n := 2) (Nat.le_of_ble_eq_true rfl)
  rw [lg_entry_eq]
  generalize (lg_sl ([.ref (ad (17 + i0)), .int a1]) ++ List.replicate (2 - (lg_sl ([.ref (ad (17 + i0)), .int a1])).length) Slot.unset).toArray = ls at hl ⊢
  have hl : lv_has ls 2 [(0, .ref (ad (17 + i0))), (1, .int a1)] := hl
  unfold wp_Ord_authorizationTold at hw
  refine lv_iload_n hx hb d_Ord_authorizationTold_0 rfl (lv_at hl 1 rfl) ?_
  refine lv_iconst (v := (5 : Int32)) hx hb d_Ord_authorizationTold_1 (by decide) ?_
  refine lv_icmp_lt (tgt := 26) hx hb d_Ord_authorizationTold_2 (by decide) (fun c1 => ?_) (fun c1 => ?_)
  · have hw := hw.1 c1
    refine lv_iconst (v := (-1 : Int32)) hx hb d_Ord_authorizationTold_26 (by decide) ?_
    exact W.iret (v := (-1 : Int32)) hx hb hr (fun t ht _ => ⟨⟨(-1 : Int32), X, rfl, hw, by show va_P _ _ _ t.heap; rw [ht]; exact hP⟩, hS.F ht⟩) hS.2.2 d_Ord_authorizationTold_27
  · have hw := hw.2 c1
    refine lv_iload_n hx hb d_Ord_authorizationTold_5 rfl (lv_at hl 1 rfl) ?_
    refine lv_iconst (v := (5 : Int32)) hx hb d_Ord_authorizationTold_6 (by decide) ?_
    refine lv_aload_n hx hb d_Ord_authorizationTold_7 rfl (lv_at hl 0 rfl) ?_
    obtain ⟨h2, hw⟩ := hw
    refine va_get (D := (dC, dI)) (ci := 5) (v := .int (X 25 i0)) (C := R_Ord) (T := T_Ord) (N := 7) hx hb hts in_Ord hown hK hP (17 + i0) (atC_Ord h2) rfl 5 (by decide) (hts _ gw_90) (fun _ h9 => h9) rfl d_Ord_authorizationTold_8 ?_
    refine lv_iadd hx hb d_Ord_authorizationTold_11 ?_
    refine lv_icmp_ge (tgt := 26) hx hb d_Ord_authorizationTold_12 (by decide) (fun c3 => ?_) (fun c3 => ?_)
    · have hw := hw.1 c3
      refine lv_iconst (v := (-1 : Int32)) hx hb d_Ord_authorizationTold_26 (by decide) ?_
      exact W.iret (v := (-1 : Int32)) hx hb hr (fun t ht _ => ⟨⟨(-1 : Int32), X, rfl, hw, by show va_P _ _ _ t.heap; rw [ht]; exact hP⟩, hS.F ht⟩) hS.2.2 d_Ord_authorizationTold_27
    · have hw := hw.2 c3
      refine lv_aload_n hx hb d_Ord_authorizationTold_15 rfl (lv_at hl 0 rfl) ?_
      refine va_get (D := (dC, dI)) (ci := 5) (v := .ref (ad (29 + i0))) (C := R_Ord) (T := T_Ord) (N := 7) hx hb hts in_Ord hown hK hP (17 + i0) (atC_Ord h2) rfl 6 (by decide) (hts _ gw_91) (fun _ h9 => h9) rfl d_Ord_authorizationTold_16 ?_
      refine lv_iload_n hx hb d_Ord_authorizationTold_19 rfl (lv_at hl 1 rfl) ?_
      refine lv_iconst (v := (5 : Int32)) hx hb d_Ord_authorizationTold_20 (by decide) ?_
      refine lv_isub hx hb d_Ord_authorizationTold_21 ?_
      obtain ⟨h4, hw⟩ := hw
      refine va_iald hx hb hK hP (29 + i0) 7 (atC_iOrd h2) rfl h4 d_Ord_authorizationTold_22 ?_
      refine W.eq (g2 := F0 m 23 ls [.int (X (1000 + (a1 - (5 : Int32)).toNatClampNeg) i0)]) rfl ?_
      refine lv_goto (tgt := 27) hx hb d_Ord_authorizationTold_23 (by decide) ?_
      exact W.iret (v := X (1000 + (a1 - (5 : Int32)).toNatClampNeg) i0) hx hb hr (fun t ht _ => ⟨⟨X (1000 + (a1 - (5 : Int32)).toNatClampNeg) i0, X, rfl, hw, by show va_P _ _ _ t.heap; rw [ht]; exact hP⟩, hS.F ht⟩) hS.2.2 d_Ord_authorizationTold_27
def ws_Ord_told : List Cond := Cond.code y_Ord_told c_Ord_told 2 (Option.some Jvm.ClassFile.FieldType.int) :: GW
theorem d_Ord_told_0 : decode c_Ord_told 0 = .ok (.iload_n 1, 1) := by decide +kernel
theorem d_Ord_told_1 : decode c_Ord_told 1 = .ok (.tableswitch 60 0 4 #[35, 40, 45, 50, 55], 35) := by decide +kernel
theorem d_Ord_told_36 : decode c_Ord_told 36 = .ok (.aload_n 0, 1) := by decide +kernel
theorem d_Ord_told_37 : decode c_Ord_told 37 = .ok (.getfield 32, 3) := by decide +kernel
theorem d_Ord_told_40 : decode c_Ord_told 40 = .ok (.ireturn, 1) := by decide +kernel
theorem d_Ord_told_41 : decode c_Ord_told 41 = .ok (.aload_n 0, 1) := by decide +kernel
theorem d_Ord_told_42 : decode c_Ord_told 42 = .ok (.getfield 35, 3) := by decide +kernel
theorem d_Ord_told_45 : decode c_Ord_told 45 = .ok (.ireturn, 1) := by decide +kernel
theorem d_Ord_told_46 : decode c_Ord_told 46 = .ok (.aload_n 0, 1) := by decide +kernel
theorem d_Ord_told_47 : decode c_Ord_told 47 = .ok (.getfield 29, 3) := by decide +kernel
theorem d_Ord_told_50 : decode c_Ord_told 50 = .ok (.ireturn, 1) := by decide +kernel
theorem d_Ord_told_51 : decode c_Ord_told 51 = .ok (.aload_n 0, 1) := by decide +kernel
theorem d_Ord_told_52 : decode c_Ord_told 52 = .ok (.getfield 9, 3) := by decide +kernel
theorem d_Ord_told_55 : decode c_Ord_told 55 = .ok (.ireturn, 1) := by decide +kernel
theorem d_Ord_told_56 : decode c_Ord_told 56 = .ok (.aload_n 0, 1) := by decide +kernel
theorem d_Ord_told_57 : decode c_Ord_told 57 = .ok (.getfield 22, 3) := by decide +kernel
theorem d_Ord_told_60 : decode c_Ord_told 60 = .ok (.ireturn, 1) := by decide +kernel
theorem d_Ord_told_61 : decode c_Ord_told 61 = .ok (.aload_n 0, 1) := by decide +kernel
theorem d_Ord_told_62 : decode c_Ord_told 62 = .ok (.iload_n 1, 1) := by decide +kernel
theorem d_Ord_told_63 : decode c_Ord_told 63 = .ok (.invokevirtual 38, 3) := by decide +kernel
theorem d_Ord_told_66 : decode c_Ord_told 66 = .ok (.ireturn, 1) := by decide +kernel
def wp_Ord_told (post : Int32 → ST → Prop) (X : ST) (i0 : Nat) (a1 : Int32) : Prop := ((a1 < (0 : Int32) → (i0 < 12 ∧ wp_Ord_authorizationTold (fun (r5 : Int32) (X4 : ST) => post r5 X4) X i0 a1)) ∧ (¬ a1 < (0 : Int32) → (((4 : Int32) < a1 → (i0 < 12 ∧ wp_Ord_authorizationTold (fun (r8 : Int32) (X7 : ST) => post r8 X7) X i0 a1)) ∧ (¬ (4 : Int32) < a1 → ((a1 = (0 : Int32) → (i0 < 12 ∧ post (X 21 i0) X)) ∧ (¬ a1 = (0 : Int32) → ((a1 = (1 : Int32) → (i0 < 12 ∧ post (X 22 i0) X)) ∧ (¬ a1 = (1 : Int32) → ((a1 = (2 : Int32) → (i0 < 12 ∧ post (X 23 i0) X)) ∧ (¬ a1 = (2 : Int32) → ((a1 = (3 : Int32) → (i0 < 12 ∧ post (X 24 i0) X)) ∧ (¬ a1 = (3 : Int32) → ((a1 = (4 : Int32) → (i0 < 12 ∧ post (X 25 i0) X)) ∧ (¬ a1 = (4 : Int32) → False))))))))))))))
set_option maxHeartbeats 4000000 in
set_option maxRecDepth 100000 in
theorem mt_Ord_told (l : Launch) (hl9 : l.stackTraces = false) (dC : Nat → ClassId) (dI : Nat → Nat → Nat) (cA : Nat → ClassId) (ad : Nat → Nat) (hI : INJ ad 125) (sz : Nat) {X : ST} {i0 : Nat} {a1 : Int32} {post : Int32 → ST → Prop} (hw : wp_Ord_told post X i0 a1) : Met l y_Ord_told ws_Ord_told ({ frames := 1, cells := 0, slots := 0, locals := 21 } : Room) (va_Pc [.ref (ad (17 + i0)), .int a1] (fun U => PC dC dI cA ad sz X U)) (va_Qi (fun r (u : ST) => post r u) (fun (u : ST) t => va_P (dC, dI) vwCl (wdC cA ad u) t.heap) (CA ad 125 sz)) 0 0 (CA ad 125 sz) := by
  refine Met.ofW (cc := c_Ord_told) (maxL := 2) (ret := (some .int)) (by decide) rfl ?_
  intro p e s m args below meth c s₁ B hml hv
  obtain ⟨rfl, hsz, hP, hG⟩ := hv
  have hx := B.exec
  have hb := B.bytes
  have hr := B.returns
  have hts : ∀ w ∈ GW, w.before (([.ref (ad (17 + i0)), .int a1] : List Value).toArray) s = true := fun w h => atoms_spec (ws := ws_Ord_told) B.pre w (List.mem_cons_of_mem _ h)
  have hown : s.vm.findClass R_Ord = some m.cls := findClass_of_methodNamed B.named
  have hlocks := B.notSynchronized
  subst hsz
  have hK := hG.1
  have hG9 := hG
  have hNW := hG.2.1
  have hD0 : ∀ (X : ST), va_D (CA ad 125 s.heap.size) (wdC cA ad X) := fun _ => zwC_D hI
  have hS : va_S (CA ad 125 s.heap.size) s.heap s.heap [] := va_S.rf
  have hl := lv_entry ([.ref (ad (17 + i0)), .int a1]) (n := 2) (Nat.le_of_ble_eq_true rfl)
  rw [lg_entry_eq]
  generalize (lg_sl ([.ref (ad (17 + i0)), .int a1]) ++ List.replicate (2 - (lg_sl ([.ref (ad (17 + i0)), .int a1])).length) Slot.unset).toArray = ls at hl ⊢
  have hl : lv_has ls 2 [(0, .ref (ad (17 + i0))), (1, .int a1)] := hl
  unfold wp_Ord_told at hw
  refine lv_iload_n hx hb d_Ord_told_0 rfl (lv_at hl 1 rfl) ?_
  by_cases c1 : a1 < (0 : Int32)
  · have hw := hw.1 c1
    refine lv_tableOut (tgt := 61) hx hb d_Ord_told_1 (Or.inl (by have q := Int32.lt_iff_toInt_lt.mp c1; exact q)) (by decide) ?_
    refine lv_aload_n hx hb d_Ord_told_61 rfl (lv_at hl 0 rfl) ?_
    refine lv_iload_n hx hb d_Ord_told_62 rfl (lv_at hl 1 rfl) ?_
    obtain ⟨h3, hw⟩ := hw
    refine va_calli (va_runV (As := [.int a1]) (rest := []) ⟨hx, hb, hml, hown, hts⟩ (mt_Ord_authorizationTold l hl9 dC dI cA ad hI _ hw) (cwV 1 hts (gV gw_260 gw_261 gw_262 gw_96 gw_259) rfl rfl rfl (by decide +kernel) ⟨Nat.le_of_ble_eq_true rfl, Nat.le_of_ble_eq_true rfl⟩) ⟨zwC_blind, va_recv hK hP (ci := 5) (q0 := 17 + i0) rfl (atC_Ord h3), zwC_pre hP hS hG9⟩ rfl rfl hl.1 rfl (lv_room (Nat.le_of_ble_eq_true rfl)) d_Ord_told_63 ⟨Nat.le_of_ble_eq_true rfl, Nat.le_of_ble_eq_true rfl⟩) hS (fun q _ h => CA_le hS.1 q h) (fun q h => CA_le hS.1 q h) (fun r5 X4 t H locs ht hvm hw hP hz1 hk1 hS => ?_)
    have hP : va_P (dC, dI) vwCl (wdC cA ad X4) H := by rw [← ht]; exact hP
    try dsimp only at hw
    exact W.iret (v := r5) hx hb hr (fun t ht _ => ⟨⟨r5, X4, rfl, hw, by show va_P _ _ _ t.heap; rw [ht]; exact hP⟩, hS.F ht⟩) hS.2.2 d_Ord_told_66
  have hw := hw.2 c1
  by_cases c2 : (4 : Int32) < a1
  · have hw := hw.1 c2
    refine lv_tableOut (tgt := 61) hx hb d_Ord_told_1 (Or.inr (by have q := Int32.lt_iff_toInt_lt.mp c2; exact q)) (by decide) ?_
    refine lv_aload_n hx hb d_Ord_told_61 rfl (lv_at hl 0 rfl) ?_
    refine lv_iload_n hx hb d_Ord_told_62 rfl (lv_at hl 1 rfl) ?_
    obtain ⟨h6, hw⟩ := hw
    refine va_calli (va_runV (As := [.int a1]) (rest := []) ⟨hx, hb, hml, hown, hts⟩ (mt_Ord_authorizationTold l hl9 dC dI cA ad hI _ hw) (cwV 1 hts (gV gw_260 gw_261 gw_262 gw_96 gw_259) rfl rfl rfl (by decide +kernel) ⟨Nat.le_of_ble_eq_true rfl, Nat.le_of_ble_eq_true rfl⟩) ⟨zwC_blind, va_recv hK hP (ci := 5) (q0 := 17 + i0) rfl (atC_Ord h6), zwC_pre hP hS hG9⟩ rfl rfl hl.1 rfl (lv_room (Nat.le_of_ble_eq_true rfl)) d_Ord_told_63 ⟨Nat.le_of_ble_eq_true rfl, Nat.le_of_ble_eq_true rfl⟩) hS (fun q _ h => CA_le hS.1 q h) (fun q h => CA_le hS.1 q h) (fun r8 X7 t H locs ht hvm hw hP hz1 hk1 hS => ?_)
    have hP : va_P (dC, dI) vwCl (wdC cA ad X7) H := by rw [← ht]; exact hP
    try dsimp only at hw
    exact W.iret (v := r8) hx hb hr (fun t ht _ => ⟨⟨r8, X7, rfl, hw, by show va_P _ _ _ t.heap; rw [ht]; exact hP⟩, hS.F ht⟩) hS.2.2 d_Ord_told_66
  have hw := hw.2 c2
  by_cases c9 : a1 = (0 : Int32)
  · have hw := hw.1 c9
    refine lv_tableIn (off := 35) (tgt := 36) hx hb d_Ord_told_1 (by rw [c9]; decide) (by rw [c9]; decide) (by rw [c9]; decide) (by decide) ?_
    refine lv_aload_n hx hb d_Ord_told_36 rfl (lv_at hl 0 rfl) ?_
    obtain ⟨h10, hw⟩ := hw
    refine va_get (D := (dC, dI)) (ci := 5) (v := .int (X 21 i0)) (C := R_Ord) (T := T_Ord) (N := 7) hx hb hts in_Ord hown hK hP (17 + i0) (atC_Ord h10) rfl 1 (by decide) (hts _ gw_263) (fun _ h9 => h9) rfl d_Ord_told_37 ?_
    exact W.iret (v := X 21 i0) hx hb hr (fun t ht _ => ⟨⟨X 21 i0, X, rfl, hw, by show va_P _ _ _ t.heap; rw [ht]; exact hP⟩, hS.F ht⟩) hS.2.2 d_Ord_told_40
  have hw := hw.2 c9
  by_cases c11 : a1 = (1 : Int32)
  · have hw := hw.1 c11
    refine lv_tableIn (off := 40) (tgt := 41) hx hb d_Ord_told_1 (by rw [c11]; decide) (by rw [c11]; decide) (by rw [c11]; decide) (by decide) ?_
    refine lv_aload_n hx hb d_Ord_told_41 rfl (lv_at hl 0 rfl) ?_
    obtain ⟨h12, hw⟩ := hw
    refine va_get (D := (dC, dI)) (ci := 5) (v := .int (X 22 i0)) (C := R_Ord) (T := T_Ord) (N := 7) hx hb hts in_Ord hown hK hP (17 + i0) (atC_Ord h12) rfl 2 (by decide) (hts _ gw_264) (fun _ h9 => h9) rfl d_Ord_told_42 ?_
    exact W.iret (v := X 22 i0) hx hb hr (fun t ht _ => ⟨⟨X 22 i0, X, rfl, hw, by show va_P _ _ _ t.heap; rw [ht]; exact hP⟩, hS.F ht⟩) hS.2.2 d_Ord_told_45
  have hw := hw.2 c11
  by_cases c13 : a1 = (2 : Int32)
  · have hw := hw.1 c13
    refine lv_tableIn (off := 45) (tgt := 46) hx hb d_Ord_told_1 (by rw [c13]; decide) (by rw [c13]; decide) (by rw [c13]; decide) (by decide) ?_
    refine lv_aload_n hx hb d_Ord_told_46 rfl (lv_at hl 0 rfl) ?_
    obtain ⟨h14, hw⟩ := hw
    refine va_get (D := (dC, dI)) (ci := 5) (v := .int (X 23 i0)) (C := R_Ord) (T := T_Ord) (N := 7) hx hb hts in_Ord hown hK hP (17 + i0) (atC_Ord h14) rfl 3 (by decide) (hts _ gw_237) (fun _ h9 => h9) rfl d_Ord_told_47 ?_
    exact W.iret (v := X 23 i0) hx hb hr (fun t ht _ => ⟨⟨X 23 i0, X, rfl, hw, by show va_P _ _ _ t.heap; rw [ht]; exact hP⟩, hS.F ht⟩) hS.2.2 d_Ord_told_50
  have hw := hw.2 c13
  by_cases c15 : a1 = (3 : Int32)
  · have hw := hw.1 c15
    refine lv_tableIn (off := 50) (tgt := 51) hx hb d_Ord_told_1 (by rw [c15]; decide) (by rw [c15]; decide) (by rw [c15]; decide) (by decide) ?_
    refine lv_aload_n hx hb d_Ord_told_51 rfl (lv_at hl 0 rfl) ?_
    obtain ⟨h16, hw⟩ := hw
    refine va_get (D := (dC, dI)) (ci := 5) (v := .int (X 24 i0)) (C := R_Ord) (T := T_Ord) (N := 7) hx hb hts in_Ord hown hK hP (17 + i0) (atC_Ord h16) rfl 4 (by decide) (hts _ gw_265) (fun _ h9 => h9) rfl d_Ord_told_52 ?_
    exact W.iret (v := X 24 i0) hx hb hr (fun t ht _ => ⟨⟨X 24 i0, X, rfl, hw, by show va_P _ _ _ t.heap; rw [ht]; exact hP⟩, hS.F ht⟩) hS.2.2 d_Ord_told_55
  have hw := hw.2 c15
  by_cases c17 : a1 = (4 : Int32)
  · have hw := hw.1 c17
    refine lv_tableIn (off := 55) (tgt := 56) hx hb d_Ord_told_1 (by rw [c17]; decide) (by rw [c17]; decide) (by rw [c17]; decide) (by decide) ?_
    refine lv_aload_n hx hb d_Ord_told_56 rfl (lv_at hl 0 rfl) ?_
    obtain ⟨h18, hw⟩ := hw
    refine va_get (D := (dC, dI)) (ci := 5) (v := .int (X 25 i0)) (C := R_Ord) (T := T_Ord) (N := 7) hx hb hts in_Ord hown hK hP (17 + i0) (atC_Ord h18) rfl 5 (by decide) (hts _ gw_90) (fun _ h9 => h9) rfl d_Ord_told_57 ?_
    exact W.iret (v := X 25 i0) hx hb hr (fun t ht _ => ⟨⟨X 25 i0, X, rfl, hw, by show va_P _ _ _ t.heap; rw [ht]; exact hP⟩, hS.F ht⟩) hS.2.2 d_Ord_told_60
  have hw := hw.2 c17
  exact hw.elim
def ws_Aut_told : List Cond := Cond.code y_Aut_told c_Aut_told 2 (Option.some Jvm.ClassFile.FieldType.int) :: GW
theorem d_Aut_told_0 : decode c_Aut_told 0 = .ok (.iload_n 1, 1) := by decide +kernel
theorem d_Aut_told_1 : decode c_Aut_told 1 = .ok (.tableswitch 42 0 2 #[27, 32, 37], 27) := by decide +kernel
theorem d_Aut_told_28 : decode c_Aut_told 28 = .ok (.aload_n 0, 1) := by decide +kernel
theorem d_Aut_told_29 : decode c_Aut_told 29 = .ok (.getfield 20, 3) := by decide +kernel
theorem d_Aut_told_32 : decode c_Aut_told 32 = .ok (.ireturn, 1) := by decide +kernel
theorem d_Aut_told_33 : decode c_Aut_told 33 = .ok (.aload_n 0, 1) := by decide +kernel
theorem d_Aut_told_34 : decode c_Aut_told 34 = .ok (.getfield 23, 3) := by decide +kernel
theorem d_Aut_told_37 : decode c_Aut_told 37 = .ok (.ireturn, 1) := by decide +kernel
theorem d_Aut_told_38 : decode c_Aut_told 38 = .ok (.aload_n 0, 1) := by decide +kernel
theorem d_Aut_told_39 : decode c_Aut_told 39 = .ok (.getfield 17, 3) := by decide +kernel
theorem d_Aut_told_42 : decode c_Aut_told 42 = .ok (.ireturn, 1) := by decide +kernel
theorem d_Aut_told_43 : decode c_Aut_told 43 = .ok (.iconst (-1), 1) := by decide +kernel
theorem d_Aut_told_44 : decode c_Aut_told 44 = .ok (.ireturn, 1) := by decide +kernel
def wp_Aut_told (post : Int32 → ST → Prop) (X : ST) (i0 : Nat) (a1 : Int32) : Prop := ((a1 < (0 : Int32) → post (-1 : Int32) X) ∧ (¬ a1 < (0 : Int32) → (((2 : Int32) < a1 → post (-1 : Int32) X) ∧ (¬ (2 : Int32) < a1 → ((a1 = (0 : Int32) → (i0 < 24 ∧ post (X 31 i0) X)) ∧ (¬ a1 = (0 : Int32) → ((a1 = (1 : Int32) → (i0 < 24 ∧ post (X 32 i0) X)) ∧ (¬ a1 = (1 : Int32) → ((a1 = (2 : Int32) → (i0 < 24 ∧ post (X 33 i0) X)) ∧ (¬ a1 = (2 : Int32) → False))))))))))
set_option maxHeartbeats 4000000 in
set_option maxRecDepth 100000 in
theorem mt_Aut_told (l : Launch) (hl9 : l.stackTraces = false) (dC : Nat → ClassId) (dI : Nat → Nat → Nat) (cA : Nat → ClassId) (ad : Nat → Nat) (hI : INJ ad 125) (sz : Nat) {X : ST} {i0 : Nat} {a1 : Int32} {post : Int32 → ST → Prop} (hw : wp_Aut_told post X i0 a1) : Met l y_Aut_told ws_Aut_told ({ frames := 0, cells := 0, slots := 0, locals := 0 } : Room) (va_Pc [.ref (ad (41 + i0)), .int a1] (fun U => PC dC dI cA ad sz X U)) (va_Qi (fun r (u : ST) => post r u) (fun (u : ST) t => va_P (dC, dI) vwCl (wdC cA ad u) t.heap) (CA ad 125 sz)) 0 0 (CA ad 125 sz) := by
  refine Met.ofW (cc := c_Aut_told) (maxL := 2) (ret := (some .int)) (by decide) rfl ?_
  intro p e s m args below meth c s₁ B hml hv
  obtain ⟨rfl, hsz, hP, hG⟩ := hv
  have hx := B.exec
  have hb := B.bytes
  have hr := B.returns
  have hts : ∀ w ∈ GW, w.before (([.ref (ad (41 + i0)), .int a1] : List Value).toArray) s = true := fun w h => atoms_spec (ws := ws_Aut_told) B.pre w (List.mem_cons_of_mem _ h)
  have hown : s.vm.findClass R_Aut = some m.cls := findClass_of_methodNamed B.named
  have hlocks := B.notSynchronized
  subst hsz
  have hK := hG.1
  have hG9 := hG
  have hNW := hG.2.1
  have hD0 : ∀ (X : ST), va_D (CA ad 125 s.heap.size) (wdC cA ad X) := fun _ => zwC_D hI
  have hS : va_S (CA ad 125 s.heap.size) s.heap s.heap [] := va_S.rf
  have hl := lv_entry ([.ref (ad (41 + i0)), .int a1]) (n := 2) (Nat.le_of_ble_eq_true rfl)
  rw [lg_entry_eq]
  generalize (lg_sl ([.ref (ad (41 + i0)), .int a1]) ++ List.replicate (2 - (lg_sl ([.ref (ad (41 + i0)), .int a1])).length) Slot.unset).toArray = ls at hl ⊢
  have hl : lv_has ls 2 [(0, .ref (ad (41 + i0))), (1, .int a1)] := hl
  unfold wp_Aut_told at hw
  refine lv_iload_n hx hb d_Aut_told_0 rfl (lv_at hl 1 rfl) ?_
  by_cases c1 : a1 < (0 : Int32)
  · have hw := hw.1 c1
    refine lv_tableOut (tgt := 43) hx hb d_Aut_told_1 (Or.inl (by have q := Int32.lt_iff_toInt_lt.mp c1; exact q)) (by decide) ?_
    refine lv_iconst (v := (-1 : Int32)) hx hb d_Aut_told_43 (by decide) ?_
    exact W.iret (v := (-1 : Int32)) hx hb hr (fun t ht _ => ⟨⟨(-1 : Int32), X, rfl, hw, by show va_P _ _ _ t.heap; rw [ht]; exact hP⟩, hS.F ht⟩) hS.2.2 d_Aut_told_44
  have hw := hw.2 c1
  by_cases c2 : (2 : Int32) < a1
  · have hw := hw.1 c2
    refine lv_tableOut (tgt := 43) hx hb d_Aut_told_1 (Or.inr (by have q := Int32.lt_iff_toInt_lt.mp c2; exact q)) (by decide) ?_
    refine lv_iconst (v := (-1 : Int32)) hx hb d_Aut_told_43 (by decide) ?_
    exact W.iret (v := (-1 : Int32)) hx hb hr (fun t ht _ => ⟨⟨(-1 : Int32), X, rfl, hw, by show va_P _ _ _ t.heap; rw [ht]; exact hP⟩, hS.F ht⟩) hS.2.2 d_Aut_told_44
  have hw := hw.2 c2
  by_cases c3 : a1 = (0 : Int32)
  · have hw := hw.1 c3
    refine lv_tableIn (off := 27) (tgt := 28) hx hb d_Aut_told_1 (by rw [c3]; decide) (by rw [c3]; decide) (by rw [c3]; decide) (by decide) ?_
    refine lv_aload_n hx hb d_Aut_told_28 rfl (lv_at hl 0 rfl) ?_
    obtain ⟨h4, hw⟩ := hw
    refine va_get (D := (dC, dI)) (ci := 6) (v := .int (X 31 i0)) (C := R_Aut) (T := T_Aut) (N := 4) hx hb hts in_Aut hown hK hP (41 + i0) (atC_Aut h4) rfl 1 (by decide) (hts _ gw_266) (fun _ h9 => h9) rfl d_Aut_told_29 ?_
    exact W.iret (v := X 31 i0) hx hb hr (fun t ht _ => ⟨⟨X 31 i0, X, rfl, hw, by show va_P _ _ _ t.heap; rw [ht]; exact hP⟩, hS.F ht⟩) hS.2.2 d_Aut_told_32
  have hw := hw.2 c3
  by_cases c5 : a1 = (1 : Int32)
  · have hw := hw.1 c5
    refine lv_tableIn (off := 32) (tgt := 33) hx hb d_Aut_told_1 (by rw [c5]; decide) (by rw [c5]; decide) (by rw [c5]; decide) (by decide) ?_
    refine lv_aload_n hx hb d_Aut_told_33 rfl (lv_at hl 0 rfl) ?_
    obtain ⟨h6, hw⟩ := hw
    refine va_get (D := (dC, dI)) (ci := 6) (v := .int (X 32 i0)) (C := R_Aut) (T := T_Aut) (N := 4) hx hb hts in_Aut hown hK hP (41 + i0) (atC_Aut h6) rfl 2 (by decide) (hts _ gw_267) (fun _ h9 => h9) rfl d_Aut_told_34 ?_
    exact W.iret (v := X 32 i0) hx hb hr (fun t ht _ => ⟨⟨X 32 i0, X, rfl, hw, by show va_P _ _ _ t.heap; rw [ht]; exact hP⟩, hS.F ht⟩) hS.2.2 d_Aut_told_37
  have hw := hw.2 c5
  by_cases c7 : a1 = (2 : Int32)
  · have hw := hw.1 c7
    refine lv_tableIn (off := 37) (tgt := 38) hx hb d_Aut_told_1 (by rw [c7]; decide) (by rw [c7]; decide) (by rw [c7]; decide) (by decide) ?_
    refine lv_aload_n hx hb d_Aut_told_38 rfl (lv_at hl 0 rfl) ?_
    obtain ⟨h8, hw⟩ := hw
    refine va_get (D := (dC, dI)) (ci := 6) (v := .int (X 33 i0)) (C := R_Aut) (T := T_Aut) (N := 4) hx hb hts in_Aut hown hK hP (41 + i0) (atC_Aut h8) rfl 3 (by decide) (hts _ gw_235) (fun _ h9 => h9) rfl d_Aut_told_39 ?_
    exact W.iret (v := X 33 i0) hx hb hr (fun t ht _ => ⟨⟨X 33 i0, X, rfl, hw, by show va_P _ _ _ t.heap; rw [ht]; exact hP⟩, hS.F ht⟩) hS.2.2 d_Aut_told_42
  have hw := hw.2 c7
  exact hw.elim
def ws_Cha_told : List Cond := Cond.code y_Cha_told c_Cha_told 2 (Option.some Jvm.ClassFile.FieldType.int) :: GW
theorem d_Cha_told_0 : decode c_Cha_told 0 = .ok (.iload_n 1, 1) := by decide +kernel
theorem d_Cha_told_1 : decode c_Cha_told 1 = .ok (.lookupswitch 37 #[(0, 27), (1, 32)], 27) := by decide +kernel
theorem d_Cha_told_28 : decode c_Cha_told 28 = .ok (.aload_n 0, 1) := by decide +kernel
theorem d_Cha_told_29 : decode c_Cha_told 29 = .ok (.getfield 7, 3) := by decide +kernel
theorem d_Cha_told_32 : decode c_Cha_told 32 = .ok (.ireturn, 1) := by decide +kernel
theorem d_Cha_told_33 : decode c_Cha_told 33 = .ok (.aload_n 0, 1) := by decide +kernel
theorem d_Cha_told_34 : decode c_Cha_told 34 = .ok (.getfield 13, 3) := by decide +kernel
theorem d_Cha_told_37 : decode c_Cha_told 37 = .ok (.ireturn, 1) := by decide +kernel
theorem d_Cha_told_38 : decode c_Cha_told 38 = .ok (.iconst (-1), 1) := by decide +kernel
theorem d_Cha_told_39 : decode c_Cha_told 39 = .ok (.ireturn, 1) := by decide +kernel
def wp_Cha_told (post : Int32 → ST → Prop) (X : ST) (i0 : Nat) (a1 : Int32) : Prop := ((a1 = (0 : Int32) → (i0 < 48 ∧ post (X 41 i0) X)) ∧ (¬ a1 = (0 : Int32) → ((a1 = (1 : Int32) → (i0 < 48 ∧ post (X 42 i0) X)) ∧ (¬ a1 = (1 : Int32) → post (-1 : Int32) X))))
set_option maxHeartbeats 4000000 in
set_option maxRecDepth 100000 in
theorem mt_Cha_told (l : Launch) (hl9 : l.stackTraces = false) (dC : Nat → ClassId) (dI : Nat → Nat → Nat) (cA : Nat → ClassId) (ad : Nat → Nat) (hI : INJ ad 125) (sz : Nat) {X : ST} {i0 : Nat} {a1 : Int32} {post : Int32 → ST → Prop} (hw : wp_Cha_told post X i0 a1) : Met l y_Cha_told ws_Cha_told ({ frames := 0, cells := 0, slots := 0, locals := 0 } : Room) (va_Pc [.ref (ad (65 + i0)), .int a1] (fun U => PC dC dI cA ad sz X U)) (va_Qi (fun r (u : ST) => post r u) (fun (u : ST) t => va_P (dC, dI) vwCl (wdC cA ad u) t.heap) (CA ad 125 sz)) 0 0 (CA ad 125 sz) := by
  refine Met.ofW (cc := c_Cha_told) (maxL := 2) (ret := (some .int)) (by decide) rfl ?_
  intro p e s m args below meth c s₁ B hml hv
  obtain ⟨rfl, hsz, hP, hG⟩ := hv
  have hx := B.exec
  have hb := B.bytes
  have hr := B.returns
  have hts : ∀ w ∈ GW, w.before (([.ref (ad (65 + i0)), .int a1] : List Value).toArray) s = true := fun w h => atoms_spec (ws := ws_Cha_told) B.pre w (List.mem_cons_of_mem _ h)
  have hown : s.vm.findClass R_Cha = some m.cls := findClass_of_methodNamed B.named
  have hlocks := B.notSynchronized
  subst hsz
  have hK := hG.1
  have hG9 := hG
  have hNW := hG.2.1
  have hD0 : ∀ (X : ST), va_D (CA ad 125 s.heap.size) (wdC cA ad X) := fun _ => zwC_D hI
  have hS : va_S (CA ad 125 s.heap.size) s.heap s.heap [] := va_S.rf
  have hl := lv_entry ([.ref (ad (65 + i0)), .int a1]) (n := 2) (Nat.le_of_ble_eq_true rfl)
  rw [lg_entry_eq]
  generalize (lg_sl ([.ref (ad (65 + i0)), .int a1]) ++ List.replicate (2 - (lg_sl ([.ref (ad (65 + i0)), .int a1])).length) Slot.unset).toArray = ls at hl ⊢
  have hl : lv_has ls 2 [(0, .ref (ad (65 + i0))), (1, .int a1)] := hl
  unfold wp_Cha_told at hw
  refine lv_iload_n hx hb d_Cha_told_0 rfl (lv_at hl 1 rfl) ?_
  by_cases c1 : a1 = (0 : Int32)
  · have hw := hw.1 c1
    refine lv_lookup (off := 27) (tgt := 28) hx hb d_Cha_told_1 (by decide) (by rw [c1]; decide) (by decide) ?_
    refine lv_aload_n hx hb d_Cha_told_28 rfl (lv_at hl 0 rfl) ?_
    obtain ⟨h2, hw⟩ := hw
    refine va_get (D := (dC, dI)) (ci := 7) (v := .int (X 41 i0)) (C := R_Cha) (T := T_Cha) (N := 3) hx hb hts in_Cha hown hK hP (65 + i0) (atC_Cha h2) rfl 1 (by decide) (hts _ gw_268) (fun _ h9 => h9) rfl d_Cha_told_29 ?_
    exact W.iret (v := X 41 i0) hx hb hr (fun t ht _ => ⟨⟨X 41 i0, X, rfl, hw, by show va_P _ _ _ t.heap; rw [ht]; exact hP⟩, hS.F ht⟩) hS.2.2 d_Cha_told_32
  have hw := hw.2 c1
  by_cases c3 : a1 = (1 : Int32)
  · have hw := hw.1 c3
    refine lv_lookup (off := 32) (tgt := 33) hx hb d_Cha_told_1 (by decide) (by rw [c3]; decide) (by decide) ?_
    refine lv_aload_n hx hb d_Cha_told_33 rfl (lv_at hl 0 rfl) ?_
    obtain ⟨h4, hw⟩ := hw
    refine va_get (D := (dC, dI)) (ci := 7) (v := .int (X 42 i0)) (C := R_Cha) (T := T_Cha) (N := 3) hx hb hts in_Cha hown hK hP (65 + i0) (atC_Cha h4) rfl 2 (by decide) (hts _ gw_269) (fun _ h9 => h9) rfl d_Cha_told_34 ?_
    exact W.iret (v := X 42 i0) hx hb hr (fun t ht _ => ⟨⟨X 42 i0, X, rfl, hw, by show va_P _ _ _ t.heap; rw [ht]; exact hP⟩, hS.F ht⟩) hS.2.2 d_Cha_told_37
  have hw := hw.2 c3
  refine lv_lookup (off := 37) (tgt := 38) hx hb d_Cha_told_1 (by decide) (by rw [lv_osw c1 (by decide)]; rw [lv_osw c3 (by decide)]; rfl) (by decide) ?_
  refine lv_iconst (v := (-1 : Int32)) hx hb d_Cha_told_38 (by decide) ?_
  exact W.iret (v := (-1 : Int32)) hx hb hr (fun t ht _ => ⟨⟨(-1 : Int32), X, rfl, hw, by show va_P _ _ _ t.heap; rw [ht]; exact hP⟩, hS.F ht⟩) hS.2.2 d_Cha_told_39
def ws_Cer_told : List Cond := Cond.code y_Cer_told c_Cer_told 2 (Option.some Jvm.ClassFile.FieldType.int) :: GW
theorem d_Cer_told_0 : decode c_Cer_told 0 = .ok (.iload_n 1, 1) := by decide +kernel
theorem d_Cer_told_1 : decode c_Cer_told 1 = .ok (.tableswitch 60 0 4 #[35, 40, 45, 50, 55], 35) := by decide +kernel
theorem d_Cer_told_36 : decode c_Cer_told 36 = .ok (.aload_n 0, 1) := by decide +kernel
theorem d_Cer_told_37 : decode c_Cer_told 37 = .ok (.getfield 15, 3) := by decide +kernel
theorem d_Cer_told_40 : decode c_Cer_told 40 = .ok (.ireturn, 1) := by decide +kernel
theorem d_Cer_told_41 : decode c_Cer_told 41 = .ok (.aload_n 0, 1) := by decide +kernel
theorem d_Cer_told_42 : decode c_Cer_told 42 = .ok (.getfield 18, 3) := by decide +kernel
theorem d_Cer_told_45 : decode c_Cer_told 45 = .ok (.ireturn, 1) := by decide +kernel
theorem d_Cer_told_46 : decode c_Cer_told 46 = .ok (.aload_n 0, 1) := by decide +kernel
theorem d_Cer_told_47 : decode c_Cer_told 47 = .ok (.getfield 21, 3) := by decide +kernel
theorem d_Cer_told_50 : decode c_Cer_told 50 = .ok (.ireturn, 1) := by decide +kernel
theorem d_Cer_told_51 : decode c_Cer_told 51 = .ok (.aload_n 0, 1) := by decide +kernel
theorem d_Cer_told_52 : decode c_Cer_told 52 = .ok (.getfield 24, 3) := by decide +kernel
theorem d_Cer_told_55 : decode c_Cer_told 55 = .ok (.ireturn, 1) := by decide +kernel
theorem d_Cer_told_56 : decode c_Cer_told 56 = .ok (.aload_n 0, 1) := by decide +kernel
theorem d_Cer_told_57 : decode c_Cer_told 57 = .ok (.getfield 9, 3) := by decide +kernel
theorem d_Cer_told_60 : decode c_Cer_told 60 = .ok (.ireturn, 1) := by decide +kernel
theorem d_Cer_told_61 : decode c_Cer_told 61 = .ok (.iconst (-1), 1) := by decide +kernel
theorem d_Cer_told_62 : decode c_Cer_told 62 = .ok (.ireturn, 1) := by decide +kernel
def wp_Cer_told (post : Int32 → ST → Prop) (X : ST) (i0 : Nat) (a1 : Int32) : Prop := ((a1 < (0 : Int32) → post (-1 : Int32) X) ∧ (¬ a1 < (0 : Int32) → (((4 : Int32) < a1 → post (-1 : Int32) X) ∧ (¬ (4 : Int32) < a1 → ((a1 = (0 : Int32) → (i0 < 12 ∧ post (X 51 i0) X)) ∧ (¬ a1 = (0 : Int32) → ((a1 = (1 : Int32) → (i0 < 12 ∧ post (X 52 i0) X)) ∧ (¬ a1 = (1 : Int32) → ((a1 = (2 : Int32) → (i0 < 12 ∧ post (X 53 i0) X)) ∧ (¬ a1 = (2 : Int32) → ((a1 = (3 : Int32) → (i0 < 12 ∧ post (X 54 i0) X)) ∧ (¬ a1 = (3 : Int32) → ((a1 = (4 : Int32) → (i0 < 12 ∧ post (X 55 i0) X)) ∧ (¬ a1 = (4 : Int32) → False))))))))))))))
set_option maxHeartbeats 4000000 in
set_option maxRecDepth 100000 in
theorem mt_Cer_told (l : Launch) (hl9 : l.stackTraces = false) (dC : Nat → ClassId) (dI : Nat → Nat → Nat) (cA : Nat → ClassId) (ad : Nat → Nat) (hI : INJ ad 125) (sz : Nat) {X : ST} {i0 : Nat} {a1 : Int32} {post : Int32 → ST → Prop} (hw : wp_Cer_told post X i0 a1) : Met l y_Cer_told ws_Cer_told ({ frames := 0, cells := 0, slots := 0, locals := 0 } : Room) (va_Pc [.ref (ad (113 + i0)), .int a1] (fun U => PC dC dI cA ad sz X U)) (va_Qi (fun r (u : ST) => post r u) (fun (u : ST) t => va_P (dC, dI) vwCl (wdC cA ad u) t.heap) (CA ad 125 sz)) 0 0 (CA ad 125 sz) := by
  refine Met.ofW (cc := c_Cer_told) (maxL := 2) (ret := (some .int)) (by decide) rfl ?_
  intro p e s m args below meth c s₁ B hml hv
  obtain ⟨rfl, hsz, hP, hG⟩ := hv
  have hx := B.exec
  have hb := B.bytes
  have hr := B.returns
  have hts : ∀ w ∈ GW, w.before (([.ref (ad (113 + i0)), .int a1] : List Value).toArray) s = true := fun w h => atoms_spec (ws := ws_Cer_told) B.pre w (List.mem_cons_of_mem _ h)
  have hown : s.vm.findClass R_Cer = some m.cls := findClass_of_methodNamed B.named
  have hlocks := B.notSynchronized
  subst hsz
  have hK := hG.1
  have hG9 := hG
  have hNW := hG.2.1
  have hD0 : ∀ (X : ST), va_D (CA ad 125 s.heap.size) (wdC cA ad X) := fun _ => zwC_D hI
  have hS : va_S (CA ad 125 s.heap.size) s.heap s.heap [] := va_S.rf
  have hl := lv_entry ([.ref (ad (113 + i0)), .int a1]) (n := 2) (Nat.le_of_ble_eq_true rfl)
  rw [lg_entry_eq]
  generalize (lg_sl ([.ref (ad (113 + i0)), .int a1]) ++ List.replicate (2 - (lg_sl ([.ref (ad (113 + i0)), .int a1])).length) Slot.unset).toArray = ls at hl ⊢
  have hl : lv_has ls 2 [(0, .ref (ad (113 + i0))), (1, .int a1)] := hl
  unfold wp_Cer_told at hw
  refine lv_iload_n hx hb d_Cer_told_0 rfl (lv_at hl 1 rfl) ?_
  by_cases c1 : a1 < (0 : Int32)
  · have hw := hw.1 c1
    refine lv_tableOut (tgt := 61) hx hb d_Cer_told_1 (Or.inl (by have q := Int32.lt_iff_toInt_lt.mp c1; exact q)) (by decide) ?_
    refine lv_iconst (v := (-1 : Int32)) hx hb d_Cer_told_61 (by decide) ?_
    exact W.iret (v := (-1 : Int32)) hx hb hr (fun t ht _ => ⟨⟨(-1 : Int32), X, rfl, hw, by show va_P _ _ _ t.heap; rw [ht]; exact hP⟩, hS.F ht⟩) hS.2.2 d_Cer_told_62
  have hw := hw.2 c1
  by_cases c2 : (4 : Int32) < a1
  · have hw := hw.1 c2
    refine lv_tableOut (tgt := 61) hx hb d_Cer_told_1 (Or.inr (by have q := Int32.lt_iff_toInt_lt.mp c2; exact q)) (by decide) ?_
    refine lv_iconst (v := (-1 : Int32)) hx hb d_Cer_told_61 (by decide) ?_
    exact W.iret (v := (-1 : Int32)) hx hb hr (fun t ht _ => ⟨⟨(-1 : Int32), X, rfl, hw, by show va_P _ _ _ t.heap; rw [ht]; exact hP⟩, hS.F ht⟩) hS.2.2 d_Cer_told_62
  have hw := hw.2 c2
  by_cases c3 : a1 = (0 : Int32)
  · have hw := hw.1 c3
    refine lv_tableIn (off := 35) (tgt := 36) hx hb d_Cer_told_1 (by rw [c3]; decide) (by rw [c3]; decide) (by rw [c3]; decide) (by decide) ?_
    refine lv_aload_n hx hb d_Cer_told_36 rfl (lv_at hl 0 rfl) ?_
    obtain ⟨h4, hw⟩ := hw
    refine va_get (D := (dC, dI)) (ci := 8) (v := .int (X 51 i0)) (C := R_Cer) (T := T_Cer) (N := 6) hx hb hts in_Cer hown hK hP (113 + i0) (atC_Cer h4) rfl 1 (by decide) (hts _ gw_270) (fun _ h9 => h9) rfl d_Cer_told_37 ?_
    exact W.iret (v := X 51 i0) hx hb hr (fun t ht _ => ⟨⟨X 51 i0, X, rfl, hw, by show va_P _ _ _ t.heap; rw [ht]; exact hP⟩, hS.F ht⟩) hS.2.2 d_Cer_told_40
  have hw := hw.2 c3
  by_cases c5 : a1 = (1 : Int32)
  · have hw := hw.1 c5
    refine lv_tableIn (off := 40) (tgt := 41) hx hb d_Cer_told_1 (by rw [c5]; decide) (by rw [c5]; decide) (by rw [c5]; decide) (by decide) ?_
    refine lv_aload_n hx hb d_Cer_told_41 rfl (lv_at hl 0 rfl) ?_
    obtain ⟨h6, hw⟩ := hw
    refine va_get (D := (dC, dI)) (ci := 8) (v := .int (X 52 i0)) (C := R_Cer) (T := T_Cer) (N := 6) hx hb hts in_Cer hown hK hP (113 + i0) (atC_Cer h6) rfl 2 (by decide) (hts _ gw_271) (fun _ h9 => h9) rfl d_Cer_told_42 ?_
    exact W.iret (v := X 52 i0) hx hb hr (fun t ht _ => ⟨⟨X 52 i0, X, rfl, hw, by show va_P _ _ _ t.heap; rw [ht]; exact hP⟩, hS.F ht⟩) hS.2.2 d_Cer_told_45
  have hw := hw.2 c5
  by_cases c7 : a1 = (2 : Int32)
  · have hw := hw.1 c7
    refine lv_tableIn (off := 45) (tgt := 46) hx hb d_Cer_told_1 (by rw [c7]; decide) (by rw [c7]; decide) (by rw [c7]; decide) (by decide) ?_
    refine lv_aload_n hx hb d_Cer_told_46 rfl (lv_at hl 0 rfl) ?_
    obtain ⟨h8, hw⟩ := hw
    refine va_get (D := (dC, dI)) (ci := 8) (v := .int (X 53 i0)) (C := R_Cer) (T := T_Cer) (N := 6) hx hb hts in_Cer hown hK hP (113 + i0) (atC_Cer h8) rfl 3 (by decide) (hts _ gw_272) (fun _ h9 => h9) rfl d_Cer_told_47 ?_
    exact W.iret (v := X 53 i0) hx hb hr (fun t ht _ => ⟨⟨X 53 i0, X, rfl, hw, by show va_P _ _ _ t.heap; rw [ht]; exact hP⟩, hS.F ht⟩) hS.2.2 d_Cer_told_50
  have hw := hw.2 c7
  by_cases c9 : a1 = (3 : Int32)
  · have hw := hw.1 c9
    refine lv_tableIn (off := 50) (tgt := 51) hx hb d_Cer_told_1 (by rw [c9]; decide) (by rw [c9]; decide) (by rw [c9]; decide) (by decide) ?_
    refine lv_aload_n hx hb d_Cer_told_51 rfl (lv_at hl 0 rfl) ?_
    obtain ⟨h10, hw⟩ := hw
    refine va_get (D := (dC, dI)) (ci := 8) (v := .int (X 54 i0)) (C := R_Cer) (T := T_Cer) (N := 6) hx hb hts in_Cer hown hK hP (113 + i0) (atC_Cer h10) rfl 4 (by decide) (hts _ gw_273) (fun _ h9 => h9) rfl d_Cer_told_52 ?_
    exact W.iret (v := X 54 i0) hx hb hr (fun t ht _ => ⟨⟨X 54 i0, X, rfl, hw, by show va_P _ _ _ t.heap; rw [ht]; exact hP⟩, hS.F ht⟩) hS.2.2 d_Cer_told_55
  have hw := hw.2 c9
  by_cases c11 : a1 = (4 : Int32)
  · have hw := hw.1 c11
    refine lv_tableIn (off := 55) (tgt := 56) hx hb d_Cer_told_1 (by rw [c11]; decide) (by rw [c11]; decide) (by rw [c11]; decide) (by decide) ?_
    refine lv_aload_n hx hb d_Cer_told_56 rfl (lv_at hl 0 rfl) ?_
    obtain ⟨h12, hw⟩ := hw
    refine va_get (D := (dC, dI)) (ci := 8) (v := .int (X 55 i0)) (C := R_Cer) (T := T_Cer) (N := 6) hx hb hts in_Cer hown hK hP (113 + i0) (atC_Cer h12) rfl 5 (by decide) (hts _ gw_274) (fun _ h9 => h9) rfl d_Cer_told_57 ?_
    exact W.iret (v := X 55 i0) hx hb hr (fun t ht _ => ⟨⟨X 55 i0, X, rfl, hw, by show va_P _ _ _ t.heap; rw [ht]; exact hP⟩, hS.F ht⟩) hS.2.2 d_Cer_told_60
  have hw := hw.2 c11
  exact hw.elim
