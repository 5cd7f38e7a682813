set_option maxHeartbeats 4000000 in
set_option maxRecDepth 100000 in
theorem law_5 {p : Program} {l : Launch} {e : Env} {s : State} {m : MethodId} {below : List Frame} {meth : Method} {c : Code} {b L : Nat} {xs : Nat → Int32} {dC : Nat → ClassId} {dI : Nat → Nat → Nat} {cA : Nat → ClassId} {ad : Nat → Nat} {cL : ClassId} {ao : Nat} {cM : Nat → ClassId} {am : Nat → Nat} {Q : State → Prop} {K : ST → (Nat → Int64) → ST → Int64 → Prop} {v4 : Int32} {nc ns : Nat} (hnc : nc + 3 ≤ 653736) (hns : ns + 18 ≤ 7134863) (hC : LC p l s m meth c b L xs dC dI cA ad cL ao cM am) (h1 : vp_in (v4 + (1 : Int32)) L) (h2 : vp_in (v4 + (2 : Int32)) L) (h3 : vp_in (v4 + (3 : Int32)) L) (h4 : vp_in (v4 + (4 : Int32)) L) (h5 : vp_in (v4 + (5 : Int32)) L) {X : ST} {O : Nat → Int64} {Z : ST} {Y : Int64} {H : Heap} {locs : List Loc} {ls : Array Slot} (hw : cs_5 K X O Z Y (xs (v4 + (1 : Int32)).toNatClampNeg) (xs (v4 + (2 : Int32)).toNatClampNeg) (xs (v4 + (3 : Int32)).toNatClampNeg) (xs (v4 + (4 : Int32)).toNatClampNeg) (xs (v4 + (5 : Int32)).toNatClampNeg)) (hL : LH dC dI cA ad cL ao cM am s X O Z Y H locs) (hl : lv_has ls 7 [(4, .int v4), (0, .ref b), (1, .ref (ad 0)), (2, .ref (am 0)), (3, .ref ao)])
    (hE : ∀ (X : ST) (O : Nat → Int64) (Z : ST) (Y : Int64) (H : Heap) (locs : List Loc) (ls : Array Slot), K X O Z Y → LH dC dI cA ad cL ao cM am s X O Z Y H locs → lv_has ls 7 [(4, .int v4), (0, .ref b), (1, .ref (ad 0)), (2, .ref (am 0)), (3, .ref ao)] → W p l e room_1 s m #[Value.ref b] below meth c H locs (nc + 3) (ns + 18) Q (F0 m 1372 ls [])) : W p l e room_1 s m #[Value.ref b] below meth c H locs nc ns Q (F0 m 459 ls []) := by
  obtain ⟨⟨hx, hb, hml, hown, hts, hX, hbl, hl9⟩, ⟨hGL, hGM⟩, ⟨hI, hIm, hO, hAM, hOM⟩, hn1, hn2, hn3⟩ := id hC
  have hKc := hGL.1.1
  have hKo := hGL.2.1
  have hKm := hGM.1
  have hbA : ¬ AN s b := fun h => absurd hbl (Nat.not_lt.mpr h)
  unfold cs_5 at hw
  refine lv_aload_n hx hb d_law_459 rfl (lv_at hl 2 rfl) ?_
  refine lv_aload_n hx hb d_law_460 rfl (lv_at hl 1 rfl) ?_
  refine lv_iload hx hb d_law_461 (lv_at hl 0 rfl) ?_
  refine lv_iconst (v := (1 : Int32)) hx hb d_law_463 (by decide) ?_
  refine lv_iadd hx hb d_law_464 ?_
  refine va_sld hx hb hX hbl hbA hL.2.2 h1 d_law_465 ?_
  refine lv_aload_n hx hb d_law_466 rfl (lv_at hl 1 rfl) ?_
  refine lv_iload hx hb d_law_467 (lv_at hl 0 rfl) ?_
  refine lv_iconst (v := (2 : Int32)) hx hb d_law_469 (by decide) ?_
  refine lv_iadd hx hb d_law_470 ?_
  refine va_sld hx hb hX hbl hbA hL.2.2 h2 d_law_471 ?_
  refine lv_aload_n hx hb d_law_472 rfl (lv_at hl 1 rfl) ?_
  refine lv_iload hx hb d_law_473 (lv_at hl 0 rfl) ?_
  refine lv_iconst (v := (3 : Int32)) hx hb d_law_475 (by decide) ?_
  refine lv_iadd hx hb d_law_476 ?_
  refine va_sld hx hb hX hbl hbA hL.2.2 h3 d_law_477 ?_
  refine lv_aload_n hx hb d_law_478 rfl (lv_at hl 1 rfl) ?_
  refine lv_iload hx hb d_law_479 (lv_at hl 0 rfl) ?_
  refine lv_iconst (v := (4 : Int32)) hx hb d_law_481 (by decide) ?_
  refine lv_iadd hx hb d_law_482 ?_
  refine va_sld hx hb hX hbl hbA hL.2.2 h4 d_law_483 ?_
  refine lv_aload_n hx hb d_law_484 rfl (lv_at hl 1 rfl) ?_
  refine lv_iload hx hb d_law_485 (lv_at hl 0 rfl) ?_
  refine lv_iconst (v := (5 : Int32)) hx hb d_law_487 (by decide) ?_
  refine lv_iadd hx hb d_law_488 ?_
  refine va_sld hx hb hX hbl hbA hL.2.2 h5 d_law_489 ?_
  refine lv_aload_n hx hb d_law_490 rfl (lv_at hl 4 rfl) ?_
  refine va_calli (xt_runT (As := [.ref (ad 0), .int (xs (v4 + (1 : Int32)).toNatClampNeg), .int (xs (v4 + (2 : Int32)).toNatClampNeg), .int (xs (v4 + (3 : Int32)).toNatClampNeg), .int (xs (v4 + (4 : Int32)).toNatClampNeg), .int (xs (v4 + (5 : Int32)).toNatClampNeg), .ref ao]) (rest := []) ⟨hx, hb, hml, hown, hts⟩ (mt_LW_answer l hl9 dC dI cA ad hI cL ao hO _ hw) (xt_cw 7 hts (gT gw_675) rfl rfl rfl (hts _ gw_657) (hts _ gw_676) (hts _ gw_677) (by decide +kernel) ⟨(Nat.le_of_ble_eq_true rfl), (Nat.le_of_ble_eq_true rfl)⟩) ⟨zwL_blind, LH.preL hC hL⟩ rfl rfl hl.1 rfl (lv_room (Nat.le_of_ble_eq_true rfl)) d_law_491 ⟨(show nc + 3 ≤ 653736 by omega), (show ns + 18 ≤ 7134863 by omega)⟩) hL.2.2 (fun q _ h => LH.anL hC hL q h) (fun q h => LH.anL hC hL q h) (fun k5 u9 t H9 locs9 ht hvm hw hB hz1 hk1 hS => ?_)
  obtain ⟨X1, O1⟩ := u9
  have hL := LH.callL (X1 := X1) (O1 := O1) hC hL (by rw [← ht]; exact hB) hk1 hS
  generalize H9 = H at hL ⊢
  try dsimp only at hw
  refine lv_istore (lv' := [(5, .int k5), (4, .int v4), (0, .ref b), (1, .ref (ad 0)), (2, .ref (am 0)), (3, .ref ao)]) hx hb d_law_494 hl (by decide) rfl (fun ls hl => ?_)
  refine lv_aload_n hx hb d_law_496 rfl (lv_at hl 4 rfl) ?_
  refine lv_aload_n hx hb d_law_497 rfl (lv_at hl 2 rfl) ?_
  refine lv_iload hx hb d_law_498 (lv_at hl 1 rfl) ?_
  refine lv_iconst (v := (1 : Int32)) hx hb d_law_500 (by decide) ?_
  refine lv_iadd hx hb d_law_501 ?_
  refine va_sld hx hb hX hbl hbA hL.2.2 h1 d_law_502 ?_
  refine lv_aload_n hx hb d_law_503 rfl (lv_at hl 2 rfl) ?_
  refine lv_iload hx hb d_law_504 (lv_at hl 1 rfl) ?_
  refine lv_iconst (v := (2 : Int32)) hx hb d_law_506 (by decide) ?_
  refine lv_iadd hx hb d_law_507 ?_
  refine va_sld hx hb hX hbl hbA hL.2.2 h2 d_law_508 ?_
  refine lv_aload_n hx hb d_law_509 rfl (lv_at hl 2 rfl) ?_
  refine lv_iload hx hb d_law_510 (lv_at hl 1 rfl) ?_
  refine lv_iconst (v := (3 : Int32)) hx hb d_law_512 (by decide) ?_
  refine lv_iadd hx hb d_law_513 ?_
  refine va_sld hx hb hX hbl hbA hL.2.2 h3 d_law_514 ?_
  refine lv_aload_n hx hb d_law_515 rfl (lv_at hl 2 rfl) ?_
  refine lv_iload hx hb d_law_516 (lv_at hl 1 rfl) ?_
  refine lv_iconst (v := (4 : Int32)) hx hb d_law_518 (by decide) ?_
  refine lv_iadd hx hb d_law_519 ?_
  refine va_sld hx hb hX hbl hbA hL.2.2 h4 d_law_520 ?_
  refine lv_aload_n hx hb d_law_521 rfl (lv_at hl 2 rfl) ?_
  refine lv_iload hx hb d_law_522 (lv_at hl 1 rfl) ?_
  refine lv_iconst (v := (5 : Int32)) hx hb d_law_524 (by decide) ?_
  refine lv_iadd hx hb d_law_525 ?_
  refine va_sld hx hb hX hbl hbA hL.2.2 h5 d_law_526 ?_
  refine va_calli (va_runV (As := [.int (xs (v4 + (1 : Int32)).toNatClampNeg), .int (xs (v4 + (2 : Int32)).toNatClampNeg), .int (xs (v4 + (3 : Int32)).toNatClampNeg), .int (xs (v4 + (4 : Int32)).toNatClampNeg), .int (xs (v4 + (5 : Int32)).toNatClampNeg)]) (rest := []) ⟨hx, hb, hml, hown, hts⟩ (mt_MO_answer l hl9 dC dI cM am hIm _ hw) (cwV 5 hts (gV gw_679 gw_680 gw_681 gw_306 gw_678) rfl rfl rfl (by decide +kernel) ⟨(Nat.le_of_ble_eq_true rfl), (Nat.le_of_ble_eq_true rfl)⟩) ⟨zwM_blind, va_recv hKm hL.2.1 (ci := 9) (q0 := 0) rfl atM_MO, LH.preM hC hL⟩ rfl rfl hl.1 rfl (lv_room (Nat.le_of_ble_eq_true rfl)) d_law_527 ⟨(show (nc + 3) + 0 ≤ 653736 by omega), (show (ns + 18) + 0 ≤ 7134863 by omega)⟩) hL.2.2 (fun q _ h => LH.anM hC hL q h) (fun q h => LH.anM hC hL q h) (fun r6 u9 t H9 locs9 ht hvm hw hB hz1 hk1 hS => ?_)
  obtain ⟨Z1, Y1⟩ := u9
  have hL := LH.callM (Z1 := Z1) (Y1 := Y1) hC hL (by rw [← ht]; exact hB) hk1 hS
  generalize H9 = H at hL ⊢
  try dsimp only at hw
  refine lv_istore (lv' := [(6, .int r6), (5, .int k5), (4, .int v4), (0, .ref b), (1, .ref (ad 0)), (2, .ref (am 0)), (3, .ref ao)]) hx hb d_law_530 hl (by decide) rfl (fun ls hl => ?_)
  refine lv_aload_n hx hb d_law_532 rfl (lv_at hl 5 rfl) ?_
  refine va_calli (va_runV (As := []) (rest := []) ⟨hx, hb, hml, hown, hts⟩ (mt_MO_thrown l hl9 dC dI cM am hIm _ hw) (cwV 0 hts (gV gw_665 gw_666 gw_667 gw_306 gw_664) rfl rfl rfl (by decide +kernel) ⟨(Nat.le_of_ble_eq_true rfl), (Nat.le_of_ble_eq_true rfl)⟩) ⟨zwM_blind, va_recv hKm hL.2.1 (ci := 9) (q0 := 0) rfl atM_MO, LH.preM hC hL⟩ rfl rfl hl.1 rfl (lv_room (Nat.le_of_ble_eq_true rfl)) d_law_533 ⟨(show ((nc + 3) + 0) + 0 ≤ 653736 by omega), (show ((ns + 18) + 0) + 0 ≤ 7134863 by omega)⟩) hL.2.2 (fun q _ h => LH.anM hC hL q h) (fun q h => LH.anM hC hL q h) (fun t7 u9 t H9 locs9 ht hvm hw hB hz1 hk1 hS => ?_)
  obtain ⟨Z2, Y2⟩ := u9
  have hL := LH.callM (Z1 := Z2) (Y1 := Y2) hC hL (by rw [← ht]; exact hB) hk1 hS
  generalize H9 = H at hL ⊢
  try dsimp only at hw
  refine lv_iload hx hb d_law_536 (lv_at hl 1 rfl) ?_
  obtain ⟨hq, hq2, hw⟩ := hw
  refine lv_icmp_eq (tgt := 543) hx hb d_law_538 (by decide) (fun h => ?_) (fun h => absurd hq h)
  refine lv_iload hx hb d_law_543 (lv_at hl 1 rfl) ?_
  refine lv_if_ne (tgt := 560) hx hb d_law_545 (by decide) (fun h => ?_) (fun h => ?_)
  · refine lv_goto (tgt := 1372) hx hb d_law_560 (by decide) ?_
    refine W.widen (k := nc + 3) (n := ns + 18) (by omega) (by omega) ?_
    have hl := lv_sub hl (l' := [(4, .int v4), (0, .ref b), (1, .ref (ad 0)), (2, .ref (am 0)), (3, .ref ao)]) [2, 3, 4, 5, 6] rfl
    exact hE _ _ _ _ _ _ _ hw hL hl
  · refine lv_aload_n hx hb d_law_548 rfl (lv_at hl 6 rfl) ?_
    refine lv_iconst (v := (0 : Int32)) hx hb d_law_549 (by decide) ?_
    refine va_lald hx hb hKo hL.1 125 0 atL_o rfl (by unfold vp_in; decide) d_law_550 ?_
    refine lv_iload hx hb d_law_551 (lv_at hl 0 rfl) ?_
    refine lv_i2l hx hb d_law_553 rfl ?_
    refine W.lcmp hx hb d_law_554 ?_
    refine lv_if_eq (tgt := 560) hx hb d_law_555 (by decide) (fun h9 => ?_) (fun h9 => absurd ((lg_cmp_eq _ _).mpr (hq2 h)) h9)
    refine lv_goto (tgt := 1372) hx hb d_law_560 (by decide) ?_
    refine W.widen (k := nc + 3) (n := ns + 18) (by omega) (by omega) ?_
    have hl := lv_sub hl (l' := [(4, .int v4), (0, .ref b), (1, .ref (ad 0)), (2, .ref (am 0)), (3, .ref ao)]) [2, 3, 4, 5, 6] rfl
    exact hE _ _ _ _ _ _ _ hw hL hl
set_option maxHeartbeats 4000000 in
set_option maxRecDepth 100000 in
theorem law_6 {p : Program} {l : Launch} {e : Env} {s : State} {m : MethodId} {below : List Frame} {meth : Method} {c : Code} {b L : Nat} {xs : Nat → Int32} {dC : Nat → ClassId} {dI : Nat → Nat → Nat} {cA : Nat → ClassId} {ad : Nat → Nat} {cL : ClassId} {ao : Nat} {cM : Nat → ClassId} {am : Nat → Nat} {Q : State → Prop} {K : ST → (Nat → Int64) → ST → Int64 → Prop} {v4 : Int32} {nc ns : Nat} (hnc : nc + 3 ≤ 653736) (hns : ns + 18 ≤ 7134863) (hC : LC p l s m meth c b L xs dC dI cA ad cL ao cM am) (h1 : vp_in (v4 + (1 : Int32)) L) (h2 : vp_in (v4 + (2 : Int32)) L) (h3 : vp_in (v4 + (3 : Int32)) L) (h4 : vp_in (v4 + (4 : Int32)) L) (h5 : vp_in (v4 + (5 : Int32)) L) {X : ST} {O : Nat → Int64} {Z : ST} {Y : Int64} {H : Heap} {locs : List Loc} {ls : Array Slot} (hw : cs_6 K X O Z Y (xs (v4 + (1 : Int32)).toNatClampNeg) (xs (v4 + (2 : Int32)).toNatClampNeg) (xs (v4 + (3 : Int32)).toNatClampNeg)) (hL : LH dC dI cA ad cL ao cM am s X O Z Y H locs) (hl : lv_has ls 7 [(4, .int v4), (0, .ref b), (1, .ref (ad 0)), (2, .ref (am 0)), (3, .ref ao)])
    (hE : ∀ (X : ST) (O : Nat → Int64) (Z : ST) (Y : Int64) (H : Heap) (locs : List Loc) (ls : Array Slot), K X O Z Y → LH dC dI cA ad cL ao cM am s X O Z Y H locs → lv_has ls 7 [(4, .int v4), (0, .ref b), (1, .ref (ad 0)), (2, .ref (am 0)), (3, .ref ao)] → W p l e room_1 s m #[Value.ref b] below meth c H locs (nc + 3) (ns + 18) Q (F0 m 1372 ls [])) : W p l e room_1 s m #[Value.ref b] below meth c H locs nc ns Q (F0 m 563 ls []) := by
  obtain ⟨⟨hx, hb, hml, hown, hts, hX, hbl, hl9⟩, ⟨hGL, hGM⟩, ⟨hI, hIm, hO, hAM, hOM⟩, hn1, hn2, hn3⟩ := id hC
  have hKc := hGL.1.1
  have hKo := hGL.2.1
  have hKm := hGM.1
  have hbA : ¬ AN s b := fun h => absurd hbl (Nat.not_lt.mpr h)
  unfold cs_6 at hw
  refine lv_aload_n hx hb d_law_563 rfl (lv_at hl 2 rfl) ?_
  refine lv_aload_n hx hb d_law_564 rfl (lv_at hl 1 rfl) ?_
  refine lv_iload hx hb d_law_565 (lv_at hl 0 rfl) ?_
  refine lv_iconst (v := (1 : Int32)) hx hb d_law_567 (by decide) ?_
  refine lv_iadd hx hb d_law_568 ?_
  refine va_sld hx hb hX hbl hbA hL.2.2 h1 d_law_569 ?_
  refine lv_aload_n hx hb d_law_570 rfl (lv_at hl 1 rfl) ?_
  refine lv_iload hx hb d_law_571 (lv_at hl 0 rfl) ?_
  refine lv_iconst (v := (2 : Int32)) hx hb d_law_573 (by decide) ?_
  refine lv_iadd hx hb d_law_574 ?_
  refine va_sld hx hb hX hbl hbA hL.2.2 h2 d_law_575 ?_
  refine lv_aload_n hx hb d_law_576 rfl (lv_at hl 1 rfl) ?_
  refine lv_iload hx hb d_law_577 (lv_at hl 0 rfl) ?_
  refine lv_iconst (v := (3 : Int32)) hx hb d_law_579 (by decide) ?_
  refine lv_iadd hx hb d_law_580 ?_
  refine va_sld hx hb hX hbl hbA hL.2.2 h3 d_law_581 ?_
  refine lv_aload_n hx hb d_law_582 rfl (lv_at hl 4 rfl) ?_
  refine va_calli (xt_runT (As := [.ref (ad 0), .int (xs (v4 + (1 : Int32)).toNatClampNeg), .int (xs (v4 + (2 : Int32)).toNatClampNeg), .int (xs (v4 + (3 : Int32)).toNatClampNeg), .ref ao]) (rest := []) ⟨hx, hb, hml, hown, hts⟩ (mt_LW_probe l hl9 dC dI cA ad hI cL ao hO _ hw) (xt_cw 5 hts (gT gw_682) rfl rfl rfl (hts _ gw_657) (hts _ gw_683) (hts _ gw_684) (by decide +kernel) ⟨(Nat.le_of_ble_eq_true rfl), (Nat.le_of_ble_eq_true rfl)⟩) ⟨zwL_blind, LH.preL hC hL⟩ rfl rfl hl.1 rfl (lv_room (Nat.le_of_ble_eq_true rfl)) d_law_583 ⟨(show nc + 2 ≤ 653736 by omega), (show ns + 12 ≤ 7134863 by omega)⟩) hL.2.2 (fun q _ h => LH.anL hC hL q h) (fun q h => LH.anL hC hL q h) (fun k5 u9 t H9 locs9 ht hvm hw hB hz1 hk1 hS => ?_)
  obtain ⟨X1, O1⟩ := u9
  have hL := LH.callL (X1 := X1) (O1 := O1) hC hL (by rw [← ht]; exact hB) hk1 hS
  generalize H9 = H at hL ⊢
  try dsimp only at hw
  refine lv_istore (lv' := [(5, .int k5), (4, .int v4), (0, .ref b), (1, .ref (ad 0)), (2, .ref (am 0)), (3, .ref ao)]) hx hb d_law_586 hl (by decide) rfl (fun ls hl => ?_)
  refine lv_aload_n hx hb d_law_588 rfl (lv_at hl 4 rfl) ?_
  refine lv_aload_n hx hb d_law_589 rfl (lv_at hl 2 rfl) ?_
  refine lv_iload hx hb d_law_590 (lv_at hl 1 rfl) ?_
  refine lv_iconst (v := (1 : Int32)) hx hb d_law_592 (by decide) ?_
  refine lv_iadd hx hb d_law_593 ?_
  refine va_sld hx hb hX hbl hbA hL.2.2 h1 d_law_594 ?_
  refine lv_aload_n hx hb d_law_595 rfl (lv_at hl 2 rfl) ?_
  refine lv_iload hx hb d_law_596 (lv_at hl 1 rfl) ?_
  refine lv_iconst (v := (2 : Int32)) hx hb d_law_598 (by decide) ?_
  refine lv_iadd hx hb d_law_599 ?_
  refine va_sld hx hb hX hbl hbA hL.2.2 h2 d_law_600 ?_
  refine lv_aload_n hx hb d_law_601 rfl (lv_at hl 2 rfl) ?_
  refine lv_iload hx hb d_law_602 (lv_at hl 1 rfl) ?_
  refine lv_iconst (v := (3 : Int32)) hx hb d_law_604 (by decide) ?_
  refine lv_iadd hx hb d_law_605 ?_
  refine va_sld hx hb hX hbl hbA hL.2.2 h3 d_law_606 ?_
  refine va_calli (va_runV (As := [.int (xs (v4 + (1 : Int32)).toNatClampNeg), .int (xs (v4 + (2 : Int32)).toNatClampNeg), .int (xs (v4 + (3 : Int32)).toNatClampNeg)]) (rest := []) ⟨hx, hb, hml, hown, hts⟩ (mt_MO_probe l hl9 dC dI cM am hIm _ hw) (cwV 3 hts (gV gw_686 gw_687 gw_688 gw_306 gw_685) rfl rfl rfl (by decide +kernel) ⟨(Nat.le_of_ble_eq_true rfl), (Nat.le_of_ble_eq_true rfl)⟩) ⟨zwM_blind, va_recv hKm hL.2.1 (ci := 9) (q0 := 0) rfl atM_MO, LH.preM hC hL⟩ rfl rfl hl.1 rfl (lv_room (Nat.le_of_ble_eq_true rfl)) d_law_607 ⟨(show (nc + 2) + 0 ≤ 653736 by omega), (show (ns + 12) + 0 ≤ 7134863 by omega)⟩) hL.2.2 (fun q _ h => LH.anM hC hL q h) (fun q h => LH.anM hC hL q h) (fun r6 u9 t H9 locs9 ht hvm hw hB hz1 hk1 hS => ?_)
  obtain ⟨Z1, Y1⟩ := u9
  have hL := LH.callM (Z1 := Z1) (Y1 := Y1) hC hL (by rw [← ht]; exact hB) hk1 hS
  generalize H9 = H at hL ⊢
  try dsimp only at hw
  refine lv_istore (lv' := [(6, .int r6), (5, .int k5), (4, .int v4), (0, .ref b), (1, .ref (ad 0)), (2, .ref (am 0)), (3, .ref ao)]) hx hb d_law_610 hl (by decide) rfl (fun ls hl => ?_)
  refine lv_aload_n hx hb d_law_612 rfl (lv_at hl 5 rfl) ?_
  refine va_calli (va_runV (As := []) (rest := []) ⟨hx, hb, hml, hown, hts⟩ (mt_MO_thrown l hl9 dC dI cM am hIm _ hw) (cwV 0 hts (gV gw_665 gw_666 gw_667 gw_306 gw_664) rfl rfl rfl (by decide +kernel) ⟨(Nat.le_of_ble_eq_true rfl), (Nat.le_of_ble_eq_true rfl)⟩) ⟨zwM_blind, va_recv hKm hL.2.1 (ci := 9) (q0 := 0) rfl atM_MO, LH.preM hC hL⟩ rfl rfl hl.1 rfl (lv_room (Nat.le_of_ble_eq_true rfl)) d_law_613 ⟨(show ((nc + 2) + 0) + 0 ≤ 653736 by omega), (show ((ns + 12) + 0) + 0 ≤ 7134863 by omega)⟩) hL.2.2 (fun q _ h => LH.anM hC hL q h) (fun q h => LH.anM hC hL q h) (fun t7 u9 t H9 locs9 ht hvm hw hB hz1 hk1 hS => ?_)
  obtain ⟨Z2, Y2⟩ := u9
  have hL := LH.callM (Z1 := Z2) (Y1 := Y2) hC hL (by rw [← ht]; exact hB) hk1 hS
  generalize H9 = H at hL ⊢
  try dsimp only at hw
  refine lv_iload hx hb d_law_616 (lv_at hl 1 rfl) ?_
  obtain ⟨hq, hq2, hw⟩ := hw
  refine lv_icmp_eq (tgt := 623) hx hb d_law_618 (by decide) (fun h => ?_) (fun h => absurd hq h)
  refine lv_iload hx hb d_law_623 (lv_at hl 1 rfl) ?_
  refine lv_if_ne (tgt := 640) hx hb d_law_625 (by decide) (fun h => ?_) (fun h => ?_)
  · refine lv_goto (tgt := 1372) hx hb d_law_640 (by decide) ?_
    refine W.widen (k := nc + 3) (n := ns + 18) (by omega) (by omega) ?_
    have hl := lv_sub hl (l' := [(4, .int v4), (0, .ref b), (1, .ref (ad 0)), (2, .ref (am 0)), (3, .ref ao)]) [2, 3, 4, 5, 6] rfl
    exact hE _ _ _ _ _ _ _ hw hL hl
  · refine lv_aload_n hx hb d_law_628 rfl (lv_at hl 6 rfl) ?_
    refine lv_iconst (v := (0 : Int32)) hx hb d_law_629 (by decide) ?_
    refine va_lald hx hb hKo hL.1 125 0 atL_o rfl (by unfold vp_in; decide) d_law_630 ?_
    refine lv_iload hx hb d_law_631 (lv_at hl 0 rfl) ?_
    refine lv_i2l hx hb d_law_633 rfl ?_
    refine W.lcmp hx hb d_law_634 ?_
    refine lv_if_eq (tgt := 640) hx hb d_law_635 (by decide) (fun h9 => ?_) (fun h9 => absurd ((lg_cmp_eq _ _).mpr (hq2 h)) h9)
    refine lv_goto (tgt := 1372) hx hb d_law_640 (by decide) ?_
    refine W.widen (k := nc + 3) (n := ns + 18) (by omega) (by omega) ?_
    have hl := lv_sub hl (l' := [(4, .int v4), (0, .ref b), (1, .ref (ad 0)), (2, .ref (am 0)), (3, .ref ao)]) [2, 3, 4, 5, 6] rfl
    exact hE _ _ _ _ _ _ _ hw hL hl
set_option maxHeartbeats 4000000 in
set_option maxRecDepth 100000 in
theorem law_7 {p : Program} {l : Launch} {e : Env} {s : State} {m : MethodId} {below : List Frame} {meth : Method} {c : Code} {b L : Nat} {xs : Nat → Int32} {dC : Nat → ClassId} {dI : Nat → Nat → Nat} {cA : Nat → ClassId} {ad : Nat → Nat} {cL : ClassId} {ao : Nat} {cM : Nat → ClassId} {am : Nat → Nat} {Q : State → Prop} {K : ST → (Nat → Int64) → ST → Int64 → Prop} {v4 : Int32} {nc ns : Nat} (hnc : nc + 3 ≤ 653736) (hns : ns + 18 ≤ 7134863) (hC : LC p l s m meth c b L xs dC dI cA ad cL ao cM am) (h1 : vp_in (v4 + (1 : Int32)) L) (h2 : vp_in (v4 + (2 : Int32)) L) (h3 : vp_in (v4 + (3 : Int32)) L) (h4 : vp_in (v4 + (4 : Int32)) L) (h5 : vp_in (v4 + (5 : Int32)) L) {X : ST} {O : Nat → Int64} {Z : ST} {Y : Int64} {H : Heap} {locs : List Loc} {ls : Array Slot} (hw : cs_7 K X O Z Y (xs (v4 + (1 : Int32)).toNatClampNeg) (xs (v4 + (2 : Int32)).toNatClampNeg) (xs (v4 + (3 : Int32)).toNatClampNeg) (xs (v4 + (4 : Int32)).toNatClampNeg)) (hL : LH dC dI cA ad cL ao cM am s X O Z Y H locs) (hl : lv_has ls 7 [(4, .int v4), (0, .ref b), (1, .ref (ad 0)), (2, .ref (am 0)), (3, .ref ao)])
    (hE : ∀ (X : ST) (O : Nat → Int64) (Z : ST) (Y : Int64) (H : Heap) (locs : List Loc) (ls : Array Slot), K X O Z Y → LH dC dI cA ad cL ao cM am s X O Z Y H locs → lv_has ls 7 [(4, .int v4), (0, .ref b), (1, .ref (ad 0)), (2, .ref (am 0)), (3, .ref ao)] → W p l e room_1 s m #[Value.ref b] below meth c H locs (nc + 3) (ns + 18) Q (F0 m 1372 ls [])) : W p l e room_1 s m #[Value.ref b] below meth c H locs nc ns Q (F0 m 643 ls []) := by
  obtain ⟨⟨hx, hb, hml, hown, hts, hX, hbl, hl9⟩, ⟨hGL, hGM⟩, ⟨hI, hIm, hO, hAM, hOM⟩, hn1, hn2, hn3⟩ := id hC
  have hKc := hGL.1.1
  have hKo := hGL.2.1
  have hKm := hGM.1
  have hbA : ¬ AN s b := fun h => absurd hbl (Nat.not_lt.mpr h)
  unfold cs_7 at hw
  refine lv_aload_n hx hb d_law_643 rfl (lv_at hl 2 rfl) ?_
  refine lv_aload_n hx hb d_law_644 rfl (lv_at hl 1 rfl) ?_
  refine lv_iload hx hb d_law_645 (lv_at hl 0 rfl) ?_
  refine lv_iconst (v := (1 : Int32)) hx hb d_law_647 (by decide) ?_
  refine lv_iadd hx hb d_law_648 ?_
  refine va_sld hx hb hX hbl hbA hL.2.2 h1 d_law_649 ?_
  refine lv_aload_n hx hb d_law_650 rfl (lv_at hl 1 rfl) ?_
  refine lv_iload hx hb d_law_651 (lv_at hl 0 rfl) ?_
  refine lv_iconst (v := (2 : Int32)) hx hb d_law_653 (by decide) ?_
  refine lv_iadd hx hb d_law_654 ?_
  refine va_sld hx hb hX hbl hbA hL.2.2 h2 d_law_655 ?_
  refine lv_aload_n hx hb d_law_656 rfl (lv_at hl 1 rfl) ?_
  refine lv_iload hx hb d_law_657 (lv_at hl 0 rfl) ?_
  refine lv_iconst (v := (3 : Int32)) hx hb d_law_659 (by decide) ?_
  refine lv_iadd hx hb d_law_660 ?_
  refine va_sld hx hb hX hbl hbA hL.2.2 h3 d_law_661 ?_
  refine lv_aload_n hx hb d_law_662 rfl (lv_at hl 1 rfl) ?_
  refine lv_iload hx hb d_law_663 (lv_at hl 0 rfl) ?_
  refine lv_iconst (v := (4 : Int32)) hx hb d_law_665 (by decide) ?_
  refine lv_iadd hx hb d_law_666 ?_
  refine va_sld hx hb hX hbl hbA hL.2.2 h4 d_law_667 ?_
  refine lv_aload_n hx hb d_law_668 rfl (lv_at hl 4 rfl) ?_
  refine va_calli (xt_runT (As := [.ref (ad 0), .int (xs (v4 + (1 : Int32)).toNatClampNeg), .int (xs (v4 + (2 : Int32)).toNatClampNeg), .int (xs (v4 + (3 : Int32)).toNatClampNeg), .int (xs (v4 + (4 : Int32)).toNatClampNeg), .ref ao]) (rest := []) ⟨hx, hb, hml, hown, hts⟩ (mt_LW_finish l hl9 dC dI cA ad hI cL ao hO _ hw) (xt_cw 6 hts (gT gw_689) rfl rfl rfl (hts _ gw_657) (hts _ gw_690) (hts _ gw_691) (by decide +kernel) ⟨(Nat.le_of_ble_eq_true rfl), (Nat.le_of_ble_eq_true rfl)⟩) ⟨zwL_blind, LH.preL hC hL⟩ rfl rfl hl.1 rfl (lv_room (Nat.le_of_ble_eq_true rfl)) d_law_669 ⟨(show nc + 2 ≤ 653736 by omega), (show ns + 12 ≤ 7134863 by omega)⟩) hL.2.2 (fun q _ h => LH.anL hC hL q h) (fun q h => LH.anL hC hL q h) (fun k5 u9 t H9 locs9 ht hvm hw hB hz1 hk1 hS => ?_)
  obtain ⟨X1, O1⟩ := u9
  have hL := LH.callL (X1 := X1) (O1 := O1) hC hL (by rw [← ht]; exact hB) hk1 hS
  generalize H9 = H at hL ⊢
  try dsimp only at hw
  refine lv_istore (lv' := [(5, .int k5), (4, .int v4), (0, .ref b), (1, .ref (ad 0)), (2, .ref (am 0)), (3, .ref ao)]) hx hb d_law_672 hl (by decide) rfl (fun ls hl => ?_)
  refine lv_aload_n hx hb d_law_674 rfl (lv_at hl 4 rfl) ?_
  refine lv_aload_n hx hb d_law_675 rfl (lv_at hl 2 rfl) ?_
  refine lv_iload hx hb d_law_676 (lv_at hl 1 rfl) ?_
  refine lv_iconst (v := (1 : Int32)) hx hb d_law_678 (by decide) ?_
  refine lv_iadd hx hb d_law_679 ?_
  refine va_sld hx hb hX hbl hbA hL.2.2 h1 d_law_680 ?_
  refine lv_aload_n hx hb d_law_681 rfl (lv_at hl 2 rfl) ?_
  refine lv_iload hx hb d_law_682 (lv_at hl 1 rfl) ?_
  refine lv_iconst (v := (2 : Int32)) hx hb d_law_684 (by decide) ?_
  refine lv_iadd hx hb d_law_685 ?_
  refine va_sld hx hb hX hbl hbA hL.2.2 h2 d_law_686 ?_
  refine lv_aload_n hx hb d_law_687 rfl (lv_at hl 2 rfl) ?_
  refine lv_iload hx hb d_law_688 (lv_at hl 1 rfl) ?_
  refine lv_iconst (v := (3 : Int32)) hx hb d_law_690 (by decide) ?_
  refine lv_iadd hx hb d_law_691 ?_
  refine va_sld hx hb hX hbl hbA hL.2.2 h3 d_law_692 ?_
  refine lv_aload_n hx hb d_law_693 rfl (lv_at hl 2 rfl) ?_
  refine lv_iload hx hb d_law_694 (lv_at hl 1 rfl) ?_
  refine lv_iconst (v := (4 : Int32)) hx hb d_law_696 (by decide) ?_
  refine lv_iadd hx hb d_law_697 ?_
  refine va_sld hx hb hX hbl hbA hL.2.2 h4 d_law_698 ?_
  refine va_calli (va_runV (As := [.int (xs (v4 + (1 : Int32)).toNatClampNeg), .int (xs (v4 + (2 : Int32)).toNatClampNeg), .int (xs (v4 + (3 : Int32)).toNatClampNeg), .int (xs (v4 + (4 : Int32)).toNatClampNeg)]) (rest := []) ⟨hx, hb, hml, hown, hts⟩ (mt_MO_finish l hl9 dC dI cM am hIm _ hw) (cwV 4 hts (gV gw_693 gw_694 gw_695 gw_306 gw_692) rfl rfl rfl (by decide +kernel) ⟨(Nat.le_of_ble_eq_true rfl), (Nat.le_of_ble_eq_true rfl)⟩) ⟨zwM_blind, va_recv hKm hL.2.1 (ci := 9) (q0 := 0) rfl atM_MO, LH.preM hC hL⟩ rfl rfl hl.1 rfl (lv_room (Nat.le_of_ble_eq_true rfl)) d_law_699 ⟨(show (nc + 2) + 0 ≤ 653736 by omega), (show (ns + 12) + 0 ≤ 7134863 by omega)⟩) hL.2.2 (fun q _ h => LH.anM hC hL q h) (fun q h => LH.anM hC hL q h) (fun r6 u9 t H9 locs9 ht hvm hw hB hz1 hk1 hS => ?_)
  obtain ⟨Z1, Y1⟩ := u9
  have hL := LH.callM (Z1 := Z1) (Y1 := Y1) hC hL (by rw [← ht]; exact hB) hk1 hS
  generalize H9 = H at hL ⊢
  try dsimp only at hw
  refine lv_istore (lv' := [(6, .int r6), (5, .int k5), (4, .int v4), (0, .ref b), (1, .ref (ad 0)), (2, .ref (am 0)), (3, .ref ao)]) hx hb d_law_702 hl (by decide) rfl (fun ls hl => ?_)
  refine lv_aload_n hx hb d_law_704 rfl (lv_at hl 5 rfl) ?_
  refine va_calli (va_runV (As := []) (rest := []) ⟨hx, hb, hml, hown, hts⟩ (mt_MO_thrown l hl9 dC dI cM am hIm _ hw) (cwV 0 hts (gV gw_665 gw_666 gw_667 gw_306 gw_664) rfl rfl rfl (by decide +kernel) ⟨(Nat.le_of_ble_eq_true rfl), (Nat.le_of_ble_eq_true rfl)⟩) ⟨zwM_blind, va_recv hKm hL.2.1 (ci := 9) (q0 := 0) rfl atM_MO, LH.preM hC hL⟩ rfl rfl hl.1 rfl (lv_room (Nat.le_of_ble_eq_true rfl)) d_law_705 ⟨(show ((nc + 2) + 0) + 0 ≤ 653736 by omega), (show ((ns + 12) + 0) + 0 ≤ 7134863 by omega)⟩) hL.2.2 (fun q _ h => LH.anM hC hL q h) (fun q h => LH.anM hC hL q h) (fun t7 u9 t H9 locs9 ht hvm hw hB hz1 hk1 hS => ?_)
  obtain ⟨Z2, Y2⟩ := u9
  have hL := LH.callM (Z1 := Z2) (Y1 := Y2) hC hL (by rw [← ht]; exact hB) hk1 hS
  generalize H9 = H at hL ⊢
  try dsimp only at hw
  refine lv_iload hx hb d_law_708 (lv_at hl 1 rfl) ?_
  obtain ⟨hq, hq2, hw⟩ := hw
  refine lv_icmp_eq (tgt := 715) hx hb d_law_710 (by decide) (fun h => ?_) (fun h => absurd hq h)
  refine lv_iload hx hb d_law_715 (lv_at hl 1 rfl) ?_
  refine lv_if_ne (tgt := 732) hx hb d_law_717 (by decide) (fun h => ?_) (fun h => ?_)
  · refine lv_goto (tgt := 1372) hx hb d_law_732 (by decide) ?_
    refine W.widen (k := nc + 3) (n := ns + 18) (by omega) (by omega) ?_
    have hl := lv_sub hl (l' := [(4, .int v4), (0, .ref b), (1, .ref (ad 0)), (2, .ref (am 0)), (3, .ref ao)]) [2, 3, 4, 5, 6] rfl
    exact hE _ _ _ _ _ _ _ hw hL hl
  · refine lv_aload_n hx hb d_law_720 rfl (lv_at hl 6 rfl) ?_
    refine lv_iconst (v := (0 : Int32)) hx hb d_law_721 (by decide) ?_
    refine va_lald hx hb hKo hL.1 125 0 atL_o rfl (by unfold vp_in; decide) d_law_722 ?_
    refine lv_iload hx hb d_law_723 (lv_at hl 0 rfl) ?_
    refine lv_i2l hx hb d_law_725 rfl ?_
    refine W.lcmp hx hb d_law_726 ?_
    refine lv_if_eq (tgt := 732) hx hb d_law_727 (by decide) (fun h9 => ?_) (fun h9 => absurd ((lg_cmp_eq _ _).mpr (hq2 h)) h9)
    refine lv_goto (tgt := 1372) hx hb d_law_732 (by decide) ?_
    refine W.widen (k := nc + 3) (n := ns + 18) (by omega) (by omega) ?_
    have hl := lv_sub hl (l' := [(4, .int v4), (0, .ref b), (1, .ref (ad 0)), (2, .ref (am 0)), (3, .ref ao)]) [2, 3, 4, 5, 6] rfl
    exact hE _ _ _ _ _ _ _ hw hL hl
set_option maxHeartbeats 4000000 in
set_option maxRecDepth 100000 in
theorem law_8 {p : Program} {l : Launch} {e : Env} {s : State} {m : MethodId} {below : List Frame} {meth : Method} {c : Code} {b L : Nat} {xs : Nat → Int32} {dC : Nat → ClassId} {dI : Nat → Nat → Nat} {cA : Nat → ClassId} {ad : Nat → Nat} {cL : ClassId} {ao : Nat} {cM : Nat → ClassId} {am : Nat → Nat} {Q : State → Prop} {K : ST → (Nat → Int64) → ST → Int64 → Prop} {v4 : Int32} {nc ns : Nat} (hnc : nc + 3 ≤ 653736) (hns : ns + 18 ≤ 7134863) (hC : LC p l s m meth c b L xs dC dI cA ad cL ao cM am) (h1 : vp_in (v4 + (1 : Int32)) L) (h2 : vp_in (v4 + (2 : Int32)) L) (h3 : vp_in (v4 + (3 : Int32)) L) (h4 : vp_in (v4 + (4 : Int32)) L) (h5 : vp_in (v4 + (5 : Int32)) L) {X : ST} {O : Nat → Int64} {Z : ST} {Y : Int64} {H : Heap} {locs : List Loc} {ls : Array Slot} (hw : cs_8 K X O Z Y ) (hL : LH dC dI cA ad cL ao cM am s X O Z Y H locs) (hl : lv_has ls 7 [(4, .int v4), (0, .ref b), (1, .ref (ad 0)), (2, .ref (am 0)), (3, .ref ao)])
    (hE : ∀ (X : ST) (O : Nat → Int64) (Z : ST) (Y : Int64) (H : Heap) (locs : List Loc) (ls : Array Slot), K X O Z Y → LH dC dI cA ad cL ao cM am s X O Z Y H locs → lv_has ls 7 [(4, .int v4), (0, .ref b), (1, .ref (ad 0)), (2, .ref (am 0)), (3, .ref ao)] → W p l e room_1 s m #[Value.ref b] below meth c H locs (nc + 3) (ns + 18) Q (F0 m 1372 ls [])) : W p l e room_1 s m #[Value.ref b] below meth c H locs nc ns Q (F0 m 735 ls []) := by
  obtain ⟨⟨hx, hb, hml, hown, hts, hX, hbl, hl9⟩, ⟨hGL, hGM⟩, ⟨hI, hIm, hO, hAM, hOM⟩, hn1, hn2, hn3⟩ := id hC
  have hKc := hGL.1.1
  have hKo := hGL.2.1
  have hKm := hGM.1
  have hbA : ¬ AN s b := fun h => absurd hbl (Nat.not_lt.mpr h)
  unfold cs_8 at hw
  refine lv_aload_n hx hb d_law_735 rfl (lv_at hl 2 rfl) ?_
  refine va_calli (va_runV (As := []) (rest := []) ⟨hx, hb, hml, hown, hts⟩ (mt_CA_publish l hl9 dC dI cA ad hI _ hw) (cwV 0 hts (gV gw_697 gw_698 gw_699 gw_13 gw_696) rfl rfl rfl (by decide +kernel) ⟨(Nat.le_of_ble_eq_true rfl), (Nat.le_of_ble_eq_true rfl)⟩) ⟨zwC_blind, va_recv hKc (zwL_C hL.1) (ci := 0) (q0 := 0) rfl atC_CA, LH.preC hC hL⟩ rfl rfl hl.1 rfl (lv_room (Nat.le_of_ble_eq_true rfl)) d_law_736 ⟨(show nc + 0 ≤ 653736 by omega), (show ns + 0 ≤ 7134863 by omega)⟩) hL.2.2 (fun q _ h => LH.anC hC hL q h) (fun q h => LH.anC hC hL q h) (fun r5 X1 t H9 locs9 ht hvm hw hB hz1 hk1 hS => ?_)
  have hL := LH.callC (X1 := X1) hC hL (by rw [← ht]; exact hB) hk1 hS
  generalize H9 = H at hL ⊢
  try dsimp only at hw
  refine lv_aload_n hx hb d_law_739 rfl (lv_at hl 3 rfl) ?_
  refine va_calli (va_runV (As := []) (rest := [.int r5]) ⟨hx, hb, hml, hown, hts⟩ (mt_MO_publish l hl9 dC dI cM am hIm _ hw) (cwV 0 hts (gV gw_701 gw_702 gw_703 gw_306 gw_700) rfl rfl rfl (by decide +kernel) ⟨(Nat.le_of_ble_eq_true rfl), (Nat.le_of_ble_eq_true rfl)⟩) ⟨zwM_blind, va_recv hKm hL.2.1 (ci := 9) (q0 := 0) rfl atM_MO, LH.preM hC hL⟩ rfl rfl hl.1 rfl (lv_room (Nat.le_of_ble_eq_true rfl)) d_law_740 ⟨(show (nc + 0) + 0 ≤ 653736 by omega), (show (ns + 0) + 0 ≤ 7134863 by omega)⟩) hL.2.2 (fun q _ h => LH.anM hC hL q h) (fun q h => LH.anM hC hL q h) (fun r6 u9 t H9 locs9 ht hvm hw hB hz1 hk1 hS => ?_)
  obtain ⟨Z1, Y1⟩ := u9
  have hL := LH.callM (Z1 := Z1) (Y1 := Y1) hC hL (by rw [← ht]; exact hB) hk1 hS
  generalize H9 = H at hL ⊢
  try dsimp only at hw
  obtain ⟨hq, hw⟩ := hw
  refine lv_icmp_eq (tgt := 1372) hx hb d_law_743 (by decide) (fun h => ?_) (fun h => absurd hq h)
  refine W.widen (k := nc + 3) (n := ns + 18) (by omega) (by omega) ?_
  exact hE _ _ _ _ _ _ _ hw hL hl
set_option maxHeartbeats 4000000 in
set_option maxRecDepth 100000 in
theorem law_9 {p : Program} {l : Launch} {e : Env} {s : State} {m : MethodId} {below : List Frame} {meth : Method} {c : Code} {b L : Nat} {xs : Nat → Int32} {dC : Nat → ClassId} {dI : Nat → Nat → Nat} {cA : Nat → ClassId} {ad : Nat → Nat} {cL : ClassId} {ao : Nat} {cM : Nat → ClassId} {am : Nat → Nat} {Q : State → Prop} {K : ST → (Nat → Int64) → ST → Int64 → Prop} {v4 : Int32} {nc ns : Nat} (hnc : nc + 3 ≤ 653736) (hns : ns + 18 ≤ 7134863) (hC : LC p l s m meth c b L xs dC dI cA ad cL ao cM am) (h1 : vp_in (v4 + (1 : Int32)) L) (h2 : vp_in (v4 + (2 : Int32)) L) (h3 : vp_in (v4 + (3 : Int32)) L) (h4 : vp_in (v4 + (4 : Int32)) L) (h5 : vp_in (v4 + (5 : Int32)) L) {X : ST} {O : Nat → Int64} {Z : ST} {Y : Int64} {H : Heap} {locs : List Loc} {ls : Array Slot} (hw : cs_9 K X O Z Y (xs (v4 + (1 : Int32)).toNatClampNeg) (xs (v4 + (2 : Int32)).toNatClampNeg) (xs (v4 + (3 : Int32)).toNatClampNeg) (xs (v4 + (4 : Int32)).toNatClampNeg) (xs (v4 + (5 : Int32)).toNatClampNeg)) (hL : LH dC dI cA ad cL ao cM am s X O Z Y H locs) (hl : lv_has ls 7 [(4, .int v4), (0, .ref b), (1, .ref (ad 0)), (2, .ref (am 0)), (3, .ref ao)])
    (hE : ∀ (X : ST) (O : Nat → Int64) (Z : ST) (Y : Int64) (H : Heap) (locs : List Loc) (ls : Array Slot), K X O Z Y → LH dC dI cA ad cL ao cM am s X O Z Y H locs → lv_has ls 7 [(4, .int v4), (0, .ref b), (1, .ref (ad 0)), (2, .ref (am 0)), (3, .ref ao)] → W p l e room_1 s m #[Value.ref b] below meth c H locs (nc + 3) (ns + 18) Q (F0 m 1372 ls [])) : W p l e room_1 s m #[Value.ref b] below meth c H locs nc ns Q (F0 m 748 ls []) := by
  obtain ⟨⟨hx, hb, hml, hown, hts, hX, hbl, hl9⟩, ⟨hGL, hGM⟩, ⟨hI, hIm, hO, hAM, hOM⟩, hn1, hn2, hn3⟩ := id hC
  have hKc := hGL.1.1
  have hKo := hGL.2.1
  have hKm := hGM.1
  have hbA : ¬ AN s b := fun h => absurd hbl (Nat.not_lt.mpr h)
  unfold cs_9 at hw
  refine lv_aload_n hx hb d_law_748 rfl (lv_at hl 2 rfl) ?_
  refine lv_aload_n hx hb d_law_749 rfl (lv_at hl 1 rfl) ?_
  refine lv_iload hx hb d_law_750 (lv_at hl 0 rfl) ?_
  refine lv_iconst (v := (1 : Int32)) hx hb d_law_752 (by decide) ?_
  refine lv_iadd hx hb d_law_753 ?_
  refine va_sld hx hb hX hbl hbA hL.2.2 h1 d_law_754 ?_
  refine lv_aload_n hx hb d_law_755 rfl (lv_at hl 1 rfl) ?_
  refine lv_iload hx hb d_law_756 (lv_at hl 0 rfl) ?_
  refine lv_iconst (v := (2 : Int32)) hx hb d_law_758 (by decide) ?_
  refine lv_iadd hx hb d_law_759 ?_
  refine va_sld hx hb hX hbl hbA hL.2.2 h2 d_law_760 ?_
  refine lv_aload_n hx hb d_law_761 rfl (lv_at hl 1 rfl) ?_
  refine lv_iload hx hb d_law_762 (lv_at hl 0 rfl) ?_
  refine lv_iconst (v := (3 : Int32)) hx hb d_law_764 (by decide) ?_
  refine lv_iadd hx hb d_law_765 ?_
  refine va_sld hx hb hX hbl hbA hL.2.2 h3 d_law_766 ?_
  refine lv_aload_n hx hb d_law_767 rfl (lv_at hl 1 rfl) ?_
  refine lv_iload hx hb d_law_768 (lv_at hl 0 rfl) ?_
  refine lv_iconst (v := (4 : Int32)) hx hb d_law_770 (by decide) ?_
  refine lv_iadd hx hb d_law_771 ?_
  refine va_sld hx hb hX hbl hbA hL.2.2 h4 d_law_772 ?_
  refine lv_aload_n hx hb d_law_773 rfl (lv_at hl 1 rfl) ?_
  refine lv_iload hx hb d_law_774 (lv_at hl 0 rfl) ?_
  refine lv_iconst (v := (5 : Int32)) hx hb d_law_776 (by decide) ?_
  refine lv_iadd hx hb d_law_777 ?_
  refine va_sld hx hb hX hbl hbA hL.2.2 h5 d_law_778 ?_
  refine lv_aload_n hx hb d_law_779 rfl (lv_at hl 4 rfl) ?_
  refine va_calli (xt_runT (As := [.ref (ad 0), .int (xs (v4 + (1 : Int32)).toNatClampNeg), .int (xs (v4 + (2 : Int32)).toNatClampNeg), .int (xs (v4 + (3 : Int32)).toNatClampNeg), .int (xs (v4 + (4 : Int32)).toNatClampNeg), .int (xs (v4 + (5 : Int32)).toNatClampNeg), .ref ao]) (rest := []) ⟨hx, hb, hml, hown, hts⟩ (mt_LW_revoke l hl9 dC dI cA ad hI cL ao hO _ hw) (xt_cw 7 hts (gT gw_704) rfl rfl rfl (hts _ gw_657) (hts _ gw_705) (hts _ gw_706) (by decide +kernel) ⟨(Nat.le_of_ble_eq_true rfl), (Nat.le_of_ble_eq_true rfl)⟩) ⟨zwL_blind, LH.preL hC hL⟩ rfl rfl hl.1 rfl (lv_room (Nat.le_of_ble_eq_true rfl)) d_law_780 ⟨(show nc + 2 ≤ 653736 by omega), (show ns + 12 ≤ 7134863 by omega)⟩) hL.2.2 (fun q _ h => LH.anL hC hL q h) (fun q h => LH.anL hC hL q h) (fun k5 u9 t H9 locs9 ht hvm hw hB hz1 hk1 hS => ?_)
  obtain ⟨X1, O1⟩ := u9
  have hL := LH.callL (X1 := X1) (O1 := O1) hC hL (by rw [← ht]; exact hB) hk1 hS
  generalize H9 = H at hL ⊢
  try dsimp only at hw
  refine lv_istore (lv' := [(5, .int k5), (4, .int v4), (0, .ref b), (1, .ref (ad 0)), (2, .ref (am 0)), (3, .ref ao)]) hx hb d_law_783 hl (by decide) rfl (fun ls hl => ?_)
  refine lv_aload_n hx hb d_law_785 rfl (lv_at hl 4 rfl) ?_
  refine lv_aload_n hx hb d_law_786 rfl (lv_at hl 2 rfl) ?_
  refine lv_iload hx hb d_law_787 (lv_at hl 1 rfl) ?_
  refine lv_iconst (v := (1 : Int32)) hx hb d_law_789 (by decide) ?_
  refine lv_iadd hx hb d_law_790 ?_
  refine va_sld hx hb hX hbl hbA hL.2.2 h1 d_law_791 ?_
  refine lv_aload_n hx hb d_law_792 rfl (lv_at hl 2 rfl) ?_
  refine lv_iload hx hb d_law_793 (lv_at hl 1 rfl) ?_
  refine lv_iconst (v := (2 : Int32)) hx hb d_law_795 (by decide) ?_
  refine lv_iadd hx hb d_law_796 ?_
  refine va_sld hx hb hX hbl hbA hL.2.2 h2 d_law_797 ?_
  refine lv_aload_n hx hb d_law_798 rfl (lv_at hl 2 rfl) ?_
  refine lv_iload hx hb d_law_799 (lv_at hl 1 rfl) ?_
  refine lv_iconst (v := (3 : Int32)) hx hb d_law_801 (by decide) ?_
  refine lv_iadd hx hb d_law_802 ?_
  refine va_sld hx hb hX hbl hbA hL.2.2 h3 d_law_803 ?_
  refine lv_aload_n hx hb d_law_804 rfl (lv_at hl 2 rfl) ?_
  refine lv_iload hx hb d_law_805 (lv_at hl 1 rfl) ?_
  refine lv_iconst (v := (4 : Int32)) hx hb d_law_807 (by decide) ?_
  refine lv_iadd hx hb d_law_808 ?_
  refine va_sld hx hb hX hbl hbA hL.2.2 h4 d_law_809 ?_
  refine lv_aload_n hx hb d_law_810 rfl (lv_at hl 2 rfl) ?_
  refine lv_iload hx hb d_law_811 (lv_at hl 1 rfl) ?_
  refine lv_iconst (v := (5 : Int32)) hx hb d_law_813 (by decide) ?_
  refine lv_iadd hx hb d_law_814 ?_
  refine va_sld hx hb hX hbl hbA hL.2.2 h5 d_law_815 ?_
  refine va_calli (va_runV (As := [.int (xs (v4 + (1 : Int32)).toNatClampNeg), .int (xs (v4 + (2 : Int32)).toNatClampNeg), .int (xs (v4 + (3 : Int32)).toNatClampNeg), .int (xs (v4 + (4 : Int32)).toNatClampNeg), .int (xs (v4 + (5 : Int32)).toNatClampNeg)]) (rest := []) ⟨hx, hb, hml, hown, hts⟩ (mt_MO_revoke l hl9 dC dI cM am hIm _ hw) (cwV 5 hts (gV gw_708 gw_709 gw_710 gw_306 gw_707) rfl rfl rfl (by decide +kernel) ⟨(Nat.le_of_ble_eq_true rfl), (Nat.le_of_ble_eq_true rfl)⟩) ⟨zwM_blind, va_recv hKm hL.2.1 (ci := 9) (q0 := 0) rfl atM_MO, LH.preM hC hL⟩ rfl rfl hl.1 rfl (lv_room (Nat.le_of_ble_eq_true rfl)) d_law_816 ⟨(show (nc + 2) + 0 ≤ 653736 by omega), (show (ns + 12) + 0 ≤ 7134863 by omega)⟩) hL.2.2 (fun q _ h => LH.anM hC hL q h) (fun q h => LH.anM hC hL q h) (fun r6 u9 t H9 locs9 ht hvm hw hB hz1 hk1 hS => ?_)
  obtain ⟨Z1, Y1⟩ := u9
  have hL := LH.callM (Z1 := Z1) (Y1 := Y1) hC hL (by rw [← ht]; exact hB) hk1 hS
  generalize H9 = H at hL ⊢
  try dsimp only at hw
  refine lv_istore (lv' := [(6, .int r6), (5, .int k5), (4, .int v4), (0, .ref b), (1, .ref (ad 0)), (2, .ref (am 0)), (3, .ref ao)]) hx hb d_law_819 hl (by decide) rfl (fun ls hl => ?_)
  refine lv_aload_n hx hb d_law_821 rfl (lv_at hl 5 rfl) ?_
  refine va_calli (va_runV (As := []) (rest := []) ⟨hx, hb, hml, hown, hts⟩ (mt_MO_thrown l hl9 dC dI cM am hIm _ hw) (cwV 0 hts (gV gw_665 gw_666 gw_667 gw_306 gw_664) rfl rfl rfl (by decide +kernel) ⟨(Nat.le_of_ble_eq_true rfl), (Nat.le_of_ble_eq_true rfl)⟩) ⟨zwM_blind, va_recv hKm hL.2.1 (ci := 9) (q0 := 0) rfl atM_MO, LH.preM hC hL⟩ rfl rfl hl.1 rfl (lv_room (Nat.le_of_ble_eq_true rfl)) d_law_822 ⟨(show ((nc + 2) + 0) + 0 ≤ 653736 by omega), (show ((ns + 12) + 0) + 0 ≤ 7134863 by omega)⟩) hL.2.2 (fun q _ h => LH.anM hC hL q h) (fun q h => LH.anM hC hL q h) (fun t7 u9 t H9 locs9 ht hvm hw hB hz1 hk1 hS => ?_)
  obtain ⟨Z2, Y2⟩ := u9
  have hL := LH.callM (Z1 := Z2) (Y1 := Y2) hC hL (by rw [← ht]; exact hB) hk1 hS
  generalize H9 = H at hL ⊢
  try dsimp only at hw
  refine lv_iload hx hb d_law_825 (lv_at hl 1 rfl) ?_
  obtain ⟨hq, hq2, hw⟩ := hw
  refine lv_icmp_eq (tgt := 832) hx hb d_law_827 (by decide) (fun h => ?_) (fun h => absurd hq h)
  refine lv_iload hx hb d_law_832 (lv_at hl 1 rfl) ?_
  refine lv_if_ne (tgt := 849) hx hb d_law_834 (by decide) (fun h => ?_) (fun h => ?_)
  · refine lv_goto (tgt := 1372) hx hb d_law_849 (by decide) ?_
    refine W.widen (k := nc + 3) (n := ns + 18) (by omega) (by omega) ?_
    have hl := lv_sub hl (l' := [(4, .int v4), (0, .ref b), (1, .ref (ad 0)), (2, .ref (am 0)), (3, .ref ao)]) [2, 3, 4, 5, 6] rfl
    exact hE _ _ _ _ _ _ _ hw hL hl
  · refine lv_aload_n hx hb d_law_837 rfl (lv_at hl 6 rfl) ?_
    refine lv_iconst (v := (0 : Int32)) hx hb d_law_838 (by decide) ?_
    refine va_lald hx hb hKo hL.1 125 0 atL_o rfl (by unfold vp_in; decide) d_law_839 ?_
    refine lv_iload hx hb d_law_840 (lv_at hl 0 rfl) ?_
    refine lv_i2l hx hb d_law_842 rfl ?_
    refine W.lcmp hx hb d_law_843 ?_
    refine lv_if_eq (tgt := 849) hx hb d_law_844 (by decide) (fun h9 => ?_) (fun h9 => absurd ((lg_cmp_eq _ _).mpr (hq2 h)) h9)
    refine lv_goto (tgt := 1372) hx hb d_law_849 (by decide) ?_
    refine W.widen (k := nc + 3) (n := ns + 18) (by omega) (by omega) ?_
    have hl := lv_sub hl (l' := [(4, .int v4), (0, .ref b), (1, .ref (ad 0)), (2, .ref (am 0)), (3, .ref ao)]) [2, 3, 4, 5, 6] rfl
    exact hE _ _ _ _ _ _ _ hw hL hl
