set_option maxHeartbeats 4000000 in
set_option maxRecDepth 100000 in
theorem law_15 {p : Program} {l : Launch} {e : Env} {s : State} {m : MethodId} {below : List Frame} {meth : Method} {c : Code} {b L : Nat} {xs : Nat → Int32} {dC : Nat → ClassId} {dI : Nat → Nat → Nat} {cA : Nat → ClassId} {ad : Nat → Nat} {cL : ClassId} {ao : Nat} {cM : Nat → ClassId} {am : Nat → Nat} {Q : State → Prop} {K : ST → (Nat → Int64) → ST → Int64 → Prop} {v4 : Int32} {nc ns : Nat} (hnc : nc + 3 ≤ 653736) (hns : ns + 18 ≤ 7134863) (hC : LC p l s m meth c b L xs dC dI cA ad cL ao cM am) (h1 : vp_in (v4 + (1 : Int32)) L) (h2 : vp_in (v4 + (2 : Int32)) L) (h3 : vp_in (v4 + (3 : Int32)) L) (h4 : vp_in (v4 + (4 : Int32)) L) (h5 : vp_in (v4 + (5 : Int32)) L) {X : ST} {O : Nat → Int64} {Z : ST} {Y : Int64} {H : Heap} {locs : List Loc} {ls : Array Slot} (hw : cs_15 K X O Z Y (xs (v4 + (1 : Int32)).toNatClampNeg)) (hL : LH dC dI cA ad cL ao cM am s X O Z Y H locs) (hl : lv_has ls 7 [(4, .int v4), (0, .ref b), (1, .ref (ad 0)), (2, .ref (am 0)), (3, .ref ao)])
    (hE : ∀ (X : ST) (O : Nat → Int64) (Z : ST) (Y : Int64) (H : Heap) (locs : List Loc) (ls : Array Slot), K X O Z Y → LH dC dI cA ad cL ao cM am s X O Z Y H locs → lv_has ls 7 [(4, .int v4), (0, .ref b), (1, .ref (ad 0)), (2, .ref (am 0)), (3, .ref ao)] → W p l e room_1 s m #[Value.ref b] below meth c H locs (nc + 3) (ns + 18) Q (F0 m 1372 ls [])) : W p l e room_1 s m #[Value.ref b] below meth c H locs nc ns Q (F0 m 1143 ls []) := by
  obtain ⟨⟨hx, hb, hml, hown, hts, hX, hbl, hl9⟩, ⟨hGL, hGM⟩, ⟨hI, hIm, hO, hAM, hOM⟩, hn1, hn2, hn3⟩ := id hC
  have hKc := hGL.1.1
  have hKo := hGL.2.1
  have hKm := hGM.1
  have hbA : ¬ AN s b := fun h => absurd hbl (Nat.not_lt.mpr h)
  unfold cs_15 at hw
  refine lv_aload_n hx hb d_law_1143 rfl (lv_at hl 2 rfl) ?_
  refine lv_aload_n hx hb d_law_1144 rfl (lv_at hl 1 rfl) ?_
  refine lv_iload hx hb d_law_1145 (lv_at hl 0 rfl) ?_
  refine lv_iconst (v := (1 : Int32)) hx hb d_law_1147 (by decide) ?_
  refine lv_iadd hx hb d_law_1148 ?_
  refine va_sld hx hb hX hbl hbA hL.2.2 h1 d_law_1149 ?_
  refine lv_aload_n hx hb d_law_1150 rfl (lv_at hl 4 rfl) ?_
  refine va_calli (xt_runT (As := [.ref (ad 0), .int (xs (v4 + (1 : Int32)).toNatClampNeg), .ref ao]) (rest := []) ⟨hx, hb, hml, hown, hts⟩ (mt_LW_tick l hl9 dC dI cA ad hI cL ao hO _ hw) (xt_cw 3 hts (gT gw_747) rfl rfl rfl (hts _ gw_657) (hts _ gw_748) (hts _ gw_749) (by decide +kernel) ⟨(Nat.le_of_ble_eq_true rfl), (Nat.le_of_ble_eq_true rfl)⟩) ⟨zwL_blind, LH.preL hC hL⟩ rfl rfl hl.1 rfl (lv_room (Nat.le_of_ble_eq_true rfl)) d_law_1151 ⟨(show nc + 1 ≤ 653736 by omega), (show ns + 6 ≤ 7134863 by omega)⟩) hL.2.2 (fun q _ h => LH.anL hC hL q h) (fun q h => LH.anL hC hL q h) (fun k5 u9 t H9 locs9 ht hvm hw hB hz1 hk1 hS => ?_)
  obtain ⟨X1, O1⟩ := u9
  have hL := LH.callL (X1 := X1) (O1 := O1) hC hL (by rw [← ht]; exact hB) hk1 hS
  generalize H9 = H at hL ⊢
  try dsimp only at hw
  refine lv_istore (lv' := [(5, .int k5), (4, .int v4), (0, .ref b), (1, .ref (ad 0)), (2, .ref (am 0)), (3, .ref ao)]) hx hb d_law_1154 hl (by decide) rfl (fun ls hl => ?_)
  refine lv_aload_n hx hb d_law_1156 rfl (lv_at hl 4 rfl) ?_
  refine lv_aload_n hx hb d_law_1157 rfl (lv_at hl 2 rfl) ?_
  refine lv_iload hx hb d_law_1158 (lv_at hl 1 rfl) ?_
  refine lv_iconst (v := (1 : Int32)) hx hb d_law_1160 (by decide) ?_
  refine lv_iadd hx hb d_law_1161 ?_
  refine va_sld hx hb hX hbl hbA hL.2.2 h1 d_law_1162 ?_
  refine va_calli (va_runV (As := [.int (xs (v4 + (1 : Int32)).toNatClampNeg)]) (rest := []) ⟨hx, hb, hml, hown, hts⟩ (mt_MO_tick l hl9 dC dI cM am hIm _ hw) (cwV 1 hts (gV gw_751 gw_752 gw_753 gw_306 gw_750) rfl rfl rfl (by decide +kernel) ⟨(Nat.le_of_ble_eq_true rfl), (Nat.le_of_ble_eq_true rfl)⟩) ⟨zwM_blind, va_recv hKm hL.2.1 (ci := 9) (q0 := 0) rfl atM_MO, LH.preM hC hL⟩ rfl rfl hl.1 rfl (lv_room (Nat.le_of_ble_eq_true rfl)) d_law_1163 ⟨(show (nc + 1) + 0 ≤ 653736 by omega), (show (ns + 6) + 0 ≤ 7134863 by omega)⟩) hL.2.2 (fun q _ h => LH.anM hC hL q h) (fun q h => LH.anM hC hL q h) (fun r6 u9 t H9 locs9 ht hvm hw hB hz1 hk1 hS => ?_)
  obtain ⟨Z1, Y1⟩ := u9
  have hL := LH.callM (Z1 := Z1) (Y1 := Y1) hC hL (by rw [← ht]; exact hB) hk1 hS
  generalize H9 = H at hL ⊢
  try dsimp only at hw
  refine lv_istore (lv' := [(6, .int r6), (5, .int k5), (4, .int v4), (0, .ref b), (1, .ref (ad 0)), (2, .ref (am 0)), (3, .ref ao)]) hx hb d_law_1166 hl (by decide) rfl (fun ls hl => ?_)
  refine lv_aload_n hx hb d_law_1168 rfl (lv_at hl 5 rfl) ?_
  refine va_calli (va_runV (As := []) (rest := []) ⟨hx, hb, hml, hown, hts⟩ (mt_MO_thrown l hl9 dC dI cM am hIm _ hw) (cwV 0 hts (gV gw_665 gw_666 gw_667 gw_306 gw_664) rfl rfl rfl (by decide +kernel) ⟨(Nat.le_of_ble_eq_true rfl), (Nat.le_of_ble_eq_true rfl)⟩) ⟨zwM_blind, va_recv hKm hL.2.1 (ci := 9) (q0 := 0) rfl atM_MO, LH.preM hC hL⟩ rfl rfl hl.1 rfl (lv_room (Nat.le_of_ble_eq_true rfl)) d_law_1169 ⟨(show ((nc + 1) + 0) + 0 ≤ 653736 by omega), (show ((ns + 6) + 0) + 0 ≤ 7134863 by omega)⟩) hL.2.2 (fun q _ h => LH.anM hC hL q h) (fun q h => LH.anM hC hL q h) (fun t7 u9 t H9 locs9 ht hvm hw hB hz1 hk1 hS => ?_)
  obtain ⟨Z2, Y2⟩ := u9
  have hL := LH.callM (Z1 := Z2) (Y1 := Y2) hC hL (by rw [← ht]; exact hB) hk1 hS
  generalize H9 = H at hL ⊢
  try dsimp only at hw
  refine lv_iload hx hb d_law_1172 (lv_at hl 1 rfl) ?_
  obtain ⟨hq, hq2, hw⟩ := hw
  refine lv_icmp_eq (tgt := 1179) hx hb d_law_1174 (by decide) (fun h => ?_) (fun h => absurd hq h)
  refine lv_iload hx hb d_law_1179 (lv_at hl 1 rfl) ?_
  refine lv_if_ne (tgt := 1196) hx hb d_law_1181 (by decide) (fun h => ?_) (fun h => ?_)
  · refine lv_goto (tgt := 1372) hx hb d_law_1196 (by decide) ?_
    refine W.widen (k := nc + 3) (n := ns + 18) (by omega) (by omega) ?_
    have hl := lv_sub hl (l' := [(4, .int v4), (0, .ref b), (1, .ref (ad 0)), (2, .ref (am 0)), (3, .ref ao)]) [2, 3, 4, 5, 6] rfl
    exact hE _ _ _ _ _ _ _ hw hL hl
  · refine lv_aload_n hx hb d_law_1184 rfl (lv_at hl 6 rfl) ?_
    refine lv_iconst (v := (0 : Int32)) hx hb d_law_1185 (by decide) ?_
    refine va_lald hx hb hKo hL.1 125 0 atL_o rfl (by unfold vp_in; decide) d_law_1186 ?_
    refine lv_iload hx hb d_law_1187 (lv_at hl 0 rfl) ?_
    refine lv_i2l hx hb d_law_1189 rfl ?_
    refine W.lcmp hx hb d_law_1190 ?_
    refine lv_if_eq (tgt := 1196) hx hb d_law_1191 (by decide) (fun h9 => ?_) (fun h9 => absurd ((lg_cmp_eq _ _).mpr (hq2 h)) h9)
    refine lv_goto (tgt := 1372) hx hb d_law_1196 (by decide) ?_
    refine W.widen (k := nc + 3) (n := ns + 18) (by omega) (by omega) ?_
    have hl := lv_sub hl (l' := [(4, .int v4), (0, .ref b), (1, .ref (ad 0)), (2, .ref (am 0)), (3, .ref ao)]) [2, 3, 4, 5, 6] rfl
    exact hE _ _ _ _ _ _ _ hw hL hl
set_option maxHeartbeats 4000000 in
set_option maxRecDepth 100000 in
theorem law_16 {p : Program} {l : Launch} {e : Env} {s : State} {m : MethodId} {below : List Frame} {meth : Method} {c : Code} {b L : Nat} {xs : Nat → Int32} {dC : Nat → ClassId} {dI : Nat → Nat → Nat} {cA : Nat → ClassId} {ad : Nat → Nat} {cL : ClassId} {ao : Nat} {cM : Nat → ClassId} {am : Nat → Nat} {Q : State → Prop} {K : ST → (Nat → Int64) → ST → Int64 → Prop} {v4 : Int32} {nc ns : Nat} (hnc : nc + 3 ≤ 653736) (hns : ns + 18 ≤ 7134863) (hC : LC p l s m meth c b L xs dC dI cA ad cL ao cM am) (h1 : vp_in (v4 + (1 : Int32)) L) (h2 : vp_in (v4 + (2 : Int32)) L) (h3 : vp_in (v4 + (3 : Int32)) L) (h4 : vp_in (v4 + (4 : Int32)) L) (h5 : vp_in (v4 + (5 : Int32)) L) {X : ST} {O : Nat → Int64} {Z : ST} {Y : Int64} {H : Heap} {locs : List Loc} {ls : Array Slot} (hw : cs_16 K X O Z Y (xs (v4 + (1 : Int32)).toNatClampNeg)) (hL : LH dC dI cA ad cL ao cM am s X O Z Y H locs) (hl : lv_has ls 7 [(4, .int v4), (0, .ref b), (1, .ref (ad 0)), (2, .ref (am 0)), (3, .ref ao)])
    (hE : ∀ (X : ST) (O : Nat → Int64) (Z : ST) (Y : Int64) (H : Heap) (locs : List Loc) (ls : Array Slot), K X O Z Y → LH dC dI cA ad cL ao cM am s X O Z Y H locs → lv_has ls 7 [(4, .int v4), (0, .ref b), (1, .ref (ad 0)), (2, .ref (am 0)), (3, .ref ao)] → W p l e room_1 s m #[Value.ref b] below meth c H locs (nc + 3) (ns + 18) Q (F0 m 1372 ls [])) : W p l e room_1 s m #[Value.ref b] below meth c H locs nc ns Q (F0 m 1199 ls []) := by
  obtain ⟨⟨hx, hb, hml, hown, hts, hX, hbl, hl9⟩, ⟨hGL, hGM⟩, ⟨hI, hIm, hO, hAM, hOM⟩, hn1, hn2, hn3⟩ := id hC
  have hKc := hGL.1.1
  have hKo := hGL.2.1
  have hKm := hGM.1
  have hbA : ¬ AN s b := fun h => absurd hbl (Nat.not_lt.mpr h)
  unfold cs_16 at hw
  refine lv_aload_n hx hb d_law_1199 rfl (lv_at hl 2 rfl) ?_
  refine lv_aload_n hx hb d_law_1200 rfl (lv_at hl 1 rfl) ?_
  refine lv_iload hx hb d_law_1201 (lv_at hl 0 rfl) ?_
  refine lv_iconst (v := (1 : Int32)) hx hb d_law_1203 (by decide) ?_
  refine lv_iadd hx hb d_law_1204 ?_
  refine va_sld hx hb hX hbl hbA hL.2.2 h1 d_law_1205 ?_
  refine va_calli (va_runV (As := [.int (xs (v4 + (1 : Int32)).toNatClampNeg)]) (rest := []) ⟨hx, hb, hml, hown, hts⟩ (mt_CA_there l hl9 dC dI cA ad hI _ hw) (cwV 1 hts (gV gw_754 gw_249 gw_250 gw_13 gw_247) rfl rfl rfl (by decide +kernel) ⟨(Nat.le_of_ble_eq_true rfl), (Nat.le_of_ble_eq_true rfl)⟩) ⟨zwC_blind, va_recv hKc (zwL_C hL.1) (ci := 0) (q0 := 0) rfl atC_CA, LH.preC hC hL⟩ rfl rfl hl.1 rfl (lv_room (Nat.le_of_ble_eq_true rfl)) d_law_1206 ⟨(show nc + 0 ≤ 653736 by omega), (show ns + 0 ≤ 7134863 by omega)⟩) hL.2.2 (fun q _ h => LH.anC hC hL q h) (fun q h => LH.anC hC hL q h) (fun r5 X1 t H9 locs9 ht hvm hw hB hz1 hk1 hS => ?_)
  have hL := LH.callC (X1 := X1) hC hL (by rw [← ht]; exact hB) hk1 hS
  generalize H9 = H at hL ⊢
  try dsimp only at hw
  refine lv_aload_n hx hb d_law_1209 rfl (lv_at hl 3 rfl) ?_
  refine lv_aload_n hx hb d_law_1210 rfl (lv_at hl 1 rfl) ?_
  refine lv_iload hx hb d_law_1211 (lv_at hl 0 rfl) ?_
  refine lv_iconst (v := (1 : Int32)) hx hb d_law_1213 (by decide) ?_
  refine lv_iadd hx hb d_law_1214 ?_
  refine va_sld hx hb hX hbl hbA hL.2.2 h1 d_law_1215 ?_
  refine va_calli (va_runV (As := [.int (xs (v4 + (1 : Int32)).toNatClampNeg)]) (rest := [.int r5]) ⟨hx, hb, hml, hown, hts⟩ (mt_MO_there l hl9 dC dI cM am hIm _ hw) (cwV 1 hts (gV gw_756 gw_757 gw_758 gw_306 gw_755) rfl rfl rfl (by decide +kernel) ⟨(Nat.le_of_ble_eq_true rfl), (Nat.le_of_ble_eq_true rfl)⟩) ⟨zwM_blind, va_recv hKm hL.2.1 (ci := 9) (q0 := 0) rfl atM_MO, LH.preM hC hL⟩ rfl rfl hl.1 rfl (lv_room (Nat.le_of_ble_eq_true rfl)) d_law_1216 ⟨(show (nc + 0) + 0 ≤ 653736 by omega), (show (ns + 0) + 0 ≤ 7134863 by omega)⟩) hL.2.2 (fun q _ h => LH.anM hC hL q h) (fun q h => LH.anM hC hL q h) (fun r6 u9 t H9 locs9 ht hvm hw hB hz1 hk1 hS => ?_)
  obtain ⟨Z1, Y1⟩ := u9
  have hL := LH.callM (Z1 := Z1) (Y1 := Y1) hC hL (by rw [← ht]; exact hB) hk1 hS
  generalize H9 = H at hL ⊢
  try dsimp only at hw
  obtain ⟨hq, hw⟩ := hw
  refine lv_icmp_eq (tgt := 1372) hx hb d_law_1219 (by decide) (fun h => ?_) (fun h => absurd hq h)
  refine W.widen (k := nc + 3) (n := ns + 18) (by omega) (by omega) ?_
  exact hE _ _ _ _ _ _ _ hw hL hl
set_option maxHeartbeats 4000000 in
set_option maxRecDepth 100000 in
theorem law_17 {p : Program} {l : Launch} {e : Env} {s : State} {m : MethodId} {below : List Frame} {meth : Method} {c : Code} {b L : Nat} {xs : Nat → Int32} {dC : Nat → ClassId} {dI : Nat → Nat → Nat} {cA : Nat → ClassId} {ad : Nat → Nat} {cL : ClassId} {ao : Nat} {cM : Nat → ClassId} {am : Nat → Nat} {Q : State → Prop} {K : ST → (Nat → Int64) → ST → Int64 → Prop} {v4 : Int32} {nc ns : Nat} (hnc : nc + 3 ≤ 653736) (hns : ns + 18 ≤ 7134863) (hC : LC p l s m meth c b L xs dC dI cA ad cL ao cM am) (h1 : vp_in (v4 + (1 : Int32)) L) (h2 : vp_in (v4 + (2 : Int32)) L) (h3 : vp_in (v4 + (3 : Int32)) L) (h4 : vp_in (v4 + (4 : Int32)) L) (h5 : vp_in (v4 + (5 : Int32)) L) {X : ST} {O : Nat → Int64} {Z : ST} {Y : Int64} {H : Heap} {locs : List Loc} {ls : Array Slot} (hw : cs_17 K X O Z Y (xs (v4 + (1 : Int32)).toNatClampNeg) (xs (v4 + (2 : Int32)).toNatClampNeg)) (hL : LH dC dI cA ad cL ao cM am s X O Z Y H locs) (hl : lv_has ls 7 [(4, .int v4), (0, .ref b), (1, .ref (ad 0)), (2, .ref (am 0)), (3, .ref ao)])
    (hE : ∀ (X : ST) (O : Nat → Int64) (Z : ST) (Y : Int64) (H : Heap) (locs : List Loc) (ls : Array Slot), K X O Z Y → LH dC dI cA ad cL ao cM am s X O Z Y H locs → lv_has ls 7 [(4, .int v4), (0, .ref b), (1, .ref (ad 0)), (2, .ref (am 0)), (3, .ref ao)] → W p l e room_1 s m #[Value.ref b] below meth c H locs (nc + 3) (ns + 18) Q (F0 m 1372 ls [])) : W p l e room_1 s m #[Value.ref b] below meth c H locs nc ns Q (F0 m 1224 ls []) := by
  obtain ⟨⟨hx, hb, hml, hown, hts, hX, hbl, hl9⟩, ⟨hGL, hGM⟩, ⟨hI, hIm, hO, hAM, hOM⟩, hn1, hn2, hn3⟩ := id hC
  have hKc := hGL.1.1
  have hKo := hGL.2.1
  have hKm := hGM.1
  have hbA : ¬ AN s b := fun h => absurd hbl (Nat.not_lt.mpr h)
  unfold cs_17 at hw
  refine lv_aload_n hx hb d_law_1224 rfl (lv_at hl 2 rfl) ?_
  refine lv_aload_n hx hb d_law_1225 rfl (lv_at hl 1 rfl) ?_
  refine lv_iload hx hb d_law_1226 (lv_at hl 0 rfl) ?_
  refine lv_iconst (v := (1 : Int32)) hx hb d_law_1228 (by decide) ?_
  refine lv_iadd hx hb d_law_1229 ?_
  refine va_sld hx hb hX hbl hbA hL.2.2 h1 d_law_1230 ?_
  refine lv_aload_n hx hb d_law_1231 rfl (lv_at hl 1 rfl) ?_
  refine lv_iload hx hb d_law_1232 (lv_at hl 0 rfl) ?_
  refine lv_iconst (v := (2 : Int32)) hx hb d_law_1234 (by decide) ?_
  refine lv_iadd hx hb d_law_1235 ?_
  refine va_sld hx hb hX hbl hbA hL.2.2 h2 d_law_1236 ?_
  refine lv_aload_n hx hb d_law_1237 rfl (lv_at hl 4 rfl) ?_
  refine va_calli (xt_runT (As := [.ref (ad 0), .int (xs (v4 + (1 : Int32)).toNatClampNeg), .int (xs (v4 + (2 : Int32)).toNatClampNeg), .ref ao]) (rest := []) ⟨hx, hb, hml, hown, hts⟩ (mt_LW_state l hl9 dC dI cA ad hI cL ao hO _ hw) (xt_cw 4 hts (gT gw_759) rfl rfl rfl (hts _ gw_657) (hts _ gw_760) (hts _ gw_761) (by decide +kernel) ⟨(Nat.le_of_ble_eq_true rfl), (Nat.le_of_ble_eq_true rfl)⟩) ⟨zwL_blind, LH.preL hC hL⟩ rfl rfl hl.1 rfl (lv_room (Nat.le_of_ble_eq_true rfl)) d_law_1238 ⟨(show nc + 1 ≤ 653736 by omega), (show ns + 6 ≤ 7134863 by omega)⟩) hL.2.2 (fun q _ h => LH.anL hC hL q h) (fun q h => LH.anL hC hL q h) (fun k5 u9 t H9 locs9 ht hvm hw hB hz1 hk1 hS => ?_)
  obtain ⟨X1, O1⟩ := u9
  have hL := LH.callL (X1 := X1) (O1 := O1) hC hL (by rw [← ht]; exact hB) hk1 hS
  generalize H9 = H at hL ⊢
  try dsimp only at hw
  refine lv_istore (lv' := [(5, .int k5), (4, .int v4), (0, .ref b), (1, .ref (ad 0)), (2, .ref (am 0)), (3, .ref ao)]) hx hb d_law_1241 hl (by decide) rfl (fun ls hl => ?_)
  refine lv_aload_n hx hb d_law_1243 rfl (lv_at hl 4 rfl) ?_
  refine lv_aload_n hx hb d_law_1244 rfl (lv_at hl 2 rfl) ?_
  refine lv_iload hx hb d_law_1245 (lv_at hl 1 rfl) ?_
  refine lv_iconst (v := (1 : Int32)) hx hb d_law_1247 (by decide) ?_
  refine lv_iadd hx hb d_law_1248 ?_
  refine va_sld hx hb hX hbl hbA hL.2.2 h1 d_law_1249 ?_
  refine lv_aload_n hx hb d_law_1250 rfl (lv_at hl 2 rfl) ?_
  refine lv_iload hx hb d_law_1251 (lv_at hl 1 rfl) ?_
  refine lv_iconst (v := (2 : Int32)) hx hb d_law_1253 (by decide) ?_
  refine lv_iadd hx hb d_law_1254 ?_
  refine va_sld hx hb hX hbl hbA hL.2.2 h2 d_law_1255 ?_
  refine va_calli (va_runV (As := [.int (xs (v4 + (1 : Int32)).toNatClampNeg), .int (xs (v4 + (2 : Int32)).toNatClampNeg)]) (rest := []) ⟨hx, hb, hml, hown, hts⟩ (mt_MO_state l hl9 dC dI cM am hIm _ hw) (cwV 2 hts (gV gw_763 gw_764 gw_765 gw_306 gw_762) rfl rfl rfl (by decide +kernel) ⟨(Nat.le_of_ble_eq_true rfl), (Nat.le_of_ble_eq_true rfl)⟩) ⟨zwM_blind, va_recv hKm hL.2.1 (ci := 9) (q0 := 0) rfl atM_MO, LH.preM hC hL⟩ rfl rfl hl.1 rfl (lv_room (Nat.le_of_ble_eq_true rfl)) d_law_1256 ⟨(show (nc + 1) + 0 ≤ 653736 by omega), (show (ns + 6) + 0 ≤ 7134863 by omega)⟩) hL.2.2 (fun q _ h => LH.anM hC hL q h) (fun q h => LH.anM hC hL q h) (fun r6 u9 t H9 locs9 ht hvm hw hB hz1 hk1 hS => ?_)
  obtain ⟨Z1, Y1⟩ := u9
  have hL := LH.callM (Z1 := Z1) (Y1 := Y1) hC hL (by rw [← ht]; exact hB) hk1 hS
  generalize H9 = H at hL ⊢
  try dsimp only at hw
  refine lv_istore (lv' := [(6, .int r6), (5, .int k5), (4, .int v4), (0, .ref b), (1, .ref (ad 0)), (2, .ref (am 0)), (3, .ref ao)]) hx hb d_law_1259 hl (by decide) rfl (fun ls hl => ?_)
  refine lv_aload_n hx hb d_law_1261 rfl (lv_at hl 5 rfl) ?_
  refine va_calli (va_runV (As := []) (rest := []) ⟨hx, hb, hml, hown, hts⟩ (mt_MO_thrown l hl9 dC dI cM am hIm _ hw) (cwV 0 hts (gV gw_665 gw_666 gw_667 gw_306 gw_664) rfl rfl rfl (by decide +kernel) ⟨(Nat.le_of_ble_eq_true rfl), (Nat.le_of_ble_eq_true rfl)⟩) ⟨zwM_blind, va_recv hKm hL.2.1 (ci := 9) (q0 := 0) rfl atM_MO, LH.preM hC hL⟩ rfl rfl hl.1 rfl (lv_room (Nat.le_of_ble_eq_true rfl)) d_law_1262 ⟨(show ((nc + 1) + 0) + 0 ≤ 653736 by omega), (show ((ns + 6) + 0) + 0 ≤ 7134863 by omega)⟩) hL.2.2 (fun q _ h => LH.anM hC hL q h) (fun q h => LH.anM hC hL q h) (fun t7 u9 t H9 locs9 ht hvm hw hB hz1 hk1 hS => ?_)
  obtain ⟨Z2, Y2⟩ := u9
  have hL := LH.callM (Z1 := Z2) (Y1 := Y2) hC hL (by rw [← ht]; exact hB) hk1 hS
  generalize H9 = H at hL ⊢
  try dsimp only at hw
  refine lv_iload hx hb d_law_1265 (lv_at hl 1 rfl) ?_
  obtain ⟨hq, hq2, hw⟩ := hw
  refine lv_icmp_eq (tgt := 1272) hx hb d_law_1267 (by decide) (fun h => ?_) (fun h => absurd hq h)
  refine lv_iload hx hb d_law_1272 (lv_at hl 1 rfl) ?_
  refine lv_if_ne (tgt := 1289) hx hb d_law_1274 (by decide) (fun h => ?_) (fun h => ?_)
  · refine lv_goto (tgt := 1372) hx hb d_law_1289 (by decide) ?_
    refine W.widen (k := nc + 3) (n := ns + 18) (by omega) (by omega) ?_
    have hl := lv_sub hl (l' := [(4, .int v4), (0, .ref b), (1, .ref (ad 0)), (2, .ref (am 0)), (3, .ref ao)]) [2, 3, 4, 5, 6] rfl
    exact hE _ _ _ _ _ _ _ hw hL hl
  · refine lv_aload_n hx hb d_law_1277 rfl (lv_at hl 6 rfl) ?_
    refine lv_iconst (v := (0 : Int32)) hx hb d_law_1278 (by decide) ?_
    refine va_lald hx hb hKo hL.1 125 0 atL_o rfl (by unfold vp_in; decide) d_law_1279 ?_
    refine lv_iload hx hb d_law_1280 (lv_at hl 0 rfl) ?_
    refine lv_i2l hx hb d_law_1282 rfl ?_
    refine W.lcmp hx hb d_law_1283 ?_
    refine lv_if_eq (tgt := 1289) hx hb d_law_1284 (by decide) (fun h9 => ?_) (fun h9 => absurd ((lg_cmp_eq _ _).mpr (hq2 h)) h9)
    refine lv_goto (tgt := 1372) hx hb d_law_1289 (by decide) ?_
    refine W.widen (k := nc + 3) (n := ns + 18) (by omega) (by omega) ?_
    have hl := lv_sub hl (l' := [(4, .int v4), (0, .ref b), (1, .ref (ad 0)), (2, .ref (am 0)), (3, .ref ao)]) [2, 3, 4, 5, 6] rfl
    exact hE _ _ _ _ _ _ _ hw hL hl
set_option maxHeartbeats 4000000 in
set_option maxRecDepth 100000 in
theorem law_18 {p : Program} {l : Launch} {e : Env} {s : State} {m : MethodId} {below : List Frame} {meth : Method} {c : Code} {b L : Nat} {xs : Nat → Int32} {dC : Nat → ClassId} {dI : Nat → Nat → Nat} {cA : Nat → ClassId} {ad : Nat → Nat} {cL : ClassId} {ao : Nat} {cM : Nat → ClassId} {am : Nat → Nat} {Q : State → Prop} {K : ST → (Nat → Int64) → ST → Int64 → Prop} {v4 : Int32} {nc ns : Nat} (hnc : nc + 3 ≤ 653736) (hns : ns + 18 ≤ 7134863) (hC : LC p l s m meth c b L xs dC dI cA ad cL ao cM am) (h1 : vp_in (v4 + (1 : Int32)) L) (h2 : vp_in (v4 + (2 : Int32)) L) (h3 : vp_in (v4 + (3 : Int32)) L) (h4 : vp_in (v4 + (4 : Int32)) L) (h5 : vp_in (v4 + (5 : Int32)) L) {X : ST} {O : Nat → Int64} {Z : ST} {Y : Int64} {H : Heap} {locs : List Loc} {ls : Array Slot} (hw : cs_18 K X O Z Y (xs (v4 + (1 : Int32)).toNatClampNeg) (xs (v4 + (2 : Int32)).toNatClampNeg) (xs (v4 + (3 : Int32)).toNatClampNeg)) (hL : LH dC dI cA ad cL ao cM am s X O Z Y H locs) (hl : lv_has ls 7 [(4, .int v4), (0, .ref b), (1, .ref (ad 0)), (2, .ref (am 0)), (3, .ref ao)])
    (hE : ∀ (X : ST) (O : Nat → Int64) (Z : ST) (Y : Int64) (H : Heap) (locs : List Loc) (ls : Array Slot), K X O Z Y → LH dC dI cA ad cL ao cM am s X O Z Y H locs → lv_has ls 7 [(4, .int v4), (0, .ref b), (1, .ref (ad 0)), (2, .ref (am 0)), (3, .ref ao)] → W p l e room_1 s m #[Value.ref b] below meth c H locs (nc + 3) (ns + 18) Q (F0 m 1372 ls [])) : W p l e room_1 s m #[Value.ref b] below meth c H locs nc ns Q (F0 m 1292 ls []) := by
  obtain ⟨⟨hx, hb, hml, hown, hts, hX, hbl, hl9⟩, ⟨hGL, hGM⟩, ⟨hI, hIm, hO, hAM, hOM⟩, hn1, hn2, hn3⟩ := id hC
  have hKc := hGL.1.1
  have hKo := hGL.2.1
  have hKm := hGM.1
  have hbA : ¬ AN s b := fun h => absurd hbl (Nat.not_lt.mpr h)
  unfold cs_18 at hw
  refine lv_aload_n hx hb d_law_1292 rfl (lv_at hl 2 rfl) ?_
  refine lv_aload_n hx hb d_law_1293 rfl (lv_at hl 1 rfl) ?_
  refine lv_iload hx hb d_law_1294 (lv_at hl 0 rfl) ?_
  refine lv_iconst (v := (1 : Int32)) hx hb d_law_1296 (by decide) ?_
  refine lv_iadd hx hb d_law_1297 ?_
  refine va_sld hx hb hX hbl hbA hL.2.2 h1 d_law_1298 ?_
  refine lv_aload_n hx hb d_law_1299 rfl (lv_at hl 1 rfl) ?_
  refine lv_iload hx hb d_law_1300 (lv_at hl 0 rfl) ?_
  refine lv_iconst (v := (2 : Int32)) hx hb d_law_1302 (by decide) ?_
  refine lv_iadd hx hb d_law_1303 ?_
  refine va_sld hx hb hX hbl hbA hL.2.2 h2 d_law_1304 ?_
  refine lv_aload_n hx hb d_law_1305 rfl (lv_at hl 1 rfl) ?_
  refine lv_iload hx hb d_law_1306 (lv_at hl 0 rfl) ?_
  refine lv_iconst (v := (3 : Int32)) hx hb d_law_1308 (by decide) ?_
  refine lv_iadd hx hb d_law_1309 ?_
  refine va_sld hx hb hX hbl hbA hL.2.2 h3 d_law_1310 ?_
  refine lv_aload_n hx hb d_law_1311 rfl (lv_at hl 4 rfl) ?_
  refine va_calli (xt_runT (As := [.ref (ad 0), .int (xs (v4 + (1 : Int32)).toNatClampNeg), .int (xs (v4 + (2 : Int32)).toNatClampNeg), .int (xs (v4 + (3 : Int32)).toNatClampNeg), .ref ao]) (rest := []) ⟨hx, hb, hml, hown, hts⟩ (mt_LW_detail l hl9 dC dI cA ad hI cL ao hO _ hw) (xt_cw 5 hts (gT gw_766) rfl rfl rfl (hts _ gw_657) (hts _ gw_767) (hts _ gw_768) (by decide +kernel) ⟨(Nat.le_of_ble_eq_true rfl), (Nat.le_of_ble_eq_true rfl)⟩) ⟨zwL_blind, LH.preL hC hL⟩ rfl rfl hl.1 rfl (lv_room (Nat.le_of_ble_eq_true rfl)) d_law_1312 ⟨(show nc + 1 ≤ 653736 by omega), (show ns + 6 ≤ 7134863 by omega)⟩) hL.2.2 (fun q _ h => LH.anL hC hL q h) (fun q h => LH.anL hC hL q h) (fun k5 u9 t H9 locs9 ht hvm hw hB hz1 hk1 hS => ?_)
  obtain ⟨X1, O1⟩ := u9
  have hL := LH.callL (X1 := X1) (O1 := O1) hC hL (by rw [← ht]; exact hB) hk1 hS
  generalize H9 = H at hL ⊢
  try dsimp only at hw
  refine lv_istore (lv' := [(5, .int k5), (4, .int v4), (0, .ref b), (1, .ref (ad 0)), (2, .ref (am 0)), (3, .ref ao)]) hx hb d_law_1315 hl (by decide) rfl (fun ls hl => ?_)
  refine lv_aload_n hx hb d_law_1317 rfl (lv_at hl 4 rfl) ?_
  refine lv_aload_n hx hb d_law_1318 rfl (lv_at hl 2 rfl) ?_
  refine lv_iload hx hb d_law_1319 (lv_at hl 1 rfl) ?_
  refine lv_iconst (v := (1 : Int32)) hx hb d_law_1321 (by decide) ?_
  refine lv_iadd hx hb d_law_1322 ?_
  refine va_sld hx hb hX hbl hbA hL.2.2 h1 d_law_1323 ?_
  refine lv_aload_n hx hb d_law_1324 rfl (lv_at hl 2 rfl) ?_
  refine lv_iload hx hb d_law_1325 (lv_at hl 1 rfl) ?_
  refine lv_iconst (v := (2 : Int32)) hx hb d_law_1327 (by decide) ?_
  refine lv_iadd hx hb d_law_1328 ?_
  refine va_sld hx hb hX hbl hbA hL.2.2 h2 d_law_1329 ?_
  refine lv_aload_n hx hb d_law_1330 rfl (lv_at hl 2 rfl) ?_
  refine lv_iload hx hb d_law_1331 (lv_at hl 1 rfl) ?_
  refine lv_iconst (v := (3 : Int32)) hx hb d_law_1333 (by decide) ?_
  refine lv_iadd hx hb d_law_1334 ?_
  refine va_sld hx hb hX hbl hbA hL.2.2 h3 d_law_1335 ?_
  refine va_calli (va_runV (As := [.int (xs (v4 + (1 : Int32)).toNatClampNeg), .int (xs (v4 + (2 : Int32)).toNatClampNeg), .int (xs (v4 + (3 : Int32)).toNatClampNeg)]) (rest := []) ⟨hx, hb, hml, hown, hts⟩ (mt_MO_detail l hl9 dC dI cM am hIm _ hw) (cwV 3 hts (gV gw_770 gw_771 gw_772 gw_306 gw_769) rfl rfl rfl (by decide +kernel) ⟨(Nat.le_of_ble_eq_true rfl), (Nat.le_of_ble_eq_true rfl)⟩) ⟨zwM_blind, va_recv hKm hL.2.1 (ci := 9) (q0 := 0) rfl atM_MO, LH.preM hC hL⟩ rfl rfl hl.1 rfl (lv_room (Nat.le_of_ble_eq_true rfl)) d_law_1336 ⟨(show (nc + 1) + 0 ≤ 653736 by omega), (show (ns + 6) + 0 ≤ 7134863 by omega)⟩) hL.2.2 (fun q _ h => LH.anM hC hL q h) (fun q h => LH.anM hC hL q h) (fun r6 u9 t H9 locs9 ht hvm hw hB hz1 hk1 hS => ?_)
  obtain ⟨Z1, Y1⟩ := u9
  have hL := LH.callM (Z1 := Z1) (Y1 := Y1) hC hL (by rw [← ht]; exact hB) hk1 hS
  generalize H9 = H at hL ⊢
  try dsimp only at hw
  refine lv_istore (lv' := [(6, .int r6), (5, .int k5), (4, .int v4), (0, .ref b), (1, .ref (ad 0)), (2, .ref (am 0)), (3, .ref ao)]) hx hb d_law_1339 hl (by decide) rfl (fun ls hl => ?_)
  refine lv_aload_n hx hb d_law_1341 rfl (lv_at hl 5 rfl) ?_
  refine va_calli (va_runV (As := []) (rest := []) ⟨hx, hb, hml, hown, hts⟩ (mt_MO_thrown l hl9 dC dI cM am hIm _ hw) (cwV 0 hts (gV gw_665 gw_666 gw_667 gw_306 gw_664) rfl rfl rfl (by decide +kernel) ⟨(Nat.le_of_ble_eq_true rfl), (Nat.le_of_ble_eq_true rfl)⟩) ⟨zwM_blind, va_recv hKm hL.2.1 (ci := 9) (q0 := 0) rfl atM_MO, LH.preM hC hL⟩ rfl rfl hl.1 rfl (lv_room (Nat.le_of_ble_eq_true rfl)) d_law_1342 ⟨(show ((nc + 1) + 0) + 0 ≤ 653736 by omega), (show ((ns + 6) + 0) + 0 ≤ 7134863 by omega)⟩) hL.2.2 (fun q _ h => LH.anM hC hL q h) (fun q h => LH.anM hC hL q h) (fun t7 u9 t H9 locs9 ht hvm hw hB hz1 hk1 hS => ?_)
  obtain ⟨Z2, Y2⟩ := u9
  have hL := LH.callM (Z1 := Z2) (Y1 := Y2) hC hL (by rw [← ht]; exact hB) hk1 hS
  generalize H9 = H at hL ⊢
  try dsimp only at hw
  refine lv_iload hx hb d_law_1345 (lv_at hl 1 rfl) ?_
  obtain ⟨hq, hq2, hw⟩ := hw
  refine lv_icmp_eq (tgt := 1352) hx hb d_law_1347 (by decide) (fun h => ?_) (fun h => absurd hq h)
  refine lv_iload hx hb d_law_1352 (lv_at hl 1 rfl) ?_
  refine lv_if_ne (tgt := 1369) hx hb d_law_1354 (by decide) (fun h => ?_) (fun h => ?_)
  · refine lv_goto (tgt := 1372) hx hb d_law_1369 (by decide) ?_
    refine W.widen (k := nc + 3) (n := ns + 18) (by omega) (by omega) ?_
    have hl := lv_sub hl (l' := [(4, .int v4), (0, .ref b), (1, .ref (ad 0)), (2, .ref (am 0)), (3, .ref ao)]) [2, 3, 4, 5, 6] rfl
    exact hE _ _ _ _ _ _ _ hw hL hl
  · refine lv_aload_n hx hb d_law_1357 rfl (lv_at hl 6 rfl) ?_
    refine lv_iconst (v := (0 : Int32)) hx hb d_law_1358 (by decide) ?_
    refine va_lald hx hb hKo hL.1 125 0 atL_o rfl (by unfold vp_in; decide) d_law_1359 ?_
    refine lv_iload hx hb d_law_1360 (lv_at hl 0 rfl) ?_
    refine lv_i2l hx hb d_law_1362 rfl ?_
    refine W.lcmp hx hb d_law_1363 ?_
    refine lv_if_eq (tgt := 1369) hx hb d_law_1364 (by decide) (fun h9 => ?_) (fun h9 => absurd ((lg_cmp_eq _ _).mpr (hq2 h)) h9)
    refine lv_goto (tgt := 1372) hx hb d_law_1369 (by decide) ?_
    refine W.widen (k := nc + 3) (n := ns + 18) (by omega) (by omega) ?_
    have hl := lv_sub hl (l' := [(4, .int v4), (0, .ref b), (1, .ref (ad 0)), (2, .ref (am 0)), (3, .ref ao)]) [2, 3, 4, 5, 6] rfl
    exact hE _ _ _ _ _ _ _ hw hL hl
