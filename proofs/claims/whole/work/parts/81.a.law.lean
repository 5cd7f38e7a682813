set_option maxHeartbeats 4000000 in
set_option maxRecDepth 100000 in
theorem law_0 {p : Program} {l : Launch} {e : Env} {s : State} {m : MethodId} {below : List Frame} {meth : Method} {c : Code} {b L : Nat} {xs : Nat → Int32} {dC : Nat → ClassId} {dI : Nat → Nat → Nat} {cA : Nat → ClassId} {ad : Nat → Nat} {cL : ClassId} {ao : Nat} {cM : Nat → ClassId} {am : Nat → Nat} {Q : State → Prop} {K : ST → (Nat → Int64) → ST → Int64 → Prop} {v4 : Int32} {nc ns : Nat} (hnc : nc + 3 ≤ 653736) (hns : ns + 18 ≤ 7134863) (hC : LC p l s m meth c b L xs dC dI cA ad cL ao cM am) (h1 : vp_in (v4 + (1 : Int32)) L) (h2 : vp_in (v4 + (2 : Int32)) L) (h3 : vp_in (v4 + (3 : Int32)) L) (h4 : vp_in (v4 + (4 : Int32)) L) (h5 : vp_in (v4 + (5 : Int32)) L) {X : ST} {O : Nat → Int64} {Z : ST} {Y : Int64} {H : Heap} {locs : List Loc} {ls : Array Slot} (hw : cs_0 K X O Z Y ) (hL : LH dC dI cA ad cL ao cM am s X O Z Y H locs) (hl : lv_has ls 7 [(4, .int v4), (0, .ref b), (1, .ref (ad 0)), (2, .ref (am 0)), (3, .ref ao)])
    (hE : ∀ (X : ST) (O : Nat → Int64) (Z : ST) (Y : Int64) (H : Heap) (locs : List Loc) (ls : Array Slot), K X O Z Y → LH dC dI cA ad cL ao cM am s X O Z Y H locs → lv_has ls 7 [(4, .int v4), (0, .ref b), (1, .ref (ad 0)), (2, .ref (am 0)), (3, .ref ao)] → W p l e room_1 s m #[Value.ref b] below meth c H locs (nc + 3) (ns + 18) Q (F0 m 1372 ls [])) : W p l e room_1 s m #[Value.ref b] below meth c H locs nc ns Q (F0 m 140 ls []) := by
  obtain ⟨⟨hx, hb, hml, hown, hts, hX, hbl, hl9⟩, ⟨hGL, hGM⟩, ⟨hI, hIm, hO, hAM, hOM⟩, hn1, hn2, hn3⟩ := id hC
  have hKc := hGL.1.1
  have hKo := hGL.2.1
  have hKm := hGM.1
  have hbA : ¬ AN s b := fun h => absurd hbl (Nat.not_lt.mpr h)
  unfold cs_0 at hw
  refine lv_aload_n hx hb d_law_140 rfl (lv_at hl 2 rfl) ?_
  refine va_calli (va_runV (As := []) (rest := []) ⟨hx, hb, hml, hown, hts⟩ (mt_CA_nonce l hl9 dC dI cA ad hI _ hw) (cwV 0 hts (gV gw_636 gw_637 gw_638 gw_13 gw_635) rfl rfl rfl (by decide +kernel) ⟨(Nat.le_of_ble_eq_true rfl), (Nat.le_of_ble_eq_true rfl)⟩) ⟨zwC_blind, va_recv hKc (zwL_C hL.1) (ci := 0) (q0 := 0) rfl atC_CA, LH.preC hC hL⟩ rfl rfl hl.1 rfl (lv_room (Nat.le_of_ble_eq_true rfl)) d_law_141 ⟨(show nc + 0 ≤ 653736 by omega), (show ns + 0 ≤ 7134863 by omega)⟩) hL.2.2 (fun q _ h => LH.anC hC hL q h) (fun q h => LH.anC hC hL q h) (fun r5 X1 t H9 locs9 ht hvm hw hB hz1 hk1 hS => ?_)
  have hL := LH.callC (X1 := X1) hC hL (by rw [← ht]; exact hB) hk1 hS
  generalize H9 = H at hL ⊢
  try dsimp only at hw
  refine lv_aload_n hx hb d_law_144 rfl (lv_at hl 3 rfl) ?_
  refine va_calli (va_runV (As := []) (rest := [.int r5]) ⟨hx, hb, hml, hown, hts⟩ (mt_MO_nonce l hl9 dC dI cM am hIm _ hw) (cwV 0 hts (gV gw_640 gw_641 gw_642 gw_306 gw_639) rfl rfl rfl (by decide +kernel) ⟨(Nat.le_of_ble_eq_true rfl), (Nat.le_of_ble_eq_true rfl)⟩) ⟨zwM_blind, va_recv hKm hL.2.1 (ci := 9) (q0 := 0) rfl atM_MO, LH.preM hC hL⟩ rfl rfl hl.1 rfl (lv_room (Nat.le_of_ble_eq_true rfl)) d_law_145 ⟨(show (nc + 0) + 0 ≤ 653736 by omega), (show (ns + 0) + 0 ≤ 7134863 by omega)⟩) hL.2.2 (fun q _ h => LH.anM hC hL q h) (fun q h => LH.anM hC hL q h) (fun r6 u9 t H9 locs9 ht hvm hw hB hz1 hk1 hS => ?_)
  obtain ⟨Z1, Y1⟩ := u9
  have hL := LH.callM (Z1 := Z1) (Y1 := Y1) hC hL (by rw [← ht]; exact hB) hk1 hS
  generalize H9 = H at hL ⊢
  try dsimp only at hw
  obtain ⟨hq, hw⟩ := hw
  refine lv_icmp_eq (tgt := 1372) hx hb d_law_148 (by decide) (fun h => ?_) (fun h => absurd hq h)
  refine W.widen (k := nc + 3) (n := ns + 18) (by omega) (by omega) ?_
  exact hE _ _ _ _ _ _ _ hw hL hl
set_option maxHeartbeats 4000000 in
set_option maxRecDepth 100000 in
theorem law_1 {p : Program} {l : Launch} {e : Env} {s : State} {m : MethodId} {below : List Frame} {meth : Method} {c : Code} {b L : Nat} {xs : Nat → Int32} {dC : Nat → ClassId} {dI : Nat → Nat → Nat} {cA : Nat → ClassId} {ad : Nat → Nat} {cL : ClassId} {ao : Nat} {cM : Nat → ClassId} {am : Nat → Nat} {Q : State → Prop} {K : ST → (Nat → Int64) → ST → Int64 → Prop} {v4 : Int32} {nc ns : Nat} (hnc : nc + 3 ≤ 653736) (hns : ns + 18 ≤ 7134863) (hC : LC p l s m meth c b L xs dC dI cA ad cL ao cM am) (h1 : vp_in (v4 + (1 : Int32)) L) (h2 : vp_in (v4 + (2 : Int32)) L) (h3 : vp_in (v4 + (3 : Int32)) L) (h4 : vp_in (v4 + (4 : Int32)) L) (h5 : vp_in (v4 + (5 : Int32)) L) {X : ST} {O : Nat → Int64} {Z : ST} {Y : Int64} {H : Heap} {locs : List Loc} {ls : Array Slot} (hw : cs_1 K X O Z Y (xs (v4 + (1 : Int32)).toNatClampNeg) (xs (v4 + (2 : Int32)).toNatClampNeg) (xs (v4 + (3 : Int32)).toNatClampNeg)) (hL : LH dC dI cA ad cL ao cM am s X O Z Y H locs) (hl : lv_has ls 7 [(4, .int v4), (0, .ref b), (1, .ref (ad 0)), (2, .ref (am 0)), (3, .ref ao)])
    (hE : ∀ (X : ST) (O : Nat → Int64) (Z : ST) (Y : Int64) (H : Heap) (locs : List Loc) (ls : Array Slot), K X O Z Y → LH dC dI cA ad cL ao cM am s X O Z Y H locs → lv_has ls 7 [(4, .int v4), (0, .ref b), (1, .ref (ad 0)), (2, .ref (am 0)), (3, .ref ao)] → W p l e room_1 s m #[Value.ref b] below meth c H locs (nc + 3) (ns + 18) Q (F0 m 1372 ls [])) : W p l e room_1 s m #[Value.ref b] below meth c H locs nc ns Q (F0 m 153 ls []) := by
  obtain ⟨⟨hx, hb, hml, hown, hts, hX, hbl, hl9⟩, ⟨hGL, hGM⟩, ⟨hI, hIm, hO, hAM, hOM⟩, hn1, hn2, hn3⟩ := id hC
  have hKc := hGL.1.1
  have hKo := hGL.2.1
  have hKm := hGM.1
  have hbA : ¬ AN s b := fun h => absurd hbl (Nat.not_lt.mpr h)
  unfold cs_1 at hw
  refine lv_aload_n hx hb d_law_153 rfl (lv_at hl 2 rfl) ?_
  refine lv_aload_n hx hb d_law_154 rfl (lv_at hl 1 rfl) ?_
  refine lv_iload hx hb d_law_155 (lv_at hl 0 rfl) ?_
  refine lv_iconst (v := (1 : Int32)) hx hb d_law_157 (by decide) ?_
  refine lv_iadd hx hb d_law_158 ?_
  refine va_sld hx hb hX hbl hbA hL.2.2 h1 d_law_159 ?_
  refine lv_aload_n hx hb d_law_160 rfl (lv_at hl 1 rfl) ?_
  refine lv_iload hx hb d_law_161 (lv_at hl 0 rfl) ?_
  refine lv_iconst (v := (2 : Int32)) hx hb d_law_163 (by decide) ?_
  refine lv_iadd hx hb d_law_164 ?_
  refine va_sld hx hb hX hbl hbA hL.2.2 h2 d_law_165 ?_
  refine lv_aload_n hx hb d_law_166 rfl (lv_at hl 1 rfl) ?_
  refine lv_iload hx hb d_law_167 (lv_at hl 0 rfl) ?_
  refine lv_iconst (v := (3 : Int32)) hx hb d_law_169 (by decide) ?_
  refine lv_iadd hx hb d_law_170 ?_
  refine va_sld hx hb hX hbl hbA hL.2.2 h3 d_law_171 ?_
  refine va_calli (va_runV (As := [.int (xs (v4 + (1 : Int32)).toNatClampNeg), .int (xs (v4 + (2 : Int32)).toNatClampNeg), .int (xs (v4 + (3 : Int32)).toNatClampNeg)]) (rest := []) ⟨hx, hb, hml, hown, hts⟩ (mt_CA_power l hl9 dC dI cA ad hI _ hw) (cwV 3 hts (gV gw_644 gw_645 gw_646 gw_13 gw_643) rfl rfl rfl (by decide +kernel) ⟨(Nat.le_of_ble_eq_true rfl), (Nat.le_of_ble_eq_true rfl)⟩) ⟨zwC_blind, va_recv hKc (zwL_C hL.1) (ci := 0) (q0 := 0) rfl atC_CA, LH.preC hC hL⟩ rfl rfl hl.1 rfl (lv_room (Nat.le_of_ble_eq_true rfl)) d_law_172 ⟨(show nc + 0 ≤ 653736 by omega), (show ns + 0 ≤ 7134863 by omega)⟩) hL.2.2 (fun q _ h => LH.anC hC hL q h) (fun q h => LH.anC hC hL q h) (fun r5 X1 t H9 locs9 ht hvm hw hB hz1 hk1 hS => ?_)
  have hL := LH.callC (X1 := X1) hC hL (by rw [← ht]; exact hB) hk1 hS
  generalize H9 = H at hL ⊢
  try dsimp only at hw
  refine lv_aload_n hx hb d_law_175 rfl (lv_at hl 3 rfl) ?_
  refine lv_aload_n hx hb d_law_176 rfl (lv_at hl 1 rfl) ?_
  refine lv_iload hx hb d_law_177 (lv_at hl 0 rfl) ?_
  refine lv_iconst (v := (1 : Int32)) hx hb d_law_179 (by decide) ?_
  refine lv_iadd hx hb d_law_180 ?_
  refine va_sld hx hb hX hbl hbA hL.2.2 h1 d_law_181 ?_
  refine lv_aload_n hx hb d_law_182 rfl (lv_at hl 1 rfl) ?_
  refine lv_iload hx hb d_law_183 (lv_at hl 0 rfl) ?_
  refine lv_iconst (v := (2 : Int32)) hx hb d_law_185 (by decide) ?_
  refine lv_iadd hx hb d_law_186 ?_
  refine va_sld hx hb hX hbl hbA hL.2.2 h2 d_law_187 ?_
  refine lv_aload_n hx hb d_law_188 rfl (lv_at hl 1 rfl) ?_
  refine lv_iload hx hb d_law_189 (lv_at hl 0 rfl) ?_
  refine lv_iconst (v := (3 : Int32)) hx hb d_law_191 (by decide) ?_
  refine lv_iadd hx hb d_law_192 ?_
  refine va_sld hx hb hX hbl hbA hL.2.2 h3 d_law_193 ?_
  refine va_calli (va_runV (As := [.int (xs (v4 + (1 : Int32)).toNatClampNeg), .int (xs (v4 + (2 : Int32)).toNatClampNeg), .int (xs (v4 + (3 : Int32)).toNatClampNeg)]) (rest := [.int r5]) ⟨hx, hb, hml, hown, hts⟩ (mt_MO_power l hl9 dC dI cM am hIm _ hw) (cwV 3 hts (gV gw_648 gw_649 gw_650 gw_306 gw_647) rfl rfl rfl (by decide +kernel) ⟨(Nat.le_of_ble_eq_true rfl), (Nat.le_of_ble_eq_true rfl)⟩) ⟨zwM_blind, va_recv hKm hL.2.1 (ci := 9) (q0 := 0) rfl atM_MO, LH.preM hC hL⟩ rfl rfl hl.1 rfl (lv_room (Nat.le_of_ble_eq_true rfl)) d_law_194 ⟨(show (nc + 0) + 0 ≤ 653736 by omega), (show (ns + 0) + 0 ≤ 7134863 by omega)⟩) hL.2.2 (fun q _ h => LH.anM hC hL q h) (fun q h => LH.anM hC hL q h) (fun r6 u9 t H9 locs9 ht hvm hw hB hz1 hk1 hS => ?_)
  obtain ⟨Z1, Y1⟩ := u9
  have hL := LH.callM (Z1 := Z1) (Y1 := Y1) hC hL (by rw [← ht]; exact hB) hk1 hS
  generalize H9 = H at hL ⊢
  try dsimp only at hw
  obtain ⟨hq, hw⟩ := hw
  refine lv_icmp_eq (tgt := 1372) hx hb d_law_197 (by decide) (fun h => ?_) (fun h => absurd hq h)
  refine W.widen (k := nc + 3) (n := ns + 18) (by omega) (by omega) ?_
  exact hE _ _ _ _ _ _ _ hw hL hl
set_option maxHeartbeats 4000000 in
set_option maxRecDepth 100000 in
theorem law_2 {p : Program} {l : Launch} {e : Env} {s : State} {m : MethodId} {below : List Frame} {meth : Method} {c : Code} {b L : Nat} {xs : Nat → Int32} {dC : Nat → ClassId} {dI : Nat → Nat → Nat} {cA : Nat → ClassId} {ad : Nat → Nat} {cL : ClassId} {ao : Nat} {cM : Nat → ClassId} {am : Nat → Nat} {Q : State → Prop} {K : ST → (Nat → Int64) → ST → Int64 → Prop} {v4 : Int32} {nc ns : Nat} (hnc : nc + 3 ≤ 653736) (hns : ns + 18 ≤ 7134863) (hC : LC p l s m meth c b L xs dC dI cA ad cL ao cM am) (h1 : vp_in (v4 + (1 : Int32)) L) (h2 : vp_in (v4 + (2 : Int32)) L) (h3 : vp_in (v4 + (3 : Int32)) L) (h4 : vp_in (v4 + (4 : Int32)) L) (h5 : vp_in (v4 + (5 : Int32)) L) {X : ST} {O : Nat → Int64} {Z : ST} {Y : Int64} {H : Heap} {locs : List Loc} {ls : Array Slot} (hw : cs_2 K X O Z Y (xs (v4 + (1 : Int32)).toNatClampNeg) (xs (v4 + (2 : Int32)).toNatClampNeg) (xs (v4 + (3 : Int32)).toNatClampNeg) (xs (v4 + (4 : Int32)).toNatClampNeg) (xs (v4 + (5 : Int32)).toNatClampNeg)) (hL : LH dC dI cA ad cL ao cM am s X O Z Y H locs) (hl : lv_has ls 7 [(4, .int v4), (0, .ref b), (1, .ref (ad 0)), (2, .ref (am 0)), (3, .ref ao)])
    (hE : ∀ (X : ST) (O : Nat → Int64) (Z : ST) (Y : Int64) (H : Heap) (locs : List Loc) (ls : Array Slot), K X O Z Y → LH dC dI cA ad cL ao cM am s X O Z Y H locs → lv_has ls 7 [(4, .int v4), (0, .ref b), (1, .ref (ad 0)), (2, .ref (am 0)), (3, .ref ao)] → W p l e room_1 s m #[Value.ref b] below meth c H locs (nc + 3) (ns + 18) Q (F0 m 1372 ls [])) : W p l e room_1 s m #[Value.ref b] below meth c H locs nc ns Q (F0 m 202 ls []) := by
  obtain ⟨⟨hx, hb, hml, hown, hts, hX, hbl, hl9⟩, ⟨hGL, hGM⟩, ⟨hI, hIm, hO, hAM, hOM⟩, hn1, hn2, hn3⟩ := id hC
  have hKc := hGL.1.1
  have hKo := hGL.2.1
  have hKm := hGM.1
  have hbA : ¬ AN s b := fun h => absurd hbl (Nat.not_lt.mpr h)
  unfold cs_2 at hw
  refine lv_aload_n hx hb d_law_202 rfl (lv_at hl 2 rfl) ?_
  refine lv_aload_n hx hb d_law_203 rfl (lv_at hl 1 rfl) ?_
  refine lv_iload hx hb d_law_204 (lv_at hl 0 rfl) ?_
  refine lv_iconst (v := (1 : Int32)) hx hb d_law_206 (by decide) ?_
  refine lv_iadd hx hb d_law_207 ?_
  refine va_sld hx hb hX hbl hbA hL.2.2 h1 d_law_208 ?_
  refine lv_aload_n hx hb d_law_209 rfl (lv_at hl 1 rfl) ?_
  refine lv_iload hx hb d_law_210 (lv_at hl 0 rfl) ?_
  refine lv_iconst (v := (2 : Int32)) hx hb d_law_212 (by decide) ?_
  refine lv_iadd hx hb d_law_213 ?_
  refine va_sld hx hb hX hbl hbA hL.2.2 h2 d_law_214 ?_
  refine lv_aload_n hx hb d_law_215 rfl (lv_at hl 1 rfl) ?_
  refine lv_iload hx hb d_law_216 (lv_at hl 0 rfl) ?_
  refine lv_iconst (v := (3 : Int32)) hx hb d_law_218 (by decide) ?_
  refine lv_iadd hx hb d_law_219 ?_
  refine va_sld hx hb hX hbl hbA hL.2.2 h3 d_law_220 ?_
  refine lv_aload_n hx hb d_law_221 rfl (lv_at hl 1 rfl) ?_
  refine lv_iload hx hb d_law_222 (lv_at hl 0 rfl) ?_
  refine lv_iconst (v := (4 : Int32)) hx hb d_law_224 (by decide) ?_
  refine lv_iadd hx hb d_law_225 ?_
  refine va_sld hx hb hX hbl hbA hL.2.2 h4 d_law_226 ?_
  refine lv_aload_n hx hb d_law_227 rfl (lv_at hl 1 rfl) ?_
  refine lv_iload hx hb d_law_228 (lv_at hl 0 rfl) ?_
  refine lv_iconst (v := (5 : Int32)) hx hb d_law_230 (by decide) ?_
  refine lv_iadd hx hb d_law_231 ?_
  refine va_sld hx hb hX hbl hbA hL.2.2 h5 d_law_232 ?_
  refine va_calli (va_runV (As := [.int (xs (v4 + (1 : Int32)).toNatClampNeg), .int (xs (v4 + (2 : Int32)).toNatClampNeg), .int (xs (v4 + (3 : Int32)).toNatClampNeg), .int (xs (v4 + (4 : Int32)).toNatClampNeg), .int (xs (v4 + (5 : Int32)).toNatClampNeg)]) (rest := []) ⟨hx, hb, hml, hown, hts⟩ (mt_CA_digest l hl9 dC dI cA ad hI _ hw) (cwV 5 hts (gV gw_651 gw_44 gw_45 gw_13 gw_42) rfl rfl rfl (by decide +kernel) ⟨(Nat.le_of_ble_eq_true rfl), (Nat.le_of_ble_eq_true rfl)⟩) ⟨zwC_blind, va_recv hKc (zwL_C hL.1) (ci := 0) (q0 := 0) rfl atC_CA, LH.preC hC hL⟩ rfl rfl hl.1 rfl (lv_room (Nat.le_of_ble_eq_true rfl)) d_law_233 ⟨(show nc + 0 ≤ 653736 by omega), (show ns + 0 ≤ 7134863 by omega)⟩) hL.2.2 (fun q _ h => LH.anC hC hL q h) (fun q h => LH.anC hC hL q h) (fun r5 X1 t H9 locs9 ht hvm hw hB hz1 hk1 hS => ?_)
  have hL := LH.callC (X1 := X1) hC hL (by rw [← ht]; exact hB) hk1 hS
  generalize H9 = H at hL ⊢
  try dsimp only at hw
  refine lv_aload_n hx hb d_law_236 rfl (lv_at hl 3 rfl) ?_
  refine lv_aload_n hx hb d_law_237 rfl (lv_at hl 1 rfl) ?_
  refine lv_iload hx hb d_law_238 (lv_at hl 0 rfl) ?_
  refine lv_iconst (v := (1 : Int32)) hx hb d_law_240 (by decide) ?_
  refine lv_iadd hx hb d_law_241 ?_
  refine va_sld hx hb hX hbl hbA hL.2.2 h1 d_law_242 ?_
  refine lv_aload_n hx hb d_law_243 rfl (lv_at hl 1 rfl) ?_
  refine lv_iload hx hb d_law_244 (lv_at hl 0 rfl) ?_
  refine lv_iconst (v := (2 : Int32)) hx hb d_law_246 (by decide) ?_
  refine lv_iadd hx hb d_law_247 ?_
  refine va_sld hx hb hX hbl hbA hL.2.2 h2 d_law_248 ?_
  refine lv_aload_n hx hb d_law_249 rfl (lv_at hl 1 rfl) ?_
  refine lv_iload hx hb d_law_250 (lv_at hl 0 rfl) ?_
  refine lv_iconst (v := (3 : Int32)) hx hb d_law_252 (by decide) ?_
  refine lv_iadd hx hb d_law_253 ?_
  refine va_sld hx hb hX hbl hbA hL.2.2 h3 d_law_254 ?_
  refine lv_aload_n hx hb d_law_255 rfl (lv_at hl 1 rfl) ?_
  refine lv_iload hx hb d_law_256 (lv_at hl 0 rfl) ?_
  refine lv_iconst (v := (4 : Int32)) hx hb d_law_258 (by decide) ?_
  refine lv_iadd hx hb d_law_259 ?_
  refine va_sld hx hb hX hbl hbA hL.2.2 h4 d_law_260 ?_
  refine lv_aload_n hx hb d_law_261 rfl (lv_at hl 1 rfl) ?_
  refine lv_iload hx hb d_law_262 (lv_at hl 0 rfl) ?_
  refine lv_iconst (v := (5 : Int32)) hx hb d_law_264 (by decide) ?_
  refine lv_iadd hx hb d_law_265 ?_
  refine va_sld hx hb hX hbl hbA hL.2.2 h5 d_law_266 ?_
  refine va_calli (va_runV (As := [.int (xs (v4 + (1 : Int32)).toNatClampNeg), .int (xs (v4 + (2 : Int32)).toNatClampNeg), .int (xs (v4 + (3 : Int32)).toNatClampNeg), .int (xs (v4 + (4 : Int32)).toNatClampNeg), .int (xs (v4 + (5 : Int32)).toNatClampNeg)]) (rest := [.int r5]) ⟨hx, hb, hml, hown, hts⟩ (mt_MO_digest l hl9 dC dI cM am hIm _ hw) (cwV 5 hts (gV gw_653 gw_654 gw_655 gw_306 gw_652) rfl rfl rfl (by decide +kernel) ⟨(Nat.le_of_ble_eq_true rfl), (Nat.le_of_ble_eq_true rfl)⟩) ⟨zwM_blind, va_recv hKm hL.2.1 (ci := 9) (q0 := 0) rfl atM_MO, LH.preM hC hL⟩ rfl rfl hl.1 rfl (lv_room (Nat.le_of_ble_eq_true rfl)) d_law_267 ⟨(show (nc + 0) + 0 ≤ 653736 by omega), (show (ns + 0) + 0 ≤ 7134863 by omega)⟩) hL.2.2 (fun q _ h => LH.anM hC hL q h) (fun q h => LH.anM hC hL q h) (fun r6 u9 t H9 locs9 ht hvm hw hB hz1 hk1 hS => ?_)
  obtain ⟨Z1, Y1⟩ := u9
  have hL := LH.callM (Z1 := Z1) (Y1 := Y1) hC hL (by rw [← ht]; exact hB) hk1 hS
  generalize H9 = H at hL ⊢
  try dsimp only at hw
  obtain ⟨hq, hw⟩ := hw
  refine lv_icmp_eq (tgt := 1372) hx hb d_law_270 (by decide) (fun h => ?_) (fun h => absurd hq h)
  refine W.widen (k := nc + 3) (n := ns + 18) (by omega) (by omega) ?_
  exact hE _ _ _ _ _ _ _ hw hL hl
set_option maxHeartbeats 4000000 in
set_option maxRecDepth 100000 in
theorem law_3 {p : Program} {l : Launch} {e : Env} {s : State} {m : MethodId} {below : List Frame} {meth : Method} {c : Code} {b L : Nat} {xs : Nat → Int32} {dC : Nat → ClassId} {dI : Nat → Nat → Nat} {cA : Nat → ClassId} {ad : Nat → Nat} {cL : ClassId} {ao : Nat} {cM : Nat → ClassId} {am : Nat → Nat} {Q : State → Prop} {K : ST → (Nat → Int64) → ST → Int64 → Prop} {v4 : Int32} {nc ns : Nat} (hnc : nc + 3 ≤ 653736) (hns : ns + 18 ≤ 7134863) (hC : LC p l s m meth c b L xs dC dI cA ad cL ao cM am) (h1 : vp_in (v4 + (1 : Int32)) L) (h2 : vp_in (v4 + (2 : Int32)) L) (h3 : vp_in (v4 + (3 : Int32)) L) (h4 : vp_in (v4 + (4 : Int32)) L) (h5 : vp_in (v4 + (5 : Int32)) L) {X : ST} {O : Nat → Int64} {Z : ST} {Y : Int64} {H : Heap} {locs : List Loc} {ls : Array Slot} (hw : cs_3 K X O Z Y (xs (v4 + (1 : Int32)).toNatClampNeg) (xs (v4 + (2 : Int32)).toNatClampNeg) (xs (v4 + (3 : Int32)).toNatClampNeg)) (hL : LH dC dI cA ad cL ao cM am s X O Z Y H locs) (hl : lv_has ls 7 [(4, .int v4), (0, .ref b), (1, .ref (ad 0)), (2, .ref (am 0)), (3, .ref ao)])
    (hE : ∀ (X : ST) (O : Nat → Int64) (Z : ST) (Y : Int64) (H : Heap) (locs : List Loc) (ls : Array Slot), K X O Z Y → LH dC dI cA ad cL ao cM am s X O Z Y H locs → lv_has ls 7 [(4, .int v4), (0, .ref b), (1, .ref (ad 0)), (2, .ref (am 0)), (3, .ref ao)] → W p l e room_1 s m #[Value.ref b] below meth c H locs (nc + 3) (ns + 18) Q (F0 m 1372 ls [])) : W p l e room_1 s m #[Value.ref b] below meth c H locs nc ns Q (F0 m 275 ls []) := by
  obtain ⟨⟨hx, hb, hml, hown, hts, hX, hbl, hl9⟩, ⟨hGL, hGM⟩, ⟨hI, hIm, hO, hAM, hOM⟩, hn1, hn2, hn3⟩ := id hC
  have hKc := hGL.1.1
  have hKo := hGL.2.1
  have hKm := hGM.1
  have hbA : ¬ AN s b := fun h => absurd hbl (Nat.not_lt.mpr h)
  unfold cs_3 at hw
  refine lv_aload_n hx hb d_law_275 rfl (lv_at hl 2 rfl) ?_
  refine lv_aload_n hx hb d_law_276 rfl (lv_at hl 1 rfl) ?_
  refine lv_iload hx hb d_law_277 (lv_at hl 0 rfl) ?_
  refine lv_iconst (v := (1 : Int32)) hx hb d_law_279 (by decide) ?_
  refine lv_iadd hx hb d_law_280 ?_
  refine va_sld hx hb hX hbl hbA hL.2.2 h1 d_law_281 ?_
  refine lv_aload_n hx hb d_law_282 rfl (lv_at hl 1 rfl) ?_
  refine lv_iload hx hb d_law_283 (lv_at hl 0 rfl) ?_
  refine lv_iconst (v := (2 : Int32)) hx hb d_law_285 (by decide) ?_
  refine lv_iadd hx hb d_law_286 ?_
  refine va_sld hx hb hX hbl hbA hL.2.2 h2 d_law_287 ?_
  refine lv_aload_n hx hb d_law_288 rfl (lv_at hl 1 rfl) ?_
  refine lv_iload hx hb d_law_289 (lv_at hl 0 rfl) ?_
  refine lv_iconst (v := (3 : Int32)) hx hb d_law_291 (by decide) ?_
  refine lv_iadd hx hb d_law_292 ?_
  refine va_sld hx hb hX hbl hbA hL.2.2 h3 d_law_293 ?_
  refine lv_aload_n hx hb d_law_294 rfl (lv_at hl 4 rfl) ?_
  refine va_calli (xt_runT (As := [.ref (ad 0), .int (xs (v4 + (1 : Int32)).toNatClampNeg), .int (xs (v4 + (2 : Int32)).toNatClampNeg), .int (xs (v4 + (3 : Int32)).toNatClampNeg), .ref ao]) (rest := []) ⟨hx, hb, hml, hown, hts⟩ (mt_LW_account l hl9 dC dI cA ad hI cL ao hO _ hw) (xt_cw 5 hts (gT gw_656) rfl rfl rfl (hts _ gw_657) (hts _ gw_658) (hts _ gw_659) (by decide +kernel) ⟨(Nat.le_of_ble_eq_true rfl), (Nat.le_of_ble_eq_true rfl)⟩) ⟨zwL_blind, LH.preL hC hL⟩ rfl rfl hl.1 rfl (lv_room (Nat.le_of_ble_eq_true rfl)) d_law_295 ⟨(show nc + 1 ≤ 653736 by omega), (show ns + 6 ≤ 7134863 by omega)⟩) hL.2.2 (fun q _ h => LH.anL hC hL q h) (fun q h => LH.anL hC hL q h) (fun k5 u9 t H9 locs9 ht hvm hw hB hz1 hk1 hS => ?_)
  obtain ⟨X1, O1⟩ := u9
  have hL := LH.callL (X1 := X1) (O1 := O1) hC hL (by rw [← ht]; exact hB) hk1 hS
  generalize H9 = H at hL ⊢
  try dsimp only at hw
  refine lv_istore (lv' := [(5, .int k5), (4, .int v4), (0, .ref b), (1, .ref (ad 0)), (2, .ref (am 0)), (3, .ref ao)]) hx hb d_law_298 hl (by decide) rfl (fun ls hl => ?_)
  refine lv_aload_n hx hb d_law_300 rfl (lv_at hl 4 rfl) ?_
  refine lv_aload_n hx hb d_law_301 rfl (lv_at hl 2 rfl) ?_
  refine lv_iload hx hb d_law_302 (lv_at hl 1 rfl) ?_
  refine lv_iconst (v := (1 : Int32)) hx hb d_law_304 (by decide) ?_
  refine lv_iadd hx hb d_law_305 ?_
  refine va_sld hx hb hX hbl hbA hL.2.2 h1 d_law_306 ?_
  refine lv_aload_n hx hb d_law_307 rfl (lv_at hl 2 rfl) ?_
  refine lv_iload hx hb d_law_308 (lv_at hl 1 rfl) ?_
  refine lv_iconst (v := (2 : Int32)) hx hb d_law_310 (by decide) ?_
  refine lv_iadd hx hb d_law_311 ?_
  refine va_sld hx hb hX hbl hbA hL.2.2 h2 d_law_312 ?_
  refine lv_aload_n hx hb d_law_313 rfl (lv_at hl 2 rfl) ?_
  refine lv_iload hx hb d_law_314 (lv_at hl 1 rfl) ?_
  refine lv_iconst (v := (3 : Int32)) hx hb d_law_316 (by decide) ?_
  refine lv_iadd hx hb d_law_317 ?_
  refine va_sld hx hb hX hbl hbA hL.2.2 h3 d_law_318 ?_
  refine va_calli (va_runV (As := [.int (xs (v4 + (1 : Int32)).toNatClampNeg), .int (xs (v4 + (2 : Int32)).toNatClampNeg), .int (xs (v4 + (3 : Int32)).toNatClampNeg)]) (rest := []) ⟨hx, hb, hml, hown, hts⟩ (mt_MO_account l hl9 dC dI cM am hIm _ hw) (cwV 3 hts (gV gw_661 gw_662 gw_663 gw_306 gw_660) rfl rfl rfl (by decide +kernel) ⟨(Nat.le_of_ble_eq_true rfl), (Nat.le_of_ble_eq_true rfl)⟩) ⟨zwM_blind, va_recv hKm hL.2.1 (ci := 9) (q0 := 0) rfl atM_MO, LH.preM hC hL⟩ rfl rfl hl.1 rfl (lv_room (Nat.le_of_ble_eq_true rfl)) d_law_319 ⟨(show (nc + 1) + 0 ≤ 653736 by omega), (show (ns + 6) + 0 ≤ 7134863 by omega)⟩) hL.2.2 (fun q _ h => LH.anM hC hL q h) (fun q h => LH.anM hC hL q h) (fun r6 u9 t H9 locs9 ht hvm hw hB hz1 hk1 hS => ?_)
  obtain ⟨Z1, Y1⟩ := u9
  have hL := LH.callM (Z1 := Z1) (Y1 := Y1) hC hL (by rw [← ht]; exact hB) hk1 hS
  generalize H9 = H at hL ⊢
  try dsimp only at hw
  refine lv_istore (lv' := [(6, .int r6), (5, .int k5), (4, .int v4), (0, .ref b), (1, .ref (ad 0)), (2, .ref (am 0)), (3, .ref ao)]) hx hb d_law_322 hl (by decide) rfl (fun ls hl => ?_)
  refine lv_aload_n hx hb d_law_324 rfl (lv_at hl 5 rfl) ?_
  refine va_calli (va_runV (As := []) (rest := []) ⟨hx, hb, hml, hown, hts⟩ (mt_MO_thrown l hl9 dC dI cM am hIm _ hw) (cwV 0 hts (gV gw_665 gw_666 gw_667 gw_306 gw_664) rfl rfl rfl (by decide +kernel) ⟨(Nat.le_of_ble_eq_true rfl), (Nat.le_of_ble_eq_true rfl)⟩) ⟨zwM_blind, va_recv hKm hL.2.1 (ci := 9) (q0 := 0) rfl atM_MO, LH.preM hC hL⟩ rfl rfl hl.1 rfl (lv_room (Nat.le_of_ble_eq_true rfl)) d_law_325 ⟨(show ((nc + 1) + 0) + 0 ≤ 653736 by omega), (show ((ns + 6) + 0) + 0 ≤ 7134863 by omega)⟩) hL.2.2 (fun q _ h => LH.anM hC hL q h) (fun q h => LH.anM hC hL q h) (fun t7 u9 t H9 locs9 ht hvm hw hB hz1 hk1 hS => ?_)
  obtain ⟨Z2, Y2⟩ := u9
  have hL := LH.callM (Z1 := Z2) (Y1 := Y2) hC hL (by rw [← ht]; exact hB) hk1 hS
  generalize H9 = H at hL ⊢
  try dsimp only at hw
  refine lv_iload hx hb d_law_328 (lv_at hl 1 rfl) ?_
  obtain ⟨hq, hq2, hw⟩ := hw
  refine lv_icmp_eq (tgt := 335) hx hb d_law_330 (by decide) (fun h => ?_) (fun h => absurd hq h)
  refine lv_iload hx hb d_law_335 (lv_at hl 1 rfl) ?_
  refine lv_if_ne (tgt := 352) hx hb d_law_337 (by decide) (fun h => ?_) (fun h => ?_)
  · refine lv_goto (tgt := 1372) hx hb d_law_352 (by decide) ?_
    refine W.widen (k := nc + 3) (n := ns + 18) (by omega) (by omega) ?_
    have hl := lv_sub hl (l' := [(4, .int v4), (0, .ref b), (1, .ref (ad 0)), (2, .ref (am 0)), (3, .ref ao)]) [2, 3, 4, 5, 6] rfl
    exact hE _ _ _ _ _ _ _ hw hL hl
  · refine lv_aload_n hx hb d_law_340 rfl (lv_at hl 6 rfl) ?_
    refine lv_iconst (v := (0 : Int32)) hx hb d_law_341 (by decide) ?_
    refine va_lald hx hb hKo hL.1 125 0 atL_o rfl (by unfold vp_in; decide) d_law_342 ?_
    refine lv_iload hx hb d_law_343 (lv_at hl 0 rfl) ?_
    refine lv_i2l hx hb d_law_345 rfl ?_
    refine W.lcmp hx hb d_law_346 ?_
    refine lv_if_eq (tgt := 352) hx hb d_law_347 (by decide) (fun h9 => ?_) (fun h9 => absurd ((lg_cmp_eq _ _).mpr (hq2 h)) h9)
    refine lv_goto (tgt := 1372) hx hb d_law_352 (by decide) ?_
    refine W.widen (k := nc + 3) (n := ns + 18) (by omega) (by omega) ?_
    have hl := lv_sub hl (l' := [(4, .int v4), (0, .ref b), (1, .ref (ad 0)), (2, .ref (am 0)), (3, .ref ao)]) [2, 3, 4, 5, 6] rfl
    exact hE _ _ _ _ _ _ _ hw hL hl
set_option maxHeartbeats 4000000 in
set_option maxRecDepth 100000 in
theorem law_4 {p : Program} {l : Launch} {e : Env} {s : State} {m : MethodId} {below : List Frame} {meth : Method} {c : Code} {b L : Nat} {xs : Nat → Int32} {dC : Nat → ClassId} {dI : Nat → Nat → Nat} {cA : Nat → ClassId} {ad : Nat → Nat} {cL : ClassId} {ao : Nat} {cM : Nat → ClassId} {am : Nat → Nat} {Q : State → Prop} {K : ST → (Nat → Int64) → ST → Int64 → Prop} {v4 : Int32} {nc ns : Nat} (hnc : nc + 3 ≤ 653736) (hns : ns + 18 ≤ 7134863) (hC : LC p l s m meth c b L xs dC dI cA ad cL ao cM am) (h1 : vp_in (v4 + (1 : Int32)) L) (h2 : vp_in (v4 + (2 : Int32)) L) (h3 : vp_in (v4 + (3 : Int32)) L) (h4 : vp_in (v4 + (4 : Int32)) L) (h5 : vp_in (v4 + (5 : Int32)) L) {X : ST} {O : Nat → Int64} {Z : ST} {Y : Int64} {H : Heap} {locs : List Loc} {ls : Array Slot} (hw : cs_4 K X O Z Y (xs (v4 + (1 : Int32)).toNatClampNeg) (xs (v4 + (2 : Int32)).toNatClampNeg) (xs (v4 + (3 : Int32)).toNatClampNeg) (xs (v4 + (4 : Int32)).toNatClampNeg) (xs (v4 + (5 : Int32)).toNatClampNeg)) (hL : LH dC dI cA ad cL ao cM am s X O Z Y H locs) (hl : lv_has ls 7 [(4, .int v4), (0, .ref b), (1, .ref (ad 0)), (2, .ref (am 0)), (3, .ref ao)])
    (hE : ∀ (X : ST) (O : Nat → Int64) (Z : ST) (Y : Int64) (H : Heap) (locs : List Loc) (ls : Array Slot), K X O Z Y → LH dC dI cA ad cL ao cM am s X O Z Y H locs → lv_has ls 7 [(4, .int v4), (0, .ref b), (1, .ref (ad 0)), (2, .ref (am 0)), (3, .ref ao)] → W p l e room_1 s m #[Value.ref b] below meth c H locs (nc + 3) (ns + 18) Q (F0 m 1372 ls [])) : W p l e room_1 s m #[Value.ref b] below meth c H locs nc ns Q (F0 m 355 ls []) := by
  obtain ⟨⟨hx, hb, hml, hown, hts, hX, hbl, hl9⟩, ⟨hGL, hGM⟩, ⟨hI, hIm, hO, hAM, hOM⟩, hn1, hn2, hn3⟩ := id hC
  have hKc := hGL.1.1
  have hKo := hGL.2.1
  have hKm := hGM.1
  have hbA : ¬ AN s b := fun h => absurd hbl (Nat.not_lt.mpr h)
  unfold cs_4 at hw
  refine lv_aload_n hx hb d_law_355 rfl (lv_at hl 2 rfl) ?_
  refine lv_aload_n hx hb d_law_356 rfl (lv_at hl 1 rfl) ?_
  refine lv_iload hx hb d_law_357 (lv_at hl 0 rfl) ?_
  refine lv_iconst (v := (1 : Int32)) hx hb d_law_359 (by decide) ?_
  refine lv_iadd hx hb d_law_360 ?_
  refine va_sld hx hb hX hbl hbA hL.2.2 h1 d_law_361 ?_
  refine lv_aload_n hx hb d_law_362 rfl (lv_at hl 1 rfl) ?_
  refine lv_iload hx hb d_law_363 (lv_at hl 0 rfl) ?_
  refine lv_iconst (v := (2 : Int32)) hx hb d_law_365 (by decide) ?_
  refine lv_iadd hx hb d_law_366 ?_
  refine va_sld hx hb hX hbl hbA hL.2.2 h2 d_law_367 ?_
  refine lv_aload_n hx hb d_law_368 rfl (lv_at hl 1 rfl) ?_
  refine lv_iload hx hb d_law_369 (lv_at hl 0 rfl) ?_
  refine lv_iconst (v := (3 : Int32)) hx hb d_law_371 (by decide) ?_
  refine lv_iadd hx hb d_law_372 ?_
  refine va_sld hx hb hX hbl hbA hL.2.2 h3 d_law_373 ?_
  refine lv_aload_n hx hb d_law_374 rfl (lv_at hl 1 rfl) ?_
  refine lv_iload hx hb d_law_375 (lv_at hl 0 rfl) ?_
  refine lv_iconst (v := (4 : Int32)) hx hb d_law_377 (by decide) ?_
  refine lv_iadd hx hb d_law_378 ?_
  refine va_sld hx hb hX hbl hbA hL.2.2 h4 d_law_379 ?_
  refine lv_aload_n hx hb d_law_380 rfl (lv_at hl 1 rfl) ?_
  refine lv_iload hx hb d_law_381 (lv_at hl 0 rfl) ?_
  refine lv_iconst (v := (5 : Int32)) hx hb d_law_383 (by decide) ?_
  refine lv_iadd hx hb d_law_384 ?_
  refine va_sld hx hb hX hbl hbA hL.2.2 h5 d_law_385 ?_
  refine lv_aload_n hx hb d_law_386 rfl (lv_at hl 4 rfl) ?_
  refine va_calli (xt_runT (As := [.ref (ad 0), .int (xs (v4 + (1 : Int32)).toNatClampNeg), .int (xs (v4 + (2 : Int32)).toNatClampNeg), .int (xs (v4 + (3 : Int32)).toNatClampNeg), .int (xs (v4 + (4 : Int32)).toNatClampNeg), .int (xs (v4 + (5 : Int32)).toNatClampNeg), .ref ao]) (rest := []) ⟨hx, hb, hml, hown, hts⟩ (mt_LW_order l hl9 dC dI cA ad hI cL ao hO _ hw) (xt_cw 7 hts (gT gw_668) rfl rfl rfl (hts _ gw_657) (hts _ gw_669) (hts _ gw_670) (by decide +kernel) ⟨(Nat.le_of_ble_eq_true rfl), (Nat.le_of_ble_eq_true rfl)⟩) ⟨zwL_blind, LH.preL hC hL⟩ rfl rfl hl.1 rfl (lv_room (Nat.le_of_ble_eq_true rfl)) d_law_387 ⟨(show nc + 2 ≤ 653736 by omega), (show ns + 12 ≤ 7134863 by omega)⟩) hL.2.2 (fun q _ h => LH.anL hC hL q h) (fun q h => LH.anL hC hL q h) (fun k5 u9 t H9 locs9 ht hvm hw hB hz1 hk1 hS => ?_)
  obtain ⟨X1, O1⟩ := u9
  have hL := LH.callL (X1 := X1) (O1 := O1) hC hL (by rw [← ht]; exact hB) hk1 hS
  generalize H9 = H at hL ⊢
  try dsimp only at hw
  refine lv_istore (lv' := [(5, .int k5), (4, .int v4), (0, .ref b), (1, .ref (ad 0)), (2, .ref (am 0)), (3, .ref ao)]) hx hb d_law_390 hl (by decide) rfl (fun ls hl => ?_)
  refine lv_aload_n hx hb d_law_392 rfl (lv_at hl 4 rfl) ?_
  refine lv_aload_n hx hb d_law_393 rfl (lv_at hl 2 rfl) ?_
  refine lv_iload hx hb d_law_394 (lv_at hl 1 rfl) ?_
  refine lv_iconst (v := (1 : Int32)) hx hb d_law_396 (by decide) ?_
  refine lv_iadd hx hb d_law_397 ?_
  refine va_sld hx hb hX hbl hbA hL.2.2 h1 d_law_398 ?_
  refine lv_aload_n hx hb d_law_399 rfl (lv_at hl 2 rfl) ?_
  refine lv_iload hx hb d_law_400 (lv_at hl 1 rfl) ?_
  refine lv_iconst (v := (2 : Int32)) hx hb d_law_402 (by decide) ?_
  refine lv_iadd hx hb d_law_403 ?_
  refine va_sld hx hb hX hbl hbA hL.2.2 h2 d_law_404 ?_
  refine lv_aload_n hx hb d_law_405 rfl (lv_at hl 2 rfl) ?_
  refine lv_iload hx hb d_law_406 (lv_at hl 1 rfl) ?_
  refine lv_iconst (v := (3 : Int32)) hx hb d_law_408 (by decide) ?_
  refine lv_iadd hx hb d_law_409 ?_
  refine va_sld hx hb hX hbl hbA hL.2.2 h3 d_law_410 ?_
  refine lv_aload_n hx hb d_law_411 rfl (lv_at hl 2 rfl) ?_
  refine lv_iload hx hb d_law_412 (lv_at hl 1 rfl) ?_
  refine lv_iconst (v := (4 : Int32)) hx hb d_law_414 (by decide) ?_
  refine lv_iadd hx hb d_law_415 ?_
  refine va_sld hx hb hX hbl hbA hL.2.2 h4 d_law_416 ?_
  refine lv_aload_n hx hb d_law_417 rfl (lv_at hl 2 rfl) ?_
  refine lv_iload hx hb d_law_418 (lv_at hl 1 rfl) ?_
  refine lv_iconst (v := (5 : Int32)) hx hb d_law_420 (by decide) ?_
  refine lv_iadd hx hb d_law_421 ?_
  refine va_sld hx hb hX hbl hbA hL.2.2 h5 d_law_422 ?_
  refine va_calli (va_runV (As := [.int (xs (v4 + (1 : Int32)).toNatClampNeg), .int (xs (v4 + (2 : Int32)).toNatClampNeg), .int (xs (v4 + (3 : Int32)).toNatClampNeg), .int (xs (v4 + (4 : Int32)).toNatClampNeg), .int (xs (v4 + (5 : Int32)).toNatClampNeg)]) (rest := []) ⟨hx, hb, hml, hown, hts⟩ (mt_MO_order l hl9 dC dI cM am hIm _ hw) (cwV 5 hts (gV gw_672 gw_673 gw_674 gw_306 gw_671) rfl rfl rfl (by decide +kernel) ⟨(Nat.le_of_ble_eq_true rfl), (Nat.le_of_ble_eq_true rfl)⟩) ⟨zwM_blind, va_recv hKm hL.2.1 (ci := 9) (q0 := 0) rfl atM_MO, LH.preM hC hL⟩ rfl rfl hl.1 rfl (lv_room (Nat.le_of_ble_eq_true rfl)) d_law_423 ⟨(show (nc + 2) + 0 ≤ 653736 by omega), (show (ns + 12) + 0 ≤ 7134863 by omega)⟩) hL.2.2 (fun q _ h => LH.anM hC hL q h) (fun q h => LH.anM hC hL q h) (fun r6 u9 t H9 locs9 ht hvm hw hB hz1 hk1 hS => ?_)
  obtain ⟨Z1, Y1⟩ := u9
  have hL := LH.callM (Z1 := Z1) (Y1 := Y1) hC hL (by rw [← ht]; exact hB) hk1 hS
  generalize H9 = H at hL ⊢
  try dsimp only at hw
  refine lv_istore (lv' := [(6, .int r6), (5, .int k5), (4, .int v4), (0, .ref b), (1, .ref (ad 0)), (2, .ref (am 0)), (3, .ref ao)]) hx hb d_law_426 hl (by decide) rfl (fun ls hl => ?_)
  refine lv_aload_n hx hb d_law_428 rfl (lv_at hl 5 rfl) ?_
  refine va_calli (va_runV (As := []) (rest := []) ⟨hx, hb, hml, hown, hts⟩ (mt_MO_thrown l hl9 dC dI cM am hIm _ hw) (cwV 0 hts (gV gw_665 gw_666 gw_667 gw_306 gw_664) rfl rfl rfl (by decide +kernel) ⟨(Nat.le_of_ble_eq_true rfl), (Nat.le_of_ble_eq_true rfl)⟩) ⟨zwM_blind, va_recv hKm hL.2.1 (ci := 9) (q0 := 0) rfl atM_MO, LH.preM hC hL⟩ rfl rfl hl.1 rfl (lv_room (Nat.le_of_ble_eq_true rfl)) d_law_429 ⟨(show ((nc + 2) + 0) + 0 ≤ 653736 by omega), (show ((ns + 12) + 0) + 0 ≤ 7134863 by omega)⟩) hL.2.2 (fun q _ h => LH.anM hC hL q h) (fun q h => LH.anM hC hL q h) (fun t7 u9 t H9 locs9 ht hvm hw hB hz1 hk1 hS => ?_)
  obtain ⟨Z2, Y2⟩ := u9
  have hL := LH.callM (Z1 := Z2) (Y1 := Y2) hC hL (by rw [← ht]; exact hB) hk1 hS
  generalize H9 = H at hL ⊢
  try dsimp only at hw
  refine lv_iload hx hb d_law_432 (lv_at hl 1 rfl) ?_
  obtain ⟨hq, hq2, hw⟩ := hw
  refine lv_icmp_eq (tgt := 439) hx hb d_law_434 (by decide) (fun h => ?_) (fun h => absurd hq h)
  refine lv_iload hx hb d_law_439 (lv_at hl 1 rfl) ?_
  refine lv_if_ne (tgt := 456) hx hb d_law_441 (by decide) (fun h => ?_) (fun h => ?_)
  · refine lv_goto (tgt := 1372) hx hb d_law_456 (by decide) ?_
    refine W.widen (k := nc + 3) (n := ns + 18) (by omega) (by omega) ?_
    have hl := lv_sub hl (l' := [(4, .int v4), (0, .ref b), (1, .ref (ad 0)), (2, .ref (am 0)), (3, .ref ao)]) [2, 3, 4, 5, 6] rfl
    exact hE _ _ _ _ _ _ _ hw hL hl
  · refine lv_aload_n hx hb d_law_444 rfl (lv_at hl 6 rfl) ?_
    refine lv_iconst (v := (0 : Int32)) hx hb d_law_445 (by decide) ?_
    refine va_lald hx hb hKo hL.1 125 0 atL_o rfl (by unfold vp_in; decide) d_law_446 ?_
    refine lv_iload hx hb d_law_447 (lv_at hl 0 rfl) ?_
    refine lv_i2l hx hb d_law_449 rfl ?_
    refine W.lcmp hx hb d_law_450 ?_
    refine lv_if_eq (tgt := 456) hx hb d_law_451 (by decide) (fun h9 => ?_) (fun h9 => absurd ((lg_cmp_eq _ _).mpr (hq2 h)) h9)
    refine lv_goto (tgt := 1372) hx hb d_law_456 (by decide) ?_
    refine W.widen (k := nc + 3) (n := ns + 18) (by omega) (by omega) ?_
    have hl := lv_sub hl (l' := [(4, .int v4), (0, .ref b), (1, .ref (ad 0)), (2, .ref (am 0)), (3, .ref ao)]) [2, 3, 4, 5, 6] rfl
    exact hE _ _ _ _ _ _ _ hw hL hl
