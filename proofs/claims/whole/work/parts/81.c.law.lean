set_option maxHeartbeats 4000000 in
set_option maxRecDepth 100000 in
theorem law_10 {p : Program} {l : Launch} {e : Env} {s : State} {m : MethodId} {below : List Frame} {meth : Method} {c : Code} {b L : Nat} {xs : Nat → Int32} {dC : Nat → ClassId} {dI : Nat → Nat → Nat} {cA : Nat → ClassId} {ad : Nat → Nat} {cL : ClassId} {ao : Nat} {cM : Nat → ClassId} {am : Nat → Nat} {Q : State → Prop} {K : ST → (Nat → Int64) → ST → Int64 → Prop} {v4 : Int32} {nc ns : Nat} (hnc : nc + 3 ≤ 653736) (hns : ns + 18 ≤ 7134863) (hC : LC p l s m meth c b L xs dC dI cA ad cL ao cM am) (h1 : vp_in (v4 + (1 : Int32)) L) (h2 : vp_in (v4 + (2 : Int32)) L) (h3 : vp_in (v4 + (3 : Int32)) L) (h4 : vp_in (v4 + (4 : Int32)) L) (h5 : vp_in (v4 + (5 : Int32)) L) {X : ST} {O : Nat → Int64} {Z : ST} {Y : Int64} {H : Heap} {locs : List Loc} {ls : Array Slot} (hw : cs_10 K X O Z Y (xs (v4 + (1 : Int32)).toNatClampNeg) (xs (v4 + (2 : Int32)).toNatClampNeg) (xs (v4 + (3 : Int32)).toNatClampNeg) (xs (v4 + (4 : Int32)).toNatClampNeg)) (hL : LH dC dI cA ad cL ao cM am s X O Z Y H locs) (hl : lv_has ls 7 [(4, .int v4), (0, .ref b), (1, .ref (ad 0)), (2, .ref (am 0)), (3, .ref ao)])
    (hE : ∀ (X : ST) (O : Nat → Int64) (Z : ST) (Y : Int64) (H : Heap) (locs : List Loc) (ls : Array Slot), K X O Z Y → LH dC dI cA ad cL ao cM am s X O Z Y H locs → lv_has ls 7 [(4, .int v4), (0, .ref b), (1, .ref (ad 0)), (2, .ref (am 0)), (3, .ref ao)] → W p l e room_1 s m #[Value.ref b] below meth c H locs (nc + 3) (ns + 18) Q (F0 m 1372 ls [])) : W p l e room_1 s m #[Value.ref b] below meth c H locs nc ns Q (F0 m 852 ls []) := by
  obtain ⟨⟨hx, hb, hml, hown, hts, hX, hbl, hl9⟩, ⟨hGL, hGM⟩, ⟨hI, hIm, hO, hAM, hOM⟩, hn1, hn2, hn3⟩ := id hC
  have hKc := hGL.1.1
  have hKo := hGL.2.1
  have hKm := hGM.1
  have hbA : ¬ AN s b := fun h => absurd hbl (Nat.not_lt.mpr h)
  unfold cs_10 at hw
  refine lv_aload_n hx hb d_law_852 rfl (lv_at hl 2 rfl) ?_
  refine lv_aload_n hx hb d_law_853 rfl (lv_at hl 1 rfl) ?_
  refine lv_iload hx hb d_law_854 (lv_at hl 0 rfl) ?_
  refine lv_iconst (v := (1 : Int32)) hx hb d_law_856 (by decide) ?_
  refine lv_iadd hx hb d_law_857 ?_
  refine va_sld hx hb hX hbl hbA hL.2.2 h1 d_law_858 ?_
  refine lv_aload_n hx hb d_law_859 rfl (lv_at hl 1 rfl) ?_
  refine lv_iload hx hb d_law_860 (lv_at hl 0 rfl) ?_
  refine lv_iconst (v := (2 : Int32)) hx hb d_law_862 (by decide) ?_
  refine lv_iadd hx hb d_law_863 ?_
  refine va_sld hx hb hX hbl hbA hL.2.2 h2 d_law_864 ?_
  refine lv_aload_n hx hb d_law_865 rfl (lv_at hl 1 rfl) ?_
  refine lv_iload hx hb d_law_866 (lv_at hl 0 rfl) ?_
  refine lv_iconst (v := (3 : Int32)) hx hb d_law_868 (by decide) ?_
  refine lv_iadd hx hb d_law_869 ?_
  refine va_sld hx hb hX hbl hbA hL.2.2 h3 d_law_870 ?_
  refine lv_aload_n hx hb d_law_871 rfl (lv_at hl 1 rfl) ?_
  refine lv_iload hx hb d_law_872 (lv_at hl 0 rfl) ?_
  refine lv_iconst (v := (4 : Int32)) hx hb d_law_874 (by decide) ?_
  refine lv_iadd hx hb d_law_875 ?_
  refine va_sld hx hb hX hbl hbA hL.2.2 h4 d_law_876 ?_
  refine lv_aload_n hx hb d_law_877 rfl (lv_at hl 4 rfl) ?_
  refine va_calli (xt_runT (As := [.ref (ad 0), .int (xs (v4 + (1 : Int32)).toNatClampNeg), .int (xs (v4 + (2 : Int32)).toNatClampNeg), .int (xs (v4 + (3 : Int32)).toNatClampNeg), .int (xs (v4 + (4 : Int32)).toNatClampNeg), .ref ao]) (rest := []) ⟨hx, hb, hml, hown, hts⟩ (mt_LW_deactivate l hl9 dC dI cA ad hI cL ao hO _ hw) (xt_cw 6 hts (gT gw_711) rfl rfl rfl (hts _ gw_657) (hts _ gw_712) (hts _ gw_713) (by decide +kernel) ⟨(Nat.le_of_ble_eq_true rfl), (Nat.le_of_ble_eq_true rfl)⟩) ⟨zwL_blind, LH.preL hC hL⟩ rfl rfl hl.1 rfl (lv_room (Nat.le_of_ble_eq_true rfl)) d_law_878 ⟨(show nc + 2 ≤ 653736 by omega), (show ns + 12 ≤ 7134863 by omega)⟩) hL.2.2 (fun q _ h => LH.anL hC hL q h) (fun q h => LH.anL hC hL q h) (fun k5 u9 t H9 locs9 ht hvm hw hB hz1 hk1 hS => ?_)
  obtain ⟨X1, O1⟩ := u9
  have hL := LH.callL (X1 := X1) (O1 := O1) hC hL (by rw [← ht]; exact hB) hk1 hS
  generalize H9 = H at hL ⊢
  try dsimp only at hw
  refine lv_istore (lv' := [(5, .int k5), (4, .int v4), (0, .ref b), (1, .ref (ad 0)), (2, .ref (am 0)), (3, .ref ao)]) hx hb d_law_881 hl (by decide) rfl (fun ls hl => ?_)
  refine lv_aload_n hx hb d_law_883 rfl (lv_at hl 4 rfl) ?_
  refine lv_aload_n hx hb d_law_884 rfl (lv_at hl 2 rfl) ?_
  refine lv_iload hx hb d_law_885 (lv_at hl 1 rfl) ?_
  refine lv_iconst (v := (1 : Int32)) hx hb d_law_887 (by decide) ?_
  refine lv_iadd hx hb d_law_888 ?_
  refine va_sld hx hb hX hbl hbA hL.2.2 h1 d_law_889 ?_
  refine lv_aload_n hx hb d_law_890 rfl (lv_at hl 2 rfl) ?_
  refine lv_iload hx hb d_law_891 (lv_at hl 1 rfl) ?_
  refine lv_iconst (v := (2 : Int32)) hx hb d_law_893 (by decide) ?_
  refine lv_iadd hx hb d_law_894 ?_
  refine va_sld hx hb hX hbl hbA hL.2.2 h2 d_law_895 ?_
  refine lv_aload_n hx hb d_law_896 rfl (lv_at hl 2 rfl) ?_
  refine lv_iload hx hb d_law_897 (lv_at hl 1 rfl) ?_
  refine lv_iconst (v := (3 : Int32)) hx hb d_law_899 (by decide) ?_
  refine lv_iadd hx hb d_law_900 ?_
  refine va_sld hx hb hX hbl hbA hL.2.2 h3 d_law_901 ?_
  refine lv_aload_n hx hb d_law_902 rfl (lv_at hl 2 rfl) ?_
  refine lv_iload hx hb d_law_903 (lv_at hl 1 rfl) ?_
  refine lv_iconst (v := (4 : Int32)) hx hb d_law_905 (by decide) ?_
  refine lv_iadd hx hb d_law_906 ?_
  refine va_sld hx hb hX hbl hbA hL.2.2 h4 d_law_907 ?_
  refine va_calli (va_runV (As := [.int (xs (v4 + (1 : Int32)).toNatClampNeg), .int (xs (v4 + (2 : Int32)).toNatClampNeg), .int (xs (v4 + (3 : Int32)).toNatClampNeg), .int (xs (v4 + (4 : Int32)).toNatClampNeg)]) (rest := []) ⟨hx, hb, hml, hown, hts⟩ (mt_MO_deactivate l hl9 dC dI cM am hIm _ hw) (cwV 4 hts (gV gw_715 gw_716 gw_717 gw_306 gw_714) rfl rfl rfl (by decide +kernel) ⟨(Nat.le_of_ble_eq_true rfl), (Nat.le_of_ble_eq_true rfl)⟩) ⟨zwM_blind, va_recv hKm hL.2.1 (ci := 9) (q0 := 0) rfl atM_MO, LH.preM hC hL⟩ rfl rfl hl.1 rfl (lv_room (Nat.le_of_ble_eq_true rfl)) d_law_908 ⟨(show (nc + 2) + 0 ≤ 653736 by omega), (show (ns + 12) + 0 ≤ 7134863 by omega)⟩) hL.2.2 (fun q _ h => LH.anM hC hL q h) (fun q h => LH.anM hC hL q h) (fun r6 u9 t H9 locs9 ht hvm hw hB hz1 hk1 hS => ?_)
  obtain ⟨Z1, Y1⟩ := u9
  have hL := LH.callM (Z1 := Z1) (Y1 := Y1) hC hL (by rw [← ht]; exact hB) hk1 hS
  generalize H9 = H at hL ⊢
  try dsimp only at hw
  refine lv_istore (lv' := [(6, .int r6), (5, .int k5), (4, .int v4), (0, .ref b), (1, .ref (ad 0)), (2, .ref (am 0)), (3, .ref ao)]) hx hb d_law_911 hl (by decide) rfl (fun ls hl => ?_)
  refine lv_aload_n hx hb d_law_913 rfl (lv_at hl 5 rfl) ?_
  refine va_calli (va_runV (As := []) (rest := []) ⟨hx, hb, hml, hown, hts⟩ (mt_MO_thrown l hl9 dC dI cM am hIm _ hw) (cwV 0 hts (gV gw_665 gw_666 gw_667 gw_306 gw_664) rfl rfl rfl (by decide +kernel) ⟨(Nat.le_of_ble_eq_true rfl), (Nat.le_of_ble_eq_true rfl)⟩) ⟨zwM_blind, va_recv hKm hL.2.1 (ci := 9) (q0 := 0) rfl atM_MO, LH.preM hC hL⟩ rfl rfl hl.1 rfl (lv_room (Nat.le_of_ble_eq_true rfl)) d_law_914 ⟨(show ((nc + 2) + 0) + 0 ≤ 653736 by omega), (show ((ns + 12) + 0) + 0 ≤ 7134863 by omega)⟩) hL.2.2 (fun q _ h => LH.anM hC hL q h) (fun q h => LH.anM hC hL q h) (fun t7 u9 t H9 locs9 ht hvm hw hB hz1 hk1 hS => ?_)
  obtain ⟨Z2, Y2⟩ := u9
  have hL := LH.callM (Z1 := Z2) (Y1 := Y2) hC hL (by rw [← ht]; exact hB) hk1 hS
  generalize H9 = H at hL ⊢
  try dsimp only at hw
  refine lv_iload hx hb d_law_917 (lv_at hl 1 rfl) ?_
  obtain ⟨hq, hq2, hw⟩ := hw
  refine lv_icmp_eq (tgt := 924) hx hb d_law_919 (by decide) (fun h => ?_) (fun h => absurd hq h)
  refine lv_iload hx hb d_law_924 (lv_at hl 1 rfl) ?_
  refine lv_if_ne (tgt := 941) hx hb d_law_926 (by decide) (fun h => ?_) (fun h => ?_)
  · refine lv_goto (tgt := 1372) hx hb d_law_941 (by decide) ?_
    refine W.widen (k := nc + 3) (n := ns + 18) (by omega) (by omega) ?_
    have hl := lv_sub hl (l' := [(4, .int v4), (0, .ref b), (1, .ref (ad 0)), (2, .ref (am 0)), (3, .ref ao)]) [2, 3, 4, 5, 6] rfl
    exact hE _ _ _ _ _ _ _ hw hL hl
  · refine lv_aload_n hx hb d_law_929 rfl (lv_at hl 6 rfl) ?_
    refine lv_iconst (v := (0 : Int32)) hx hb d_law_930 (by decide) ?_
    refine va_lald hx hb hKo hL.1 125 0 atL_o rfl (by unfold vp_in; decide) d_law_931 ?_
    refine lv_iload hx hb d_law_932 (lv_at hl 0 rfl) ?_
    refine lv_i2l hx hb d_law_934 rfl ?_
    refine W.lcmp hx hb d_law_935 ?_
    refine lv_if_eq (tgt := 941) hx hb d_law_936 (by decide) (fun h9 => ?_) (fun h9 => absurd ((lg_cmp_eq _ _).mpr (hq2 h)) h9)
    refine lv_goto (tgt := 1372) hx hb d_law_941 (by decide) ?_
    refine W.widen (k := nc + 3) (n := ns + 18) (by omega) (by omega) ?_
    have hl := lv_sub hl (l' := [(4, .int v4), (0, .ref b), (1, .ref (ad 0)), (2, .ref (am 0)), (3, .ref ao)]) [2, 3, 4, 5, 6] rfl
    exact hE _ _ _ _ _ _ _ hw hL hl
set_option maxHeartbeats 4000000 in
set_option maxRecDepth 100000 in
theorem law_11 {p : Program} {l : Launch} {e : Env} {s : State} {m : MethodId} {below : List Frame} {meth : Method} {c : Code} {b L : Nat} {xs : Nat → Int32} {dC : Nat → ClassId} {dI : Nat → Nat → Nat} {cA : Nat → ClassId} {ad : Nat → Nat} {cL : ClassId} {ao : Nat} {cM : Nat → ClassId} {am : Nat → Nat} {Q : State → Prop} {K : ST → (Nat → Int64) → ST → Int64 → Prop} {v4 : Int32} {nc ns : Nat} (hnc : nc + 3 ≤ 653736) (hns : ns + 18 ≤ 7134863) (hC : LC p l s m meth c b L xs dC dI cA ad cL ao cM am) (h1 : vp_in (v4 + (1 : Int32)) L) (h2 : vp_in (v4 + (2 : Int32)) L) (h3 : vp_in (v4 + (3 : Int32)) L) (h4 : vp_in (v4 + (4 : Int32)) L) (h5 : vp_in (v4 + (5 : Int32)) L) {X : ST} {O : Nat → Int64} {Z : ST} {Y : Int64} {H : Heap} {locs : List Loc} {ls : Array Slot} (hw : cs_11 K X O Z Y (xs (v4 + (1 : Int32)).toNatClampNeg) (xs (v4 + (2 : Int32)).toNatClampNeg) (xs (v4 + (3 : Int32)).toNatClampNeg) (xs (v4 + (4 : Int32)).toNatClampNeg) (xs (v4 + (5 : Int32)).toNatClampNeg)) (hL : LH dC dI cA ad cL ao cM am s X O Z Y H locs) (hl : lv_has ls 7 [(4, .int v4), (0, .ref b), (1, .ref (ad 0)), (2, .ref (am 0)), (3, .ref ao)])
    (hE : ∀ (X : ST) (O : Nat → Int64) (Z : ST) (Y : Int64) (H : Heap) (locs : List Loc) (ls : Array Slot), K X O Z Y → LH dC dI cA ad cL ao cM am s X O Z Y H locs → lv_has ls 7 [(4, .int v4), (0, .ref b), (1, .ref (ad 0)), (2, .ref (am 0)), (3, .ref ao)] → W p l e room_1 s m #[Value.ref b] below meth c H locs (nc + 3) (ns + 18) Q (F0 m 1372 ls [])) : W p l e room_1 s m #[Value.ref b] below meth c H locs nc ns Q (F0 m 944 ls []) := by
  obtain ⟨⟨hx, hb, hml, hown, hts, hX, hbl, hl9⟩, ⟨hGL, hGM⟩, ⟨hI, hIm, hO, hAM, hOM⟩, hn1, hn2, hn3⟩ := id hC
  have hKc := hGL.1.1
  have hKo := hGL.2.1
  have hKm := hGM.1
  have hbA : ¬ AN s b := fun h => absurd hbl (Nat.not_lt.mpr h)
  unfold cs_11 at hw
  refine lv_aload_n hx hb d_law_944 rfl (lv_at hl 2 rfl) ?_
  refine lv_aload_n hx hb d_law_945 rfl (lv_at hl 1 rfl) ?_
  refine lv_iload hx hb d_law_946 (lv_at hl 0 rfl) ?_
  refine lv_iconst (v := (1 : Int32)) hx hb d_law_948 (by decide) ?_
  refine lv_iadd hx hb d_law_949 ?_
  refine va_sld hx hb hX hbl hbA hL.2.2 h1 d_law_950 ?_
  refine lv_aload_n hx hb d_law_951 rfl (lv_at hl 1 rfl) ?_
  refine lv_iload hx hb d_law_952 (lv_at hl 0 rfl) ?_
  refine lv_iconst (v := (2 : Int32)) hx hb d_law_954 (by decide) ?_
  refine lv_iadd hx hb d_law_955 ?_
  refine va_sld hx hb hX hbl hbA hL.2.2 h2 d_law_956 ?_
  refine lv_aload_n hx hb d_law_957 rfl (lv_at hl 1 rfl) ?_
  refine lv_iload hx hb d_law_958 (lv_at hl 0 rfl) ?_
  refine lv_iconst (v := (3 : Int32)) hx hb d_law_960 (by decide) ?_
  refine lv_iadd hx hb d_law_961 ?_
  refine va_sld hx hb hX hbl hbA hL.2.2 h3 d_law_962 ?_
  refine lv_aload_n hx hb d_law_963 rfl (lv_at hl 1 rfl) ?_
  refine lv_iload hx hb d_law_964 (lv_at hl 0 rfl) ?_
  refine lv_iconst (v := (4 : Int32)) hx hb d_law_966 (by decide) ?_
  refine lv_iadd hx hb d_law_967 ?_
  refine va_sld hx hb hX hbl hbA hL.2.2 h4 d_law_968 ?_
  refine lv_aload_n hx hb d_law_969 rfl (lv_at hl 1 rfl) ?_
  refine lv_iload hx hb d_law_970 (lv_at hl 0 rfl) ?_
  refine lv_iconst (v := (5 : Int32)) hx hb d_law_972 (by decide) ?_
  refine lv_iadd hx hb d_law_973 ?_
  refine va_sld hx hb hX hbl hbA hL.2.2 h5 d_law_974 ?_
  refine lv_aload_n hx hb d_law_975 rfl (lv_at hl 4 rfl) ?_
  refine va_calli (xt_runT (As := [.ref (ad 0), .int (xs (v4 + (1 : Int32)).toNatClampNeg), .int (xs (v4 + (2 : Int32)).toNatClampNeg), .int (xs (v4 + (3 : Int32)).toNatClampNeg), .int (xs (v4 + (4 : Int32)).toNatClampNeg), .int (xs (v4 + (5 : Int32)).toNatClampNeg), .ref ao]) (rest := []) ⟨hx, hb, hml, hown, hts⟩ (mt_LW_rollover l hl9 dC dI cA ad hI cL ao hO _ hw) (xt_cw 7 hts (gT gw_718) rfl rfl rfl (hts _ gw_657) (hts _ gw_719) (hts _ gw_720) (by decide +kernel) ⟨(Nat.le_of_ble_eq_true rfl), (Nat.le_of_ble_eq_true rfl)⟩) ⟨zwL_blind, LH.preL hC hL⟩ rfl rfl hl.1 rfl (lv_room (Nat.le_of_ble_eq_true rfl)) d_law_976 ⟨(show nc + 2 ≤ 653736 by omega), (show ns + 12 ≤ 7134863 by omega)⟩) hL.2.2 (fun q _ h => LH.anL hC hL q h) (fun q h => LH.anL hC hL q h) (fun k5 u9 t H9 locs9 ht hvm hw hB hz1 hk1 hS => ?_)
  obtain ⟨X1, O1⟩ := u9
  have hL := LH.callL (X1 := X1) (O1 := O1) hC hL (by rw [← ht]; exact hB) hk1 hS
  generalize H9 = H at hL ⊢
  try dsimp only at hw
  refine lv_istore (lv' := [(5, .int k5), (4, .int v4), (0, .ref b), (1, .ref (ad 0)), (2, .ref (am 0)), (3, .ref ao)]) hx hb d_law_979 hl (by decide) rfl (fun ls hl => ?_)
  refine lv_aload_n hx hb d_law_981 rfl (lv_at hl 4 rfl) ?_
  refine lv_aload_n hx hb d_law_982 rfl (lv_at hl 2 rfl) ?_
  refine lv_iload hx hb d_law_983 (lv_at hl 1 rfl) ?_
  refine lv_iconst (v := (1 : Int32)) hx hb d_law_985 (by decide) ?_
  refine lv_iadd hx hb d_law_986 ?_
  refine va_sld hx hb hX hbl hbA hL.2.2 h1 d_law_987 ?_
  refine lv_aload_n hx hb d_law_988 rfl (lv_at hl 2 rfl) ?_
  refine lv_iload hx hb d_law_989 (lv_at hl 1 rfl) ?_
  refine lv_iconst (v := (2 : Int32)) hx hb d_law_991 (by decide) ?_
  refine lv_iadd hx hb d_law_992 ?_
  refine va_sld hx hb hX hbl hbA hL.2.2 h2 d_law_993 ?_
  refine lv_aload_n hx hb d_law_994 rfl (lv_at hl 2 rfl) ?_
  refine lv_iload hx hb d_law_995 (lv_at hl 1 rfl) ?_
  refine lv_iconst (v := (3 : Int32)) hx hb d_law_997 (by decide) ?_
  refine lv_iadd hx hb d_law_998 ?_
  refine va_sld hx hb hX hbl hbA hL.2.2 h3 d_law_999 ?_
  refine lv_aload_n hx hb d_law_1000 rfl (lv_at hl 2 rfl) ?_
  refine lv_iload hx hb d_law_1001 (lv_at hl 1 rfl) ?_
  refine lv_iconst (v := (4 : Int32)) hx hb d_law_1003 (by decide) ?_
  refine lv_iadd hx hb d_law_1004 ?_
  refine va_sld hx hb hX hbl hbA hL.2.2 h4 d_law_1005 ?_
  refine lv_aload_n hx hb d_law_1006 rfl (lv_at hl 2 rfl) ?_
  refine lv_iload hx hb d_law_1007 (lv_at hl 1 rfl) ?_
  refine lv_iconst (v := (5 : Int32)) hx hb d_law_1009 (by decide) ?_
  refine lv_iadd hx hb d_law_1010 ?_
  refine va_sld hx hb hX hbl hbA hL.2.2 h5 d_law_1011 ?_
  refine va_calli (va_runV (As := [.int (xs (v4 + (1 : Int32)).toNatClampNeg), .int (xs (v4 + (2 : Int32)).toNatClampNeg), .int (xs (v4 + (3 : Int32)).toNatClampNeg), .int (xs (v4 + (4 : Int32)).toNatClampNeg), .int (xs (v4 + (5 : Int32)).toNatClampNeg)]) (rest := []) ⟨hx, hb, hml, hown, hts⟩ (mt_MO_rollover l hl9 dC dI cM am hIm _ hw) (cwV 5 hts (gV gw_722 gw_723 gw_724 gw_306 gw_721) rfl rfl rfl (by decide +kernel) ⟨(Nat.le_of_ble_eq_true rfl), (Nat.le_of_ble_eq_true rfl)⟩) ⟨zwM_blind, va_recv hKm hL.2.1 (ci := 9) (q0 := 0) rfl atM_MO, LH.preM hC hL⟩ rfl rfl hl.1 rfl (lv_room (Nat.le_of_ble_eq_true rfl)) d_law_1012 ⟨(show (nc + 2) + 0 ≤ 653736 by omega), (show (ns + 12) + 0 ≤ 7134863 by omega)⟩) hL.2.2 (fun q _ h => LH.anM hC hL q h) (fun q h => LH.anM hC hL q h) (fun r6 u9 t H9 locs9 ht hvm hw hB hz1 hk1 hS => ?_)
  obtain ⟨Z1, Y1⟩ := u9
  have hL := LH.callM (Z1 := Z1) (Y1 := Y1) hC hL (by rw [← ht]; exact hB) hk1 hS
  generalize H9 = H at hL ⊢
  try dsimp only at hw
  refine lv_istore (lv' := [(6, .int r6), (5, .int k5), (4, .int v4), (0, .ref b), (1, .ref (ad 0)), (2, .ref (am 0)), (3, .ref ao)]) hx hb d_law_1015 hl (by decide) rfl (fun ls hl => ?_)
  refine lv_aload_n hx hb d_law_1017 rfl (lv_at hl 5 rfl) ?_
  refine va_calli (va_runV (As := []) (rest := []) ⟨hx, hb, hml, hown, hts⟩ (mt_MO_thrown l hl9 dC dI cM am hIm _ hw) (cwV 0 hts (gV gw_665 gw_666 gw_667 gw_306 gw_664) rfl rfl rfl (by decide +kernel) ⟨(Nat.le_of_ble_eq_true rfl), (Nat.le_of_ble_eq_true rfl)⟩) ⟨zwM_blind, va_recv hKm hL.2.1 (ci := 9) (q0 := 0) rfl atM_MO, LH.preM hC hL⟩ rfl rfl hl.1 rfl (lv_room (Nat.le_of_ble_eq_true rfl)) d_law_1018 ⟨(show ((nc + 2) + 0) + 0 ≤ 653736 by omega), (show ((ns + 12) + 0) + 0 ≤ 7134863 by omega)⟩) hL.2.2 (fun q _ h => LH.anM hC hL q h) (fun q h => LH.anM hC hL q h) (fun t7 u9 t H9 locs9 ht hvm hw hB hz1 hk1 hS => ?_)
  obtain ⟨Z2, Y2⟩ := u9
  have hL := LH.callM (Z1 := Z2) (Y1 := Y2) hC hL (by rw [← ht]; exact hB) hk1 hS
  generalize H9 = H at hL ⊢
  try dsimp only at hw
  refine lv_iload hx hb d_law_1021 (lv_at hl 1 rfl) ?_
  obtain ⟨hq, hq2, hw⟩ := hw
  refine lv_icmp_eq (tgt := 1028) hx hb d_law_1023 (by decide) (fun h => ?_) (fun h => absurd hq h)
  refine lv_iload hx hb d_law_1028 (lv_at hl 1 rfl) ?_
  refine lv_if_ne (tgt := 1045) hx hb d_law_1030 (by decide) (fun h => ?_) (fun h => ?_)
  · refine lv_goto (tgt := 1372) hx hb d_law_1045 (by decide) ?_
    refine W.widen (k := nc + 3) (n := ns + 18) (by omega) (by omega) ?_
    have hl := lv_sub hl (l' := [(4, .int v4), (0, .ref b), (1, .ref (ad 0)), (2, .ref (am 0)), (3, .ref ao)]) [2, 3, 4, 5, 6] rfl
    exact hE _ _ _ _ _ _ _ hw hL hl
  · refine lv_aload_n hx hb d_law_1033 rfl (lv_at hl 6 rfl) ?_
    refine lv_iconst (v := (0 : Int32)) hx hb d_law_1034 (by decide) ?_
    refine va_lald hx hb hKo hL.1 125 0 atL_o rfl (by unfold vp_in; decide) d_law_1035 ?_
    refine lv_iload hx hb d_law_1036 (lv_at hl 0 rfl) ?_
    refine lv_i2l hx hb d_law_1038 rfl ?_
    refine W.lcmp hx hb d_law_1039 ?_
    refine lv_if_eq (tgt := 1045) hx hb d_law_1040 (by decide) (fun h9 => ?_) (fun h9 => absurd ((lg_cmp_eq _ _).mpr (hq2 h)) h9)
    refine lv_goto (tgt := 1372) hx hb d_law_1045 (by decide) ?_
    refine W.widen (k := nc + 3) (n := ns + 18) (by omega) (by omega) ?_
    have hl := lv_sub hl (l' := [(4, .int v4), (0, .ref b), (1, .ref (ad 0)), (2, .ref (am 0)), (3, .ref ao)]) [2, 3, 4, 5, 6] rfl
    exact hE _ _ _ _ _ _ _ hw hL hl
set_option maxHeartbeats 4000000 in
set_option maxRecDepth 100000 in
theorem law_12 {p : Program} {l : Launch} {e : Env} {s : State} {m : MethodId} {below : List Frame} {meth : Method} {c : Code} {b L : Nat} {xs : Nat → Int32} {dC : Nat → ClassId} {dI : Nat → Nat → Nat} {cA : Nat → ClassId} {ad : Nat → Nat} {cL : ClassId} {ao : Nat} {cM : Nat → ClassId} {am : Nat → Nat} {Q : State → Prop} {K : ST → (Nat → Int64) → ST → Int64 → Prop} {v4 : Int32} {nc ns : Nat} (hnc : nc + 3 ≤ 653736) (hns : ns + 18 ≤ 7134863) (hC : LC p l s m meth c b L xs dC dI cA ad cL ao cM am) (h1 : vp_in (v4 + (1 : Int32)) L) (h2 : vp_in (v4 + (2 : Int32)) L) (h3 : vp_in (v4 + (3 : Int32)) L) (h4 : vp_in (v4 + (4 : Int32)) L) (h5 : vp_in (v4 + (5 : Int32)) L) {X : ST} {O : Nat → Int64} {Z : ST} {Y : Int64} {H : Heap} {locs : List Loc} {ls : Array Slot} (hw : cs_12 K X O Z Y (((xs (v4 + (1 : Int32)).toNatClampNeg).toInt64 <<< ((32 : Int32).toInt64 &&& 63)) ||| ((xs (v4 + (2 : Int32)).toNatClampNeg).toInt64 &&& (4294967295 : Int64))) (xs (v4 + (3 : Int32)).toNatClampNeg)) (hL : LH dC dI cA ad cL ao cM am s X O Z Y H locs) (hl : lv_has ls 7 [(4, .int v4), (0, .ref b), (1, .ref (ad 0)), (2, .ref (am 0)), (3, .ref ao)])
    (hE : ∀ (X : ST) (O : Nat → Int64) (Z : ST) (Y : Int64) (H : Heap) (locs : List Loc) (ls : Array Slot), K X O Z Y → LH dC dI cA ad cL ao cM am s X O Z Y H locs → lv_has ls 7 [(4, .int v4), (0, .ref b), (1, .ref (ad 0)), (2, .ref (am 0)), (3, .ref ao)] → W p l e room_1 s m #[Value.ref b] below meth c H locs (nc + 3) (ns + 18) Q (F0 m 1372 ls [])) : W p l e room_1 s m #[Value.ref b] below meth c H locs nc ns Q (F0 m 1048 ls []) := by
  obtain ⟨⟨hx, hb, hml, hown, hts, hX, hbl, hl9⟩, ⟨hGL, hGM⟩, ⟨hI, hIm, hO, hAM, hOM⟩, hn1, hn2, hn3⟩ := id hC
  have hKc := hGL.1.1
  have hKo := hGL.2.1
  have hKm := hGM.1
  have hbA : ¬ AN s b := fun h => absurd hbl (Nat.not_lt.mpr h)
  unfold cs_12 at hw
  refine lv_aload_n hx hb d_law_1048 rfl (lv_at hl 2 rfl) ?_
  refine lv_aload_n hx hb d_law_1049 rfl (lv_at hl 1 rfl) ?_
  refine lv_iload hx hb d_law_1050 (lv_at hl 0 rfl) ?_
  refine lv_iconst (v := (1 : Int32)) hx hb d_law_1052 (by decide) ?_
  refine lv_iadd hx hb d_law_1053 ?_
  refine va_sld hx hb hX hbl hbA hL.2.2 h1 d_law_1054 ?_
  refine lv_i2l hx hb d_law_1055 rfl ?_
  refine lv_bipush (v := (32 : Int32)) hx hb d_law_1056 (by decide) ?_
  refine lv_lshl hx hb d_law_1058 rfl ?_
  refine lv_aload_n hx hb d_law_1059 rfl (lv_at hl 1 rfl) ?_
  refine lv_iload hx hb d_law_1060 (lv_at hl 0 rfl) ?_
  refine lv_iconst (v := (2 : Int32)) hx hb d_law_1062 (by decide) ?_
  refine lv_iadd hx hb d_law_1063 ?_
  refine va_sld hx hb hX hbl hbA hL.2.2 h2 d_law_1064 ?_
  refine lv_i2l hx hb d_law_1065 rfl ?_
  refine lv_ldc2 (v := (4294967295 : Int64)) hx hb hown (hts _ gw_725) d_law_1066 ?_
  refine lv_land hx hb d_law_1069 ?_
  refine lv_lor hx hb d_law_1070 ?_
  refine lv_aload_n hx hb d_law_1071 rfl (lv_at hl 1 rfl) ?_
  refine lv_iload hx hb d_law_1072 (lv_at hl 0 rfl) ?_
  refine lv_iconst (v := (3 : Int32)) hx hb d_law_1074 (by decide) ?_
  refine lv_iadd hx hb d_law_1075 ?_
  refine va_sld hx hb hX hbl hbA hL.2.2 h3 d_law_1076 ?_
  refine va_calli (va_runV (As := [.long ((((xs (v4 + (1 : Int32)).toNatClampNeg).toInt64) <<< ((32 : Int32).toInt64 &&& 63)) ||| (((xs (v4 + (2 : Int32)).toNatClampNeg).toInt64) &&& (4294967295 : Int64))), .int (xs (v4 + (3 : Int32)).toNatClampNeg)]) (rest := []) ⟨hx, hb, hml, hown, hts⟩ (mt_CA_feed l hl9 dC dI cA ad hI _ hw) (cwV 2 hts (gV gw_727 gw_728 gw_729 gw_13 gw_726) rfl rfl rfl (by decide +kernel) ⟨(Nat.le_of_ble_eq_true rfl), (Nat.le_of_ble_eq_true rfl)⟩) ⟨zwC_blind, va_recv hKc (zwL_C hL.1) (ci := 0) (q0 := 0) rfl atC_CA, LH.preC hC hL⟩ rfl rfl hl.1 rfl (lv_room (Nat.le_of_ble_eq_true rfl)) d_law_1077 ⟨(show nc + 0 ≤ 653736 by omega), (show ns + 0 ≤ 7134863 by omega)⟩) hL.2.2 (fun q _ h => LH.anC hC hL q h) (fun q h => LH.anC hC hL q h) (fun r5 X1 t H9 locs9 ht hvm hw hB hz1 hk1 hS => ?_)
  have hL := LH.callC (X1 := X1) hC hL (by rw [← ht]; exact hB) hk1 hS
  generalize H9 = H at hL ⊢
  try dsimp only at hw
  refine lv_aload_n hx hb d_law_1080 rfl (lv_at hl 3 rfl) ?_
  refine lv_aload_n hx hb d_law_1081 rfl (lv_at hl 1 rfl) ?_
  refine lv_iload hx hb d_law_1082 (lv_at hl 0 rfl) ?_
  refine lv_iconst (v := (1 : Int32)) hx hb d_law_1084 (by decide) ?_
  refine lv_iadd hx hb d_law_1085 ?_
  refine va_sld hx hb hX hbl hbA hL.2.2 h1 d_law_1086 ?_
  refine lv_i2l hx hb d_law_1087 rfl ?_
  refine lv_bipush (v := (32 : Int32)) hx hb d_law_1088 (by decide) ?_
  refine lv_lshl hx hb d_law_1090 rfl ?_
  refine lv_aload_n hx hb d_law_1091 rfl (lv_at hl 1 rfl) ?_
  refine lv_iload hx hb d_law_1092 (lv_at hl 0 rfl) ?_
  refine lv_iconst (v := (2 : Int32)) hx hb d_law_1094 (by decide) ?_
  refine lv_iadd hx hb d_law_1095 ?_
  refine va_sld hx hb hX hbl hbA hL.2.2 h2 d_law_1096 ?_
  refine lv_i2l hx hb d_law_1097 rfl ?_
  refine lv_ldc2 (v := (4294967295 : Int64)) hx hb hown (hts _ gw_725) d_law_1098 ?_
  refine lv_land hx hb d_law_1101 ?_
  refine lv_lor hx hb d_law_1102 ?_
  refine lv_aload_n hx hb d_law_1103 rfl (lv_at hl 1 rfl) ?_
  refine lv_iload hx hb d_law_1104 (lv_at hl 0 rfl) ?_
  refine lv_iconst (v := (3 : Int32)) hx hb d_law_1106 (by decide) ?_
  refine lv_iadd hx hb d_law_1107 ?_
  refine va_sld hx hb hX hbl hbA hL.2.2 h3 d_law_1108 ?_
  refine va_calli (va_runV (As := [.long ((((xs (v4 + (1 : Int32)).toNatClampNeg).toInt64) <<< ((32 : Int32).toInt64 &&& 63)) ||| (((xs (v4 + (2 : Int32)).toNatClampNeg).toInt64) &&& (4294967295 : Int64))), .int (xs (v4 + (3 : Int32)).toNatClampNeg)]) (rest := [.int r5]) ⟨hx, hb, hml, hown, hts⟩ (mt_MO_feed l hl9 dC dI cM am hIm _ hw) (cwV 2 hts (gV gw_731 gw_732 gw_733 gw_306 gw_730) rfl rfl rfl (by decide +kernel) ⟨(Nat.le_of_ble_eq_true rfl), (Nat.le_of_ble_eq_true rfl)⟩) ⟨zwM_blind, va_recv hKm hL.2.1 (ci := 9) (q0 := 0) rfl atM_MO, LH.preM hC hL⟩ rfl rfl hl.1 rfl (lv_room (Nat.le_of_ble_eq_true rfl)) d_law_1109 ⟨(show (nc + 0) + 0 ≤ 653736 by omega), (show (ns + 0) + 0 ≤ 7134863 by omega)⟩) hL.2.2 (fun q _ h => LH.anM hC hL q h) (fun q h => LH.anM hC hL q h) (fun r6 u9 t H9 locs9 ht hvm hw hB hz1 hk1 hS => ?_)
  obtain ⟨Z1, Y1⟩ := u9
  have hL := LH.callM (Z1 := Z1) (Y1 := Y1) hC hL (by rw [← ht]; exact hB) hk1 hS
  generalize H9 = H at hL ⊢
  try dsimp only at hw
  obtain ⟨hq, hw⟩ := hw
  refine lv_icmp_eq (tgt := 1372) hx hb d_law_1112 (by decide) (fun h => ?_) (fun h => absurd hq h)
  refine W.widen (k := nc + 3) (n := ns + 18) (by omega) (by omega) ?_
  exact hE _ _ _ _ _ _ _ hw hL hl
set_option maxHeartbeats 4000000 in
set_option maxRecDepth 100000 in
theorem law_13 {p : Program} {l : Launch} {e : Env} {s : State} {m : MethodId} {below : List Frame} {meth : Method} {c : Code} {b L : Nat} {xs : Nat → Int32} {dC : Nat → ClassId} {dI : Nat → Nat → Nat} {cA : Nat → ClassId} {ad : Nat → Nat} {cL : ClassId} {ao : Nat} {cM : Nat → ClassId} {am : Nat → Nat} {Q : State → Prop} {K : ST → (Nat → Int64) → ST → Int64 → Prop} {v4 : Int32} {nc ns : Nat} (hnc : nc + 3 ≤ 653736) (hns : ns + 18 ≤ 7134863) (hC : LC p l s m meth c b L xs dC dI cA ad cL ao cM am) (h1 : vp_in (v4 + (1 : Int32)) L) (h2 : vp_in (v4 + (2 : Int32)) L) (h3 : vp_in (v4 + (3 : Int32)) L) (h4 : vp_in (v4 + (4 : Int32)) L) (h5 : vp_in (v4 + (5 : Int32)) L) {X : ST} {O : Nat → Int64} {Z : ST} {Y : Int64} {H : Heap} {locs : List Loc} {ls : Array Slot} (hw : cs_13 K X O Z Y ) (hL : LH dC dI cA ad cL ao cM am s X O Z Y H locs) (hl : lv_has ls 7 [(4, .int v4), (0, .ref b), (1, .ref (ad 0)), (2, .ref (am 0)), (3, .ref ao)])
    (hE : ∀ (X : ST) (O : Nat → Int64) (Z : ST) (Y : Int64) (H : Heap) (locs : List Loc) (ls : Array Slot), K X O Z Y → LH dC dI cA ad cL ao cM am s X O Z Y H locs → lv_has ls 7 [(4, .int v4), (0, .ref b), (1, .ref (ad 0)), (2, .ref (am 0)), (3, .ref ao)] → W p l e room_1 s m #[Value.ref b] below meth c H locs (nc + 3) (ns + 18) Q (F0 m 1372 ls [])) : W p l e room_1 s m #[Value.ref b] below meth c H locs nc ns Q (F0 m 1117 ls []) := by
  obtain ⟨⟨hx, hb, hml, hown, hts, hX, hbl, hl9⟩, ⟨hGL, hGM⟩, ⟨hI, hIm, hO, hAM, hOM⟩, hn1, hn2, hn3⟩ := id hC
  have hKc := hGL.1.1
  have hKo := hGL.2.1
  have hKm := hGM.1
  have hbA : ¬ AN s b := fun h => absurd hbl (Nat.not_lt.mpr h)
  unfold cs_13 at hw
  refine lv_aload_n hx hb d_law_1117 rfl (lv_at hl 2 rfl) ?_
  refine va_calli (va_runV (As := []) (rest := []) ⟨hx, hb, hml, hown, hts⟩ (mt_CA_clear l hl9 dC dI cA ad hI _ hw) (cwV 0 hts (gV gw_735 gw_736 gw_737 gw_13 gw_734) rfl rfl rfl (by decide +kernel) ⟨(Nat.le_of_ble_eq_true rfl), (Nat.le_of_ble_eq_true rfl)⟩) ⟨zwC_blind, va_recv hKc (zwL_C hL.1) (ci := 0) (q0 := 0) rfl atC_CA, LH.preC hC hL⟩ rfl rfl hl.1 rfl (lv_room (Nat.le_of_ble_eq_true rfl)) d_law_1118 ⟨(show nc + 0 ≤ 653736 by omega), (show ns + 0 ≤ 7134863 by omega)⟩) hL.2.2 (fun q _ h => LH.anC hC hL q h) (fun q h => LH.anC hC hL q h) (fun r5 X1 t H9 locs9 ht hvm hw hB hz1 hk1 hS => ?_)
  have hL := LH.callC (X1 := X1) hC hL (by rw [← ht]; exact hB) hk1 hS
  generalize H9 = H at hL ⊢
  try dsimp only at hw
  refine lv_aload_n hx hb d_law_1121 rfl (lv_at hl 3 rfl) ?_
  refine va_calli (va_runV (As := []) (rest := [.int r5]) ⟨hx, hb, hml, hown, hts⟩ (mt_MO_clear l hl9 dC dI cM am hIm _ hw) (cwV 0 hts (gV gw_739 gw_740 gw_741 gw_306 gw_738) rfl rfl rfl (by decide +kernel) ⟨(Nat.le_of_ble_eq_true rfl), (Nat.le_of_ble_eq_true rfl)⟩) ⟨zwM_blind, va_recv hKm hL.2.1 (ci := 9) (q0 := 0) rfl atM_MO, LH.preM hC hL⟩ rfl rfl hl.1 rfl (lv_room (Nat.le_of_ble_eq_true rfl)) d_law_1122 ⟨(show (nc + 0) + 0 ≤ 653736 by omega), (show (ns + 0) + 0 ≤ 7134863 by omega)⟩) hL.2.2 (fun q _ h => LH.anM hC hL q h) (fun q h => LH.anM hC hL q h) (fun r6 u9 t H9 locs9 ht hvm hw hB hz1 hk1 hS => ?_)
  obtain ⟨Z1, Y1⟩ := u9
  have hL := LH.callM (Z1 := Z1) (Y1 := Y1) hC hL (by rw [← ht]; exact hB) hk1 hS
  generalize H9 = H at hL ⊢
  try dsimp only at hw
  obtain ⟨hq, hw⟩ := hw
  refine lv_icmp_eq (tgt := 1372) hx hb d_law_1125 (by decide) (fun h => ?_) (fun h => absurd hq h)
  refine W.widen (k := nc + 3) (n := ns + 18) (by omega) (by omega) ?_
  exact hE _ _ _ _ _ _ _ hw hL hl
set_option maxHeartbeats 4000000 in
set_option maxRecDepth 100000 in
theorem law_14 {p : Program} {l : Launch} {e : Env} {s : State} {m : MethodId} {below : List Frame} {meth : Method} {c : Code} {b L : Nat} {xs : Nat → Int32} {dC : Nat → ClassId} {dI : Nat → Nat → Nat} {cA : Nat → ClassId} {ad : Nat → Nat} {cL : ClassId} {ao : Nat} {cM : Nat → ClassId} {am : Nat → Nat} {Q : State → Prop} {K : ST → (Nat → Int64) → ST → Int64 → Prop} {v4 : Int32} {nc ns : Nat} (hnc : nc + 3 ≤ 653736) (hns : ns + 18 ≤ 7134863) (hC : LC p l s m meth c b L xs dC dI cA ad cL ao cM am) (h1 : vp_in (v4 + (1 : Int32)) L) (h2 : vp_in (v4 + (2 : Int32)) L) (h3 : vp_in (v4 + (3 : Int32)) L) (h4 : vp_in (v4 + (4 : Int32)) L) (h5 : vp_in (v4 + (5 : Int32)) L) {X : ST} {O : Nat → Int64} {Z : ST} {Y : Int64} {H : Heap} {locs : List Loc} {ls : Array Slot} (hw : cs_14 K X O Z Y ) (hL : LH dC dI cA ad cL ao cM am s X O Z Y H locs) (hl : lv_has ls 7 [(4, .int v4), (0, .ref b), (1, .ref (ad 0)), (2, .ref (am 0)), (3, .ref ao)])
    (hE : ∀ (X : ST) (O : Nat → Int64) (Z : ST) (Y : Int64) (H : Heap) (locs : List Loc) (ls : Array Slot), K X O Z Y → LH dC dI cA ad cL ao cM am s X O Z Y H locs → lv_has ls 7 [(4, .int v4), (0, .ref b), (1, .ref (ad 0)), (2, .ref (am 0)), (3, .ref ao)] → W p l e room_1 s m #[Value.ref b] below meth c H locs (nc + 3) (ns + 18) Q (F0 m 1372 ls [])) : W p l e room_1 s m #[Value.ref b] below meth c H locs nc ns Q (F0 m 1130 ls []) := by
  obtain ⟨⟨hx, hb, hml, hown, hts, hX, hbl, hl9⟩, ⟨hGL, hGM⟩, ⟨hI, hIm, hO, hAM, hOM⟩, hn1, hn2, hn3⟩ := id hC
  have hKc := hGL.1.1
  have hKo := hGL.2.1
  have hKm := hGM.1
  have hbA : ¬ AN s b := fun h => absurd hbl (Nat.not_lt.mpr h)
  unfold cs_14 at hw
  refine lv_aload_n hx hb d_law_1130 rfl (lv_at hl 2 rfl) ?_
  refine va_calli (va_runV (As := []) (rest := []) ⟨hx, hb, hml, hown, hts⟩ (mt_CA_csr l hl9 dC dI cA ad hI _ hw) (cwV 0 hts (gV gw_742 gw_199 gw_200 gw_13 gw_197) rfl rfl rfl (by decide +kernel) ⟨(Nat.le_of_ble_eq_true rfl), (Nat.le_of_ble_eq_true rfl)⟩) ⟨zwC_blind, va_recv hKc (zwL_C hL.1) (ci := 0) (q0 := 0) rfl atC_CA, LH.preC hC hL⟩ rfl rfl hl.1 rfl (lv_room (Nat.le_of_ble_eq_true rfl)) d_law_1131 ⟨(show nc + 0 ≤ 653736 by omega), (show ns + 0 ≤ 7134863 by omega)⟩) hL.2.2 (fun q _ h => LH.anC hC hL q h) (fun q h => LH.anC hC hL q h) (fun r5 X1 t H9 locs9 ht hvm hw hB hz1 hk1 hS => ?_)
  have hL := LH.callC (X1 := X1) hC hL (by rw [← ht]; exact hB) hk1 hS
  generalize H9 = H at hL ⊢
  try dsimp only at hw
  refine lv_aload_n hx hb d_law_1134 rfl (lv_at hl 3 rfl) ?_
  refine va_calli (va_runV (As := []) (rest := [.int r5]) ⟨hx, hb, hml, hown, hts⟩ (mt_MO_csr l hl9 dC dI cM am hIm _ hw) (cwV 0 hts (gV gw_744 gw_745 gw_746 gw_306 gw_743) rfl rfl rfl (by decide +kernel) ⟨(Nat.le_of_ble_eq_true rfl), (Nat.le_of_ble_eq_true rfl)⟩) ⟨zwM_blind, va_recv hKm hL.2.1 (ci := 9) (q0 := 0) rfl atM_MO, LH.preM hC hL⟩ rfl rfl hl.1 rfl (lv_room (Nat.le_of_ble_eq_true rfl)) d_law_1135 ⟨(show (nc + 0) + 0 ≤ 653736 by omega), (show (ns + 0) + 0 ≤ 7134863 by omega)⟩) hL.2.2 (fun q _ h => LH.anM hC hL q h) (fun q h => LH.anM hC hL q h) (fun r6 u9 t H9 locs9 ht hvm hw hB hz1 hk1 hS => ?_)
  obtain ⟨Z1, Y1⟩ := u9
  have hL := LH.callM (Z1 := Z1) (Y1 := Y1) hC hL (by rw [← ht]; exact hB) hk1 hS
  generalize H9 = H at hL ⊢
  try dsimp only at hw
  obtain ⟨hq, hw⟩ := hw
  refine lv_icmp_eq (tgt := 1372) hx hb d_law_1138 (by decide) (fun h => ?_) (fun h => absurd hq h)
  refine W.widen (k := nc + 3) (n := ns + 18) (by omega) (by omega) ?_
  exact hE _ _ _ _ _ _ _ hw hL hl
