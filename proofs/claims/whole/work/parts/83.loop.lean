set_option maxHeartbeats 4000000 in
set_option maxRecDepth 100000 in
theorem law_loop {p : Program} {l : Launch} {e : Env} {s : State} {m : MethodId} {below : List Frame} {meth : Method} {c : Code} {b L : Nat} {xs : Nat → Int32} {dC : Nat → ClassId} {dI : Nat → Nat → Nat} {cA : Nat → ClassId} {ad : Nat → Nat} {cL : ClassId} {ao : Nat} {cM : Nat → ClassId} {am : Nat → Nat} {K : ST → (Nat → Int64) → ST → Int64 → Prop} (hs : LStep K) (hLL : L ≤ 3073) (hC : LC p l s m meth c b L xs dC dI cA ad cL ao cM am) (hr : meth.sig.returnType = ret) (hlk : meth.locks = false) : ∀ (d k : Nat), k + d = 513 → ∀ (X : ST) (O : Nat → Int64) (Z : ST) (Y : Int64) (H : Heap) (locs : List Loc) (ls : Array Slot), K X O Z Y → LH dC dI cA ad cL ao cM am s X O Z Y H locs → lv_has ls 7 [(4, .int (nI (1 + 6 * k))), (0, .ref b), (1, .ref (ad 0)), (2, .ref (am 0)), (3, .ref ao)] → W p l e room_1 s m #[Value.ref b] below meth c H locs (149 + 3 * k) (1246 + 18 * k) (lw_Z below #[Value.ref b] s) (F0 m 33 ls []) := by
  intro d
  induction d with
  | zero =>
      intro k hk X O Z Y H locs ls hK hL hl
      obtain ⟨⟨hx, hb, hml, hown, hts, hX, hbl, hl9⟩, -⟩ := id hC
      have hbA : ¬ AN s b := fun h => absurd hbl (Nat.not_lt.mpr h)
      refine lv_iload hx hb d_law_33 (lv_at hl 0 rfl) ?_
      refine lv_aload_n hx hb d_law_35 rfl (lv_at hl 1 rfl) ?_
      refine va_slen hx hb hX hbl hbA hL.2.2 d_law_36 ?_
      refine lv_bipush (v := (6 : Int32)) hx hb d_law_37 (by decide) ?_
      refine lv_isub hx hb d_law_39 ?_
      have hy : (Int32.ofNat L - (6 : Int32)).toInt = (L : Int) - 6 := pk_sub_toInt (a := L) (b := 6) (by omega) (by decide)
      have hi : (nI (1 + 6 * k)).toInt = ((1 + 6 * k : Nat) : Int) := nI_toInt (by omega)
      refine lv_icmp_gt (tgt := 1378) hx hb d_law_40 (by decide) (fun h => ?_) (fun h => ?_)
      · refine lv_iconst (v := (1 : Int32)) hx hb d_law_1378 (by decide) ?_
        refine va_forget hL.2.2.2.2 ?_
        refine W.widen (k := 653736) (n := 7134863) (by omega) (by omega) ?_
        exact lw_ret hx hb hr hlk d_law_1379
      have hle : ¬ ((L : Int) - 6 < ((1 + 6 * k : Nat) : Int)) := fun h9 => h (Int32.lt_iff_toInt_lt.mpr (by rw [hy, hi]; exact h9))
      exact absurd hle (by omega)
  | succ d ih =>
      intro k hk X O Z Y H locs ls hK hL hl
      obtain ⟨⟨hx, hb, hml, hown, hts, hX, hbl, hl9⟩, -⟩ := id hC
      have hbA : ¬ AN s b := fun h => absurd hbl (Nat.not_lt.mpr h)
      refine lv_iload hx hb d_law_33 (lv_at hl 0 rfl) ?_
      refine lv_aload_n hx hb d_law_35 rfl (lv_at hl 1 rfl) ?_
      refine va_slen hx hb hX hbl hbA hL.2.2 d_law_36 ?_
      refine lv_bipush (v := (6 : Int32)) hx hb d_law_37 (by decide) ?_
      refine lv_isub hx hb d_law_39 ?_
      have hy : (Int32.ofNat L - (6 : Int32)).toInt = (L : Int) - 6 := pk_sub_toInt (a := L) (b := 6) (by omega) (by decide)
      have hi : (nI (1 + 6 * k)).toInt = ((1 + 6 * k : Nat) : Int) := nI_toInt (by omega)
      refine lv_icmp_gt (tgt := 1378) hx hb d_law_40 (by decide) (fun h => ?_) (fun h => ?_)
      · refine lv_iconst (v := (1 : Int32)) hx hb d_law_1378 (by decide) ?_
        refine va_forget hL.2.2.2.2 ?_
        refine W.widen (k := 653736) (n := 7134863) (by omega) (by omega) ?_
        exact lw_ret hx hb hr hlk d_law_1379
      have hle : ¬ ((L : Int) - 6 < ((1 + 6 * k : Nat) : Int)) := fun h9 => h (Int32.lt_iff_toInt_lt.mpr (by rw [hy, hi]; exact h9))
      have h0 : vp_in (nI (1 + 6 * k)) L := vp_in_nI (by omega) (by omega)
      have h1 : vp_in (nI (1 + 6 * k) + (1 : Int32)) L := by
        rw [show (1 : Int32) = nI 1 from rfl, nI_add]
        exact vp_in_nI (by omega) (by omega)
      have h2 : vp_in (nI (1 + 6 * k) + (2 : Int32)) L := by
        rw [show (2 : Int32) = nI 2 from rfl, nI_add]
        exact vp_in_nI (by omega) (by omega)
      have h3 : vp_in (nI (1 + 6 * k) + (3 : Int32)) L := by
        rw [show (3 : Int32) = nI 3 from rfl, nI_add]
        exact vp_in_nI (by omega) (by omega)
      have h4 : vp_in (nI (1 + 6 * k) + (4 : Int32)) L := by
        rw [show (4 : Int32) = nI 4 from rfl, nI_add]
        exact vp_in_nI (by omega) (by omega)
      have h5 : vp_in (nI (1 + 6 * k) + (5 : Int32)) L := by
        rw [show (5 : Int32) = nI 5 from rfl, nI_add]
        exact vp_in_nI (by omega) (by omega)
      refine lv_aload_n hx hb d_law_43 rfl (lv_at hl 1 rfl) ?_
      refine lv_iload hx hb d_law_44 (lv_at hl 0 rfl) ?_
      refine va_sld hx hb hX hbl hbA hL.2.2 h0 d_law_46 ?_
      refine lv_bipush (v := (31 : Int32)) hx hb d_law_47 (by decide) ?_
      refine lv_iand hx hb d_law_49 ?_
      have hE : ∀ (X : ST) (O : Nat → Int64) (Z : ST) (Y : Int64) (H : Heap) (locs : List Loc) (ls : Array Slot), K X O Z Y → LH dC dI cA ad cL ao cM am s X O Z Y H locs → lv_has ls 7 [(4, .int (nI (1 + 6 * k))), (0, .ref b), (1, .ref (ad 0)), (2, .ref (am 0)), (3, .ref ao)] → W p l e room_1 s m #[Value.ref b] below meth c H locs (149 + 3 * k + 3) (1246 + 18 * k + 18) (lw_Z below #[Value.ref b] s) (F0 m 1372 ls []) := by
        intro X O Z Y H locs ls hK hL hl
        refine lv_iinc (k := 0) (v := nI (1 + 6 * (k + 1))) (lv' := [(4, .int (nI (1 + 6 * (k + 1)))), (0, .ref b), (1, .ref (ad 0)), (2, .ref (am 0)), (3, .ref ao)]) hx hb d_law_1372 hl rfl (by show nI (1 + 6 * k) + nI 6 = _; rw [nI_add]; rfl) (by decide) rfl (fun ls hl => ?_)
        refine lv_goto (tgt := 33) hx hb d_law_1375 (by decide) ?_
        refine W.widen (k := 149 + 3 * (k + 1)) (n := 1246 + 18 * (k + 1)) (by omega) (by omega) ?_
        exact ih (k + 1) (by omega) X O Z Y H locs ls hK hL hl
      obtain ⟨j, hj, hv⟩ := pk_andE (xs (nI (1 + 6 * k)).toNatClampNeg) (m := 31) 5 (by decide)
      rcases (show j = 0 ∨ j = 1 ∨ j = 2 ∨ j = 3 ∨ j = 4 ∨ j = 5 ∨ j = 6 ∨ j = 7 ∨ j = 8 ∨ j = 9 ∨ j = 10 ∨ j = 11 ∨ j = 12 ∨ j = 13 ∨ j = 14 ∨ j = 15 ∨ j = 16 ∨ j = 17 ∨ j = 18 ∨ 19 ≤ j by omega) with hj0 | hj0 | hj0 | hj0 | hj0 | hj0 | hj0 | hj0 | hj0 | hj0 | hj0 | hj0 | hj0 | hj0 | hj0 | hj0 | hj0 | hj0 | hj0 | hj0
      · subst hj0
        refine lv_tableIn (off := 90) (tgt := 140) hx hb d_law_50 (by rw [hv]; decide) (by rw [hv]; decide) (by rw [hv]; decide) (by decide) ?_
        exact law_0 (by omega) (by omega) hC h1 h2 h3 h4 h5 (hs.1 X O Z Y hK ) hL hl hE
      · subst hj0
        refine lv_tableIn (off := 103) (tgt := 153) hx hb d_law_50 (by rw [hv]; decide) (by rw [hv]; decide) (by rw [hv]; decide) (by decide) ?_
        exact law_1 (by omega) (by omega) hC h1 h2 h3 h4 h5 (hs.2.1 X O Z Y hK (xs ((nI (1 + 6 * k)) + (1 : Int32)).toNatClampNeg) (xs ((nI (1 + 6 * k)) + (2 : Int32)).toNatClampNeg) (xs ((nI (1 + 6 * k)) + (3 : Int32)).toNatClampNeg)) hL hl hE
      · subst hj0
        refine lv_tableIn (off := 152) (tgt := 202) hx hb d_law_50 (by rw [hv]; decide) (by rw [hv]; decide) (by rw [hv]; decide) (by decide) ?_
        exact law_2 (by omega) (by omega) hC h1 h2 h3 h4 h5 (hs.2.2.1 X O Z Y hK (xs ((nI (1 + 6 * k)) + (1 : Int32)).toNatClampNeg) (xs ((nI (1 + 6 * k)) + (2 : Int32)).toNatClampNeg) (xs ((nI (1 + 6 * k)) + (3 : Int32)).toNatClampNeg) (xs ((nI (1 + 6 * k)) + (4 : Int32)).toNatClampNeg) (xs ((nI (1 + 6 * k)) + (5 : Int32)).toNatClampNeg)) hL hl hE
      · subst hj0
        refine lv_tableIn (off := 225) (tgt := 275) hx hb d_law_50 (by rw [hv]; decide) (by rw [hv]; decide) (by rw [hv]; decide) (by decide) ?_
        exact law_3 (by omega) (by omega) hC h1 h2 h3 h4 h5 (hs.2.2.2.1 X O Z Y hK (xs ((nI (1 + 6 * k)) + (1 : Int32)).toNatClampNeg) (xs ((nI (1 + 6 * k)) + (2 : Int32)).toNatClampNeg) (xs ((nI (1 + 6 * k)) + (3 : Int32)).toNatClampNeg)) hL hl hE
      · subst hj0
        refine lv_tableIn (off := 305) (tgt := 355) hx hb d_law_50 (by rw [hv]; decide) (by rw [hv]; decide) (by rw [hv]; decide) (by decide) ?_
        exact law_4 (by omega) (by omega) hC h1 h2 h3 h4 h5 (hs.2.2.2.2.1 X O Z Y hK (xs ((nI (1 + 6 * k)) + (1 : Int32)).toNatClampNeg) (xs ((nI (1 + 6 * k)) + (2 : Int32)).toNatClampNeg) (xs ((nI (1 + 6 * k)) + (3 : Int32)).toNatClampNeg) (xs ((nI (1 + 6 * k)) + (4 : Int32)).toNatClampNeg) (xs ((nI (1 + 6 * k)) + (5 : Int32)).toNatClampNeg)) hL hl hE
      · subst hj0
        refine lv_tableIn (off := 409) (tgt := 459) hx hb d_law_50 (by rw [hv]; decide) (by rw [hv]; decide) (by rw [hv]; decide) (by decide) ?_
        exact law_5 (by omega) (by omega) hC h1 h2 h3 h4 h5 (hs.2.2.2.2.2.1 X O Z Y hK (xs ((nI (1 + 6 * k)) + (1 : Int32)).toNatClampNeg) (xs ((nI (1 + 6 * k)) + (2 : Int32)).toNatClampNeg) (xs ((nI (1 + 6 * k)) + (3 : Int32)).toNatClampNeg) (xs ((nI (1 + 6 * k)) + (4 : Int32)).toNatClampNeg) (xs ((nI (1 + 6 * k)) + (5 : Int32)).toNatClampNeg)) hL hl hE
      · subst hj0
        refine lv_tableIn (off := 513) (tgt := 563) hx hb d_law_50 (by rw [hv]; decide) (by rw [hv]; decide) (by rw [hv]; decide) (by decide) ?_
        exact law_6 (by omega) (by omega) hC h1 h2 h3 h4 h5 (hs.2.2.2.2.2.2.1 X O Z Y hK (xs ((nI (1 + 6 * k)) + (1 : Int32)).toNatClampNeg) (xs ((nI (1 + 6 * k)) + (2 : Int32)).toNatClampNeg) (xs ((nI (1 + 6 * k)) + (3 : Int32)).toNatClampNeg)) hL hl hE
      · subst hj0
        refine lv_tableIn (off := 593) (tgt := 643) hx hb d_law_50 (by rw [hv]; decide) (by rw [hv]; decide) (by rw [hv]; decide) (by decide) ?_
        exact law_7 (by omega) (by omega) hC h1 h2 h3 h4 h5 (hs.2.2.2.2.2.2.2.1 X O Z Y hK (xs ((nI (1 + 6 * k)) + (1 : Int32)).toNatClampNeg) (xs ((nI (1 + 6 * k)) + (2 : Int32)).toNatClampNeg) (xs ((nI (1 + 6 * k)) + (3 : Int32)).toNatClampNeg) (xs ((nI (1 + 6 * k)) + (4 : Int32)).toNatClampNeg)) hL hl hE
      · subst hj0
        refine lv_tableIn (off := 685) (tgt := 735) hx hb d_law_50 (by rw [hv]; decide) (by rw [hv]; decide) (by rw [hv]; decide) (by decide) ?_
        exact law_8 (by omega) (by omega) hC h1 h2 h3 h4 h5 (hs.2.2.2.2.2.2.2.2.1 X O Z Y hK ) hL hl hE
      · subst hj0
        refine lv_tableIn (off := 698) (tgt := 748) hx hb d_law_50 (by rw [hv]; decide) (by rw [hv]; decide) (by rw [hv]; decide) (by decide) ?_
        exact law_9 (by omega) (by omega) hC h1 h2 h3 h4 h5 (hs.2.2.2.2.2.2.2.2.2.1 X O Z Y hK (xs ((nI (1 + 6 * k)) + (1 : Int32)).toNatClampNeg) (xs ((nI (1 + 6 * k)) + (2 : Int32)).toNatClampNeg) (xs ((nI (1 + 6 * k)) + (3 : Int32)).toNatClampNeg) (xs ((nI (1 + 6 * k)) + (4 : Int32)).toNatClampNeg) (xs ((nI (1 + 6 * k)) + (5 : Int32)).toNatClampNeg)) hL hl hE
      · subst hj0
        refine lv_tableIn (off := 802) (tgt := 852) hx hb d_law_50 (by rw [hv]; decide) (by rw [hv]; decide) (by rw [hv]; decide) (by decide) ?_
        exact law_10 (by omega) (by omega) hC h1 h2 h3 h4 h5 (hs.2.2.2.2.2.2.2.2.2.2.1 X O Z Y hK (xs ((nI (1 + 6 * k)) + (1 : Int32)).toNatClampNeg) (xs ((nI (1 + 6 * k)) + (2 : Int32)).toNatClampNeg) (xs ((nI (1 + 6 * k)) + (3 : Int32)).toNatClampNeg) (xs ((nI (1 + 6 * k)) + (4 : Int32)).toNatClampNeg)) hL hl hE
      · subst hj0
        refine lv_tableIn (off := 894) (tgt := 944) hx hb d_law_50 (by rw [hv]; decide) (by rw [hv]; decide) (by rw [hv]; decide) (by decide) ?_
        exact law_11 (by omega) (by omega) hC h1 h2 h3 h4 h5 (hs.2.2.2.2.2.2.2.2.2.2.2.1 X O Z Y hK (xs ((nI (1 + 6 * k)) + (1 : Int32)).toNatClampNeg) (xs ((nI (1 + 6 * k)) + (2 : Int32)).toNatClampNeg) (xs ((nI (1 + 6 * k)) + (3 : Int32)).toNatClampNeg) (xs ((nI (1 + 6 * k)) + (4 : Int32)).toNatClampNeg) (xs ((nI (1 + 6 * k)) + (5 : Int32)).toNatClampNeg)) hL hl hE
      · subst hj0
        refine lv_tableIn (off := 998) (tgt := 1048) hx hb d_law_50 (by rw [hv]; decide) (by rw [hv]; decide) (by rw [hv]; decide) (by decide) ?_
        exact law_12 (by omega) (by omega) hC h1 h2 h3 h4 h5 (hs.2.2.2.2.2.2.2.2.2.2.2.2.1 X O Z Y hK (((xs ((nI (1 + 6 * k)) + (1 : Int32)).toNatClampNeg).toInt64 <<< ((32 : Int32).toInt64 &&& 63)) ||| ((xs ((nI (1 + 6 * k)) + (2 : Int32)).toNatClampNeg).toInt64 &&& (4294967295 : Int64))) (xs ((nI (1 + 6 * k)) + (3 : Int32)).toNatClampNeg)) hL hl hE
      · subst hj0
        refine lv_tableIn (off := 1067) (tgt := 1117) hx hb d_law_50 (by rw [hv]; decide) (by rw [hv]; decide) (by rw [hv]; decide) (by decide) ?_
        exact law_13 (by omega) (by omega) hC h1 h2 h3 h4 h5 (hs.2.2.2.2.2.2.2.2.2.2.2.2.2.1 X O Z Y hK ) hL hl hE
      · subst hj0
        refine lv_tableIn (off := 1080) (tgt := 1130) hx hb d_law_50 (by rw [hv]; decide) (by rw [hv]; decide) (by rw [hv]; decide) (by decide) ?_
        exact law_14 (by omega) (by omega) hC h1 h2 h3 h4 h5 (hs.2.2.2.2.2.2.2.2.2.2.2.2.2.2.1 X O Z Y hK ) hL hl hE
      · subst hj0
        refine lv_tableIn (off := 1093) (tgt := 1143) hx hb d_law_50 (by rw [hv]; decide) (by rw [hv]; decide) (by rw [hv]; decide) (by decide) ?_
        exact law_15 (by omega) (by omega) hC h1 h2 h3 h4 h5 (hs.2.2.2.2.2.2.2.2.2.2.2.2.2.2.2.1 X O Z Y hK (xs ((nI (1 + 6 * k)) + (1 : Int32)).toNatClampNeg)) hL hl hE
      · subst hj0
        refine lv_tableIn (off := 1149) (tgt := 1199) hx hb d_law_50 (by rw [hv]; decide) (by rw [hv]; decide) (by rw [hv]; decide) (by decide) ?_
        exact law_16 (by omega) (by omega) hC h1 h2 h3 h4 h5 (hs.2.2.2.2.2.2.2.2.2.2.2.2.2.2.2.2.1 X O Z Y hK (xs ((nI (1 + 6 * k)) + (1 : Int32)).toNatClampNeg)) hL hl hE
      · subst hj0
        refine lv_tableIn (off := 1174) (tgt := 1224) hx hb d_law_50 (by rw [hv]; decide) (by rw [hv]; decide) (by rw [hv]; decide) (by decide) ?_
        exact law_17 (by omega) (by omega) hC h1 h2 h3 h4 h5 (hs.2.2.2.2.2.2.2.2.2.2.2.2.2.2.2.2.2.1 X O Z Y hK (xs ((nI (1 + 6 * k)) + (1 : Int32)).toNatClampNeg) (xs ((nI (1 + 6 * k)) + (2 : Int32)).toNatClampNeg)) hL hl hE
      · subst hj0
        refine lv_tableIn (off := 1242) (tgt := 1292) hx hb d_law_50 (by rw [hv]; decide) (by rw [hv]; decide) (by rw [hv]; decide) (by decide) ?_
        exact law_18 (by omega) (by omega) hC h1 h2 h3 h4 h5 (hs.2.2.2.2.2.2.2.2.2.2.2.2.2.2.2.2.2.2 X O Z Y hK (xs ((nI (1 + 6 * k)) + (1 : Int32)).toNatClampNeg) (xs ((nI (1 + 6 * k)) + (2 : Int32)).toNatClampNeg) (xs ((nI (1 + 6 * k)) + (3 : Int32)).toNatClampNeg)) hL hl hE
      · refine lv_tableOut (tgt := 1372) hx hb d_law_50 (Or.inr (by rw [hv, nI_toInt (show j < 2 ^ 31 by omega)]; omega)) (by decide) ?_
        refine W.widen (k := 149 + 3 * k + 3) (n := 1246 + 18 * k + 18) (by omega) (by omega) ?_
        exact hE X O Z Y H locs ls hK hL hl
