theorem gw_773 : Cond.instantiable "ChallengeAuthority" 14 ∈ GW := gw_t (tb_1 (List.mem_of_getElem? (i := 20) rfl)) rfl
theorem gw_774 : Cond.instantiable "ChallengeAuthorityModel" 36 ∈ GW := gw_t (tb_3 (List.mem_of_getElem? (i := 195) rfl)) rfl
theorem gw_775 : Cond.code y_LW_cell method_2_code 2 (Option.some Jvm.ClassFile.FieldType.int) ∈ GW := gw_t (tb_2 (List.mem_of_getElem? (i := 71) rfl)) rfl
theorem gw_776 : Cond.classLink "ChallengeAuthorityLaw" 8 "ChallengeAuthority" ∈ GW := gw_t (tb_1 (List.mem_of_getElem? (i := 19) rfl)) rfl
theorem gw_777 : Cond.methodLink "ChallengeAuthorityLaw" 55 y_LW_cell ∈ GW := gw_t (tb_2 (List.mem_of_getElem? (i := 69) rfl)) rfl
theorem gw_778 : Cond.static y_LW_cell ∈ GW := gw_t (tb_2 (List.mem_of_getElem? (i := 70) rfl)) rfl
theorem gw_779 : Cond.code y_CA_init prog_1_method_1_code 3 (Option.none : Option Jvm.ClassFile.FieldType) ∈ GW := gw_t (tb_1 (List.mem_of_getElem? (i := 23) rfl)) rfl
theorem gw_780 : Cond.methodLink "ChallengeAuthorityLaw" 61 y_CA_init ∈ GW := gw_t (tb_1 (List.mem_of_getElem? (i := 21) rfl)) rfl
theorem gw_781 : Cond.instanceMethod y_CA_init ∈ GW := gw_t (tb_1 (List.mem_of_getElem? (i := 22) rfl)) rfl
theorem gw_782 : Cond.classLink "ChallengeAuthorityLaw" 64 "ChallengeAuthorityModel" ∈ GW := gw_t (tb_3 (List.mem_of_getElem? (i := 194) rfl)) rfl
theorem gw_783 : Cond.code y_MO_init prog_11_method_1_code 2 (Option.none : Option Jvm.ClassFile.FieldType) ∈ GW := gw_t (tb_3 (List.mem_of_getElem? (i := 198) rfl)) rfl
theorem gw_784 : Cond.methodLink "ChallengeAuthorityLaw" 66 y_MO_init ∈ GW := gw_t (tb_3 (List.mem_of_getElem? (i := 196) rfl)) rfl
theorem gw_785 : Cond.instanceMethod y_MO_init ∈ GW := gw_t (tb_3 (List.mem_of_getElem? (i := 197) rfl)) rfl
theorem gw_786 : Cond.arrayClass Jvm.ClassFile.FieldType.long ∈ GW := gw_t (tb_5 (List.mem_of_getElem? (i := 37) rfl)) rfl
set_option maxHeartbeats 8000000 in
set_option maxRecDepth 100000 in
theorem law_start {K : ST → (Nat → Int64) → ST → Int64 → Prop} (h0 : ∀ sd : Int32, K (X0 sd) (fun _ => 0) (Z0 sd) 0) (hs : LStep K) {p : Program} {e : Env} {s : State} {m : MethodId} {below : List Frame} {meth : Method} {c : Code} (l : Launch) (hl9 : l.stackTraces = false) {b L : Nat} {xs : Nat → Int32} (hL : L ≤ 3073) (C0 : lw_At p s m meth c b L xs) : W p l e room_1 s m #[Value.ref b] below meth c s.heap [] 0 0 (lw_Z below #[Value.ref b] s) (entryFrame m ([Value.ref b] : List Value).toArray 7) := by
  obtain ⟨hx, hb, hr, hml, hown, hts0, hX, hbl, hlk, hgv⟩ := C0
  have hts : ∀ w ∈ GW, w.before #[Value.ref b] s = true := fun w h => hts0 w (List.mem_filter.mp h).1
  have htt : ∀ w ∈ tables_1, w.before #[Value.ref b] s = true := fun w h => hts0 w (List.mem_append_right _ h)
  obtain ⟨c0, i0, k0⟩ := u_known hts in_CA (hts _ gw_773)
  obtain ⟨c1, i1, k1⟩ := u_known hts in_Non (hts _ gw_608)
  obtain ⟨c2, i2, k2⟩ := u_known hts in_Txt (hts _ gw_612)
  obtain ⟨c3, i3, k3⟩ := u_known hts in_Req (hts _ gw_616)
  obtain ⟨c4, i4, k4⟩ := u_known hts in_Acc (hts _ gw_631)
  obtain ⟨c5, i5, k5⟩ := u_known hts in_Ord (hts _ gw_628)
  obtain ⟨c6, i6, k6⟩ := u_known hts in_Aut (hts _ gw_625)
  obtain ⟨c7, i7, k7⟩ := u_known hts in_Cha (hts _ gw_622)
  obtain ⟨c8, i8, k8⟩ := u_known hts in_Cer (hts _ gw_619)
  obtain ⟨c9, i9, k9⟩ := u_known hts in_MO (hts _ gw_774)
  generalize hdC : (fun k => ([c0, c1, c2, c3, c4, c5, c6, c7, c8, c9] : List ClassId).getD k 0) = dC
  generalize hdI : (fun k => ([i0, i1, i2, i3, i4, i5, i6, i7, i8, i9] : List (Nat → Nat)).getD k (fun _ => 0)) = dI
  have hcl : ∀ (c : Nat) (q : vw_C), vwCl[c]? = some q → u_Kn s q.1 q.2.1 q.2.2 (dC c) (dI c) := by
    intro c9 q9 h9
    subst hdC
    subst hdI
    have hlt : c9 < 10 := (List.getElem?_eq_some_iff.mp h9).1
    rcases (show c9 = 0 ∨ c9 = 1 ∨ c9 = 2 ∨ c9 = 3 ∨ c9 = 4 ∨ c9 = 5 ∨ c9 = 6 ∨ c9 = 7 ∨ c9 = 8 ∨ c9 = 9 by omega) with h8 | h8 | h8 | h8 | h8 | h8 | h8 | h8 | h8 | h8
    · subst h8; cases h9; exact k0
    · subst h8; cases h9; exact k1
    · subst h8; cases h9; exact k2
    · subst h8; cases h9; exact k3
    · subst h8; cases h9; exact k4
    · subst h8; cases h9; exact k5
    · subst h8; cases h9; exact k6
    · subst h8; cases h9; exact k7
    · subst h8; cases h9; exact k8
    · subst h8; cases h9; exact k9
  have ho0 : (Cond.arrayOver (.object "ChallengeAuthority$Account")).before #[Value.ref b] s = true := htt _ (tb_1 (List.mem_of_getElem? (i := 28) rfl))
  obtain ⟨o0, p0, r0⟩ := arr_obj ho0
  have ho1 : (Cond.arrayOver (.object "ChallengeAuthority$Order")).before #[Value.ref b] s = true := htt _ (tb_1 (List.mem_of_getElem? (i := 30) rfl))
  obtain ⟨o1, p1, r1⟩ := arr_obj ho1
  have ho2 : (Cond.arrayOver (.object "ChallengeAuthority$Authorization")).before #[Value.ref b] s = true := htt _ (tb_1 (List.mem_of_getElem? (i := 32) rfl))
  obtain ⟨o2, p2, r2⟩ := arr_obj ho2
  have ho3 : (Cond.arrayOver (.object "ChallengeAuthority$Challenge")).before #[Value.ref b] s = true := htt _ (tb_1 (List.mem_of_getElem? (i := 34) rfl))
  obtain ⟨o3, p3, r3⟩ := arr_obj ho3
  have ho4 : (Cond.arrayOver (.object "ChallengeAuthority$Certificate")).before #[Value.ref b] s = true := htt _ (tb_1 (List.mem_of_getElem? (i := 36) rfl))
  obtain ⟨o4, p4, r4⟩ := arr_obj ho4
  obtain ⟨ci, pi, ri⟩ := arr_prim (hts _ gw_596)
  obtain ⟨cb, pb, rb⟩ := arr_prim (hts _ gw_600)
  generalize hcA : (fun k => ([o0, o1, o2, o3, o4, ci, ci, ci] : List ClassId).getD k 0) = cA
  generalize hcM : (fun k => if k = 1 then cb else ci) = cM
  have hKc : va_K (dC, dI) vwCl (tyC cA) s := by
    refine ⟨hcl, fun k q hq => ?_⟩
    subst hcA
    have hlt : k < 8 := (List.getElem?_eq_some_iff.mp hq).1
    rcases (show k = 0 ∨ k = 1 ∨ k = 2 ∨ k = 3 ∨ k = 4 ∨ k = 5 ∨ k = 6 ∨ k = 7 by omega) with h8 | h8 | h8 | h8 | h8 | h8 | h8 | h8
    · subst h8; cases hq; exact ⟨p0, r0⟩
    · subst h8; cases hq; exact ⟨p1, r1⟩
    · subst h8; cases hq; exact ⟨p2, r2⟩
    · subst h8; cases hq; exact ⟨p3, r3⟩
    · subst h8; cases hq; exact ⟨p4, r4⟩
    · subst h8; cases hq; exact ⟨pi, ri⟩
    · subst h8; cases hq; exact ⟨pi, ri⟩
    · subst h8; cases hq; exact ⟨pi, ri⟩
  have hKm : va_K (dC, dI) vwCl (tyM cM) s := by
    refine ⟨hcl, fun k q hq => ?_⟩
    subst hcM
    have hlt : k < 22 := (List.getElem?_eq_some_iff.mp hq).1
    rcases (show k = 0 ∨ k = 1 ∨ k = 2 ∨ k = 3 ∨ k = 4 ∨ k = 5 ∨ k = 6 ∨ k = 7 ∨ k = 8 ∨ k = 9 ∨ k = 10 ∨ k = 11 ∨ k = 12 ∨ k = 13 ∨ k = 14 ∨ k = 15 ∨ k = 16 ∨ k = 17 ∨ k = 18 ∨ k = 19 ∨ k = 20 ∨ k = 21 by omega) with h8 | h8 | h8 | h8 | h8 | h8 | h8 | h8 | h8 | h8 | h8 | h8 | h8 | h8 | h8 | h8 | h8 | h8 | h8 | h8 | h8 | h8
    · subst h8; cases hq; exact ⟨pi, ri⟩
    · subst h8; cases hq; exact ⟨pb, rb⟩
    · subst h8; cases hq; exact ⟨pi, ri⟩
    · subst h8; cases hq; exact ⟨pi, ri⟩
    · subst h8; cases hq; exact ⟨pi, ri⟩
    · subst h8; cases hq; exact ⟨pi, ri⟩
    · subst h8; cases hq; exact ⟨pi, ri⟩
    · subst h8; cases hq; exact ⟨pi, ri⟩
    · subst h8; cases hq; exact ⟨pi, ri⟩
    · subst h8; cases hq; exact ⟨pi, ri⟩
    · subst h8; cases hq; exact ⟨pi, ri⟩
    · subst h8; cases hq; exact ⟨pi, ri⟩
    · subst h8; cases hq; exact ⟨pi, ri⟩
    · subst h8; cases hq; exact ⟨pi, ri⟩
    · subst h8; cases hq; exact ⟨pi, ri⟩
    · subst h8; cases hq; exact ⟨pi, ri⟩
    · subst h8; cases hq; exact ⟨pi, ri⟩
    · subst h8; cases hq; exact ⟨pi, ri⟩
    · subst h8; cases hq; exact ⟨pi, ri⟩
    · subst h8; cases hq; exact ⟨pi, ri⟩
    · subst h8; cases hq; exact ⟨pi, ri⟩
    · subst h8; cases hq; exact ⟨pi, ri⟩
  have hK0 : va_K (dC, dI) vwCl [] s := ⟨hcl, fun k q hq => (by cases hq)⟩
  have hNW : ∀ w ∈ NGL, va_Nw w s := fun w hw => va_Nw.of (ngk_on (ng_k w hw)) (htt w (NGL_in w hw))
  have hGK : GK dC dI cA s := ⟨hKc, hNW, va_AO.of ho0, va_AO.of ho1, va_AO.of ho2, va_AO.of ho3, va_AO.of ho4⟩
  have hfl := flat_of_before _ hgv
  have hNC : ∀ q ∈ NCP, va_Nc q.1 q.2 s := List.forall_mem_cons.mpr ⟨va_Nc.of (hfl (Cond.not (.castable "java/util/NoSuchElementException" "java/lang/UnsupportedOperationException")) (by decide +kernel)), List.forall_mem_cons.mpr ⟨va_Nc.of (hfl (Cond.not (.castable "java/util/NoSuchElementException" "java/lang/IllegalArgumentException")) (by decide +kernel)), List.forall_mem_cons.mpr ⟨va_Nc.of (hfl (Cond.not (.castable "java/util/NoSuchElementException" "java/lang/IllegalStateException")) (by decide +kernel)), List.forall_mem_cons.mpr ⟨va_Nc.of (hfl (Cond.not (.castable "java/lang/UnsupportedOperationException" "java/util/NoSuchElementException")) (by decide +kernel)), List.forall_mem_cons.mpr ⟨va_Nc.of (hfl (Cond.not (.castable "java/lang/UnsupportedOperationException" "java/lang/IllegalArgumentException")) (by decide +kernel)), List.forall_mem_cons.mpr ⟨va_Nc.of (hfl (Cond.not (.castable "java/lang/UnsupportedOperationException" "java/lang/IllegalStateException")) (by decide +kernel)), List.forall_mem_cons.mpr ⟨va_Nc.of (hfl (Cond.not (.castable "java/lang/IllegalArgumentException" "java/util/NoSuchElementException")) (by decide +kernel)), List.forall_mem_cons.mpr ⟨va_Nc.of (hfl (Cond.not (.castable "java/lang/IllegalArgumentException" "java/lang/UnsupportedOperationException")) (by decide +kernel)), List.forall_mem_cons.mpr ⟨va_Nc.of (hfl (Cond.not (.castable "java/lang/IllegalArgumentException" "java/lang/IllegalStateException")) (by decide +kernel)), List.forall_mem_cons.mpr ⟨va_Nc.of (hfl (Cond.not (.castable "java/lang/IllegalStateException" "java/util/NoSuchElementException")) (by decide +kernel)), List.forall_mem_cons.mpr ⟨va_Nc.of (hfl (Cond.not (.castable "java/lang/IllegalStateException" "java/lang/UnsupportedOperationException")) (by decide +kernel)), List.forall_mem_cons.mpr ⟨va_Nc.of (hfl (Cond.not (.castable "java/lang/IllegalStateException" "java/lang/IllegalArgumentException")) (by decide +kernel)), fun _ h => absurd h List.not_mem_nil⟩⟩⟩⟩⟩⟩⟩⟩⟩⟩⟩⟩
  have hls1 : (Cond.laysStatic Bundle.tN "UNASSIGNED_STACK" Bundle.steD).before #[Value.ref b] s = true := htt _ (tb_2 (List.mem_of_getElem? (i := 109) rfl))
  have hls2 : (Cond.laysStatic Bundle.tN "SUPPRESSED_SENTINEL" Bundle.listD).before #[Value.ref b] s = true := htt _ (tb_2 (List.mem_of_getElem? (i := 111) rfl))
  have hir1 : (Cond.isRef (.static Bundle.tN "UNASSIGNED_STACK" Bundle.steD)).before #[Value.ref b] s = true := hfl _ (by decide +kernel)
  have hir2 : (Cond.isRef (.static Bundle.tN "SUPPRESSED_SENTINEL" Bundle.listD)).before #[Value.ref b] s = true := hfl _ (by decide +kernel)
  have hS : va_S (AN s) s.heap s.heap [] := va_S.rf
  have hA : ∀ q : Nat, s.heap.size ≤ q → AN s q := fun q h => h
  have hP : va_P (dC, dI) vwCl [] s.heap := fun k q hq => by cases hq
  have hD : va_D (AN s) [] := ⟨fun i j p q hp => (by cases hp), fun k q hq => (by cases hq)⟩
  have hl := lv_entry ([Value.ref b]) (n := 7) (Nat.le_of_ble_eq_true rfl)
  rw [lg_entry_eq]
  generalize (lg_sl ([Value.ref b]) ++ List.replicate (7 - (lg_sl ([Value.ref b])).length) Slot.unset).toArray = ls at hl ⊢
  have hl : lv_has ls 7 [(0, .ref b)] := hl
  generalize hsd : (if 0 < L then xs 0 else 0) = sd
  refine va_new (ci := 0) (fs := [.int 0, .int 0, .int 0, .int 0, .int 0, .int 0, .null, .null, .null, .null, .null, .null, .null, .null]) (C := R_CA) (T := T_CA) (N := 14) hx hb hts in_CA ty_CA ty_CA_ok hown (hts _ gw_776) (hts _ gw_773) (hts _ gw_13) hK0 hP hD hS hA rfl (fun j hj => by rcases (show j = 0 ∨ j = 1 ∨ j = 2 ∨ j = 3 ∨ j = 4 ∨ j = 5 ∨ j = 6 ∨ j = 7 ∨ j = 8 ∨ j = 9 ∨ j = 10 ∨ j = 11 ∨ j = 12 ∨ j = 13 by omega) with rfl | rfl | rfl | rfl | rfl | rfl | rfl | rfl | rfl | rfl | rfl | rfl | rfl | rfl <;> rfl) (Nat.le_of_ble_eq_true rfl) (Nat.le_of_ble_eq_true rfl) d_law_0 (fun q0 H hP hD hS => ?_)
  have hP : va_P (dC, dI) vwCl [(q0, .inr (0, [.int 0, .int 0, .int 0, .int 0, .int 0, .int 0, .null, .null, .null, .null, .null, .null, .null, .null]))] H := hP
  have hq0 : s.heap.size ≤ q0 := hD.2 0 (q0, _) rfl
  refine lv_dup hx hb d_law_3 rfl ?_
  refine lv_aload_n hx hb d_law_4 rfl (lv_at hl 0 rfl) ?_
  refine lv_iconst (v := (0 : Int32)) hx hb d_law_5 (by decide) ?_
  refine va_calli (va_runS (As := [.ref b, .int (0 : Int32)]) (rest := [.ref q0, .ref q0]) ⟨hx, hb, hml, hown, hts⟩ (mt_LW_cell l b L _ xs hL) (va_cwS 2 hts (gS gw_777 gw_778 gw_657 gw_775) rfl rfl rfl (by decide +kernel) ⟨(Nat.le_of_ble_eq_true rfl), (Nat.le_of_ble_eq_true rfl)⟩) ⟨zX_blind, zX_pre hX hbl hS⟩ rfl rfl hl.1 rfl (lv_room (Nat.le_of_ble_eq_true rfl)) d_law_6 ⟨(Nat.le_of_ble_eq_true rfl), (Nat.le_of_ble_eq_true rfl)⟩) hS (fun q _ h => h.elim) (fun q h => h.elim) (fun sd9 u9 t H9 locs ht hvm hw hB hz1 hk1 hS => ?_)
  have hw : sd9 = sd := hw.trans hsd
  rw [hw]
  have hP := zw_keep hP (fun x hx9 => hk1 x hx9 (fun h => h))
  generalize H9 = H at hP hS ⊢
  have hlt0 : q0 < H.size := (hP 0 (q0, _) rfl).lt
  refine va_callv (va_runI (As := [.int sd]) (rest := [.ref q0]) ⟨hx, hb, hml, hown, hts⟩ (mt_CA_init l dC dI cA q0 _ sd hlt0) (cwI 1 hts (gN gw_779) rfl rfl rfl (hts _ gw_13) (hts _ gw_780) (hts _ gw_781) rfl (by decide +kernel) ⟨(Nat.le_of_ble_eq_true rfl), (Nat.le_of_ble_eq_true rfl)⟩) ⟨GK_blind, GK_pre hP hGK⟩ rfl rfl hl.1 rfl (lv_room (Nat.le_of_ble_eq_true rfl)) d_law_9 ⟨(Nat.le_of_ble_eq_true rfl), (Nat.le_of_ble_eq_true rfl)⟩) hS (fun x _ h => h.elim (fun e => by rw [e]; exact hq0) (fun h => Nat.le_trans hS.1 h)) (fun x h => h.elim (fun e => by rw [e]; exact hq0) (fun h => Nat.le_trans hS.1 h)) (fun ad t H9 locs ht hvm hw hB hz1 hk1 hS9 => ?_)
  obtain ⟨ha0, hI, hbig⟩ := hw
  have hn1 : ∀ k : Nat, k < 125 → s.heap.size ≤ ad k := by
    intro k hk
    rcases Nat.eq_zero_or_pos k with h9 | h9
    · rw [h9, ha0]; exact hq0
    · exact Nat.le_trans hS.1 (hbig k h9 hk)
  have hPa : va_P (dC, dI) vwCl (wdC cA ad (X0 sd)) H9 := by rw [← ht]; exact hB
  have hSa := hS9
  generalize H9 = H at hPa hSa ⊢
  have hDa : va_D (AN s) (wdC cA ad (X0 sd)) := (zwC_D (sz := s.heap.size) hI).weaken (fun k q _ h => by
    rcases h with ⟨j, hj, e⟩ | h
    · rw [e]; exact hn1 j hj
    · exact h)
  subst ha0
  have hP := hPa
  have hD := hDa
  have hS := hSa
  refine lv_astore_n (lv' := [(1, .ref (ad 0)), (0, .ref b)]) hx hb d_law_12 rfl hl (by decide) rfl (fun ls hl => ?_)
  refine va_new (ci := 9) (fs := [.int 0, .int 0, .int 0, .int 0, .null, .null, .int 0, .null, .null, .null, .null, .null, .null, .null, .int 0, .null, .null, .null, .null, .null, .null, .null, .int 0, .null, .null, .null, .null, .int 0, .null, .null, .int 0, .int 0, .int 0, .int 0, .int 0, .long 0]) (C := R_MO) (T := T_MO) (N := 36) hx hb hts in_MO ty_MO ty_MO_ok hown (hts _ gw_782) (hts _ gw_774) (hts _ gw_306) hK0 hP hD hS hA rfl (fun j hj => by rcases (show j = 0 ∨ j = 1 ∨ j = 2 ∨ j = 3 ∨ j = 4 ∨ j = 5 ∨ j = 6 ∨ j = 7 ∨ j = 8 ∨ j = 9 ∨ j = 10 ∨ j = 11 ∨ j = 12 ∨ j = 13 ∨ j = 14 ∨ j = 15 ∨ j = 16 ∨ j = 17 ∨ j = 18 ∨ j = 19 ∨ j = 20 ∨ j = 21 ∨ j = 22 ∨ j = 23 ∨ j = 24 ∨ j = 25 ∨ j = 26 ∨ j = 27 ∨ j = 28 ∨ j = 29 ∨ j = 30 ∨ j = 31 ∨ j = 32 ∨ j = 33 ∨ j = 34 ∨ j = 35 by omega) with rfl | rfl | rfl | rfl | rfl | rfl | rfl | rfl | rfl | rfl | rfl | rfl | rfl | rfl | rfl | rfl | rfl | rfl | rfl | rfl | rfl | rfl | rfl | rfl | rfl | rfl | rfl | rfl | rfl | rfl | rfl | rfl | rfl | rfl | rfl | rfl <;> rfl) (Nat.le_of_ble_eq_true rfl) (Nat.le_of_ble_eq_true rfl) d_law_13 (fun q1 H hP hD hS => ?_)
  have hat : (wdC cA ad (X0 sd) ++ [(q1, .inr (9, [.int 0, .int 0, .int 0, .int 0, .null, .null, .int 0, .null, .null, .null, .null, .null, .null, .null, .int 0, .null, .null, .null, .null, .null, .null, .null, .int 0, .null, .null, .null, .null, .int 0, .null, .null, .int 0, .int 0, .int 0, .int 0, .int 0, .long 0]))])[125]? = some (q1, .inr (9, [.int 0, .int 0, .int 0, .int 0, .null, .null, .int 0, .null, .null, .null, .null, .null, .null, .null, .int 0, .null, .null, .null, .null, .null, .null, .null, .int 0, .null, .null, .null, .null, .int 0, .null, .null, .int 0, .int 0, .int 0, .int 0, .int 0, .long 0])) := by
    rw [List.getElem?_append_right (by rw [wdC_len]; exact Nat.le_refl _), wdC_len]
    rfl
  have hatc : ∀ k : Nat, k < 125 → (wdC cA ad (X0 sd) ++ [(q1, .inr (9, [.int 0, .int 0, .int 0, .int 0, .null, .null, .int 0, .null, .null, .null, .null, .null, .null, .null, .int 0, .null, .null, .null, .null, .null, .null, .null, .int 0, .null, .null, .null, .null, .int 0, .null, .null, .int 0, .int 0, .int 0, .int 0, .int 0, .long 0]))])[k]? = some (ad k, cC cA ad (X0 sd) k) := by
    intro k hk
    rw [List.getElem?_append_left (by rw [wdC_len]; exact hk)]
    exact zwC_at hk
  have hq1 : s.heap.size ≤ q1 := hD.2 125 _ hat
  have hne1 : ∀ k : Nat, k < 125 → ad k ≠ q1 := fun k hk e => by
    have h9 := hD.1 k 125 _ _ (hatc k hk) hat e
    omega
  refine lv_dup hx hb d_law_16 rfl ?_
  refine lv_aload_n hx hb d_law_17 rfl (lv_at hl 1 rfl) ?_
  refine lv_iconst (v := (0 : Int32)) hx hb d_law_18 (by decide) ?_
  refine va_calli (va_runS (As := [.ref b, .int (0 : Int32)]) (rest := [.ref q1, .ref q1]) ⟨hx, hb, hml, hown, hts⟩ (mt_LW_cell l b L _ xs hL) (va_cwS 2 hts (gS gw_777 gw_778 gw_657 gw_775) rfl rfl rfl (by decide +kernel) ⟨(Nat.le_of_ble_eq_true rfl), (Nat.le_of_ble_eq_true rfl)⟩) ⟨zX_blind, zX_pre hX hbl hS⟩ rfl rfl hl.1 rfl (lv_room (Nat.le_of_ble_eq_true rfl)) d_law_19 ⟨(Nat.le_of_ble_eq_true rfl), (Nat.le_of_ble_eq_true rfl)⟩) hS (fun q _ h => h.elim) (fun q h => h.elim) (fun sd9 u9 t H9 locs ht hvm hw hB hz1 hk1 hS => ?_)
  have hw : sd9 = sd := hw.trans hsd
  rw [hw]
  have hP := zw_keep hP (fun x hx9 => hk1 x hx9 (fun h => h))
  generalize H9 = H at hP hS ⊢
  have hlt1 : q1 < H.size := (hP 125 _ hat).lt
  have hPc : va_P (dC, dI) vwCl [(q1, .inr (9, [.int 0, .int 0, .int 0, .int 0, .null, .null, .int 0, .null, .null, .null, .null, .null, .null, .null, .int 0, .null, .null, .null, .null, .null, .null, .null, .int 0, .null, .null, .null, .null, .int 0, .null, .null, .int 0, .int 0, .int 0, .int 0, .int 0, .long 0]))] H := hP.by (fun _ => 125) (fun k9 x9 hx9 => by
    have h9 := (List.getElem?_eq_some_iff.mp hx9).1
    have h0 : k9 = 0 := by simp at h9; exact h9
    subst h0
    cases hx9
    exact hat)
  refine va_callv (va_runI (As := [.int sd]) (rest := [.ref q1]) ⟨hx, hb, hml, hown, hts⟩ (mt_MO_init l dC dI cM q1 _ sd hlt1) (cwI 1 hts (gN gw_783) rfl rfl rfl (hts _ gw_306) (hts _ gw_784) (hts _ gw_785) rfl (by decide +kernel) ⟨(Nat.le_of_ble_eq_true rfl), (Nat.le_of_ble_eq_true rfl)⟩) ⟨zK_blind, zK_pre hPc hKm⟩ rfl rfl hl.1 rfl (lv_room (Nat.le_of_ble_eq_true rfl)) d_law_22 ⟨(Nat.le_of_ble_eq_true rfl), (Nat.le_of_ble_eq_true rfl)⟩) hS (fun x _ h => h.elim (fun e => by rw [e]; exact hq1) (fun h => Nat.le_trans hS.1 h)) (fun x h => h.elim (fun e => by rw [e]; exact hq1) (fun h => Nat.le_trans hS.1 h)) (fun am t H9 locs ht hvm hw hB hz1 hk1 hS9 => ?_)
  obtain ⟨hm0, hIm, hbigm⟩ := hw
  have hn2 : ∀ k : Nat, k < 23 → s.heap.size ≤ am k := by
    intro k hk
    rcases Nat.eq_zero_or_pos k with h9 | h9
    · rw [h9, hm0]; exact hq1
    · exact Nat.le_trans hS.1 (hbigm k h9 hk)
  have hAM : ∀ k : Nat, k < 125 → ∀ j : Nat, j < 23 → ad k ≠ am j := by
    intro k hk j hj e
    rcases Nat.eq_zero_or_pos j with h9 | h9
    · rw [h9, hm0] at e; exact hne1 k hk e
    · have h8 := hbigm j h9 hj
      have h7 := (hP k _ (hatc k hk)).lt
      have h6 : ad k < H.size := h7
      omega
  have hPm : va_P (dC, dI) vwCl (wdM cM am (Z0 sd) 0) H9 := by rw [← ht]; exact hB
  have hPC : va_P (dC, dI) vwCl (wdC cA ad (X0 sd)) H9 := by
    intro k q hq
    have hk : k < 125 := by
      rcases Nat.lt_or_ge k 125 with h | h
      · exact h
      · rw [zwC_no h] at hq; cases hq
    rw [zwC_at hk] at hq
    cases hq
    have h1 := hP k _ (hatc k hk)
    refine h1.kept (hk1 _ h1.lt ?_)
    rintro (h | h)
    · exact hne1 k hk h
    · exact absurd h1.lt (Nat.not_lt.mpr h)
  have hS := hS9
  generalize H9 = H at hPm hPC hS ⊢
  subst hm0
  refine lv_astore_n (lv' := [(2, .ref (am 0)), (1, .ref (ad 0)), (0, .ref b)]) hx hb d_law_25 rfl hl (by decide) rfl (fun ls hl => ?_)
  have hDm : va_D (AN s) (wdM cM am (Z0 sd) 0) := (zwM_D (sz := s.heap.size) hIm).weaken (fun k q _ h => by
    rcases h with ⟨j, hj, e⟩ | h
    · rw [e]; exact hn2 j hj
    · exact h)
  have hDC : va_D (AN s) (wdC cA ad (X0 sd)) := (zwC_D (sz := s.heap.size) hI).weaken (fun k q _ h => by
    rcases h with ⟨j, hj, e⟩ | h
    · rw [e]; exact hn1 j hj
    · exact h)
  have hD : va_D (AN s) (wdC cA ad (X0 sd) ++ wdM cM am (Z0 sd) 0) := va_D.app hDC hDm (fun i j x y hx9 hy9 e => by
    obtain ⟨h1, h2⟩ := wdM_fst hy9
    have hk : i < 125 := by
      rcases Nat.lt_or_ge i 125 with h | h
      · exact h
      · rw [zwC_no h] at hx9; cases hx9
    rw [zwC_at hk] at hx9
    cases hx9
    exact hAM i hk j h1 (e.trans h2))
  have hP := hPC.app hPm
  refine lv_iconst (v := (1 : Int32)) hx hb d_law_26 (by decide) ?_
  refine va_newa (atype := .long) (a0 := (1, .inr (.inl (fun _ => 0)))) hx hb (hts _ gw_786) rfl hK0 hP hD hS hA (fun _ => rfl) (by decide) rfl (by decide) (Nat.le_of_ble_eq_true rfl) (Nat.le_of_ble_eq_true rfl) d_law_27 (fun ao cL H hKo hP hD hS => ?_)
  have hlen : (wdC cA ad (X0 sd) ++ wdM cM am (Z0 sd) 0).length = 148 := by rw [List.length_append, wdC_len]; rfl
  have hato : ((wdC cA ad (X0 sd) ++ wdM cM am (Z0 sd) 0) ++ [(ao, .inl (cL, 1, .inr (.inl (fun _ => 0))))])[148]? = some (ao, .inl (cL, 1, .inr (.inl (fun _ => 0)))) := by
    rw [List.getElem?_append_right (by rw [hlen]; exact Nat.le_refl _), hlen]
    rfl
  have hatc : ∀ k : Nat, k < 125 → ((wdC cA ad (X0 sd) ++ wdM cM am (Z0 sd) 0) ++ [(ao, .inl (cL, 1, .inr (.inl (fun _ => 0))))])[k]? = some (ad k, cC cA ad (X0 sd) k) := by
    intro k hk
    rw [List.getElem?_append_left (by rw [hlen]; omega), List.getElem?_append_left (by rw [wdC_len]; exact hk)]
    exact zwC_at hk
  have hatm : ∀ (k : Nat) (q : Nat × va_E), (wdM cM am (Z0 sd) 0)[k]? = some q → ((wdC cA ad (X0 sd) ++ wdM cM am (Z0 sd) 0) ++ [(ao, .inl (cL, 1, .inr (.inl (fun _ => 0))))])[125 + k]? = some q := by
    intro k q hq
    have hk := (wdM_fst hq).1
    rw [List.getElem?_append_left (by rw [hlen]; omega), List.getElem?_append_right (by rw [wdC_len]; omega), wdC_len, Nat.add_sub_cancel_left]
    exact hq
  have hO : ∀ k : Nat, k < 125 → ao ≠ ad k := fun k hk e => by
    have h9 := hD.1 148 k _ _ hato (hatc k hk) e
    omega
  have hOM : ∀ j : Nat, j < 23 → ao ≠ am j := fun j hj e => by
    obtain ⟨q, hq⟩ : ∃ q, (wdM cM am (Z0 sd) 0)[j]? = some q := ⟨_, List.getElem?_eq_getElem (show j < (wdM cM am (Z0 sd) 0).length from hj)⟩
    have h9 := hD.1 148 (125 + j) _ _ hato (hatm j q hq) (e.trans (wdM_fst hq).2.symm)
    omega
  have hn3 : s.heap.size ≤ ao := hD.2 148 _ hato
  have hPL : va_P (dC, dI) vwCl (wdL cA ad cL ao (X0 sd) (fun _ => 0)) H := by
    intro k q hq
    rcases Nat.lt_or_ge k 125 with h | h
    · rw [atL_C (zwC_at h)] at hq; cases hq; exact hP k _ (hatc k h)
    · rcases Nat.lt_or_ge 125 k with h3 | h3
      · have h4 := (List.getElem?_eq_some_iff.mp hq).1
        unfold wdL at h4
        rw [List.length_append, wdC_len] at h4
        simp at h4
        omega
      · have h5 : k = 125 := by omega
        subst h5
        rw [atL_o] at hq
        cases hq
        exact hP 148 _ hato
  have hPM : va_P (dC, dI) vwCl (wdM cM am (Z0 sd) 0) H := fun k q hq => hP (125 + k) q (hatm k q hq)
  refine lv_astore_n (lv' := [(3, .ref ao), (2, .ref (am 0)), (1, .ref (ad 0)), (0, .ref b)]) hx hb d_law_29 rfl hl (by decide) rfl (fun ls hl => ?_)
  refine lv_iconst (v := (1 : Int32)) hx hb d_law_30 (by decide) ?_
  refine lv_istore (lv' := [(4, .int (1 : Int32)), (3, .ref ao), (2, .ref (am 0)), (1, .ref (ad 0)), (0, .ref b)]) hx hb d_law_31 hl (by decide) rfl (fun ls hl => ?_)
  have hl := lv_sub hl (l' := [(4, .int (nI (1 + 6 * 0))), (0, .ref b), (1, .ref (ad 0)), (2, .ref (am 0)), (3, .ref ao)]) [0, 4, 3, 2, 1] rfl
  have hC : LC p l s m meth c b L xs dC dI cA ad cL ao cM am := ⟨⟨hx, hb, hml, hown, hts, hX, hbl, hl9⟩, ⟨⟨⟨hKc, hNW, XZ.start hls1 hir1 hn1, XZ.start hls2 hir2 hn1⟩, hKo, hNC⟩, hKm, hNW⟩, ⟨hI, hIm, hO, hAM, hOM⟩, hn1, hn2, hn3⟩
  refine W.widen (k := 149 + 3 * 0) (n := 1246 + 18 * 0) (Nat.le_of_ble_eq_true rfl) (Nat.le_of_ble_eq_true rfl) ?_
  exact law_loop hs hL hC hr hlk 513 0 rfl (X0 sd) (fun _ => 0) (Z0 sd) 0 H _ ls (h0 sd) ⟨hPL, hPM, hS⟩ hl
