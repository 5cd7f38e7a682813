-- ===== account, rollover, answer =====
theorem fin9 {na no nu np nn nt : Nat} {k b : Int32} {X1 Z1 : ST} {O1 : Nat → Int64} {Y1 : Int64} (hI : IV na no nu np nn nt X1) (hE : EQ no np X1 Z1 k) (hk : k = 0 → O1 0 = b.toInt64) : wp_MO_thrown (fun (t : Int32) (Z2 : ST) (Y2 : Int64) => t = k ∧ (k = 0 → O1 0 = b.toInt64) ∧ RL X1 O1 Z2 Y2) Z1 Y1 :=
  ⟨hE.2.2, hk, na, no, nu, np, nn, nt, k, hI, hE⟩
theorem c_awk {post : Int32 → ST → Prop} {X : ST} {v : Int32} {n : Nat} (h2 : X 2 0 = nI n) (hn : n ≤ 6) (h1 : fnd (X 11) v 0 n < n → post (nI (fnd (X 11) v 0 n)) X) (h0 : ¬ fnd (X 11) v 0 n < n → post (-1) X) : wp_CA_accountWithKey post X v := by
  have key : ∀ (d i : Nat), i + d = n → fnd (X 11) v i d = fnd (X 11) v 0 n → wq_CA_accountWithKey_2 post v (d + 1) (nI i) X := by
    intro d
    induction d with
    | zero =>
      intro i hi he
      have hi : i = n := hi
      subst hi
      rw [wq_CA_accountWithKey_2]; dsimp only
      rw [h2]
      exact ⟨fun _ => h0 (by rw [← he]; exact Nat.lt_irrefl _), fun a => absurd (nI_le (Nat.le_refl _) (by omega)) a⟩
    | succ d ih =>
      intro i hi he
      rw [fnd] at he
      rw [wq_CA_accountWithKey_2]; dsimp only
      rw [h2, nI_clamp (show i < 2 ^ 31 by omega)]
      refine ⟨fun a => absurd a (nI_ge (by omega) (by omega)), fun _ => ⟨vp_in_nI (by omega) (by decide), fun a => ?_, fun a => ?_⟩⟩
      · rw [if_pos a] at he
        rw [← he] at h1
        exact h1 (by omega)
      · rw [if_neg a] at he
        rw [nI_1]
        exact ih (i + 1) (by omega) he
  exact ⟨n + 1, key n 0 (by omega) rfl⟩
theorem m_holder {post : Int32 → ST → Int64 → Prop} {X Z : ST} {Y : Int64} {v : Int32} {n no np : Nat} {t : Int32} (hE : EQ no np X Z t) (h2 : X 2 0 = nI n) (hn : n ≤ 6) (h1 : fnd (X 11) v 0 n < n → post (nI (fnd (X 11) v 0 n)) Z Y) (h0 : ¬ fnd (X 11) v 0 n < n → post (-1) Z Y) : wp_MO_holder post Z Y v := by
  have z2 : Z 2 0 = nI n := (hE.a 2 0 (by unfold cmp; omega)).trans h2
  have key : ∀ (d i : Nat), i + d = n → fnd (X 11) v i d = fnd (X 11) v 0 n → wq_MO_holder_2 post v (d + 1) (nI i) Z Y := by
    intro d
    induction d with
    | zero =>
      intro i hi he
      have hi : i = n := hi
      subst hi
      rw [wq_MO_holder_2]; dsimp only
      rw [z2]
      exact ⟨fun _ => h0 (by rw [← he]; exact Nat.lt_irrefl _), fun a => absurd (nI_le (Nat.le_refl _) (by omega)) a⟩
    | succ d ih =>
      intro i hi he
      rw [fnd] at he
      rw [wq_MO_holder_2]; dsimp only
      rw [z2, nI_clamp (show i < 2 ^ 31 by omega), hE.a 11 i (by unfold cmp; omega)]
      refine ⟨fun a => absurd a (nI_ge (by omega) (by omega)), fun _ => ⟨vp_in_nI (by omega) (by decide), fun a => ?_, fun a => ?_⟩⟩
      · rw [if_pos a] at he
        rw [← he] at h1
        exact h1 (by omega)
      · rw [if_neg a] at he
        rw [nI_1]
        exact ih (i + 1) (by omega) he
  exact ⟨n + 1, key n 0 (by omega) rfl⟩
theorem m_acc {post : Int32 → ST → Int64 → Prop} {X Z : ST} {Y : Int64} {key v sig t : Int32} {na no nu np nn nt : Nat} (hI : IV na no nu np nn nt X) (hE : EQ no np X Z t) (h2 : ¬ ky key → post 0 (up Z 90 0 2) Y) (h1 : ky key → ¬ rt sig (dg 1 key v 0 0) key → ∀ Y1 : Int64, post 0 (up Z 90 0 1) Y1) (h3 : ky key → rt sig (dg 1 key v 0 0) key → gC X nn v → ∀ Y1 : Int64, post 0 (up Z 90 0 2) Y1) (h0 : ky key → rt sig (dg 1 key v 0 0) key → ¬ gC X nn v → ∀ Y1 : Int64, wq_MO_account_50 post 0 key (nI (fnd (X 61) v 0 nn)) Z Y1) : wp_MO_account post Z Y key v sig := by
  have hN := hI.1
  have hnn := hN.2.2.2.2.1.2
  have w : ∀ (s0 p : Int32) (Y1 : Int64), ¬ s0 = 0 → post 0 (up Z 90 0 s0) Y1 → wq_MO_account_50 post s0 key p Z Y1 := fun s0 p Y1 a b => ⟨fun c => absurd c a, fun _ => b⟩
  unfold wp_MO_account
  refine m_find hE hN.2.2.2.2.1.1 hN.2.2.2.2.1.2 (fun p => ?_) (fun p => ?_)
  · refine m_isKey (br_b (fun k => w 2 _ _ (by decide) (h2 k)) (fun k => m_five (fun Y1 => m_isRight k (br_b (fun r => w 1 _ _ (by decide) (h1 k r Y1)) (fun r => ⟨fun _ => h0 k r (fun g => g p) Y1, fun a => absurd (nI_pos' (by omega)) a⟩)))))
  · refine m_isKey (br_b (fun k => w 2 _ _ (by decide) (h2 k)) (fun k => m_five (fun Y1 => m_isRight k (br_b (fun r => w 1 _ _ (by decide) (h1 k r Y1)) (fun r => ⟨fun a => absurd a (by decide), fun _ => w 2 _ _ (by decide) (h3 k r p Y1)⟩)))))
theorem IV.key {na no nu np nn nt : Nat} {X : ST} (h : IV na no nu np nn nt X) {k : Nat} {key : Int32} (hk : ky key) : IV na no nu np nn nt (up X 11 k key) := by
  refine ⟨h.1.u (by decide), ⟨fun i hi => ?_, fun i hi => ?_⟩, h.2.2.1.u (by decide), h.2.2.2.1.u (by decide), h.2.2.2.2.1.u (by decide), h.2.2.2.2.2.1.u (by decide), h.2.2.2.2.2.2.1.u (by decide), h.2.2.2.2.2.2.2.u (by decide)⟩
  · by_cases e : i = k
    · subst e; rw [up_eq]; exact hk
    · rw [up_j e]; exact h.2.1.1 i hi
  · rw [up_g (by decide)]; exact h.2.1.2 i hi
theorem IV.acc {na no nu np nn nt : Nat} {X : ST} (h : IV na no nu np nn nt X) {key : Int32} (hn : na < 6) (hk : ky key) : IV (na + 1) no nu np nn nt (up (up X 11 na key) 2 0 (nI (na + 1))) := by
  have h1 := h.key (k := na) hk
  have hN := h1.1
  refine h1.n (by decide) ⟨⟨rfl, by omega⟩, hN.2.1, hN.2.2.1, hN.2.2.2.1, hN.2.2.2.2.1, hN.2.2.2.2.2⟩ ⟨fun i hi => ?_, h1.2.1.2⟩ h1.2.2.1 ⟨h1.2.2.2.1.1, h1.2.2.2.1.2.1, fun a ha => ?_⟩ h1.2.2.2.2.1 h1.2.2.2.2.2.1 h1.2.2.2.2.2.2.2
  · by_cases e : i = na
    · subst e; rw [up_eq]; exact hk
    · exact h1.2.1.1 i (by omega)
  · obtain ⟨k, h2, h3⟩ := h1.2.2.2.1.2.2 a ha
    exact ⟨k, by omega, h3⟩
theorem sp_3 {X : ST} {O : Nat → Int64} {Z : ST} {Y : Int64} (h : RL X O Z Y) (a1 a2 a3 : Int32) : cs_3 RL X O Z Y a1 a2 a3 := by
  obtain ⟨na, no, nu, np, nn, nt, t, hI, hE⟩ := h
  have hN := hI.1
  have hnn := hN.2.2.2.2.1.2
  unfold cs_3 wp_LW_account wp_CA_account
  refine c_isKey (br_b (fun k => Or.inr (Or.inl ⟨rfl, ?_⟩)) (fun k => c_digest (c_isRight k (br_b (fun r => Or.inl ⟨rfl, ?_⟩) (fun r => ?_)))))
  · exact m_acc hI hE (fun _ => fin9 hI (hE.thr 2) (fun e => absurd e (by decide))) (fun k' => absurd k' k) (fun k' => absurd k' k) (fun k' => absurd k' k)
  · exact m_acc hI hE (fun k' => absurd k k') (fun _ _ Y1 => fin9 hI (hE.thr 1) (fun e => absurd e (by decide))) (fun _ r' => absurd r' r) (fun _ r' => absurd r' r)
  refine c_takeBack hN.2.2.2.2.1.1 hnn (fun p => ⟨fun e => absurd e (by decide), fun _ => ?_⟩) (fun p => ⟨fun _ => Or.inr (Or.inl ⟨rfl, ?_⟩), fun e => absurd rfl e⟩)
  rotate_left
  · exact m_acc hI hE (fun k' => absurd k k') (fun _ r' => absurd r r') (fun _ _ _ Y1 => fin9 hI (hE.thr 2) (fun e => absurd e (by decide))) (fun _ _ g => absurd p g)
  have hI2 := hI.rmv p hnn
  have hE2 := (hE.thr 0).rmv (p := fnd (X 61) a2 0 nn) hnn
  have hN2 := hI2.1
  have hna := hN2.1.2
  have z6 : (up Z 90 0 0) 6 0 = nI nn := (hE.a 6 0 (by unfold cmp; omega)).trans hN.2.2.2.2.1.1
  -- what the reference does from here
  have ref : ∀ (k9 : Int32) (X9 : ST) (O9 : Nat → Int64), (∀ Y1 : Int64, wp_MO_holder (fun (r9 : Int32) (X7 : ST) (Y8 : Int64) => ((r9 < 0 → (((X7 2 0) = (6 : Int32) → wq_MO_account_102 (fun (r : Int32) (Z1 : ST) (Y1 : Int64) => wp_MO_thrown (fun (t : Int32) (Z2 : ST) (Y2 : Int64) => t = k9 ∧ (k9 = 0 → O9 0 = r.toInt64) ∧ RL X9 O9 Z2 Y2) Z1 Y1) X7 Y8) ∧ (¬ (X7 2 0) = (6 : Int32) → wq_MO_account_109 (fun (r : Int32) (Z1 : ST) (Y1 : Int64) => wp_MO_thrown (fun (t : Int32) (Z2 : ST) (Y2 : Int64) => t = k9 ∧ (k9 = 0 → O9 0 = r.toInt64) ∧ RL X9 O9 Z2 Y2) Z1 Y1) a1 r9 X7 Y8))) ∧ (¬ r9 < 0 → (vp_in r9 6 ∧ (((X7 10 r9.toNatClampNeg) = 0 → wq_MO_account_109 (fun (r : Int32) (Z1 : ST) (Y1 : Int64) => wp_MO_thrown (fun (t : Int32) (Z2 : ST) (Y2 : Int64) => t = k9 ∧ (k9 = 0 → O9 0 = r.toInt64) ∧ RL X9 O9 Z2 Y2) Z1 Y1) a1 r9 X7 Y8) ∧ (¬ (X7 10 r9.toNatClampNeg) = 0 → wq_MO_account_102 (fun (r : Int32) (Z1 : ST) (Y1 : Int64) => wp_MO_thrown (fun (t : Int32) (Z2 : ST) (Y2 : Int64) => t = k9 ∧ (k9 = 0 → O9 0 = r.toInt64) ∧ RL X9 O9 Z2 Y2) Z1 Y1) X7 Y8)))))) (rmv (up Z 90 0 0) (fnd (X 61) a2 0 nn) nn) Y1 a1) → wp_MO_account (fun (r : Int32) (Z1 : ST) (Y1 : Int64) => wp_MO_thrown (fun (t : Int32) (Z2 : ST) (Y2 : Int64) => t = k9 ∧ (k9 = 0 → O9 0 = r.toInt64) ∧ RL X9 O9 Z2 Y2) Z1 Y1) Z Y a1 a2 a3 := by
    intro k9 X9 O9 hh
    refine m_acc hI hE (fun k' => absurd k k') (fun _ r' => absurd r r') (fun _ _ g => absurd p g) (fun _ _ _ Y1 => ⟨fun _ => m_take z6 (by omega) p (hh Y1), fun e => absurd rfl e⟩)
  refine c_awk hN2.1.1 hna (fun q => ⟨fun e => ?_, fun _ => ?_⟩) (fun q => ⟨fun _ => ⟨fun e => ?_, fun e => ?_⟩, fun e => absurd rfl e⟩)
  · exact absurd e (fun e => absurd (show nI (fnd (rmv X (fnd (X 61) a2 0 nn) nn 11) a1 0 na) < 0 by rw [e]; decide) (nI_pos (by omega)))
  · generalize hq9 : fnd (rmv X (fnd (X 61) a2 0 nn) nn 11) a1 0 na = j at q ⊢
    have hc : (nI j).toNatClampNeg = j := nI_clamp (by omega)
    have z10 := hE2.a 10 j (by unfold cmp; omega)
    have hl := hI2.2.1.2 j (by omega)
    rw [hc]
    refine ⟨vp_in_nI (by omega) (by decide), fun e => ?_, fun e => ?_⟩
    · refine Or.inr (Or.inr ⟨rfl, ref 3 _ _ (fun Y1 => m_holder hE2 hN2.1.1 hna (fun q2 => ?_) (fun q2 => absurd (by rw [hq9]; exact q) q2))⟩)
      rw [hq9]
      refine ⟨fun a => absurd a (nI_pos (by omega)), fun _ => ⟨vp_in_nI (by omega) (by decide), fun a => ?_, fun _ => ?_⟩⟩
      · rw [hc, z10, e] at a
        exact absurd a (by decide)
      · exact fin9 hI2 (hE2.thr 3) (fun e => absurd e (by decide))
    · have e0 : rmv X (fnd (X 61) a2 0 nn) nn 10 j = 0 := hl.elim id (fun e' => absurd e' e)
      refine ⟨fun a => absurd (show nI j < 0 by rw [a]; decide) (nI_pos (by omega)), fun _ => ref 0 _ _ (fun Y1 => m_holder hE2 hN2.1.1 hna (fun q2 => ?_) (fun q2 => absurd (by rw [hq9]; exact q) q2))⟩
      rw [hq9]
      refine ⟨fun a => absurd a (nI_pos (by omega)), fun _ => ⟨vp_in_nI (by omega) (by decide), fun _ => ?_, fun a => ?_⟩⟩
      · exact ⟨fun _ => fin9 hI2 hE2 (fun _ => rfl), fun a => absurd (nI_pos' (by omega)) a⟩
      · rw [hc, z10] at a
        exact absurd e0 a
  · have hlt : na < 6 := by
      rw [hN2.1.1] at e
      exact (nI_ltI (by omega) (by decide)).mp (show nI na < nI 6 from e)
    have z2 : rmv (up Z 90 0 0) (fnd (X 61) a2 0 nn) nn 2 0 = nI na := (hE2.a 2 0 (by unfold cmp; omega)).trans hN2.1.1
    refine ⟨fun _ => ?_, fun a => absurd rfl a⟩
    unfold wp_CA_makeAccount
    rw [hN2.1.1, nI_clamp (show na < 2 ^ 31 by omega), nI_1]
    refine ⟨vp_in_nI hlt (by decide), ref 0 _ _ (fun Y1 => m_holder hE2 hN2.1.1 hna (fun q2 => absurd q2 q) (fun _ => ?_))⟩
    refine ⟨fun _ => ⟨fun a => ?_, fun _ => ?_⟩, fun a => absurd (by decide) a⟩
    · rw [z2] at a
      have := (nI_eq (a := na) (b := 6) (by omega) (by decide)).mp a
      omega
    · unfold wq_MO_account_109
      rw [z2, nI_clamp (show na < 2 ^ 31 by omega), nI_1]
      exact ⟨fun a => absurd a (by decide), fun _ => ⟨vp_in_nI hlt (by decide), fin9 (hI2.acc hlt k) ((hE2.upB 11 na a1 (by decide)).upB 2 0 _ (by decide)) (fun _ => rfl)⟩⟩
  · have h6 : na = 6 := by
      rw [hN2.1.1] at e
      rcases Nat.lt_or_ge na 6 with h9 | h9
      · exact absurd (show nI na < nI 6 from nI_lt h9 (by decide)) e
      · omega
    have z2 : rmv (up Z 90 0 0) (fnd (X 61) a2 0 nn) nn 2 0 = nI na := (hE2.a 2 0 (by unfold cmp; omega)).trans hN2.1.1
    refine Or.inr (Or.inr ⟨rfl, ref 3 _ _ (fun Y1 => m_holder hE2 hN2.1.1 hna (fun q2 => absurd q2 q) (fun _ => ?_))⟩)
    refine ⟨fun _ => ⟨fun _ => ?_, fun a => ?_⟩, fun a => absurd (by decide) a⟩
    · exact fin9 hI2 (hE2.thr 3) (fun e => absurd e (by decide))
    · rw [z2, h6] at a
      exact absurd rfl a

