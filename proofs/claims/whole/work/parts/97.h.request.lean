theorem VN.sh {S l v : Nat} (h : VN S l) (hv : v < 16) : nI S >>> (nI v &&& 31) = 0 ↔ l ≤ v := by
  have hS := h.lt
  rw [pk_shrN (by omega) _ v (sh_all v (by omega))]
  have hd : S / 2 ^ v ≤ S := Nat.div_le_self _ _
  constructor
  · intro q
    have q0 : S / 2 ^ v = 0 := (nI_eq (by omega) (by decide)).mp (show nI (S / 2 ^ v) = nI 0 from q)
    rcases Nat.lt_or_ge v l with r | r
    · have h2 := h.2.2 (by omega)
      have h3 : 2 ^ v ≤ 2 ^ (l - 1) := Nat.pow_le_pow_right (by decide) (by omega)
      have h4 : 0 < S / 2 ^ v := Nat.div_pos (by omega) (Nat.two_pow_pos v)
      omega
    · exact r
  · intro q
    have : S < 2 ^ v := Nat.lt_of_lt_of_le h.1 (Nat.pow_le_pow_right (by decide) q)
    rw [Nat.div_eq_of_lt this]
    rfl
section RR
variable {W X : ST} {Y : Int64} {B : Nat → Nat} {N E : Nat} {k n s v : Int32}
theorem m_225u {post : ST → Int64 → Prop} {p : Int32} (h : ST4 W X k n p s) (hp : ∀ (k n p : Int32) (X1 : ST) (Y1 : Int64), ST4 W X1 k n p 0 → post X1 Y1) : wq_MO_readRequest_225 post 0 X Y := by
  unfold wq_MO_readRequest_225 wq_MO_readRequest_301
  exact ⟨Or.inl rfl, m_num0 (h.u67 0) (fun r p X1 s1 => m_mix (m_mix (m_mix (tt s1.2.2.2.2 ⟨Or.inl rfl, hp _ _ _ _ _ (s1.u67 0)⟩))))⟩
theorem m_127u {post : ST → Int64 → Prop} {p v3 : Int32} (m : Nat) (h : ST4 W X k n p 0) (hp : ∀ (n p s : Int32) (X1 : ST), ST4 W X1 k n p s → wq_MO_readRequest_225 post 0 X1 Y) : wq_MO_readRequest_127 post v3 (m + 1) X Y := by
  rw [wq_MO_readRequest_127]; dsimp only
  unfold wq_MO_readRequest_204
  exact tt h.2.2.2.2 (tt h.2.2.2.2 (hp _ _ _ _ h))
theorem m_119u {post : ST → Int64 → Prop} {p v3 : Int32} (h : ST4 W X k n p s) (hp : ∀ (k n p : Int32) (X1 : ST) (Y1 : Int64), ST4 W X1 k n p 0 → post X1 Y1) : wq_MO_readRequest_119 post 0 v3 X Y := by
  unfold wq_MO_readRequest_119
  exact ⟨Or.inl rfl, 0 + 1, m_127u 0 ((h.u67 0).u65 0) (fun n p s X1 s1 => m_225u s1 hp)⟩
theorem m_81u {post : ST → Int64 → Prop} {p : Int32} (h : ST4 W X k n p s) (hp : ∀ (k n p : Int32) (X1 : ST) (Y1 : Int64), ST4 W X1 k n p 0 → post X1 Y1) : wq_MO_readRequest_81 post 0 X Y := by
  unfold wq_MO_readRequest_81
  exact ⟨Or.inl rfl, m_must0 (h.u67 0) (fun p X1 s1 => m_len0 s1 (fun p X2 s2 => tt s2.2.2.2.2 (m_119u s2 hp)))⟩
theorem m_47u {post : ST → Int64 → Prop} {p : Int32} (h : ST4 W X k n p s) (hp : ∀ (k n p : Int32) (X1 : ST) (Y1 : Int64), ST4 W X1 k n p 0 → post X1 Y1) : wq_MO_readRequest_47 post 0 X Y := by
  unfold wq_MO_readRequest_47
  exact ⟨Or.inl rfl, m_num0 (h.u67 0) (fun r p X1 s1 => tt s1.2.2.2.2 (m_81u (s1.u64 r) hp))⟩
theorem m_nm {post : ST → Int64 → Prop} (hT : TX W B N) (hE : E < 1000) : ∀ (f S l a : Nat) (X : ST), VN S l → 17 ≤ f + l → a ≤ N → (l ≠ 0 ∨ a < E) → ST4 W X k (nI S) (nI a) 1 → (E ≤ N → ∀ S' : Nat, nmP B E f S l a = some S' → ∀ X1 : ST, ST4 W X1 k (nI S') (nI E) 1 → wq_MO_readRequest_225 post 1 X1 Y) → ((E ≤ N → nmP B E f S l a = none) → ∀ (n p s : Int32) (X1 : ST), ST4 W X1 k n p s → wq_MO_readRequest_225 post 0 X1 Y) → wq_MO_readRequest_127 post (nI E) (f + 1) X Y := by
  have hN := hT.2.1
  have hB : ∀ j : Nat, j < 96 → B j < 256 := fun j hj => (hT.2.2 j hj).2
  intro f
  induction f with
  | zero =>
    intro S l a X hV hfl
    have := hV.2.1
    omega
  | succ f ih =>
    intro S l a X hV hfl ha hla h h1 h0
    have hl16 := hV.2.1
    rw [wq_MO_readRequest_127]; dsimp only
    refine ff (by rw [h.2.2.2.2]; decide) ?_
    rw [h.2.2.2.1]
    refine ⟨fun q => ?_, fun q => ?_⟩
    · have hEa : E ≤ a := (nI_leI (by omega) (by omega)).mp q
      unfold wq_MO_readRequest_204
      refine ff (by rw [h.2.2.2.2]; decide) ?_
      rw [h.2.2.2.1]
      refine ⟨fun q2 => ?_, fun q2 => h0 (fun _ => ?_) _ _ _ _ h⟩
      · have hae : a = E := (nI_eq (by omega) (by omega)).mp q2
        subst hae
        refine h1 ha S ?_ X h
        show (if a ≤ a then _ else _) = some S
        rw [if_pos (Nat.le_refl _), if_pos ⟨rfl, by omega⟩]
      · show (if E ≤ a then _ else _) = none
        rw [if_pos hEa, if_neg (fun r => q2 (by rw [r.1]))]
    · have haE : ¬ E ≤ a := fun r => q (nI_le r (by omega))
      have bad : (E ≤ N → ¬ (oN B E a ∧ l ≤ vl B a ∧ vl B a < 16)) → ∀ (r n p s : Int32) (X1 : ST), ST4 W X1 k n p s → wq_MO_readRequest_178 post (wq_MO_readRequest_127 post (nI E) (f + 1)) 0 (nI E) r X1 Y := by
        intro q2 r n p s X1 s1
        unfold wq_MO_readRequest_178
        refine ⟨Or.inl rfl, fun _ => m_127u f (s1.u67 0) (h0 (fun r => ?_)), nn0⟩
        show (if E ≤ a then _ else _) = none
        rw [if_neg haE, if_neg (q2 r)]
      refine m_num hT (by omega) h (fun o X1 s1 => ff (by rw [s1.2.2.2.2]; decide) ?_) (fun o r p X1 s1 => tt s1.2.2.2.2 (bad (fun r2 r3 => o ⟨by have := r3.1.1; omega, r3.1.2⟩) r _ p _ X1 s1))
      have hv := vl_lt hB hN o
      refine ⟨fun q3 => bad (fun _ r => ?_) _ _ _ _ _ s1, fun q3 => ?_⟩
      · have := (nI_leI (by decide) hv).mp (show nI 16 ≤ nI (vl B a) from q3)
        omega
      · have v2 : vl B a < 16 := by
          rcases Nat.lt_or_ge (vl B a) 16 with r | r
          · exact r
          · exact absurd (show nI 16 ≤ nI (vl B a) from nI_le r hv) q3
        rw [s1.2.2.1, hV.sh v2]
        refine ⟨fun v1 => ?_, fun v1 => bad (fun _ r => v1 r.2.1) _ _ _ _ _ s1⟩
        have st : nmP B E (f + 1) S l a = nmP B E f (S ||| 2 ^ vl B a) (vl B a + 1) (a + 2 + B (a + 1)) := by
          show (if E ≤ a then _ else _) = _
          rw [if_neg haE]
          by_cases q5 : oN B E a
          · rw [if_pos ⟨q5, v1, v2⟩]
          · rw [if_neg (fun r => q5 r.1)]
            have q6 : E < a + 2 + B (a + 1) := by
              rcases Nat.lt_or_ge E (a + 2 + B (a + 1)) with r | r
              · exact r
              · exact absurd ⟨r, o.2⟩ q5
            obtain ⟨g, rfl⟩ : ∃ g : Nat, f = g + 1 := ⟨f - 1, by omega⟩
            show none = (if E ≤ a + 2 + B (a + 1) then _ else _)
            rw [if_pos (by omega), if_neg (by omega)]
        rw [st] at h1 h0
        unfold wq_MO_readRequest_178
        rw [s1.2.2.1, p2 v2, nI_or]
        exact ⟨Or.inr rfl, n1, fun _ => ih _ (vl B a + 1) _ _ (hV.s v1 v2) (by omega) o.1 (Or.inl (by omega)) ((s1.u67 1).u65 _) h1 h0⟩
theorem m_from {post : ST → Int64 → Prop} (hT : TX W B N) (h1 : ∀ S : Nat, RQ B N S → ∀ (p : Int32) (X1 : ST) (Y1 : Int64), ST4 W X1 (nI (vl B 2)) (nI S) p 1 → post X1 Y1) (h0 : (¬ ∃ S : Nat, RQ B N S) → ∀ (k n p : Int32) (X1 : ST) (Y1 : Int64), ST4 W X1 k n p 0 → post X1 Y1) : wp_MO_readRequest post W Y := by
  have hN := hT.2.1
  have hB : ∀ j : Nat, j < 96 → B j < 256 := fun j hj => (hT.2.2 j hj).2
  have s0 : ST4 W (up (up W 66 0 0) 67 0 1) (W 64 0) (W 65 0) (nI 0) 1 := ST4.u67 (ST4.u66 (s := W 67 0) ⟨fun _ _ _ => rfl, rfl, rfl, rfl, rfl⟩ 0) 1
  have hb1 := hB 1 (by decide)
  unfold wp_MO_readRequest
  refine m_must (g := 48) (a := 0) hT (by decide) (by decide) s0 (fun q1 q2 X1 s1 => m_len (a := 0 + 1) hT (by decide) s1 (fun q3 q4 X2 s2 => ff (by rw [s2.2.2.2.2]; decide) ?_) (fun q r p X2 s2 => tt s2.2.2.2.2 (m_47u s2 (h0 (fun ⟨S, o⟩ => q ⟨by have := o.1.1; omega, o.1.2.2⟩))))) (fun q p X1 s1 => m_len0 s1 (fun p X2 s2 => tt s2.2.2.2.2 (m_47u s2 (h0 (fun ⟨S, o⟩ => q ⟨by have := o.1.1; omega, o.1.2.1⟩)))))
  rw [s2.2.2.2.1, (s2.1 7 0 (by omega)).trans hT.1, nI_add]
  refine ⟨fun q => ?_, fun q => m_47u s2 (h0 (fun ⟨S, o⟩ => q (by rw [← o.2.1])))⟩
  have e1 : 0 + 2 + B (0 + 1) = N := (nI_eq (by omega) (by omega)).mp q
  have o1 : oR B N 0 := ⟨by omega, q2, q4⟩
  unfold wq_MO_readRequest_47
  refine ⟨Or.inr rfl, m_num (a := 2) hT (by decide) (s2.u67 1) (fun o2 X3 s3 => ff (by rw [s3.2.2.2.2]; decide) ?_) (fun o r p X3 s3 => tt s3.2.2.2.2 (m_81u (s3.u64 r) (h0 (fun ⟨S, q⟩ => o q.2.2.1))))⟩
  refine m_isKey (br_b (fun kk => m_81u (s3.u64 _) (h0 (fun ⟨S, q⟩ => kk q.2.2.2.2.2.2.2.1))) (fun kk => ?_))
  have hA : rA B ≤ N := o2.1
  unfold wq_MO_readRequest_81
  refine ⟨Or.inr rfl, m_must (g := 48) (a := rA B) hT (by omega) (by decide) ((s3.u64 _).u67 1) (fun q5 q6 X4 s4 => m_len (a := rA B + 1) hT (by omega) s4 (fun q7 q8 X5 s5 => ff (by rw [s5.2.2.2.2]; decide) ?_) (fun q r p X5 s5 => tt s5.2.2.2.2 (m_119u s5 (h0 (fun ⟨S, o⟩ => q ⟨by have := o.2.2.2.1.1; omega, o.2.2.2.1.2.2⟩))))) (fun q p X4 s4 => m_len0 s4 (fun p X5 s5 => tt s5.2.2.2.2 (m_119u s5 (h0 (fun ⟨S, o⟩ => q ⟨by have := o.2.2.2.1.1; omega, o.2.2.2.1.2.1⟩)))))⟩
  have hbL := hB (rA B + 1) (by omega)
  have hrE : rE B = rA B + 2 + B (rA B + 1) := rfl
  refine ⟨fun q => m_119u s5 (h0 (fun ⟨S, o⟩ => ?_)), fun q9 => ?_⟩
  · -- no name at all
    have l0 : B (rA B + 1) ≤ 0 := (nI_leI (by omega) (by decide)).mp (show nI (B (rA B + 1)) ≤ nI 0 from q)
    have := o.2.2.2.2.1
    rw [show nmP B (rE B) 17 0 0 (rA B + 2) = none by show (if rE B ≤ rA B + 2 then _ else _) = none; rw [if_pos (by omega), if_neg (fun r => r.2 rfl)]] at this
    exact absurd this (by simp)
  · have l1 : 0 < B (rA B + 1) := by
      rcases Nat.eq_zero_or_pos (B (rA B + 1)) with r | r
      · exact absurd (show nI (B (rA B + 1)) ≤ nI 0 by rw [r]; exact nI_le (Nat.le_refl 0) (by decide)) q9
      · exact r
    rw [s5.2.2.2.1, nI_add]
    change wq_MO_readRequest_119 post 1 (nI (rE B)) X5 Y
    unfold wq_MO_readRequest_119
    refine ⟨Or.inr rfl, 17 + 1, m_nm (E := rE B) hT (by omega) 17 0 0 (rA B + 2) _ ⟨by decide, by decide, fun q => absurd rfl q⟩ (by decide) (by omega) (Or.inr (by omega)) ((s5.u67 1).u65 0) (fun hE S n5 X6 s6 => ?_) (fun hE n p s X6 s6 => m_225u s6 (h0 (fun ⟨S, o⟩ => ?_)))⟩
    · unfold wq_MO_readRequest_225
      refine ⟨Or.inr rfl, m_num (a := rE B) hT (by omega) (s6.u67 1) (fun o6 X7 s7 => m_mix (m_mix (m_mix (ff (by rw [s7.2.2.2.2]; decide) ?_)))) (fun o r p X7 s7 => m_mix (m_mix (m_mix (tt s7.2.2.2.2 ⟨Or.inl rfl, h0 (fun ⟨S, q⟩ => o q.2.2.2.2.2.1) _ _ _ _ _ (s7.u67 0)⟩))))⟩
      rw [s7.2.2.2.1, (s7.1 7 0 (by omega)).trans hT.1, s7.2.1, s7.2.2.1]
      refine ⟨fun q10 => m_md ?_, fun q10 => ⟨Or.inl rfl, h0 (fun ⟨S, q⟩ => q10 (by rw [q.2.2.2.2.2.2.1])) _ _ _ _ _ (s7.u67 0)⟩⟩
      have e7 : rE B + 2 + B (rE B + 1) = N := (nI_eq (by have := o6.1; omega) (by omega)).mp q10
      rw [s7.2.1]
      refine m_isRight kk (br_b (fun q11 => ⟨Or.inl rfl, h0 (fun ⟨S', q⟩ => q11 ?_) _ _ _ _ _ (s7.u67 0)⟩) (fun q11 => ⟨Or.inr rfl, h1 S ⟨o1, e1, o2, ⟨hE, q6, q8⟩, n5, o6, e7, kk, q11⟩ _ _ _ (s7.u67 1)⟩))
      have : S' = S := Option.some.inj (q.2.2.2.2.1.symm.trans n5)
      rw [← this]
      exact q.2.2.2.2.2.2.2.2
    · have := o.2.2.2.2.1
      rw [hE o.2.2.2.1.1] at this
      exact absurd this (by simp)
end RR

