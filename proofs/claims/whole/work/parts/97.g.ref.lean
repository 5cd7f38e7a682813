-- ===== the reference's reader =====
theorem m_mix {post : ST → Int64 → Prop} {X : ST} {Y : Int64} {x : Int32} (h : post X (mx Y x)) : wp_MO_mix post X Y x := h
theorem m_md {post : Int32 → ST → Int64 → Prop} {X : ST} {Y : Int64} (h : post (dE Y) X Y) : wp_MO_mixedDigest post X Y := h
section RM
variable {W X : ST} {Y : Int64} {B : Nat → Nat} {N e a : Nat} {k n s v : Int32}
theorem m_next0 {post : Int32 → ST → Int64 → Prop} {p : Int32} (h : ST4 W X k n p 0) (hp : ∀ (p : Int32) (X1 : ST), ST4 W X1 k n p 0 → post 0 X1 Y) : wp_MO_next post X Y := by
  unfold wp_MO_next wq_MO_next_24 wq_MO_next_47
  exact tt h.2.2.2.2 ⟨Or.inl rfl, fun _ => hp _ _ ((h.u67 0).u66 _), nn0⟩
theorem m_next {post : Int32 → ST → Int64 → Prop} (hT : TX W B N) (ha : a ≤ 96) (h : ST4 W X k n (nI a) 1) (h1 : a < N → ∀ X1 : ST, ST4 W X1 k n (nI (a + 1)) 1 → post (nI (B a)) X1 Y) (h0 : ¬ a < N → ∀ (p : Int32) (X1 : ST), ST4 W X1 k n p 0 → post 0 X1 Y) : wp_MO_next post X Y := by
  have hN := hT.2.1
  unfold wp_MO_next
  rw [h.2.2.2.2, h.2.2.2.1, (h.1 7 0 (by omega)).trans hT.1]
  refine ⟨n1, fun _ => ⟨fun q => ?_, fun q => ?_⟩⟩
  · have : ¬ a < N := fun r => nI_ge r (by omega) q
    unfold wq_MO_next_24 wq_MO_next_47
    exact ⟨Or.inl rfl, fun _ => h0 this _ _ ((h.u67 0).u66 _), nn0⟩
  · have haN : a < N := by
      rcases Nat.lt_or_ge a N with r | r
      · exact r
      · exact absurd (nI_le r (by omega)) q
    have g := h1 haN _ ((h.u67 1).u66 (nI (a + 1)))
    unfold wq_MO_next_24 wq_MO_next_47
    rw [(h.u67 1).2.2.2.1, h.2.2.2.1, nI_clamp (show a < 2 ^ 31 by omega), h.1 63 a (by omega), (hT.2.2 a (by omega)).1, nI_1]
    exact ⟨Or.inr rfl, n1, fun _ => ⟨vp_in_nI (by omega) (by decide), g⟩⟩
theorem m_must0 {post : ST → Int64 → Prop} {p g : Int32} (h : ST4 W X k n p 0) (hp : ∀ (p : Int32) (X1 : ST), ST4 W X1 k n p 0 → post X1 Y) : wp_MO_must post X Y g := by
  unfold wp_MO_must wq_MO_must_13 wq_MO_must_31
  exact m_next0 h (fun p X1 s1 => ⟨fun _ => tt s1.2.2.2.2 ⟨Or.inl rfl, hp _ _ (s1.u67 0)⟩, fun _ => tt s1.2.2.2.2 ⟨Or.inl rfl, hp _ _ (s1.u67 0)⟩⟩)
theorem m_must {post : ST → Int64 → Prop} {g : Nat} (hT : TX W B N) (ha : a ≤ 96) (hg : g < 256) (h : ST4 W X k n (nI a) 1) (h1 : a < N → B a = g → ∀ X1 : ST, ST4 W X1 k n (nI (a + 1)) 1 → post X1 Y) (h0 : ¬ (a < N ∧ B a = g) → ∀ (p : Int32) (X1 : ST), ST4 W X1 k n p 0 → post X1 Y) : wp_MO_must post X Y (nI g) := by
  have hN := hT.2.1
  unfold wp_MO_must wq_MO_must_13 wq_MO_must_31
  refine m_next hT ha h (fun q X1 s1 => ?_) (fun q p X1 s1 => ⟨fun _ => tt s1.2.2.2.2 ⟨Or.inl rfl, h0 (fun r => q r.1) _ _ (s1.u67 0)⟩, fun _ => tt s1.2.2.2.2 ⟨Or.inl rfl, h0 (fun r => q r.1) _ _ (s1.u67 0)⟩⟩)
  have hb := (hT.2.2 a (by omega)).2
  have f1 : ¬ X1 67 0 = 0 := by rw [s1.2.2.2.2]; decide
  exact ⟨fun e => ff f1 ⟨n1, fun _ => ⟨Or.inr rfl, h1 q ((nI_eq (by omega) (by omega)).mp e) _ (s1.u67 1)⟩⟩, fun e => ff f1 ⟨fun _ => ⟨Or.inl rfl, h0 (fun r => e (by rw [r.2])) _ _ (s1.u67 0)⟩, nn0⟩⟩
theorem m_len0 {post : Int32 → ST → Int64 → Prop} {p : Int32} (h : ST4 W X k n p 0) (hp : ∀ (p : Int32) (X1 : ST), ST4 W X1 k n p 0 → post 0 X1 Y) : wp_MO_takeLength post X Y := by
  unfold wp_MO_takeLength wq_MO_takeLength_25
  exact m_next0 h (fun p X1 s1 => tt s1.2.2.2.2 ⟨Or.inl rfl, hp _ _ (s1.u67 0)⟩)
theorem m_len {post : Int32 → ST → Int64 → Prop} (hT : TX W B N) (ha : a ≤ 96) (h : ST4 W X k n (nI a) 1) (h1 : a < N → B a ≤ 127 → ∀ X1 : ST, ST4 W X1 k n (nI (a + 1)) 1 → post (nI (B a)) X1 Y) (h0 : ¬ (a < N ∧ B a ≤ 127) → ∀ (r p : Int32) (X1 : ST), ST4 W X1 k n p 0 → post r X1 Y) : wp_MO_takeLength post X Y := by
  have hN := hT.2.1
  unfold wp_MO_takeLength wq_MO_takeLength_25
  refine m_next hT ha h (fun q X1 s1 => ?_) (fun q p X1 s1 => tt s1.2.2.2.2 ⟨Or.inl rfl, h0 (fun r => q r.1) _ _ _ (s1.u67 0)⟩)
  have hb := (hT.2.2 a (by omega)).2
  refine ff (by rw [s1.2.2.2.2]; decide) ⟨fun e => ⟨Or.inl rfl, h0 (fun r => ?_) _ _ _ (s1.u67 0)⟩, fun e => ⟨Or.inr rfl, h1 q ?_ _ (s1.u67 1)⟩⟩
  · have := (nI_leI (by decide) (by omega)).mp (show nI 128 ≤ nI (B a) from e)
    omega
  · rcases Nat.lt_or_ge (B a) 128 with r | r
    · omega
    · exact absurd (show nI 128 ≤ nI (B a) from nI_le r (by omega)) e
theorem m_43u {post : Int32 → ST → Int64 → Prop} {v1 v2 v3 v4 p : Int32} (m : Nat) (h : ST4 W X k n p 0) (hp : post v3 X Y) : wq_MO_takeNumber_43 post v1 (m + 1) v2 v3 v4 X Y := by
  rw [wq_MO_takeNumber_43]; dsimp only
  exact ⟨fun _ => hp, fun _ => tt h.2.2.2.2 hp⟩
theorem m_33u {post : Int32 → ST → Int64 → Prop} {v1 a s : Int32} (h : ST4 W X k n a s) (hp : ∀ (r p : Int32) (X1 : ST), ST4 W X1 k n p 0 → post r X1 Y) : wq_MO_takeNumber_33 post 0 v1 X Y := ⟨Or.inl rfl, 0 + 1, m_43u 0 (h.u67 0) (hp _ _ _ (h.u67 0))⟩
theorem m_num0 {post : Int32 → ST → Int64 → Prop} {p : Int32} (h : ST4 W X k n p 0) (hp : ∀ (r p : Int32) (X1 : ST), ST4 W X1 k n p 0 → post r X1 Y) : wp_MO_takeNumber post X Y := by
  unfold wp_MO_takeNumber
  exact m_must0 h (fun p X1 s1 => m_len0 s1 (fun p X2 s2 => tt s2.2.2.2.2 (m_33u s2 hp)))
theorem m_num {post : Int32 → ST → Int64 → Prop} (hT : TX W B N) (ha : a ≤ 96) (h : ST4 W X k n (nI a) 1) (h1 : oN B N a → ∀ X1 : ST, ST4 W X1 k n (nI (a + 2 + B (a + 1))) 1 → post (nI (vl B a)) X1 Y) (h0 : ¬ oN B N a → ∀ (r p : Int32) (X1 : ST), ST4 W X1 k n p 0 → post r X1 Y) : wp_MO_takeNumber post X Y := by
  have hN := hT.2.1
  have hB : ∀ j : Nat, j < 96 → B j < 256 := fun j hj => (hT.2.2 j hj).2
  unfold wp_MO_takeNumber
  refine m_must (g := 2) hT ha (by decide) h (fun q1 q2 X1 s1 => m_len hT (by omega) s1 (fun q3 q4 X2 s2 => ?_) (fun q r p X2 s2 => tt s2.2.2.2.2 (m_33u s2 (h0 (fun o => q ⟨by have := o.1; omega, by have := o.2.2.2.1; omega⟩))))) (fun q p X1 s1 => m_len0 s1 (fun p X2 s2 => tt s2.2.2.2.2 (m_33u s2 (h0 (fun o => q ⟨by have := o.1; omega, o.2.1⟩)))))
  have hL := hB (a + 1) (by omega)
  refine ff (by rw [s2.2.2.2.2]; decide) ⟨fun q => ?_, fun q5 => ⟨fun q => ?_, fun q6 => ?_⟩⟩
  · have := (nI_ltI (by omega) (by decide)).mp (show nI (B (a + 1)) < nI 1 from q)
    exact m_33u s2 (h0 (fun o => by have := o.2.2.1; omega))
  · have := (nI_ltI (by decide) (by omega)).mp (show nI 4 < nI (B (a + 1)) from q)
    exact m_33u s2 (h0 (fun o => by have := o.2.2.2.1; omega))
  have hL1 : 1 ≤ B (a + 1) := by
    rcases Nat.lt_or_ge (B (a + 1)) 1 with r | r
    · exact absurd (show nI (B (a + 1)) < nI 1 from nI_lt r (by decide)) q5
    · exact r
  have hL4 : B (a + 1) ≤ 4 := by
    rcases Nat.lt_or_ge 4 (B (a + 1)) with r | r
    · exact absurd (show nI 4 < nI (B (a + 1)) from nI_lt r (by omega)) q6
    · exact r
  have key : ∀ d i : Nat, i + d = B (a + 1) → a + 2 + i ≤ N → (i = 0 ∨ B (a + 2) ≤ 127) → (i ≤ 1 ∨ B (a + 2) ≠ 0 ∨ 127 < B (a + 3)) → ∀ (v2 : Int32) (X1 : ST), (1 ≤ i → v2 = nI (B (a + 2))) → ST4 W X1 k n (nI (a + 2 + i)) 1 → wq_MO_takeNumber_43 post (nI (B (a + 1))) (d + 1) v2 (nI (vN B a i)) (nI i) X1 Y := by
    intro d
    induction d with
    | zero =>
      intro i hi hie hf hr v2 X1 hv2 t1
      have hi : i = B (a + 1) := hi
      rw [wq_MO_takeNumber_43]; dsimp only
      rw [hi] at t1 ⊢
      exact tt (nI_le (Nat.le_refl _) (by omega)) (h1 ⟨by omega, q2, hL1, hL4, by omega, by omega⟩ _ t1)
    | succ d ih =>
      intro i hi hie hf hr v2 X1 hv2 t1
      rw [wq_MO_takeNumber_43]; dsimp only
      have un : ∀ (v1' v2' v3' v4' v5' p : Int32) (X4 : ST), ¬ oN B N a → ∀ s' : Int32, ST4 W X4 k n p s' → wq_MO_takeNumber_117 post (wq_MO_takeNumber_43 post (nI (B (a + 1))) (d + 1)) 0 v1' v2' v3' v4' v5' X4 Y := by
        intro v1' v2' v3' v4' v5' p X4 q s' s4
        unfold wq_MO_takeNumber_117
        exact ⟨Or.inl rfl, m_43u d (s4.u67 0) (h0 q _ _ _ (s4.u67 0))⟩
      refine ff (nI_ge (by omega) (by omega)) (ff (by rw [t1.2.2.2.2]; decide) (m_next hT (by omega) t1 (fun q9 X4 s4 => ?_) (fun q p X4 s4 => ?_)))
      · have hb := hB (a + 2 + i) (by omega)
        have hv : vN B a i < 2 ^ 23 := by
          rcases Nat.eq_zero_or_pos i with r | r
          · subst r
            show 0 < 2 ^ 23
            decide
          · have hlt := vN_lt (B := B) (a := a) (e := 96) hB (by omega) (i - 1) (by omega)
            rw [show i - 1 + 1 = i by omega] at hlt
            rcases (show i = 1 ∨ i = 2 ∨ i = 3 by omega) with r | r | r <;> subst r <;> simpa using (Nat.lt_of_lt_of_le hlt (by decide))
        have hb0 : B (a + 2) < 256 := hB (a + 2) (by omega)
        have go : B (a + 2) ≤ 127 → (i = 1 → B (a + 2) ≠ 0 ∨ 127 < B (a + 3)) → wq_MO_takeNumber_117 post (wq_MO_takeNumber_43 post (nI (B (a + 1))) (d + 1)) 1 (nI (B (a + 1))) (nI (B (a + 2))) (nI (vN B a i)) (nI i) (nI (B (a + 2 + i))) X4 Y := by
          intro hf2 hr2
          unfold wq_MO_takeNumber_117
          rw [vN_s hv hb, nI_1]
          exact ⟨Or.inr rfl, ih (i + 1) (by omega) (by omega) (by omega) (by omega) _ _ (fun _ => rfl) (s4.u67 1)⟩
        have w73 : wq_MO_takeNumber_73 post (wq_MO_takeNumber_43 post (nI (B (a + 1))) (d + 1)) (nI (B (a + 2))) (nI (B (a + 1))) (nI (vN B a i)) (nI i) (nI (B (a + 2 + i))) X4 Y := by
          have w95 : B (a + 2) ≤ 127 → wq_MO_takeNumber_95 post (wq_MO_takeNumber_43 post (nI (B (a + 1))) (d + 1)) (nI (B (a + 1))) (nI (B (a + 2))) (nI (vN B a i)) (nI i) (nI (B (a + 2 + i))) X4 Y := by
            intro hf2
            unfold wq_MO_takeNumber_95
            refine ⟨fun q => ?_, fun q => go hf2 (fun r => absurd (by rw [r]; rfl) q)⟩
            have i1 : i = 1 := (nI_eq (by omega) (by decide)).mp (show nI i = nI 1 from q)
            subst i1
            have hb3 : B (a + 2 + 1) = B (a + 3) := rfl
            refine ⟨fun z => go hf2 (fun _ => Or.inl (fun r => ?_)), fun z => ⟨fun q10 => un _ _ _ _ _ _ _ (fun o => ?_) _ s4, fun q10 => go hf2 (fun _ => Or.inr ?_)⟩⟩
            · rw [r] at z
              exact absurd z (by decide)
            · have z1 : B (a + 2 + 1) ≤ 127 := (nI_leI (by omega) (by decide)).mp (show nI (B (a + 2 + 1)) ≤ nI 127 from q10)
              rcases o.2.2.2.2.2 with r | r | r
              · omega
              · exact z (show nI 0 < nI (B (a + 2)) from nI_lt (by omega) (by omega))
              · omega
            · rcases Nat.lt_or_ge 127 (B (a + 3)) with r | r
              · exact r
              · exact absurd (show nI (B (a + 2 + 1)) ≤ nI 127 from nI_le (by omega) (by decide)) q10
          unfold wq_MO_takeNumber_73
          refine ff (by rw [s4.2.2.2.2]; decide) ⟨fun q => w95 ?_, fun q => ?_⟩
          · have : 0 < i := (nI_ltI (by decide) (by omega)).mp (show nI 0 < nI i from q)
            omega
          · have i0 : i = 0 := by
              rcases Nat.eq_zero_or_pos i with r | r
              · exact r
              · exact absurd (show nI 0 < nI i from nI_lt r (by omega)) q
            subst i0
            refine ⟨fun q2 => un _ _ _ _ _ _ _ (fun o => ?_) _ s4, fun q2 => w95 ?_⟩
            · have : 128 ≤ B (a + 2 + 0) := (nI_leI (by decide) (by omega)).mp (show nI 128 ≤ nI (B (a + 2 + 0)) from q2)
              have : B (a + 2 + 0) ≤ 127 := o.2.2.2.2.1
              omega
            · rcases Nat.lt_or_ge 127 (B (a + 2)) with r | r
              · exact absurd (show nI 128 ≤ nI (B (a + 2)) from nI_le (by omega) (by omega)) q2
              · exact r
        refine ⟨fun q => ?_, fun q => ?_⟩
        · have i0 : i = 0 := (nI_eq (by omega) (by decide)).mp (show nI i = nI 0 from q)
          subst i0
          exact w73
        · rw [hv2 (by rcases Nat.eq_zero_or_pos i with r | r; exact absurd (by rw [r]; rfl) q; exact r)]
          exact w73
      · have no : ¬ oN B N a := fun o => by have := o.1; omega
        unfold wq_MO_takeNumber_73
        exact ⟨fun _ => tt s4.2.2.2.2 (un _ _ _ _ _ _ _ no _ s4), fun _ => tt s4.2.2.2.2 (un _ _ _ _ _ _ _ no _ s4)⟩
  unfold wq_MO_takeNumber_33
  exact ⟨Or.inr rfl, B (a + 1) + 1, key (B (a + 1)) 0 (by omega) (by omega) (Or.inl rfl) (Or.inl (by decide)) 0 _ (fun q => absurd q (by decide)) (s2.u67 1)⟩
end RM

