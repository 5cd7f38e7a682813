-- ===== order =====
theorem EQ.w {no np f i : Nat} {X Z : ST} {t v : Int32} (h : EQ no np X Z t) (hf : f < 1000 ∧ f ≠ 26 ∧ f ≠ 90) (hx : X f i = v) : EQ no np X (up Z f i v) t := by
  have := h.upB f i v hf
  rwa [up_id hx] at this
theorem EQ.at {no np o j : Nat} {X Z : ST} {t : Int32} (h : EQ no np X Z t) (hj : j < 4) (r : Int32) : EQ no np (up X (1000 + j) o r) (up Z 26 (4 * o + j) r) t := by
  refine ⟨fun g i hc => ?_, fun o' j' ho' hj' => ?_, ?_⟩
  · rw [up_g (show g ≠ 1000 + j by unfold cmp at hc; omega), up_g (show g ≠ 26 by unfold cmp at hc; omega)]
    exact h.1 g i hc
  · by_cases e : o' = o ∧ j' = j
    · rw [e.1, e.2, up_eq, up_eq]
    · rw [up_ne (by omega), up_ne (by omega)]
      exact h.2.1 o' j' ho' hj'
  · rw [up_g (by decide)]
    exact h.2.2
/-- the two states while an order is made: the reference has counted it already -/
def EQ3 (no np : Nat) (X Z : ST) (t : Int32) : Prop := EQ (no + 1) np (up X 3 0 (nI (no + 1))) Z t
section E3
variable {X Z : ST} {t : Int32} {no np : Nat}
theorem EQ3.upB (h : EQ3 no np X Z t) (f i : Nat) (v : Int32) (hf : f < 1000 ∧ f ≠ 26 ∧ f ≠ 90 ∧ f ≠ 3) : EQ3 no np (up X f i v) (up Z f i v) t := by
  unfold EQ3 at h ⊢
  rw [up_cm (by omega)]
  exact EQ.upB h f i v (by omega)
theorem EQ3.w {f i : Nat} {v : Int32} (h : EQ3 no np X Z t) (hf : f < 1000 ∧ f ≠ 26 ∧ f ≠ 90 ∧ f ≠ 3) (hx : X f i = v) : EQ3 no np X (up Z f i v) t := by
  have := h.upB f i v hf
  rwa [up_id hx] at this
theorem EQ3.at {o j : Nat} (h : EQ3 no np X Z t) (hj : j < 4) (r : Int32) : EQ3 no np (up X (1000 + j) o r) (up Z 26 (4 * o + j) r) t := by
  unfold EQ3 at h ⊢
  rw [up_cm (by omega)]
  exact EQ.at h hj r
theorem EQ3.a (h : EQ3 no np X Z t) (f i : Nat) (hf : f ≠ 3) (hc : cmp (no + 1) np f i) : Z f i = X f i := by
  rw [EQ.a h f i hc, up_g hf]
end E3
theorem m_mkA {post : Int32 → ST → Int64 → Prop} {S Z : ST} {Y : Int64} {t : Int32} {no np n : Nat} {k m l : Int32} (hE : EQ3 no np S Z t) (h4 : S 4 0 = nI n) (hn : n < 24) (h30 : S 30 n = 0) (h40 : ∀ c : Nat, 2 * n ≤ c → c < 48 → S 40 c = 0 ∧ S 42 c = 0) (h : ∀ Z1 : ST, EQ3 no np (mkA S n k m (S 1 0 + l)) Z1 t → post (nI n) Z1 Y) : wp_MO_authorize post Z Y k m l := by
  unfold wp_MO_authorize
  have z4 : Z 4 0 = nI n := (hE.a 4 0 (by decide) (by unfold cmp; omega)).trans h4
  have z1 : Z 1 0 = S 1 0 := hE.a 1 0 (by decide) (by unfold cmp; omega)
  rw [z4, z1, nI_clamp (show n < 2 ^ 31 by omega)]
  refine ⟨vp_in_nI hn (by decide), 0 + 1 + 1 + 1, ?_⟩
  have hE1 := ((hE.upB 31 n k (by decide)).upB 32 n m (by decide)).upB 33 n (S 1 0 + l) (by decide)
  have hE2 := hE1.w (f := 30) (i := n) (v := 0) (by decide) (by rw [up_g (by decide), up_g (by decide), up_g (by decide), h30])
  unfold mkA at h
  have h4' : up (up (up S 31 n k) 32 n m) 33 n (S 1 0 + l) 4 0 = nI n := by rw [up_g (by decide), up_g (by decide), up_g (by decide), h4]
  have h40' : ∀ c : Nat, 2 * n ≤ c → c < 48 → up (up (up S 31 n k) 32 n m) 33 n (S 1 0 + l) 40 c = 0 ∧ up (up (up S 31 n k) 32 n m) 33 n (S 1 0 + l) 42 c = 0 := fun c h1 h2 => by
    rw [up_g (show (40 : Nat) ≠ 33 by decide), up_g (show (40 : Nat) ≠ 32 by decide), up_g (show (40 : Nat) ≠ 31 by decide), up_g (show (42 : Nat) ≠ 33 by decide), up_g (show (42 : Nat) ≠ 32 by decide), up_g (show (42 : Nat) ≠ 31 by decide)]
    exact h40 c h1 h2
  clear hE1 hE z4 z1 h40 h30
  generalize up (up (up (up Z 31 n k) 32 n m) 33 n (S 1 0 + l)) 30 n 0 = W at hE2 ⊢
  generalize up (up (up S 31 n k) 32 n m) 33 n (S 1 0 + l) = T at h h4' h40' hE2 ⊢
  have e2n : (2 : Int32) * nI n = nI (2 * n) := pk_mul 2 n
  rw [e2n, wq_MO_authorize_49]; dsimp only
  rw [e2n, show nI (2 * n) + (2 : Int32) = nI (2 * n + 2) from nI_add _ 2]
  refine ⟨fun q => absurd q (nI_ge (by omega) (by omega)), fun _ => ?_⟩
  unfold wp_MO_draw
  rw [nI_clamp (show 2 * n < 2 ^ 31 by omega), nI_1]
  refine ⟨vp_in_nI (by omega) (by decide), ?_⟩
  have w0 : W 0 0 = T 0 0 := hE2.a 0 0 (by decide) (by unfold cmp; omega)
  rw [w0]
  have hE3 := (((hE2.upB 0 0 (dw (T 0 0)) (by decide)).upB 41 (2 * n) (dr (dw (T 0 0))) (by decide)).w (f := 40) (i := 2 * n) (v := 0) (by decide) (by rw [up_g (by decide), up_g (by decide)]; exact (h40' _ (by omega) (by omega)).1)).w (f := 42) (i := 2 * n) (v := 0) (by decide) (by rw [up_g (by decide), up_g (by decide)]; exact (h40' _ (by omega) (by omega)).2)
  change wq_MO_authorize_49 post (nI n) (0 + 1 + 1) (nI (2 * n + 1)) (up (up (up (up W 0 0 (dw (T 0 0))) 41 (2 * n) (dr (dw (T 0 0)))) 40 (2 * n) 0) 42 (2 * n) 0) Y
  generalize up (up (up (up W 0 0 (dw (T 0 0))) 41 (2 * n) (dr (dw (T 0 0)))) 40 (2 * n) 0) 42 (2 * n) 0 = W1 at hE3 ⊢
  rw [wq_MO_authorize_49]; dsimp only
  rw [e2n, show nI (2 * n) + (2 : Int32) = nI (2 * n + 2) from nI_add _ 2]
  refine ⟨fun q => absurd q (nI_ge (by omega) (by omega)), fun _ => ?_⟩
  unfold wp_MO_draw
  rw [nI_clamp (show 2 * n + 1 < 2 ^ 31 by omega), nI_1]
  refine ⟨vp_in_nI (by omega) (by decide), ?_⟩
  have w1 : W1 0 0 = dw (T 0 0) := (hE3.a 0 0 (by decide) (by unfold cmp; omega)).trans (by rw [up_g (by decide), up_eq])
  rw [w1]
  have hE4 := (((hE3.upB 0 0 (dw (dw (T 0 0))) (by decide)).upB 41 (2 * n + 1) (dr (dw (dw (T 0 0)))) (by decide)).w (f := 40) (i := 2 * n + 1) (v := 0) (by decide) (by rw [up_g (by decide), up_g (by decide), up_g (by decide), up_g (by decide)]; exact (h40' _ (by omega) (by omega)).1)).w (f := 42) (i := 2 * n + 1) (v := 0) (by decide) (by rw [up_g (by decide), up_g (by decide), up_g (by decide), up_g (by decide)]; exact (h40' _ (by omega) (by omega)).2)
  change wq_MO_authorize_49 post (nI n) (0 + 1) (nI (2 * n + 1 + 1)) (up (up (up (up W1 0 0 (dw (dw (T 0 0)))) 41 (2 * n + 1) (dr (dw (dw (T 0 0))))) 40 (2 * n + 1) 0) 42 (2 * n + 1) 0) Y
  generalize up (up (up (up W1 0 0 (dw (dw (T 0 0)))) 41 (2 * n + 1) (dr (dw (dw (T 0 0))))) 40 (2 * n + 1) 0) 42 (2 * n + 1) 0 = W2 at hE4 ⊢
  have w4 : W2 4 0 = nI n := (hE4.a 4 0 (by decide) (by unfold cmp; omega)).trans (by rw [up_g (by decide), up_g (by decide), up_g (by decide), up_g (by decide), h4'])
  rw [wq_MO_authorize_49]; dsimp only
  rw [e2n, show nI (2 * n) + (2 : Int32) = nI (2 * n + 2) from nI_add _ 2, w4, nI_1]
  refine ⟨fun _ => h _ (hE4.upB 4 0 (nI (n + 1)) (by decide)), fun q => absurd (nI_le (Nat.le_refl _) (by omega)) q⟩
/-- the invariant while order no is made, with c authorizations -/
def IRk (no nu c : Nat) (X : ST) : Prop := (∀ o : Nat, o < 12 → fv (X 20 o)) ∧ (∀ o : Nat, no ≤ o → o < 12 → X 20 o = 0 ∧ X 24 o = -1 ∧ (o ≠ no → X 25 o = 0)) ∧ (∀ o : Nat, o < no → ∃ n : Nat, n ≤ 4 ∧ X 25 o = nI n ∧ ∀ j : Nat, j < n → ∃ a : Nat, a < nu ∧ X (1000 + j) o = nI a) ∧ X 25 no = nI c ∧ c ≤ 4 ∧ ∀ j : Nat, j < c → ∃ a : Nat, a < nu ∧ X (1000 + j) no = nI a
def KV (na no nu np nn nt c : Nat) (X : ST) : Prop := IN na no nu np nn nt X ∧ IA na X ∧ IRk no nu c X ∧ IU na nu X ∧ IH nu X ∧ IC no np X ∧ IT X
section KV9
variable {X : ST} {na no nu np nn nt c f i : Nat} {v : Int32}
theorem IRk.u (h : IRk no nu c X) (hf : f < 1000 ∧ f ≠ 20 ∧ f ≠ 24 ∧ f ≠ 25) : IRk no nu c (up X f i v) := by
  have g : ∀ g : Nat, g ≠ f → up X f i v g = X g := fun g hg => funext (fun j => up_g hg)
  unfold IRk at h ⊢
  rw [g 20 (by omega), g 24 (by omega), g 25 (by omega)]
  refine ⟨h.1, h.2.1, fun o ho => ?_, h.2.2.2.1, h.2.2.2.2.1, fun j hj => ?_⟩
  · obtain ⟨n, h1, h2, h3⟩ := h.2.2.1 o ho
    exact ⟨n, h1, h2, fun j hj => by rw [g (1000 + j) (by omega)]; exact h3 j hj⟩
  · rw [g (1000 + j) (by omega)]
    exact h.2.2.2.2.2 j hj
theorem KV.u (h : KV na no nu np nn nt c X) (hf : f < 1000 ∧ ¬ (2 ≤ f ∧ f ≤ 7) ∧ f ≠ 10 ∧ f ≠ 11 ∧ f ≠ 20 ∧ f ≠ 22 ∧ f ≠ 24 ∧ f ≠ 25 ∧ f ≠ 30 ∧ f ≠ 31 ∧ f ≠ 40 ∧ f ≠ 42 ∧ f ≠ 50 ∧ f ≠ 51 ∧ f ≠ 52 ∧ f ≠ 55 ∧ f ≠ 63) : KV na no nu np nn nt c (up X f i v) :=
  ⟨h.1.u (by omega), h.2.1.u (by omega), h.2.2.1.u (by omega), h.2.2.2.1.u (by omega), h.2.2.2.2.1.u (by omega), h.2.2.2.2.2.1.u (by omega), h.2.2.2.2.2.2.u (by omega)⟩
theorem KV.of (h : IV na no nu np nn nt X) (hno : no < 12) (k n e : Int32) : KV na no nu np nn nt 0 (up (up (up X 21 no k) 22 no n) 23 no e) := by
  have h0 : KV na no nu np nn nt 0 X := ⟨h.1, h.2.1, ⟨h.2.2.1.1, fun o h1 h2 => ⟨(h.2.2.1.2.1 o h1 h2).1, (h.2.2.1.2.1 o h1 h2).2.1, fun _ => (h.2.2.1.2.1 o h1 h2).2.2⟩, h.2.2.1.2.2, (h.2.2.1.2.1 no (Nat.le_refl _) hno).2.2, by omega, fun j hj => absurd hj (Nat.not_lt_zero j)⟩, h.2.2.2.1, h.2.2.2.2.1, h.2.2.2.2.2.1, h.2.2.2.2.2.2.1⟩
  refine KV.u ?_ (by decide)
  have h1 : KV na no nu np nn nt 0 (up X 21 no k) := h0.u (by decide)
  refine ⟨h1.1.u (by decide), h1.2.1.u (by decide), h1.2.2.1.u (by decide), h1.2.2.2.1.u (by decide), h1.2.2.2.2.1.u (by decide), ⟨fun d hd => ?_, fun d h3 h4 => ?_⟩, h1.2.2.2.2.2.2.u (by decide)⟩
  · obtain ⟨o, h3, h4, h5, h6⟩ := h1.2.2.2.2.2.1.1 d hd
    refine ⟨o, h3, ?_⟩
    rw [up_g (show (51 : Nat) ≠ 22 by decide), up_g (show (52 : Nat) ≠ 22 by decide), up_g (show (55 : Nat) ≠ 22 by decide), up_g (show (50 : Nat) ≠ 22 by decide), up_j (show o ≠ no by omega)]
    exact ⟨h4, h5, h6⟩
  · rw [up_g (show (55 : Nat) ≠ 22 by decide), up_g (show (50 : Nat) ≠ 22 by decide)]
    exact h1.2.2.2.2.2.1.2 d h3 h4
/-- authorization a attached -/
def atd (X : ST) (o c : Nat) (r : Int32) : ST := up (up X (1000 + c) o r) 25 o (nI (c + 1))
theorem kv_atd {a : Nat} (h : KV na no nu np nn nt c X) (ha : a < nu) (hc : c < 4) : KV na no nu np nn nt (c + 1) (atd X no c (nI a)) := by
  have g : ∀ g : Nat, g ≠ 25 → g ≠ 1000 + c → atd X no c (nI a) g = X g := fun g h1 h2 => funext (fun j => by unfold atd; rw [up_g h1, up_g h2])
  have g2 : ∀ j o : Nat, o ≠ no → atd X no c (nI a) (1000 + j) o = X (1000 + j) o := fun j o h1 => by
    unfold atd
    rw [up_j h1, up_j h1]
  have g3 : ∀ o : Nat, o ≠ no → atd X no c (nI a) 25 o = X 25 o := fun o h1 => by
    unfold atd
    rw [up_j h1, up_j h1]
  have g4 : atd X no c (nI a) 25 no = nI (c + 1) := up_eq _ _ _ _
  have g5 : atd X no c (nI a) (1000 + c) no = nI a := by
    unfold atd
    rw [up_g (by omega), up_eq]
  refine ⟨?_, ?_, ⟨?_, fun o h1 h2 => ?_, fun o ho => ?_, g4, by omega, fun j hj => ?_⟩, ?_, ?_, ?_, ?_⟩
  · have := h.1
    unfold IN at this ⊢
    rw [g 2 (by omega) (by omega), g 3 (by omega) (by omega), g 4 (by omega) (by omega), g 5 (by omega) (by omega), g 6 (by omega) (by omega), g 7 (by omega) (by omega)]
    exact this
  · have := h.2.1
    unfold IA at this ⊢
    rw [g 10 (by omega) (by omega), g 11 (by omega) (by omega)]
    exact this
  · rw [g 20 (by omega) (by omega)]
    exact h.2.2.1.1
  · rw [g 20 (by omega) (by omega), g 24 (by omega) (by omega)]
    have q := h.2.2.1.2.1 o h1 h2
    exact ⟨q.1, q.2.1, fun e => by rw [g3 o e]; exact q.2.2 e⟩
  · obtain ⟨n, h1, h2, h3⟩ := h.2.2.1.2.2.1 o ho
    refine ⟨n, h1, by rw [g3 o (by omega)]; exact h2, fun j hj => ?_⟩
    rw [g2 j o (by omega)]
    exact h3 j hj
  · by_cases e : j = c
    · subst e
      exact ⟨a, ha, g5⟩
    · rw [g (1000 + j) (by omega) (by omega)]
      exact h.2.2.1.2.2.2.2.2 j (by omega)
  · have := h.2.2.2.1
    unfold IU at this ⊢
    rw [g 30 (by omega) (by omega), g 31 (by omega) (by omega)]
    exact this
  · have := h.2.2.2.2.1
    unfold IH at this ⊢
    rw [g 40 (by omega) (by omega), g 42 (by omega) (by omega)]
    exact this
  · have := h.2.2.2.2.2.1
    unfold IC at this ⊢
    rw [g 50 (by omega) (by omega), g 51 (by omega) (by omega), g 52 (by omega) (by omega), g 55 (by omega) (by omega), g 22 (by omega) (by omega)]
    exact this
  · have := h.2.2.2.2.2.2
    unfold IT at this ⊢
    rw [g 63 (by omega) (by omega)]
    exact this
theorem mkA_g {S : ST} {n g : Nat} {k m e : Int32} (h : g ≠ 0 ∧ g ≠ 4 ∧ g ≠ 31 ∧ g ≠ 32 ∧ g ≠ 33 ∧ g ≠ 41) : mkA S n k m e g = S g := by
  funext j
  unfold mkA mkB
  rw [up_g (by omega), up_g (by omega), up_g (by omega), up_g (by omega), up_g (by omega), up_g (by omega), up_g (by omega), up_g (by omega)]
theorem mkA_j {S : ST} {n a : Nat} {k m e : Int32} (g : Nat) (hg : g = 31 ∨ g = 32) (h : a ≠ n) : mkA S n k m e g a = S g a := by
  unfold mkA mkB
  rw [up_g (by omega), up_g (by omega), up_g (by omega), up_g (by omega), up_g (by omega), up_g (by omega), up_j h, up_j h]
theorem mkA_31 {S : ST} {n : Nat} {k m e : Int32} : mkA S n k m e 31 n = k := by
  unfold mkA mkB
  rw [up_g (by omega), up_g (by omega), up_g (by omega), up_g (by omega), up_g (by omega), up_g (by omega), up_g (by omega), up_eq]
theorem kv_mkA {K : Nat} {m e : Int32} (h : KV na no nu np nn nt c X) (hnu : nu < 24) (hK : K < na) : KV na no (nu + 1) np nn nt c (mkA X nu (nI K) m e) := by
  have g : ∀ g : Nat, (g ≠ 0 ∧ g ≠ 4 ∧ g ≠ 31 ∧ g ≠ 32 ∧ g ≠ 33 ∧ g ≠ 41) → mkA X nu (nI K) m e g = X g := fun g hg => mkA_g hg
  refine ⟨?_, ?_, ?_, ⟨?_, fun a h1 h2 => ?_, fun a ha => ?_⟩, ⟨fun d h1 h2 => ?_, ?_⟩, ?_, ?_⟩
  · have := h.1
    unfold IN at this ⊢
    rw [g 2 (by omega), g 3 (by omega), g 5 (by omega), g 6 (by omega), g 7 (by omega)]
    exact ⟨this.1, this.2.1, ⟨by unfold mkA mkB; exact up_eq _ _ _ _, by omega⟩, this.2.2.2⟩
  · have := h.2.1
    unfold IA at this ⊢
    rw [g 10 (by omega), g 11 (by omega)]
    exact this
  · have := h.2.2.1
    unfold IRk at this ⊢
    rw [g 20 (by omega), g 24 (by omega), g 25 (by omega)]
    refine ⟨this.1, this.2.1, fun o ho => ?_, this.2.2.2.1, this.2.2.2.2.1, fun j hj => ?_⟩
    · obtain ⟨n, h1, h2, h3⟩ := this.2.2.1 o ho
      refine ⟨n, h1, h2, fun j hj => ?_⟩
      rw [g (1000 + j) (by omega)]
      obtain ⟨a, h4, h5⟩ := h3 j hj
      exact ⟨a, by omega, h5⟩
    · rw [g (1000 + j) (by omega)]
      obtain ⟨a, h4, h5⟩ := this.2.2.2.2.2 j hj
      exact ⟨a, by omega, h5⟩
  · rw [g 30 (by omega)]
    exact h.2.2.2.1.1
  · rw [g 30 (by omega)]
    exact h.2.2.2.1.2.1 a (by omega) h2
  · by_cases e : a = nu
    · subst e
      exact ⟨K, hK, mkA_31⟩
    · rw [mkA_j 31 (Or.inl rfl) e]
      exact h.2.2.2.1.2.2 a (by omega)
  · rw [g 40 (by omega), g 42 (by omega)]
    exact h.2.2.2.2.1.1 d (by omega) h2
  · rw [g 40 (by omega), g 42 (by omega)]
    exact h.2.2.2.2.1.2
  · have := h.2.2.2.2.2.1
    unfold IC at this ⊢
    rw [g 50 (by omega), g 51 (by omega), g 52 (by omega), g 55 (by omega), g 22 (by omega)]
    exact this
  · have := h.2.2.2.2.2.2
    unfold IT at this ⊢
    rw [g 63 (by omega)]
    exact this
theorem KV.done (h : KV na no nu np nn nt c X) (hno : no < 12) : JV na (no + 1) nu np nn nt (up X 3 0 (nI (no + 1))) := by
  have g : ∀ g : Nat, g ≠ 3 → up X 3 0 (nI (no + 1)) g = X g := fun g hg => funext (fun j => up_g hg)
  refine ⟨?_, h.2.1.u (by decide), ⟨?_, fun o h1 h2 => ?_, fun o ho => ?_⟩, h.2.2.2.1.u (by decide), h.2.2.2.2.1.u (by decide), ⟨fun d hd => ?_, ?_⟩, h.2.2.2.2.2.2.u (by decide)⟩
  · have := h.1
    unfold IN at this ⊢
    rw [g 2 (by omega), g 4 (by omega), g 5 (by omega), g 6 (by omega), g 7 (by omega), up_eq]
    exact ⟨this.1, ⟨rfl, by omega⟩, this.2.2⟩
  · rw [g 20 (by omega)]
    exact h.2.2.1.1
  · rw [g 20 (by omega), g 24 (by omega), g 25 (by omega)]
    have q := h.2.2.1.2.1 o (by omega) h2
    exact ⟨q.1, q.2.1, q.2.2 (by omega)⟩
  · rw [g 25 (by omega)]
    by_cases e : o = no
    · subst e
      exact ⟨c, h.2.2.1.2.2.2.2.1, h.2.2.1.2.2.2.1, fun j hj => by rw [g (1000 + j) (by omega)]; exact h.2.2.1.2.2.2.2.2 j hj⟩
    · obtain ⟨n, h1, h2, h3⟩ := h.2.2.1.2.2.1 o (by omega)
      exact ⟨n, h1, h2, fun j hj => by rw [g (1000 + j) (by omega)]; exact h3 j hj⟩
  · rw [g 50 (by omega), g 51 (by omega), g 52 (by omega), g 55 (by omega), g 22 (by omega)]
    obtain ⟨o, h1, h2⟩ := h.2.2.2.2.2.1.1 d hd
    exact ⟨o, by omega, h2⟩
  · rw [g 50 (by omega), g 55 (by omega)]
    exact h.2.2.2.2.2.1.2
end KV9

