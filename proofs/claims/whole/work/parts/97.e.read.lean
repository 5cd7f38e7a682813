-- ===== the request: what it is, and the class's reader =====
/-- W, but for the four fields of a reader -/
def ST4 (W X : ST) (k n a s : Int32) : Prop := (∀ f i : Nat, f < 64 ∨ 67 < f → X f i = W f i) ∧ X 64 0 = k ∧ X 65 0 = n ∧ X 66 0 = a ∧ X 67 0 = s
section S4
variable {W X : ST} {k n a s v : Int32}
theorem ST4.u67 (h : ST4 W X k n a s) (v : Int32) : ST4 W (up X 67 0 v) k n a v := ⟨fun f i hf => by rw [up_g (by omega)]; exact h.1 f i hf, by rw [up_g (by decide)]; exact h.2.1, by rw [up_g (by decide)]; exact h.2.2.1, by rw [up_g (by decide)]; exact h.2.2.2.1, up_eq _ _ _ _⟩
theorem ST4.u66 (h : ST4 W X k n a s) (v : Int32) : ST4 W (up X 66 0 v) k n v s := ⟨fun f i hf => by rw [up_g (by omega)]; exact h.1 f i hf, by rw [up_g (by decide)]; exact h.2.1, by rw [up_g (by decide)]; exact h.2.2.1, up_eq _ _ _ _, by rw [up_g (by decide)]; exact h.2.2.2.2⟩
theorem ST4.u65 (h : ST4 W X k n a s) (v : Int32) : ST4 W (up X 65 0 v) k v a s := ⟨fun f i hf => by rw [up_g (by omega)]; exact h.1 f i hf, by rw [up_g (by decide)]; exact h.2.1, up_eq _ _ _ _, by rw [up_g (by decide)]; exact h.2.2.2.1, by rw [up_g (by decide)]; exact h.2.2.2.2⟩
theorem ST4.u64 (h : ST4 W X k n a s) (v : Int32) : ST4 W (up X 64 0 v) v n a s := ⟨fun f i hf => by rw [up_g (by omega)]; exact h.1 f i hf, up_eq _ _ _ _, by rw [up_g (by decide)]; exact h.2.2.1, by rw [up_g (by decide)]; exact h.2.2.2.1, by rw [up_g (by decide)]; exact h.2.2.2.2⟩
end S4
/-- the text of a state: N bytes -/
def TX (W : ST) (B : Nat → Nat) (N : Nat) : Prop := W 7 0 = nI N ∧ N ≤ 96 ∧ ∀ j : Nat, j < 96 → W 63 j = nI (B j) ∧ B j < 256
/-- a number of i bytes behind its tag and its length -/
def vN (B : Nat → Nat) (a : Nat) : Nat → Nat
  | 0 => 0
  | i + 1 => vN B a i * 256 + B (a + 2 + i)
/-- a number at a that ends not behind e -/
abbrev oN (B : Nat → Nat) (e a : Nat) : Prop := a + 2 + B (a + 1) ≤ e ∧ B a = 2 ∧ 1 ≤ B (a + 1) ∧ B (a + 1) ≤ 4 ∧ B (a + 2) ≤ 127 ∧ (B (a + 1) = 1 ∨ B (a + 2) ≠ 0 ∨ 127 < B (a + 3))
abbrev vl (B : Nat → Nat) (a : Nat) : Nat := vN B a (B (a + 1))
theorem nI_or (a b : Nat) : nI a ||| nI b = nI (a ||| b) := by
  apply Int32.toBitVec_inj.mp
  rw [Int32.toBitVec_or]
  show BitVec.ofNat 32 a ||| BitVec.ofNat 32 b = BitVec.ofNat 32 (a ||| b)
  exact (BitVec.ofNat_or).symm
theorem vN_lt {B : Nat → Nat} {a e : Nat} (hB : ∀ j : Nat, j < e → B j < 256) (h : B (a + 2) ≤ 127) : ∀ i : Nat, a + 2 + i < e → vN B a (i + 1) < 128 * 256 ^ i := by
  intro i
  induction i with
  | zero =>
    intro hi
    show 0 * 256 + B (a + 2) < 128 * 1
    rw [Nat.zero_mul, Nat.zero_add]
    exact Nat.lt_succ_of_le h
  | succ i ih =>
    intro hi
    have h1 := ih (by omega)
    have h2 := hB (a + 2 + (i + 1)) hi
    show vN B a (i + 1) * 256 + B (a + 2 + (i + 1)) < 128 * 256 ^ (i + 1)
    rw [Nat.pow_succ, ← Nat.mul_assoc]
    generalize 128 * 256 ^ i = P at h1 ⊢
    generalize vN B a (i + 1) = Q at h1 ⊢
    generalize B (a + 2 + (i + 1)) = R at h2 ⊢
    clear ih hB h
    omega
theorem vN_s {B : Nat → Nat} {a i : Nat} (h1 : vN B a i < 2 ^ 23) (h2 : B (a + 2 + i) < 256) : (nI (vN B a i) <<< ((8 : Int32) &&& 31)) ||| nI (B (a + 2 + i)) = nI (vN B a (i + 1)) := by
  rw [pk_shlN ((8 : Int32) &&& 31) 8 rfl (by omega), nI_or]
  show _ = nI (vN B a i * 256 + B (a + 2 + i))
  congr 1
  have := Nat.two_pow_add_eq_or_of_lt (i := 8) h2 (vN B a i)
  rw [Nat.mul_comm] at this
  exact this.symm
section RD
variable {W X : ST} {B : Nat → Nat} {N e a : Nat} {k n s v : Int32}
theorem c_byte0 {post : Int32 → ST → Prop} {p E : Int32} (h : ST4 W X k n p 0) (hp : ∀ X1 : ST, ST4 W X1 k n p 0 → post 0 X1) : wp_Req_readByte post X E := by
  unfold wp_Req_readByte wq_Req_readByte_32
  exact tt h.2.2.2.2 ⟨Or.inl rfl, fun _ => hp _ (h.u67 0), nn0⟩
theorem c_byte {post : Int32 → ST → Prop} (hT : TX W B N) (he : e ≤ N) (ha : a ≤ 96) (h : ST4 W X k n (nI a) 1) (h1 : a < e → ∀ X1 : ST, ST4 W X1 k n (nI (a + 1)) 1 → post (nI (B a)) X1) (h0 : ¬ a < e → ∀ X1 : ST, ST4 W X1 k n (nI a) 0 → post 0 X1) : wp_Req_readByte post X (nI e) := by
  have hN := hT.2.1
  unfold wp_Req_readByte
  have x7 : X 7 0 = nI N := (h.1 7 0 (by omega)).trans hT.1
  rw [h.2.2.2.2, h.2.2.2.1, x7]
  refine ⟨n1, fun _ => ⟨fun q => ?_, fun q => ⟨fun q2 => ?_, fun q2 => ?_⟩⟩⟩
  · have : ¬ a < e := fun r => nI_ge r (by omega) q
    exact ⟨Or.inl rfl, fun _ => h0 this _ (h.u67 0), nn0⟩
  · have : ¬ a < N := fun r => nI_ge r (by omega) q2
    exact absurd (nI_le (show e ≤ a by omega) (by omega)) q
  · have hae : a < e := by
      rcases Nat.lt_or_ge a e with r | r
      · exact r
      · exact absurd (nI_le r (by omega)) q
    unfold wq_Req_readByte_32
    rw [h.2.2.2.1, nI_clamp (show a < 2 ^ 31 by omega), h.1 63 a (by omega), (hT.2.2 a (by omega)).1, nI_1]
    exact ⟨Or.inr rfl, n1, fun _ => ⟨vp_in_nI (by omega) (by decide), h1 hae _ ((h.u67 1).u66 _)⟩⟩
theorem c_tag0 {post : ST → Prop} {p E g : Int32} (h : ST4 W X k n p 0) (hp : ∀ X1 : ST, ST4 W X1 k n p 0 → post X1) : wp_Req_skipTag post X E g := by
  unfold wp_Req_skipTag wq_Req_skipTag_27
  exact c_byte0 h (fun X1 h1 => tt h1.2.2.2.2 ⟨Or.inl rfl, hp _ (h1.u67 0)⟩)
theorem c_tag {post : ST → Prop} {g : Nat} (hT : TX W B N) (he : e ≤ N) (ha : a ≤ 96) (hg : g < 256) (h : ST4 W X k n (nI a) 1) (h1 : a < e → B a = g → ∀ X1 : ST, ST4 W X1 k n (nI (a + 1)) 1 → post X1) (h0 : ¬ (a < e ∧ B a = g) → ∀ (p : Int32) (X1 : ST), ST4 W X1 k n p 0 → post X1) : wp_Req_skipTag post X (nI e) (nI g) := by
  have hN := hT.2.1
  unfold wp_Req_skipTag wq_Req_skipTag_27
  refine c_byte hT he ha h (fun q X1 s1 => ?_) (fun q X1 s1 => tt s1.2.2.2.2 ⟨Or.inl rfl, h0 (fun r => q r.1) _ _ (s1.u67 0)⟩)
  have hb := (hT.2.2 a (by omega)).2
  refine ff (by rw [s1.2.2.2.2]; decide) ⟨fun e => ⟨Or.inr rfl, h1 q ((nI_eq (by omega) (by omega)).mp e) _ (s1.u67 1)⟩, fun e => ⟨Or.inl rfl, h0 (fun r => e (by rw [r.2])) _ _ (s1.u67 0)⟩⟩
theorem c_len0 {post : Int32 → ST → Prop} {p E : Int32} (h : ST4 W X k n p 0) (hp : ∀ X1 : ST, ST4 W X1 k n p 0 → post 0 X1) : wp_Req_readLength post X E := by
  unfold wp_Req_readLength wq_Req_readLength_26
  exact c_byte0 h (fun X1 h1 => tt h1.2.2.2.2 ⟨Or.inl rfl, hp _ (h1.u67 0)⟩)
theorem c_len {post : Int32 → ST → Prop} (hT : TX W B N) (he : e ≤ N) (ha : a ≤ 96) (h : ST4 W X k n (nI a) 1) (h1 : a < e → B a ≤ 127 → ∀ X1 : ST, ST4 W X1 k n (nI (a + 1)) 1 → post (nI (B a)) X1) (h0 : ¬ (a < e ∧ B a ≤ 127) → ∀ (r p : Int32) (X1 : ST), ST4 W X1 k n p 0 → post r X1) : wp_Req_readLength post X (nI e) := by
  have hN := hT.2.1
  unfold wp_Req_readLength wq_Req_readLength_26
  refine c_byte hT he ha h (fun q X1 s1 => ?_) (fun q X1 s1 => tt s1.2.2.2.2 ⟨Or.inl rfl, h0 (fun r => q r.1) _ _ _ (s1.u67 0)⟩)
  have hb := (hT.2.2 a (by omega)).2
  refine ff (by rw [s1.2.2.2.2]; decide) ⟨fun e => ⟨Or.inl rfl, h0 (fun r => ?_) _ _ _ (s1.u67 0)⟩, fun e => ⟨Or.inr rfl, h1 q ?_ _ (s1.u67 1)⟩⟩
  · have := (nI_ltI (by decide) (by omega)).mp (show nI 127 < nI (B a) from e)
    omega
  · rcases Nat.lt_or_ge 127 (B a) with r | r
    · exact absurd (show nI 127 < nI (B a) from nI_lt r (by omega)) e
    · exact r
theorem c_row0 {post : Int32 → ST → Prop} {p E : Int32} (h : ST4 W X k n p 0) (hp : ∀ (r : Int32) (X1 : ST), ST4 W X1 k n p 0 → post r X1) : wp_Req_readRowEnd post X E := by
  unfold wp_Req_readRowEnd wq_Req_readRowEnd_38
  exact c_tag0 h (fun X1 h1 => c_len0 h1 (fun X2 h2 => tt h2.2.2.2.2 ⟨Or.inl rfl, fun _ => hp _ _ (h2.u67 0), nn0⟩))
/-- a row at a that ends not behind e -/
abbrev oR (B : Nat → Nat) (e a : Nat) : Prop := a + 2 + B (a + 1) ≤ e ∧ B a = 48 ∧ B (a + 1) ≤ 127
theorem c_row {post : Int32 → ST → Prop} (hT : TX W B N) (he : e ≤ N) (ha : a ≤ 96) (h : ST4 W X k n (nI a) 1) (h1 : oR B e a → ∀ X1 : ST, ST4 W X1 k n (nI (a + 2)) 1 → post (nI (a + 2 + B (a + 1))) X1) (h0 : ¬ oR B e a → ∀ (r p : Int32) (X1 : ST), ST4 W X1 k n p 0 → post r X1) : wp_Req_readRowEnd post X (nI e) := by
  have hN := hT.2.1
  unfold wp_Req_readRowEnd wq_Req_readRowEnd_38
  refine c_tag (g := 48) hT he (by omega) (by decide) h (fun q1 q2 X1 s1 => c_len hT he (by omega) s1 (fun q3 q4 X2 s2 => ?_) (fun q r p X2 s2 => tt s2.2.2.2.2 ⟨Or.inl rfl, fun _ => h0 (fun o => q ⟨?_, o.2.2⟩) _ _ _ (s2.u67 0), nn0⟩)) (fun q p X1 s1 => c_len0 s1 (fun X2 s2 => tt s2.2.2.2.2 ⟨Or.inl rfl, fun _ => h0 (fun o => q ⟨?_, o.2.1⟩) _ _ _ (s2.u67 0), nn0⟩))
  · have hb := (hT.2.2 (a + 1) (by omega)).2
    rw [s2.2.2.2.2, s2.2.2.2.1, show nI e - nI (a + 1 + 1) = nI (e - (a + 1 + 1)) from pk_sub (by omega), nI_add]
    refine ⟨n1, fun _ => ⟨fun q => ⟨Or.inl rfl, fun _ => h0 (fun o => ?_) _ _ _ (s2.u67 0), nn0⟩, fun q => ⟨Or.inr rfl, n1, fun _ => h1 ⟨?_, q2, q4⟩ _ (s2.u67 1)⟩⟩⟩
    · have := (nI_ltI (by omega) (by omega)).mp q
      have := o.1
      omega
    · rcases Nat.lt_or_ge (e - (a + 1 + 1)) (B (a + 1)) with r | r
      · exact absurd (nI_lt r (by omega)) q
      · omega
  · have := o.1
    omega
  · have := o.1
    omega
theorem c_78 {post : Int32 → ST → Prop} {v2 v3 v4 v5 v6 p : Int32} (m : Nat) (h : ST4 W X k n p 0) (hp : post v5 X) : wq_Req_readNumber_78 post v2 v3 v4 (m + 1) v5 v6 X := by
  rw [wq_Req_readNumber_78]; dsimp only
  exact ⟨fun _ => hp, fun _ => tt h.2.2.2.2 hp⟩
theorem c_num0 {post : Int32 → ST → Prop} {p E : Int32} (h : ST4 W X k n p 0) (hp : ∀ (r : Int32) (X1 : ST), ST4 W X1 k n p 0 → post r X1) : wp_Req_readNumber post X E := by
  unfold wp_Req_readNumber wq_Req_readNumber_37 wq_Req_readNumber_68
  exact c_tag0 h (fun X1 h1 => c_len0 h1 (fun X2 h2 => tt h2.2.2.2.2 ⟨Or.inl rfl, c_byte0 (h2.u67 0) (fun X3 h3 => tt h3.2.2.2.2 ⟨Or.inl rfl, 0 + 1, c_78 0 (h3.u67 0) (hp _ _ (h3.u67 0))⟩)⟩))
theorem c_num {post : Int32 → ST → Prop} (hT : TX W B N) (he : e ≤ N) (ha : a ≤ 96) (h : ST4 W X k n (nI a) 1) (h1 : oN B e a → ∀ X1 : ST, ST4 W X1 k n (nI (a + 2 + B (a + 1))) 1 → post (nI (vl B a)) X1) (h0 : ¬ oN B e a → ∀ (r p : Int32) (X1 : ST), ST4 W X1 k n p 0 → post r X1) : wp_Req_readNumber post X (nI e) := by
  have hN := hT.2.1
  have hB : ∀ j : Nat, j < 96 → B j < 256 := fun j hj => (hT.2.2 j hj).2
  -- once a byte, the tag or the length is wrong
  have bad : ¬ oN B e a → ∀ (r p : Int32) (X1 : ST), ST4 W X1 k n p 0 → wq_Req_readNumber_37 post 0 (nI e) r X1 := by
    intro q r p X1 s1
    unfold wq_Req_readNumber_37 wq_Req_readNumber_68
    exact ⟨Or.inl rfl, c_byte0 (s1.u67 0) (fun X3 h3 => tt h3.2.2.2.2 ⟨Or.inl rfl, 0 + 1, c_78 0 (h3.u67 0) (h0 q _ _ _ (h3.u67 0))⟩)⟩
  unfold wp_Req_readNumber
  refine c_tag (g := 2) hT he (by omega) (by decide) h (fun q1 q2 X1 s1 => c_len hT he (by omega) s1 (fun q3 q4 X2 s2 => ?_) (fun q r p X2 s2 => tt s2.2.2.2.2 (bad (fun o => q ⟨by have := o.1; omega, by have := o.2.2.2.1; omega⟩) _ _ _ s2))) (fun q p X1 s1 => c_len0 s1 (fun X2 s2 => tt s2.2.2.2.2 (bad (fun o => q ⟨by have := o.1; omega, o.2.1⟩) _ _ _ s2)))
  have hL := hB (a + 1) (by omega)
  refine ff (by rw [s2.2.2.2.2]; decide) ⟨fun q => ?_, fun q5 => ⟨fun q => ?_, fun q6 => ?_⟩⟩
  · have := (nI_ltI (by omega) (by decide)).mp (show nI (B (a + 1)) < nI 1 from q)
    -- a length of 0: unsound, though the flag was still up
    unfold wq_Req_readNumber_37 wq_Req_readNumber_68
    exact ⟨Or.inl rfl, c_byte0 (s2.u67 0) (fun X3 h3 => tt h3.2.2.2.2 ⟨Or.inl rfl, 0 + 1, c_78 0 (h3.u67 0) (h0 (fun o => by have := o.2.2.1; omega) _ _ _ (h3.u67 0))⟩)⟩
  · have := (nI_ltI (by decide) (by omega)).mp (show nI 4 < nI (B (a + 1)) from q)
    unfold wq_Req_readNumber_37 wq_Req_readNumber_68
    exact ⟨Or.inl rfl, c_byte0 (s2.u67 0) (fun X3 h3 => tt h3.2.2.2.2 ⟨Or.inl rfl, 0 + 1, c_78 0 (h3.u67 0) (h0 (fun o => by have := o.2.2.2.1; omega) _ _ _ (h3.u67 0))⟩)⟩
  have hL1 : 1 ≤ B (a + 1) := by
    rcases Nat.lt_or_ge (B (a + 1)) 1 with r | r
    · exact absurd (show nI (B (a + 1)) < nI 1 from nI_lt r (by decide)) q5
    · exact r
  have hL4 : B (a + 1) ≤ 4 := by
    rcases Nat.lt_or_ge 4 (B (a + 1)) with r | r
    · exact absurd (show nI 4 < nI (B (a + 1)) from nI_lt r (by omega)) q6
    · exact r
  unfold wq_Req_readNumber_37
  refine ⟨Or.inr rfl, c_byte hT he (by omega) (s2.u67 1) (fun q7 X3 s3 => ?_) (fun q X3 s3 => tt s3.2.2.2.2 ⟨Or.inl rfl, 0 + 1, c_78 0 (s3.u67 0) (h0 (fun o => by have := o.1; omega) _ _ _ (s3.u67 0))⟩)⟩
  have hf := hB (a + 1 + 1) (by omega)
  refine ff (by rw [s3.2.2.2.2]; decide) ⟨fun q => ?_, fun q8 => ⟨Or.inr rfl, B (a + 1) - 1 + 1, ?_⟩⟩
  · have := (nI_ltI (by decide) (by omega)).mp (show nI 127 < nI (B (a + 1 + 1)) from q)
    exact ⟨Or.inl rfl, 0 + 1, c_78 0 (s3.u67 0) (h0 (fun o => by have : B (a + 1 + 1) ≤ 127 := o.2.2.2.2.1; omega) _ _ _ (s3.u67 0))⟩
  have hf2 : B (a + 2) ≤ 127 := by
    rcases Nat.lt_or_ge 127 (B (a + 2)) with r | r
    · exact absurd (show nI 127 < nI (B (a + 2)) from nI_lt r (by have : B (a + 2) < 256 := hf; omega)) q8
    · exact r
  have key : ∀ d i : Nat, i + d = B (a + 1) → 1 ≤ i → a + 2 + i ≤ e → (i = 1 ∨ B (a + 2) ≠ 0 ∨ 127 < B (a + 3)) → ∀ X1 : ST, ST4 W X1 k n (nI (a + 2 + i)) 1 → wq_Req_readNumber_78 post (nI e) (nI (B (a + 1))) (nI (B (a + 2))) (d + 1) (nI (vN B a i)) (nI i) X1 := by
    intro d
    induction d with
    | zero =>
      intro i hi hi1 hie hr X1 t1
      have hi : i = B (a + 1) := hi
      rw [wq_Req_readNumber_78]; dsimp only
      rw [hi] at t1 ⊢
      exact tt (nI_le (Nat.le_refl _) (by omega)) (h1 ⟨by omega, q2, hL1, hL4, hf2, by omega⟩ _ t1)
    | succ d ih =>
      intro i hi hi1 hie hr X1 t1
      rw [wq_Req_readNumber_78]; dsimp only
      refine ff (nI_ge (by omega) (by omega)) (ff (by rw [t1.2.2.2.2]; decide) (c_byte hT he (by omega) t1 (fun q9 X4 s4 => ?_) (fun q X4 s4 => tt s4.2.2.2.2 ?_)))
      · have hb := hB (a + 2 + i) (by omega)
        have hv : vN B a i < 2 ^ 23 := by
          have hlt := vN_lt (B := B) (a := a) (e := 96) hB hf2 (i - 1) (by omega)
          rw [show i - 1 + 1 = i by omega] at hlt
          rcases (show i = 1 ∨ i = 2 ∨ i = 3 by omega) with r | r | r <;> subst r <;> simpa using (Nat.lt_of_lt_of_le hlt (by decide))
        have go : (i = 1 → B (a + 2) ≠ 0 ∨ 127 < B (a + 3)) → wq_Req_readNumber_130 post (wq_Req_readNumber_78 post (nI e) (nI (B (a + 1))) (nI (B (a + 2))) (d + 1)) 1 (nI e) (nI (B (a + 1))) (nI (B (a + 2))) (nI (vN B a i)) (nI i) (nI (B (a + 2 + i))) X4 := by
          intro hr2
          unfold wq_Req_readNumber_130
          rw [vN_s hv hb, nI_1]
          exact ⟨Or.inr rfl, ih (i + 1) (by omega) (by omega) (by omega) (by omega) _ (s4.u67 1)⟩
        have no : ¬ oN B e a → wq_Req_readNumber_130 post (wq_Req_readNumber_78 post (nI e) (nI (B (a + 1))) (nI (B (a + 2))) (d + 1)) 0 (nI e) (nI (B (a + 1))) (nI (B (a + 2))) (nI (vN B a i)) (nI i) (nI (B (a + 2 + i))) X4 := by
          intro q
          unfold wq_Req_readNumber_130
          exact ⟨Or.inl rfl, c_78 d (s4.u67 0) (h0 q _ _ _ (s4.u67 0))⟩
        refine ff (by rw [s4.2.2.2.2]; decide) ⟨fun q => go (fun r => ?_), fun q => ⟨fun z => ⟨fun q10 => no ?_, fun q10 => go (fun r => Or.inr ?_)⟩, fun z => go (fun _ => Or.inl (fun r => z (by rw [r]; rfl)))⟩⟩
        · rw [r] at q
          exact absurd q (by decide)
        · have i1 : i = 1 := by
            rcases Nat.lt_or_ge 1 i with r | r
            · exact absurd (show nI 1 < nI i from nI_lt r (by omega)) q
            · omega
          subst i1
          have z0 : B (a + 2) = 0 := (nI_eq (by omega) (by decide)).mp (show nI (B (a + 2)) = nI 0 from z)
          have z1 : B (a + 2 + 1) ≤ 127 := (nI_leI (by omega) (by decide)).mp (show nI (B (a + 2 + 1)) ≤ nI 127 from q10)
          intro o
          rcases o.2.2.2.2.2 with r | r | r
          · omega
          · exact r z0
          · have : B (a + 2 + 1) = B (a + 3) := rfl
            omega
        · subst r
          have hb3 : B (a + 2 + 1) = B (a + 3) := rfl
          rcases Nat.lt_or_ge 127 (B (a + 3)) with r | r
          · exact r
          · exact absurd (show nI (B (a + 2 + 1)) ≤ nI 127 from nI_le (by omega) (by decide)) q10
      · unfold wq_Req_readNumber_130
        exact ⟨Or.inl rfl, c_78 d (s4.u67 0) (h0 (fun o => by have := o.1; omega) _ _ _ (s4.u67 0))⟩
  have g := key (B (a + 1) - 1) 1 (by omega) (by omega) (by omega) (Or.inl rfl) _ (s3.u67 1)
  rw [show vN B a 1 = B (a + 2) by show 0 * 256 + B (a + 2 + 0) = _; rw [Nat.add_zero]; omega] at g
  exact g
end RD

