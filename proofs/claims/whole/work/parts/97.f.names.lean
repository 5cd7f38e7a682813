/-- the names of a row that ends at e, as bits; l is the least name that may come next -/
def nmP (B : Nat → Nat) (e : Nat) : Nat → Nat → Nat → Nat → Option Nat
  | 0, _, _, _ => none
  | f + 1, S, l, a => if e ≤ a then (if a = e ∧ l ≠ 0 then some S else none) else (if oN B e a ∧ l ≤ vl B a ∧ vl B a < 16 then nmP B e f (S ||| 2 ^ vl B a) (vl B a + 1) (a + 2 + B (a + 1)) else none)
def VN (S l : Nat) : Prop := S < 2 ^ l ∧ l ≤ 16 ∧ (l ≠ 0 → 2 ^ (l - 1) ≤ S)
theorem VN.z {S l : Nat} (h : VN S l) : S = 0 ↔ l = 0 := by
  constructor
  · intro e
    subst e
    by_cases q : l = 0
    · exact q
    · have := h.2.2 q
      have := Nat.two_pow_pos (l - 1)
      omega
  · intro e
    subst e
    have := h.1
    omega
theorem VN.s {S l v : Nat} (h : VN S l) (hl : l ≤ v) (hv : v < 16) : VN (S ||| 2 ^ v) (v + 1) := by
  refine ⟨?_, by omega, fun _ => ?_⟩
  · refine Nat.or_lt_two_pow ?_ (Nat.pow_lt_pow_right (by decide) (by omega))
    exact Nat.lt_of_lt_of_le h.1 (Nat.pow_le_pow_right (by decide) (by omega))
  · rw [Nat.add_sub_cancel]
    exact Nat.right_le_or
theorem VN.lt {S l : Nat} (h : VN S l) : S < 65536 := Nat.lt_of_lt_of_le h.1 (Nat.le_trans (Nat.pow_le_pow_right (by decide) h.2.1) (by decide))
theorem vl_lt {B : Nat → Nat} {e a : Nat} (hB : ∀ j : Nat, j < 96 → B j < 256) (he : e ≤ 96) (h : oN B e a) : vl B a < 2 ^ 31 := by
  obtain ⟨h1, h2, h3, h4, h5, h6⟩ := h
  have hlt := vN_lt (B := B) (a := a) (e := 96) hB h5 (B (a + 1) - 1) (by omega)
  rw [show B (a + 1) - 1 + 1 = B (a + 1) by omega] at hlt
  refine Nat.lt_of_lt_of_le hlt ?_
  have : (256 : Nat) ^ (B (a + 1) - 1) ≤ 256 ^ 3 := Nat.pow_le_pow_right (by decide) (by omega)
  exact Nat.le_trans (Nat.mul_le_mul_left 128 this) (by decide)
theorem le_pr {v l : Nat} (hv : v < 2 ^ 31) (hl : l ≤ 16) : nI v ≤ nI l - 1 ↔ v < l := by
  cases l with
  | zero =>
    refine ⟨fun q => absurd (Int32.lt_of_le_of_lt q (show nI 0 - 1 < 0 by decide)) (nI_pos hv), fun q => absurd q (Nat.not_lt_zero v)⟩
  | succ m =>
    rw [nI_pred, nI_leI hv (by omega)]
    omega
theorem p2 {v : Nat} (hv : v < 16) : (1 : Int32) <<< (nI v &&& 31) = nI (2 ^ v) := by
  have := pk_shlN (n := 1) (nI v &&& 31) v (sh_all v (by omega)) (by rw [Nat.one_mul]; exact Nat.pow_lt_pow_right (by decide) (by omega))
  rw [Nat.one_mul] at this
  exact this
section NM
variable {W X : ST} {B : Nat → Nat} {N e a : Nat} {k n s v : Int32}
theorem c_96u {post : Int32 → ST → Prop} {E p v3 : Int32} (h : ST4 W X k n p 0) (hp : ∀ (r : Int32) (X1 : ST), ST4 W X1 k n p 0 → post r X1) : wq_Req_readNames_96 post E v3 X := by
  unfold wq_Req_readNames_96 wq_Req_readNames_121
  exact tt h.2.2.2.2 ⟨Or.inl rfl, hp _ _ (h.u67 0)⟩
theorem c_8u {post : Int32 → ST → Prop} {E p v3 v4 v5 : Int32} (m : Nat) (h : ST4 W X k n p 0) (hp : ∀ (r : Int32) (X1 : ST), ST4 W X1 k n p 0 → post r X1) : wq_Req_readNames_8 post E (m + 1) v3 v4 v5 X := by
  rw [wq_Req_readNames_8]; dsimp only
  exact ⟨fun _ => c_96u h hp, fun _ => tt h.2.2.2.2 (c_96u h hp)⟩
theorem c_names0 {post : Int32 → ST → Prop} {E p : Int32} (h : ST4 W X k n p 0) (hp : ∀ (r : Int32) (X1 : ST), ST4 W X1 k n p 0 → post r X1) : wp_Req_readNames post X E := ⟨0 + 1, c_8u 0 h hp⟩
theorem c_96 {post : Int32 → ST → Prop} {S l : Nat} (hV : VN S l) (ha : a ≤ 96) (he : e ≤ 96) (h : ST4 W X k n (nI a) 1) (h1 : a = e ∧ l ≠ 0 → ∀ X1 : ST, ST4 W X1 k n (nI e) 1 → post (nI S) X1) (h0 : ¬ (a = e ∧ l ≠ 0) → ∀ (r p : Int32) (X1 : ST), ST4 W X1 k n p 0 → post r X1) : wq_Req_readNames_96 post (nI e) (nI S) X := by
  have hS := hV.lt
  unfold wq_Req_readNames_96 wq_Req_readNames_121
  refine ff (by rw [h.2.2.2.2]; decide) ⟨fun q => ⟨Or.inl rfl, h0 (fun r => ?_) _ _ _ (h.u67 0)⟩, fun q => ?_⟩
  · have : S = 0 := (nI_eq (by omega) (by decide)).mp (show nI S = nI 0 from q)
    exact r.2 (hV.z.mp this)
  · rw [h.2.2.2.1]
    refine ⟨fun q2 => ?_, fun q2 => ⟨Or.inl rfl, h0 (fun r => q2 (by rw [r.1])) _ _ _ (h.u67 0)⟩⟩
    have hae : a = e := (nI_eq (by omega) (by omega)).mp q2
    subst hae
    exact ⟨Or.inr rfl, h1 ⟨rfl, fun r => q (by rw [hV.z.mpr r]; rfl)⟩ _ (h.u67 1)⟩
theorem c_nm {post : Int32 → ST → Prop} (hT : TX W B N) (he : e ≤ N) : ∀ (d i S l a : Nat) (X : ST), i + d = 16 → i ≤ l → VN S l → a ≤ 96 → ST4 W X k n (nI a) 1 → (∀ S' : Nat, nmP B e (d + 1) S l a = some S' → ∀ X1 : ST, ST4 W X1 k n (nI e) 1 → post (nI S') X1) → (nmP B e (d + 1) S l a = none → ∀ (r p : Int32) (X1 : ST), ST4 W X1 k n p 0 → post r X1) → wq_Req_readNames_8 post (nI e) (d + 1) (nI S) (nI l - 1) (nI i) X := by
  have hN := hT.2.1
  have hB : ∀ j : Nat, j < 96 → B j < 256 := fun j hj => (hT.2.2 j hj).2
  intro d
  induction d with
  | zero =>
    intro i S l a X hi hil hV ha h h1 h0
    have hi : i = 16 := hi
    have hl : l = 16 := by have := hV.2.1; omega
    subst hi
    rw [wq_Req_readNames_8]; dsimp only
    refine tt (by decide) (c_96 hV ha (by omega) h (fun q X1 s1 => h1 S ?_ X1 s1) (fun q r p X1 s1 => h0 ?_ r p X1 s1))
    · show (if e ≤ a then _ else _) = some S
      rw [if_pos (by omega), if_pos q]
    · show (if e ≤ a then _ else _) = none
      by_cases q2 : e ≤ a
      · rw [if_pos q2, if_neg q]
      · rw [if_neg q2, if_neg (by omega)]
  | succ d ih =>
    intro i S l a X hi hil hV ha h h1 h0
    have hl16 := hV.2.1
    rw [wq_Req_readNames_8]; dsimp only
    refine ff (fun q => absurd (show nI 16 ≤ nI i from q) (nI_ge (by omega) (by omega))) (ff (by rw [h.2.2.2.2]; decide) ?_)
    rw [h.2.2.2.1]
    refine ⟨fun q => c_96 hV ha (by omega) h (fun q2 X1 s1 => h1 S ?_ X1 s1) (fun q2 r p X1 s1 => h0 ?_ r p X1 s1), fun q => ?_⟩
    · show (if e ≤ a then _ else _) = some S
      rw [if_pos (by omega), if_pos q2]
    · have : e ≤ a := (nI_leI (by omega) (by omega)).mp q
      show (if e ≤ a then _ else _) = none
      rw [if_pos this, if_neg q2]
    · have hae : ¬ e ≤ a := fun r => q (nI_le r (by omega))
      have no : ¬ (oN B e a ∧ l ≤ vl B a ∧ vl B a < 16) → nmP B e (d + 1 + 1) S l a = none := fun r => by
        show (if e ≤ a then _ else _) = none
        rw [if_neg hae, if_neg r]
      have bad : ∀ (r p : Int32) (X1 : ST), ¬ (oN B e a ∧ l ≤ vl B a ∧ vl B a < 16) → ST4 W X1 k n p 0 → wq_Req_readNames_65 post (wq_Req_readNames_8 post (nI e) (d + 1)) 0 (nI e) (nI S) (nI i) r X1 := by
        intro r p X1 q2 s1
        unfold wq_Req_readNames_65
        exact ⟨Or.inl rfl, fun _ => c_8u d (s1.u67 0) (fun r X2 s2 => h0 (no q2) _ _ _ s2), nn0⟩
      refine c_num hT he (by omega) h (fun o X1 s1 => ff (by rw [s1.2.2.2.2]; decide) ?_) (fun o r p X1 s1 => tt s1.2.2.2.2 (bad r p X1 (fun r => o r.1) s1))
      have hv := vl_lt hB (by omega) o
      have bad1 : ¬ (oN B e a ∧ l ≤ vl B a ∧ vl B a < 16) → wq_Req_readNames_65 post (wq_Req_readNames_8 post (nI e) (d + 1)) 0 (nI e) (nI S) (nI i) (nI (vl B a)) X1 := by
        intro q2
        unfold wq_Req_readNames_65
        exact ⟨Or.inl rfl, fun _ => c_8u d (s1.u67 0) (fun r X2 s2 => h0 (no q2) _ _ _ s2), nn0⟩
      refine ⟨fun q2 => bad1 (fun r => ?_), fun q2 => ⟨fun q3 => bad1 (fun r => ?_), fun q3 => ?_⟩⟩
      · have := (le_pr hv hl16).mp q2
        omega
      · have := (nI_leI (by decide) hv).mp (show nI 16 ≤ nI (vl B a) from q3)
        omega
      · have v1 : l ≤ vl B a := by
          rcases Nat.lt_or_ge (vl B a) l with r | r
          · exact absurd ((le_pr hv hl16).mpr r) q2
          · exact r
        have v2 : vl B a < 16 := by
          rcases Nat.lt_or_ge (vl B a) 16 with r | r
          · exact r
          · exact absurd (show nI 16 ≤ nI (vl B a) from nI_le r hv) q3
        have st : nmP B e (d + 1 + 1) S l a = nmP B e (d + 1) (S ||| 2 ^ vl B a) (vl B a + 1) (a + 2 + B (a + 1)) := by
          show (if e ≤ a then _ else _) = _
          rw [if_neg hae, if_pos ⟨o, v1, v2⟩]
        rw [st] at h1 h0
        unfold wq_Req_readNames_65
        rw [p2 v2, nI_or, nI_1, show nI (vl B a) = nI (vl B a + 1) - 1 from (nI_pred _).symm]
        exact ⟨Or.inr rfl, n1, fun _ => ih (i + 1) _ (vl B a + 1) _ _ (by omega) (by omega) (hV.s v1 v2) (by have := o.1; omega) (s1.u67 1) h1 h0⟩
theorem c_names {post : Int32 → ST → Prop} (hT : TX W B N) (he : e ≤ N) (ha : a ≤ 96) (h : ST4 W X k n (nI a) 1) (h1 : ∀ S' : Nat, nmP B e 17 0 0 a = some S' → ∀ X1 : ST, ST4 W X1 k n (nI e) 1 → post (nI S') X1) (h0 : nmP B e 17 0 0 a = none → ∀ (r p : Int32) (X1 : ST), ST4 W X1 k n p 0 → post r X1) : wp_Req_readNames post X (nI e) :=
  ⟨17, c_nm hT he 16 0 0 0 a X rfl (Nat.le_refl 0) ⟨by decide, by decide, fun q => absurd rfl q⟩ ha h h1 h0⟩
end NM
/-- where the names' row begins and ends -/
abbrev rA (B : Nat → Nat) : Nat := 2 + 2 + B (2 + 1)
abbrev rE (B : Nat → Nat) : Nat := rA B + 2 + B (rA B + 1)
def d3 (k n : Int32) : Int32 := dE (mx (mx (mx 0 9) k) n)
/-- the text is a request with the key vl B 2 for the names S -/
def RQ (B : Nat → Nat) (N S : Nat) : Prop := oR B N 0 ∧ 0 + 2 + B (0 + 1) = N ∧ oN B N 2 ∧ oR B N (rA B) ∧ nmP B (rE B) 17 0 0 (rA B + 2) = some S ∧ oN B N (rE B) ∧ rE B + 2 + B (rE B + 1) = N ∧ ky (nI (vl B 2)) ∧ rt (nI (vl B (rE B))) (d3 (nI (vl B 2)) (nI S)) (nI (vl B 2))
theorem c_sd {post : Int32 → ST → Prop} {X : ST} (h : post (d3 (X 64 0) (X 65 0)) X) : wp_Req_signedDigest post X := h
section RF
variable {W : ST} {B : Nat → Nat} {N : Nat}
theorem c_41u {post : Int32 → ST → Prop} {X : ST} {k n p v2 : Int32} (h : ST4 W X k n p 0) (hp : ∀ (k n p s : Int32) (X1 : ST), ST4 W X1 k n p s → post 0 X1) : wq_Req_readFrom_41 post 0 v2 X := by
  unfold wq_Req_readFrom_41
  exact ⟨Or.inl rfl, c_num0 (h.u67 0) (fun r1 X1 s1 => c_row0 (s1.u64 r1) (fun r2 X2 s2 => c_names0 s2 (fun r3 X3 s3 => c_num0 (s3.u65 r3) (fun r4 X4 s4 => tt s4.2.2.2.2 (hp _ _ _ _ _ s4)))))⟩
theorem c_from {post : Int32 → ST → Prop} (hT : TX W B N) (h1 : ∀ S : Nat, RQ B N S → ∀ (p s : Int32) (X1 : ST), ST4 W X1 (nI (vl B 2)) (nI S) p s → post 1 X1) (h0 : (¬ ∃ S : Nat, RQ B N S) → ∀ (k n p s : Int32) (X1 : ST), ST4 W X1 k n p s → post 0 X1) : wp_Req_readFrom post W := by
  have hN := hT.2.1
  have s0 : ST4 W (up (up W 66 0 0) 67 0 1) (W 64 0) (W 65 0) (nI 0) 1 := ST4.u67 (ST4.u66 (s := W 67 0) ⟨fun _ _ _ => rfl, rfl, rfl, rfl, rfl⟩ 0) 1
  unfold wp_Req_readFrom
  rw [hT.1]
  refine c_row (a := 0) hT (Nat.le_refl N) (by decide) s0 (fun o1 X1 s1 => ff (by rw [s1.2.2.2.2]; decide) ?_) (fun o r p X1 s1 => tt s1.2.2.2.2 (c_41u s1 (h0 (fun ⟨S, q⟩ => o q.1))))
  rw [(s1.1 7 0 (by omega)).trans hT.1]
  have hb1 := (hT.2.2 1 (by decide)).2
  refine ⟨fun q => ?_, fun q => ?_⟩
  · have e1 : 0 + 2 + B (0 + 1) = N := (nI_eq (by have := o1.1; omega) (by omega)).mp q
    rw [e1]
    unfold wq_Req_readFrom_41
    refine ⟨Or.inr rfl, c_num (a := 2) hT (Nat.le_refl N) (by decide) (s1.u67 1) (fun o2 X2 s2 => ?_) (fun o r p X2 s2 => ?_)⟩
    · have hA : rA B ≤ N := o2.1
      refine c_row (a := rA B) hT (Nat.le_refl N) (by omega) (s2.u64 _) (fun o3 X3 s3 => ?_) (fun o r p X3 s3 => ?_)
      · have hE : rE B ≤ N := o3.1
        refine c_names (e := rE B) hT hE (by omega) s3 (fun S n4 X4 s4 => ?_) (fun n4 r p X4 s4 => ?_)
        · refine c_num (a := rE B) hT (Nat.le_refl N) (by omega) (s4.u65 _) (fun o5 X5 s5 => ff (by rw [s5.2.2.2.2]; decide) ?_) (fun o r p X5 s5 => tt s5.2.2.2.2 (h0 (fun ⟨S, q⟩ => o q.2.2.2.2.2.1) _ _ _ _ _ s5))
          rw [s5.2.2.2.1, s5.2.1]
          refine ⟨fun q6 => ?_, fun q6 => h0 (fun ⟨S, q⟩ => q6 (by rw [q.2.2.2.2.2.2.1])) _ _ _ _ _ s5⟩
          have e6 : rE B + 2 + B (rE B + 1) = N := (nI_eq (by have := o5.1; omega) (by omega)).mp q6
          refine c_isKey (br_b (fun q7 => h0 (fun ⟨S, q⟩ => q7 q.2.2.2.2.2.2.2.1) _ _ _ _ _ s5) (fun q7 => c_sd ?_))
          rw [s5.2.1, s5.2.2.1]
          refine c_isRight q7 (br_b (fun q8 => h0 (fun ⟨S', q⟩ => q8 ?_) _ _ _ _ _ s5) (fun q8 => h1 S ⟨o1, e1, o2, o3, n4, o5, e6, q7, q8⟩ _ _ _ s5))
          have : S' = S := Option.some.inj (q.2.2.2.2.1.symm.trans n4)
          rw [← this]
          exact q.2.2.2.2.2.2.2.2
        · refine c_num0 (s4.u65 _) (fun r4 X5 s5 => tt s5.2.2.2.2 (h0 (fun ⟨S, q⟩ => ?_) _ _ _ _ _ s5))
          have := q.2.2.2.2.1.symm.trans n4
          exact absurd this (by simp)
      · exact c_names0 s3 (fun r3 X4 s4 => c_num0 (s4.u65 r3) (fun r4 X5 s5 => tt s5.2.2.2.2 (h0 (fun ⟨S, q⟩ => o q.2.2.2.1) _ _ _ _ _ s5)))
    · exact c_row0 (s2.u64 r) (fun r2 X3 s3 => c_names0 s3 (fun r3 X4 s4 => c_num0 (s4.u65 r3) (fun r4 X5 s5 => tt s5.2.2.2.2 (h0 (fun ⟨S, q⟩ => o q.2.2.1) _ _ _ _ _ s5))))
  · -- the row is not the whole text
    have : ¬ ∃ S : Nat, RQ B N S := fun ⟨S, r⟩ => q (by rw [r.2.1])
    unfold wq_Req_readFrom_41
    exact ⟨Or.inl rfl, c_num0 (s1.u67 0) (fun r1 X1 s1 => c_row0 (s1.u64 r1) (fun r2 X2 s2 => c_names0 s2 (fun r3 X3 s3 => c_num0 (s3.u65 r3) (fun r4 X4 s4 => tt s4.2.2.2.2 (h0 this _ _ _ _ _ s4)))))⟩
end RF

