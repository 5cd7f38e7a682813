-- ===== what the two states have to do with each other =====
/-- the places that both have (no orders, np certificates are there) -/
def cmp (no np f i : Nat) : Prop := (f < 8 ∧ i = 0) ∨ ((f = 10 ∨ f = 11) ∧ i < 6) ∨ ((f = 20 ∨ f = 21 ∨ f = 22 ∨ f = 23 ∨ f = 25) ∧ i < 12) ∨ (f = 24 ∧ i < no) ∨ ((f = 30 ∨ f = 31 ∨ f = 32 ∨ f = 33) ∧ i < 24) ∨ ((f = 40 ∨ f = 41 ∨ f = 42) ∧ i < 48) ∨ ((f = 51 ∨ f = 53 ∨ f = 54) ∧ i < 12) ∨ (f = 55 ∧ i < np) ∨ (f = 61 ∧ i < 8) ∨ (f = 63 ∧ i < 96)
def EQ (no np : Nat) (X Z : ST) (t : Int32) : Prop := (∀ f i : Nat, cmp no np f i → X f i = Z f i) ∧ (∀ o j : Nat, o < 12 → j < 4 → X (1000 + j) o = Z 26 (4 * o + j)) ∧ Z 90 0 = t
theorem EQ.upB {no np : Nat} {X Z : ST} {t : Int32} (h : EQ no np X Z t) (f i : Nat) (v : Int32) (hf : f < 1000 ∧ f ≠ 26 ∧ f ≠ 90) : EQ no np (up X f i v) (up Z f i v) t := by
  refine ⟨fun g j hc => ?_, fun o j ho hj => ?_, ?_⟩
  · by_cases hg : g = f ∧ j = i
    · rw [hg.1, hg.2, up_eq, up_eq]
    · rw [up_ne hg, up_ne hg]
      exact h.1 g j hc
  · rw [show up X f i v (1000 + j) o = X (1000 + j) o from up_ne (by omega), show up Z f i v 26 (4 * o + j) = Z 26 (4 * o + j) from up_ne (by omega)]
    exact h.2.1 o j ho hj
  · rw [show up Z f i v 90 0 = Z 90 0 from up_ne (by omega)]
    exact h.2.2
theorem EQ.thr {no np : Nat} {X Z : ST} {t : Int32} (h : EQ no np X Z t) (v : Int32) : EQ no np X (up Z 90 0 v) v := by
  refine ⟨fun g j hc => ?_, fun o j ho hj => ?_, up_eq _ _ _ _⟩
  · rw [show up Z 90 0 v g j = Z g j from up_ne (by unfold cmp at hc; omega)]
    exact h.1 g j hc
  · rw [show up Z 90 0 v 26 (4 * o + j) = Z 26 (4 * o + j) from up_ne (by omega)]
    exact h.2.1 o j ho hj
theorem EQ.upC {no np : Nat} {X Z : ST} {t : Int32} (h : EQ no np X Z t) (f i : Nat) (v : Int32) (hf : f < 1000 ∧ ¬ cmp no np f i) : EQ no np (up X f i v) Z t := by
  refine ⟨fun g j hc => ?_, fun o j ho hj => ?_, h.2.2⟩
  · rw [show up X f i v g j = X g j from up_ne (fun e => hf.2 (by rw [← e.1, ← e.2]; exact hc))]
    exact h.1 g j hc
  · rw [show up X f i v (1000 + j) o = X (1000 + j) o from up_ne (by omega)]
    exact h.2.1 o j ho hj
theorem EQ.upM {no np : Nat} {X Z : ST} {t : Int32} (h : EQ no np X Z t) (f i : Nat) (v : Int32) (hf : f ≠ 26 ∧ f ≠ 90 ∧ ¬ cmp no np f i) : EQ no np X (up Z f i v) t := by
  refine ⟨fun g j hc => ?_, fun o j ho hj => ?_, ?_⟩
  · rw [show up Z f i v g j = Z g j from up_ne (fun e => hf.2.2 (by rw [← e.1, ← e.2]; exact hc))]
    exact h.1 g j hc
  · rw [show up Z f i v 26 (4 * o + j) = Z 26 (4 * o + j) from up_ne (by omega)]
    exact h.2.1 o j ho hj
  · rw [show up Z f i v 90 0 = Z 90 0 from up_ne (by omega)]
    exact h.2.2
theorem EQ.a {no np : Nat} {X Z : ST} {t : Int32} (h : EQ no np X Z t) (f i : Nat) (hc : cmp no np f i) : Z f i = X f i := (h.1 f i hc).symm
abbrev ky (n : Int32) : Prop := ¬ n < 1000 ∧ ¬ (32767 : Int32) < n
abbrev lv9 (s : Int32) : Prop := s = 0 ∨ s = 1
abbrev fv (s : Int32) : Prop := s = 0 ∨ s = 1 ∨ s = 2 ∨ s = 3 ∨ s = 4
def au (X : ST) (o j : Nat) : Nat := (X (1000 + j) o).toNatClampNeg
def nm9 (X : ST) (o : Nat) : Nat := (X 25 o).toNatClampNeg
/-- the rule of promise 6 on order o -/
def st1 (X : ST) (o : Nat) : Int32 := if lv9 (X 20 o) then (if ∀ j : Nat, j < nm9 X o → lv9 (X 30 (au X o j)) then (if ∀ j : Nat, j < nm9 X o → X 30 (au X o j) = 1 then 1 else X 20 o) else 4) else X 20 o
def stl (no : Nat) (X : ST) : ST := fun f o => if f = 20 ∧ o < no then st1 X o else X f o
/-- numbers of accounts, orders, authorizations, certificates, nonces, bytes -/
def IN (na no nu np nn nt : Nat) (X : ST) : Prop := (X 2 0 = nI na ∧ na ≤ 6) ∧ (X 3 0 = nI no ∧ no ≤ 12) ∧ (X 4 0 = nI nu ∧ nu ≤ 24) ∧ (X 5 0 = nI np ∧ np ≤ 12) ∧ (X 6 0 = nI nn ∧ nn ≤ 8) ∧ (X 7 0 = nI nt ∧ nt ≤ 96)
def IA (na : Nat) (X : ST) : Prop := (∀ i : Nat, i < na → ky (X 11 i)) ∧ ∀ i : Nat, i < 6 → lv9 (X 10 i)
def IR (no nu : Nat) (X : ST) : Prop := (∀ o : Nat, o < 12 → fv (X 20 o)) ∧ (∀ o : Nat, no ≤ o → o < 12 → X 20 o = 0 ∧ X 24 o = -1 ∧ X 25 o = 0) ∧ (∀ o : Nat, o < no → ∃ n : Nat, n ≤ 4 ∧ X 25 o = nI n ∧ ∀ j : Nat, j < n → ∃ a : Nat, a < nu ∧ X (1000 + j) o = nI a)
def IU (na nu : Nat) (X : ST) : Prop := (∀ a : Nat, a < 24 → fv (X 30 a)) ∧ (∀ a : Nat, nu ≤ a → a < 24 → X 30 a = 0) ∧ ∀ a : Nat, a < nu → ∃ k : Nat, k < na ∧ X 31 a = nI k
def IH (nu : Nat) (X : ST) : Prop := (∀ c : Nat, 2 * nu ≤ c → c < 48 → X 40 c = 0 ∧ X 42 c = 0) ∧ ∀ c : Nat, c < 48 → ∃ w : Nat, w ≤ 3 ∧ X 42 c = nI w ∧ (w < 3 ∨ X 40 c = 3)
def IC (no np : Nat) (X : ST) : Prop := (∀ c : Nat, c < np → ∃ o : Nat, o < no ∧ X 51 c = nI o ∧ X 52 c = X 22 o ∧ ((X 55 c = -1 ∧ X 50 c = 0) ∨ (¬ X 55 c < 0 ∧ X 50 c = 1))) ∧ ∀ c : Nat, np ≤ c → c < 12 → X 50 c = 0 ∧ X 55 c = -1
def IT (X : ST) : Prop := ∀ j : Nat, j < 96 → ∃ v : Nat, v < 256 ∧ X 63 j = nI v
def IS (no : Nat) (X : ST) : Prop := ∀ o : Nat, o < no → st1 X o = X 20 o
def IV (na no nu np nn nt : Nat) (X : ST) : Prop := IN na no nu np nn nt X ∧ IA na X ∧ IR no nu X ∧ IU na nu X ∧ IH nu X ∧ IC no np X ∧ IT X ∧ IS no X
def RL (X : ST) (_ : Nat → Int64) (Z : ST) (_ : Int64) : Prop := ∃ (na no nu np nn nt : Nat) (t : Int32), IV na no nu np nn nt X ∧ EQ no np X Z t
theorem rl_0 : ∀ sd : Int32, RL (X0 sd) (fun _ => 0) (Z0 sd) 0 := by
  intro sd
  have hx : ∀ f i : Nat, f ≠ 0 → f ≠ 24 → f ≠ 55 → X0 sd f i = 0 := fun f i h1 h2 h3 => by unfold X0; rw [if_neg h1, if_neg h2, if_neg h3]
  refine ⟨0, 0, 0, 0, 0, 0, 0, ⟨?_, ?_, ?_, ?_, ?_, ?_, ?_, ?_⟩, ?_, ?_, rfl⟩
  · exact ⟨⟨rfl, by decide⟩, ⟨rfl, by decide⟩, ⟨rfl, by decide⟩, ⟨rfl, by decide⟩, ⟨rfl, by decide⟩, ⟨rfl, by decide⟩⟩
  · exact ⟨fun i hi => absurd hi (Nat.not_lt_zero i), fun i _ => Or.inl rfl⟩
  · exact ⟨fun o _ => Or.inl rfl, fun o _ _ => ⟨rfl, rfl, rfl⟩, fun o ho => absurd ho (Nat.not_lt_zero o)⟩
  · exact ⟨fun o _ => Or.inl rfl, fun o _ _ => rfl, fun o ho => absurd ho (Nat.not_lt_zero o)⟩
  · exact ⟨fun c _ _ => ⟨rfl, rfl⟩, fun c _ => ⟨0, by decide, rfl, Or.inl (by decide)⟩⟩
  · exact ⟨fun o ho => absurd ho (Nat.not_lt_zero o), fun c _ _ => ⟨rfl, rfl⟩⟩
  · exact fun j _ => ⟨0, by decide, rfl⟩
  · exact fun o ho => absurd ho (Nat.not_lt_zero o)
  · intro f i hc
    unfold Z0
    by_cases h0 : f = 0
    · subst h0; rfl
    · rw [if_neg h0]
      exact hx f i h0 (fun e => by subst e; unfold cmp at hc; omega) (fun e => by subst e; unfold cmp at hc; omega)
  · intro o j ho hj
    rw [hx (1000 + j) o (by omega) (by omega) (by omega)]
    rfl

