-- ===== the bits of a number below 65536, counted twice =====
/-- the same with numbers -/
def cN (N : Nat) : Nat → Nat
  | 0 => 0
  | i + 1 => Nat.add (cN N i) (Nat.mod (Nat.shiftRight N i) 2)
def b1 (a : Nat) : Nat := Nat.sub a (Nat.land (Nat.shiftRight a 1) 1431655765)
def b2 (a : Nat) : Nat := Nat.add (Nat.land a 858993459) (Nat.land (Nat.shiftRight a 2) 858993459)
def b3 (a : Nat) : Nat := Nat.land (Nat.add a (Nat.shiftRight a 4)) 252645135
def b4 (a : Nat) : Nat := Nat.add a (Nat.shiftRight a 8)
def b5 (a : Nat) : Nat := Nat.mod (Nat.add a (Nat.shiftRight a 16)) 64
def bA : Nat → Nat → Bool
  | 0, b => Nat.beq (b5 (b4 (b3 (b2 (b1 b))))) (cN b 16)
  | k + 1, b => (bA k b).and (bA k (Nat.add b (Nat.pow 2 k)))
theorem bA_of : ∀ (k b i : Nat), bA k b = true → i < 2 ^ k → b5 (b4 (b3 (b2 (b1 (b + i))))) = cN (b + i) 16 := by
  intro k
  induction k with
  | zero =>
    intro b i h hi
    have hi : i = 0 := by simpa using hi
    subst hi
    exact Nat.eq_of_beq_eq_true h
  | succ k ih =>
    intro b i h hi
    have h : (bA k b && bA k (b + 2 ^ k)) = true := h
    have h1 : bA k b = true ∧ bA k (b + 2 ^ k) = true := by simpa using h
    rw [Nat.pow_succ] at hi
    rcases Nat.lt_or_ge i (2 ^ k) with h2 | h2
    · exact ih b i h1.1 h2
    · have := ih (b + 2 ^ k) (i - 2 ^ k) h1.2 (by omega)
      rwa [show b + 2 ^ k + (i - 2 ^ k) = b + i by omega] at this
theorem bA_16 : bA 16 0 = true := by decide +kernel

