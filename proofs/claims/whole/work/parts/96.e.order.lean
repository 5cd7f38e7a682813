-- ===== names: bits =====
abbrev hs (n : Int32) (i : Nat) : Prop := ((n >>> (nI i &&& 31)) &&& (1 : Int32)) = (1 : Int32)
def cn (n : Int32) : Nat → Nat
  | 0 => 0
  | i + 1 => if hs n i then cn n i + 1 else cn n i
theorem cn_le (n : Int32) : ∀ i : Nat, cn n i ≤ i := by
  intro i
  induction i with
  | zero => exact Nat.le_refl 0
  | succ i ih =>
    show (if hs n i then cn n i + 1 else cn n i) ≤ i + 1
    split <;> omega
theorem cn_mono (n : Int32) (i : Nat) : ∀ d : Nat, cn n i ≤ cn n (i + d) := by
  intro d
  induction d with
  | zero => exact Nat.le_refl _
  | succ d ih =>
    show cn n i ≤ (if hs n (i + d) then cn n (i + d) + 1 else cn n (i + d))
    split <;> omega
theorem hs_N {N i : Nat} (h : N < 2 ^ 31) (hi : i < 31) : hs (nI N) i ↔ N / 2 ^ i % 2 = 1 := by
  unfold hs
  rw [pk_shrN h _ i (sh_all i hi), pk_andN (Nat.lt_of_le_of_lt (Nat.div_le_self _ _) (by omega)) 1 rfl]
  have : N / 2 ^ i % 2 ^ 1 < 2 := Nat.mod_lt _ (by decide)
  rw [show (1 : Int32) = nI 1 from rfl, nI_eq (by omega) (by decide)]
theorem cn_N {N : Nat} (h : N < 2 ^ 31) : ∀ i : Nat, i ≤ 31 → cn (nI N) i = cN N i := by
  intro i
  induction i with
  | zero => intro _; rfl
  | succ i ih =>
    intro hi
    show (if hs (nI N) i then cn (nI N) i + 1 else cn (nI N) i) = cN N i + (N >>> i) % 2
    rw [ih (by omega), Nat.shiftRight_eq_div_pow]
    have h2 : N / 2 ^ i % 2 < 2 := Nat.mod_lt _ (by decide)
    by_cases e : hs (nI N) i
    · rw [if_pos e, (hs_N h (by omega)).mp e]
    · rw [if_neg e]
      have : N / 2 ^ i % 2 ≠ 1 := fun q => e ((hs_N h (by omega)).mpr q)
      omega
theorem nI_and (a b : Nat) : nI a &&& nI b = nI (a &&& b) := by
  apply Int32.toBitVec_inj.mp
  rw [Int32.toBitVec_and]
  show BitVec.ofNat 32 a &&& BitVec.ofNat 32 b = BitVec.ofNat 32 (a &&& b)
  exact (BitVec.ofNat_and).symm
theorem c_bits {post : Int32 → ST → Prop} {X : ST} {N : Nat} (hN : N < 65536) (h : post (nI (cn (nI N) 16)) X) : wp_Int_bitCount post X (nI N) := by
  rw [cn_N (by omega) 16 (by decide)] at h
  have hb := bA_of 16 0 N bA_16 hN
  rw [Nat.zero_add] at hb
  rw [← hb] at h
  have s1 : ∀ n : Nat, n < 2 ^ 32 → ((nI n).toUInt32 >>> ((1 : Int32).toUInt32 &&& Int32.toUInt32 31)).toInt32 = nI (n >>> 1) := fun n hn => (pk_ushrN hn 1 1 rfl).trans (by rw [Nat.shiftRight_eq_div_pow])
  have s2 : ∀ n : Nat, n < 2 ^ 32 → ((nI n).toUInt32 >>> ((2 : Int32).toUInt32 &&& Int32.toUInt32 31)).toInt32 = nI (n >>> 2) := fun n hn => (pk_ushrN hn 2 2 rfl).trans (by rw [Nat.shiftRight_eq_div_pow])
  have s4 : ∀ n : Nat, n < 2 ^ 32 → ((nI n).toUInt32 >>> ((4 : Int32).toUInt32 &&& Int32.toUInt32 31)).toInt32 = nI (n >>> 4) := fun n hn => (pk_ushrN hn 4 4 rfl).trans (by rw [Nat.shiftRight_eq_div_pow])
  have s8 : ∀ n : Nat, n < 2 ^ 32 → ((nI n).toUInt32 >>> ((8 : Int32).toUInt32 &&& Int32.toUInt32 31)).toInt32 = nI (n >>> 8) := fun n hn => (pk_ushrN hn 8 8 rfl).trans (by rw [Nat.shiftRight_eq_div_pow])
  have s16 : ∀ n : Nat, n < 2 ^ 32 → ((nI n).toUInt32 >>> ((16 : Int32).toUInt32 &&& Int32.toUInt32 31)).toInt32 = nI (n >>> 16) := fun n hn => (pk_ushrN hn 16 16 rfl).trans (by rw [Nat.shiftRight_eq_div_pow])
  have lr : ∀ a k : Nat, a >>> k ≤ a := fun a k => by rw [Nat.shiftRight_eq_div_pow]; exact Nat.div_le_self _ _
  have e1 : nI N - (((nI N).toUInt32 >>> ((1 : Int32).toUInt32 &&& Int32.toUInt32 31)).toInt32 &&& (1431655765 : Int32)) = nI (b1 N) := by
    rw [s1 N (by omega), show (1431655765 : Int32) = nI 1431655765 from rfl, nI_and, pk_sub (Nat.le_trans Nat.and_le_left (lr N 1))]
    rfl
  have h1 : b1 N ≤ N := Nat.sub_le _ _
  have e2 : (nI (b1 N) &&& (858993459 : Int32)) + ((((nI (b1 N)).toUInt32 >>> ((2 : Int32).toUInt32 &&& Int32.toUInt32 31)).toInt32) &&& (858993459 : Int32)) = nI (b2 (b1 N)) := by
    rw [s2 _ (by omega), show (858993459 : Int32) = nI 858993459 from rfl, nI_and, nI_and, nI_add]
    rfl
  have h2 : b2 (b1 N) ≤ 131072 := by
    have q1 : b1 N &&& 858993459 ≤ b1 N := Nat.and_le_left
    have q2 : (b1 N >>> 2) &&& 858993459 ≤ b1 N >>> 2 := Nat.and_le_left
    have q3 := lr (b1 N) 2
    have q4 : b2 (b1 N) = (b1 N &&& 858993459) + ((b1 N >>> 2) &&& 858993459) := rfl
    omega
  have e3 : (nI (b2 (b1 N)) + ((nI (b2 (b1 N))).toUInt32 >>> ((4 : Int32).toUInt32 &&& Int32.toUInt32 31)).toInt32) &&& (252645135 : Int32) = nI (b3 (b2 (b1 N))) := by
    rw [s4 _ (by omega), show (252645135 : Int32) = nI 252645135 from rfl, nI_add, nI_and]
    rfl
  have h3 : b3 (b2 (b1 N)) ≤ 262144 := by
    have q1 : (b2 (b1 N) + b2 (b1 N) >>> 4) &&& 252645135 ≤ b2 (b1 N) + b2 (b1 N) >>> 4 := Nat.and_le_left
    have q3 := lr (b2 (b1 N)) 4
    have q4 : b3 (b2 (b1 N)) = (b2 (b1 N) + b2 (b1 N) >>> 4) &&& 252645135 := rfl
    omega
  have e4 : nI (b3 (b2 (b1 N))) + ((nI (b3 (b2 (b1 N)))).toUInt32 >>> ((8 : Int32).toUInt32 &&& Int32.toUInt32 31)).toInt32 = nI (b4 (b3 (b2 (b1 N)))) := by
    rw [s8 _ (by omega), nI_add]
    rfl
  have h4 : b4 (b3 (b2 (b1 N))) ≤ 524288 := by
    have q3 := lr (b3 (b2 (b1 N))) 8
    have q4 : b4 (b3 (b2 (b1 N))) = b3 (b2 (b1 N)) + b3 (b2 (b1 N)) >>> 8 := rfl
    omega
  have e5 : (nI (b4 (b3 (b2 (b1 N)))) + ((nI (b4 (b3 (b2 (b1 N))))).toUInt32 >>> ((16 : Int32).toUInt32 &&& Int32.toUInt32 31)).toInt32) &&& (63 : Int32) = nI (b5 (b4 (b3 (b2 (b1 N))))) := by
    have q3 := lr (b4 (b3 (b2 (b1 N)))) 16
    rw [s16 _ (by omega), nI_add, pk_andN (by omega) 6 rfl]
    rfl
  unfold wp_Int_bitCount
  rw [e1, e2, e3, e4, e5]
  exact h

