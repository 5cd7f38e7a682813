-- ===== keys, digests, powers, signatures =====
def bI (p : Prop) [Decidable p] : Int32 := if p then 1 else 0
theorem bI_t {p : Prop} [Decidable p] (h : p) : bI p = 1 := if_pos h
theorem bI_f {p : Prop} [Decidable p] (h : ¬ p) : bI p = 0 := if_neg h
theorem bI_0 {p : Prop} [Decidable p] : bI p = 0 ↔ ¬ p := by
  unfold bI
  by_cases h : p
  · rw [if_pos h]; exact ⟨fun e => absurd e (by decide), fun e => absurd h e⟩
  · rw [if_neg h]; exact ⟨fun _ => h, fun _ => rfl⟩
theorem br_b {p : Prop} [Decidable p] {A B : Prop} (a : ¬ p → A) (b : p → B) : (bI p = 0 → A) ∧ (¬ bI p = 0 → B) := by
  by_cases h : p
  · exact ⟨fun e => absurd h (bI_0.mp e), fun _ => b h⟩
  · exact ⟨fun _ => a h, fun e => absurd (bI_f h) e⟩
theorem c_isKey {post : Int32 → ST → Prop} {X : ST} {n : Int32} (h : post (bI (ky n)) X) : wp_CA_isKey post X n := by
  unfold wp_CA_isKey
  refine ⟨fun a => ?_, fun a => ⟨fun b => ?_, fun b => ?_⟩⟩
  · rw [bI_f (fun k : ky n => k.1 a)] at h; exact h
  · rw [bI_f (fun k : ky n => k.2 b)] at h; exact h
  · rw [bI_t (show ky n from ⟨a, b⟩)] at h; exact h
theorem m_isKey {post : Int32 → ST → Int64 → Prop} {X : ST} {Y : Int64} {n : Int32} (h : post (bI (ky n)) X Y) : wp_MO_isKey post X Y n := by
  unfold wp_MO_isKey
  refine ⟨fun a => ?_, fun a => ⟨fun b => ?_, fun b => ?_⟩⟩
  · rw [bI_f (fun k : ky n => k.1 a)] at h; exact h
  · rw [bI_f (fun k : ky n => k.2 b)] at h; exact h
  · rw [bI_t (show ky n from ⟨a, b⟩)] at h; exact h
theorem ky_nat {n : Int32} (h : ky n) : ∃ N : Nat, 1000 ≤ N ∧ N ≤ 32767 ∧ n = nI N := by
  have h1 : ¬ n < 0 := fun a => h.1 (Int32.lt_iff_toInt_lt.mpr (Int.lt_trans (Int32.lt_iff_toInt_lt.mp a) (by decide)))
  obtain ⟨N, hN, rfl⟩ := nI_of h1
  refine ⟨N, ?_, ?_, rfl⟩
  · rcases Nat.lt_or_ge N 1000 with a | a
    · exact absurd (show nI N < nI 1000 from nI_lt a (by decide)) h.1
    · exact a
  · rcases Nat.lt_or_ge 32767 N with a | a
    · exact absurd (show nI 32767 < nI N from nI_lt a hN) h.2
    · exact a
theorem pw_dbl (q m : Nat) : (q * q) ^ m = q ^ (2 * m) := by
  rw [Nat.mul_pow, ← Nat.pow_add]
  congr 1
  omega
theorem pw_odd (r q l N : Nat) (h : l % 2 = 1) : (r * q % N * (q * q % N) ^ (l / 2)) % N = r * q ^ l % N := by
  have e : q ^ l = q * q ^ (2 * (l / 2)) := by
    rw [← Nat.pow_succ']
    congr 1
    omega
  rw [Nat.mul_mod, ← Nat.pow_mod, Nat.mod_mod, ← Nat.mul_mod, pw_dbl, e, Nat.mul_assoc]
theorem pw_even (r q l N : Nat) (h : l % 2 = 0) : (r * (q * q % N) ^ (l / 2)) % N = r * q ^ l % N := by
  have e : q ^ l = q ^ (2 * (l / 2)) := by
    congr 1
    omega
  rw [Nat.mul_mod, ← Nat.pow_mod, ← Nat.mul_mod, pw_dbl, e]
theorem c_powL {post : Int32 → ST → Prop} {X : ST} {N : Nat} (h1 : 1000 ≤ N) (h2 : N ≤ 32767) : ∀ (k l r q : Nat), l < 2 ^ k → k ≤ 31 → r < N → q < N → post (nI (r * q ^ l % N)) X → wq_CA_powerModulo_10 post (nI N) (k + 1) (nI r) (nI q) (nI l) X := by
  have hN0 : ¬ nI N = 0 := nI_ne0 (by omega) (by omega)
  have zero : ∀ (k r q : Nat), r < N → post (nI (r * q ^ 0 % N)) X → wq_CA_powerModulo_10 post (nI N) (k + 1) (nI r) (nI q) (nI 0) X := by
    intro k r q hr hp
    rw [Nat.pow_zero, Nat.mul_one, Nat.mod_eq_of_lt hr] at hp
    dsimp only [wq_CA_powerModulo_10]
    exact ⟨fun _ => hp, fun a => absurd (show nI 0 ≤ 0 by decide) a⟩
  intro k
  induction k with
  | zero =>
    intro l r q hl _ hr _ hp
    have h0 : l = 0 := by simpa using hl
    subst h0
    exact zero 0 r q hr hp
  | succ k ih =>
    intro l r q hl hk hr hq hp
    rcases Nat.eq_zero_or_pos l with h0 | h0
    · subst h0
      exact zero (k + 1) r q hr hp
    · have hl31 : l < 2 ^ 31 := Nat.lt_of_lt_of_le hl (Nat.pow_le_pow_right (by decide) hk)
      have hl2 : l / 2 < 2 ^ k := by
        rw [Nat.pow_succ] at hl
        omega
      have hrq : r * q < 2 ^ 31 := by
        have h3 : r * q ≤ 32767 * 32767 := Nat.mul_le_mul (by omega) (by omega)
        omega
      have hqq : q * q < 2 ^ 31 := by
        have h3 : q * q ≤ 32767 * 32767 := Nat.mul_le_mul (by omega) (by omega)
        omega
      have hpar : nI l &&& (1 : Int32) = nI (l % 2) := pk_andN (by omega) 1 (by decide)
      have hsh : nI l >>> ((1 : Int32) &&& 31) = nI (l / 2) := pk_shrN hl31 _ 1 (by decide)
      have hsq : nI q * nI q - nI q * nI q / nI N * nI N = nI (q * q % N) := by
        rw [pk_mul]
        exact pk_rem hqq (by omega) (by omega)
      have hmu : nI r * nI q - nI r * nI q / nI N * nI N = nI (r * q % N) := by
        rw [pk_mul]
        exact pk_rem hrq (by omega) (by omega)
      dsimp only [wq_CA_powerModulo_10]
      refine ⟨fun a => absurd a (nI_nle h0 hl31), fun _ => ⟨fun a => ⟨hN0, ?_⟩, fun a => ?_⟩⟩
      · unfold wq_CA_powerModulo_30
        refine ⟨hN0, ?_⟩
        rw [hsh, hsq, hmu]
        have hodd : l % 2 = 1 := by
          rw [hpar] at a
          exact (nI_eq (by omega) (by decide)).mp (show nI (l % 2) = nI 1 from a)
        refine ih (l / 2) (r * q % N) (q * q % N) hl2 (by omega) (Nat.mod_lt _ (by omega)) (Nat.mod_lt _ (by omega)) ?_
        rw [pw_odd r q l N hodd]
        exact hp
      · unfold wq_CA_powerModulo_30
        refine ⟨hN0, ?_⟩
        rw [hsh, hsq]
        have heven : l % 2 = 0 := by
          rcases (show l % 2 = 0 ∨ l % 2 = 1 by omega) with h9 | h9
          · exact h9
          · rw [hpar, h9] at a
            exact absurd rfl a
        refine ih (l / 2) r (q * q % N) hl2 (by omega) hr (Nat.mod_lt _ (by omega)) ?_
        rw [pw_even r q l N heven]
        exact hp
theorem c_pow {post : Int32 → ST → Prop} {X : ST} {b e N : Nat} (hb : b < 2 ^ 31) (he : e < 2 ^ 31) (h1 : 1000 ≤ N) (h2 : N ≤ 32767) (h : post (nI (b ^ e % N)) X) : wp_CA_powerModulo post X (nI b) (nI e) (nI N) := by
  unfold wp_CA_powerModulo
  refine ⟨nI_ne0 (by omega) (by omega), 31 + 1, ?_⟩
  rw [pk_rem hb (by omega) (by omega)]
  refine c_powL h1 h2 31 e 1 (b % N) he (by decide) (by omega) (Nat.mod_lt _ (by omega)) ?_
  rw [Nat.one_mul, ← Nat.pow_mod]
  exact h
theorem sh_all : ∀ k : Nat, k < 31 → ((nI k &&& (31 : Int32)).toBitVec.smod 32).toNat = k := by decide +kernel
theorem m_powL {post : Int64 → ST → Int64 → Prop} {Z : ST} {Y : Int64} {b e N : Nat} (hb : b < 2 ^ 31) (he : e < 2 ^ 31) (h1 : 1000 ≤ N) (h2 : N ≤ 32767) (h : post (lN (b ^ e % N)) Z Y) : ∀ (k : Nat), k < 31 → wq_MO_raised_10 post (lN b) (nI e) (nI N) (k + 2) (lN (b ^ (e / 2 ^ (k + 1)) % N)) (nI k) Z Y := by
  have hNl : (nI N).toInt64 = lN N := nI_l (by omega)
  have hN0 : ¬ lN N = 0 := fun a => by
    have := (pk_lEQ (a := N) (b := 0) (by omega) (by decide)).mp a
    omega
  have step : ∀ (k n : Nat), k < 31 → wq_MO_raised_10 post (lN b) (nI e) (nI N) n (lN (b ^ (e / 2 ^ k) % N)) (nI k + (-1 : Int32)) Z Y → wq_MO_raised_10 post (lN b) (nI e) (nI N) (n + 1) (lN (b ^ (e / 2 ^ (k + 1)) % N)) (nI k) Z Y := by
    intro k n hk hr
    generalize hR : b ^ (e / 2 ^ (k + 1)) % N = R
    have hRN : R < N := by rw [← hR]; exact Nat.mod_lt _ (by omega)
    have hRR : R * R < 2 ^ 63 := by
      have h3 : R * R ≤ 32767 * 32767 := Nat.mul_le_mul (by omega) (by omega)
      omega
    have hsq : lN R * lN R - lN R * lN R / lN N * lN N = lN (R * R % N) := by
      rw [lN_mul]
      exact pk_lRem hRR (by omega) (by omega)
    have hbN : lN b - lN b / lN N * lN N = lN (b % N) := pk_lRem (by omega) (by omega) (by omega)
    have hmu : lN (R * R % N) * lN (b % N) - lN (R * R % N) * lN (b % N) / lN N * lN N = lN (R * R % N * (b % N) % N) := by
      rw [lN_mul]
      refine pk_lRem ?_ (by omega) (by omega)
      have h3 : R * R % N * (b % N) ≤ 32767 * 32767 := Nat.mul_le_mul (Nat.le_trans (Nat.le_of_lt (Nat.mod_lt _ (by omega))) h2) (Nat.le_trans (Nat.le_of_lt (Nat.mod_lt _ (by omega))) h2)
      omega
    have hsh : nI e >>> (nI k &&& (31 : Int32)) = nI (e / 2 ^ k) := pk_shrN he _ k (sh_all k hk)
    have hek : e / 2 ^ k < 2 ^ 31 := Nat.lt_of_le_of_lt (Nat.div_le_self _ _) he
    have hbit : nI (e / 2 ^ k) &&& (1 : Int32) = nI (e / 2 ^ k % 2) := pk_andN (by omega) 1 (by decide)
    have hdiv : e / 2 ^ (k + 1) = e / 2 ^ k / 2 := by rw [Nat.pow_succ, Nat.div_div_eq_div_mul]
    have hRR2 : R * R % N = b ^ (2 * (e / 2 ^ k / 2)) % N := by
      rw [← hR, ← Nat.mul_mod, ← Nat.pow_add, hdiv]
      congr 2
      omega
    dsimp only [wq_MO_raised_10]
    rw [hNl, hsq, hbN, hmu, hsh, hbit]
    refine ⟨fun a => absurd a (nI_pos (by omega)), fun _ => ⟨hN0, fun a => ⟨hN0, hN0, ?_⟩, fun a => ?_⟩⟩
    · have hodd : e / 2 ^ k % 2 = 1 := (nI_eq (by omega) (by decide)).mp (show nI (e / 2 ^ k % 2) = nI 1 from a)
      have e1 : R * R % N * (b % N) % N = b ^ (e / 2 ^ k) % N := by
        rw [hRR2, ← Nat.mul_mod, ← Nat.pow_succ]
        congr 2
        omega
      rw [e1]
      exact hr
    · have heven : e / 2 ^ k % 2 = 0 := by
        rcases (show e / 2 ^ k % 2 = 0 ∨ e / 2 ^ k % 2 = 1 by omega) with h9 | h9
        · exact h9
        · rw [h9] at a
          exact absurd rfl a
      have e1 : R * R % N = b ^ (e / 2 ^ k) % N := by
        rw [hRR2]
        congr 2
        omega
      rw [e1]
      exact hr
  intro k
  induction k with
  | zero =>
    intro hk
    refine step 0 1 hk ?_
    rw [Nat.pow_zero, Nat.div_one]
    dsimp only [wq_MO_raised_10]
    exact ⟨fun _ => h, fun a => absurd (show nI 0 + (-1 : Int32) < 0 by decide) a⟩
  | succ k ih =>
    intro hk
    refine step (k + 1) (k + 2) hk ?_
    rw [pk_m1]
    exact ih (by omega)
theorem m_pow {post : Int64 → ST → Int64 → Prop} {Z : ST} {Y : Int64} {b e N : Nat} (hb : b < 2 ^ 31) (he : e < 2 ^ 31) (h1 : 1000 ≤ N) (h2 : N ≤ 32767) (h : post (lN (b ^ e % N)) Z Y) : wp_MO_raised post Z Y (lN b) (nI e) (nI N) := by
  have hNl : (nI N).toInt64 = lN N := nI_l (by omega)
  unfold wp_MO_raised
  rw [hNl]
  refine ⟨fun a => by have := (pk_lEQ (a := N) (b := 0) (by omega) (by decide)).mp a; omega, 30 + 2, ?_⟩
  have h9 := m_powL hb he h1 h2 h 30 (by decide)
  have e0 : e / 2 ^ (30 + 1) = 0 := Nat.div_eq_of_lt he
  rw [e0, Nat.pow_zero] at h9
  rw [show (1 : Int64) - 1 / lN N * lN N = lN (1 % N) from pk_lRem (a := 1) (by decide) (by omega) (by omega)]
  exact h9
/-- a signature is right -/
abbrev rt (sig dig key : Int32) : Prop := ¬ sig < 0 ∧ ¬ key ≤ sig ∧ nI (sig.toNatClampNeg ^ 17 % key.toNatClampNeg) = dig - dig / key * key
theorem c_isRight {post : Int32 → ST → Prop} {X : ST} {sig dig key : Int32} (hk : ky key) (h : post (bI (rt sig dig key)) X) : wp_CA_isRight post X sig dig key := by
  obtain ⟨N, h1, h2, rfl⟩ := ky_nat hk
  unfold wp_CA_isRight
  refine ⟨fun a => ?_, fun a => ⟨fun b => ?_, fun b => ?_⟩⟩
  · rw [bI_f (fun k : rt sig dig (nI N) => k.1 a)] at h; exact h
  · rw [bI_f (fun k : rt sig dig (nI N) => k.2.1 b)] at h; exact h
  · obtain ⟨S, hS, rfl⟩ := nI_of a
    have hc : (nI S).toNatClampNeg = S := nI_clamp hS
    have hcN : (nI N).toNatClampNeg = N := nI_clamp (by omega)
    refine c_pow hS (by decide) h1 h2 ⟨nI_ne0 (by omega) (by omega), fun e => ?_, fun e => ?_⟩
    · rw [bI_t (show rt (nI S) dig (nI N) from ⟨a, b, by rw [hc, hcN]; exact e⟩)] at h; exact h
    · rw [bI_f (fun k : rt (nI S) dig (nI N) => e (by have := k.2.2; rw [hc, hcN] at this; exact this))] at h; exact h
theorem i64_inj {a b : Int32} (h : a.toInt64 = b.toInt64) : a = b := by
  have h1 := congrArg Int64.toInt h
  rw [Int32.toInt_toInt64, Int32.toInt_toInt64] at h1
  exact Int32.toInt_inj.mp h1
theorem m_isRight {post : Int32 → ST → Int64 → Prop} {Z : ST} {Y : Int64} {sig dig key : Int32} (hk : ky key) (h : post (bI (rt sig dig key)) Z Y) : wp_MO_isRight post Z Y sig dig key := by
  obtain ⟨N, h1, h2, rfl⟩ := ky_nat hk
  unfold wp_MO_isRight
  refine ⟨fun a => ?_, fun a => ⟨fun b => ?_, fun b => ?_⟩⟩
  · rw [bI_f (fun k : rt sig dig (nI N) => k.1 a)] at h; exact h
  · rw [bI_f (fun k : rt sig dig (nI N) => k.2.1 b)] at h; exact h
  · obtain ⟨S, hS, rfl⟩ := nI_of a
    have hc : (nI S).toNatClampNeg = S := nI_clamp hS
    have hcN : (nI N).toNatClampNeg = N := nI_clamp (by omega)
    have hm : S ^ 17 % N < 2 ^ 31 := Nat.lt_trans (Nat.mod_lt _ (by omega)) (by omega)
    rw [nI_l hS]
    refine m_pow hS (by decide) h1 h2 ⟨nI_ne0 (by omega) (by omega), fun e => ?_, fun e => ?_⟩
    · rw [bI_t (show rt (nI S) dig (nI N) from ⟨a, b, by rw [hc, hcN]; rw [← nI_l hm] at e; exact i64_inj e⟩)] at h; exact h
    · rw [bI_f (fun k : rt (nI S) dig (nI N) => e (by have := k.2.2; rw [hc, hcN] at this; rw [← nI_l hm, this]))] at h; exact h
/-- digests -/
def mx (h : Int64) (x : Int32) : Int64 := ((h ^^^ x.toInt64) * (-7046029254386353131 : Int64)) ^^^ ((((h ^^^ x.toInt64) * (-7046029254386353131 : Int64)).toUInt64 >>> ((29 : Int32).toInt64.toUInt64 &&& Int64.toUInt64 63)).toInt64)
def dE (h : Int64) : Int32 := ((h.toUInt64 >>> ((33 : Int32).toInt64.toUInt64 &&& Int64.toUInt64 63)).toInt64).toInt32
def dg (a b c d e : Int32) : Int32 := dE (mx (mx (mx (mx (mx 0 a) b) c) d) e)
theorem c_digest {post : Int32 → ST → Prop} {X : ST} {a b c d e : Int32} (h : post (dg a b c d e) X) : wp_CA_digest post X a b c d e := h
theorem m_five {post : Int32 → ST → Int64 → Prop} {Z : ST} {Y : Int64} {a b c d e : Int32} (h : ∀ Y1 : Int64, post (dg a b c d e) Z Y1) : wp_MO_five post Z Y a b c d e := h _
theorem sp_1 {X : ST} {O : Nat → Int64} {Z : ST} {Y : Int64} (h : RL X O Z Y) (a1 a2 a3 : Int32) : cs_1 RL X O Z Y a1 a2 a3 := by
  obtain ⟨na, no, nu, np, nn, nt, t, hI, hE⟩ := h
  have hR : RL X O (up Z 90 0 0) Y := ⟨na, no, nu, np, nn, nt, 0, hI, hE.thr 0⟩
  unfold cs_1 wp_CA_power
  refine ⟨fun a => ?_, fun a => ⟨fun b => ?_, fun b => c_isKey (br_b (fun k => ?_) (fun k => ?_))⟩⟩
  · unfold wp_MO_power
    exact ⟨fun _ => ⟨rfl, hR⟩, fun a' => absurd a a'⟩
  · unfold wp_MO_power
    exact ⟨fun a' => absurd a' a, fun _ => ⟨fun _ => ⟨rfl, hR⟩, fun b' => absurd b b'⟩⟩
  · unfold wp_MO_power
    exact ⟨fun a' => absurd a' a, fun _ => ⟨fun b' => absurd b' b, fun _ => m_isKey (br_b (fun _ => ⟨rfl, hR⟩) (fun k' => absurd k' k))⟩⟩
  · obtain ⟨N, h1, h2, rfl⟩ := ky_nat k
    obtain ⟨B, hB, rfl⟩ := nI_of a
    obtain ⟨E, hE2, rfl⟩ := nI_of b
    refine c_pow hB hE2 h1 h2 ?_
    unfold wp_MO_power
    refine ⟨fun a' => absurd a' a, fun _ => ⟨fun b' => absurd b' b, fun _ => m_isKey (br_b (fun k' => absurd k k') (fun _ => ?_))⟩⟩
    rw [nI_l hB]
    refine m_pow hB hE2 h1 h2 ⟨?_, hR⟩
    rw [lN_i]
theorem sp_2 {X : ST} {O : Nat → Int64} {Z : ST} {Y : Int64} (h : RL X O Z Y) (a1 a2 a3 a4 a5 : Int32) : cs_2 RL X O Z Y a1 a2 a3 a4 a5 := by
  obtain ⟨na, no, nu, np, nn, nt, t, hI, hE⟩ := h
  unfold cs_2
  refine c_digest ?_
  unfold wp_MO_digest
  exact m_five (fun Y1 => ⟨rfl, na, no, nu, np, nn, nt, 0, hI, hE.thr 0⟩)

