-- ===== nonces; what a signed call looks at first; nonce, account, rollover =====
def sft (X : ST) (p i : Nat) : ST := fun f j => if f = 61 ∧ p ≤ j ∧ j < i then X 61 (j + 1) else X f j
theorem sft_0 (X : ST) (p : Nat) : sft X p p = X := by
  funext f j
  exact if_neg (by omega)
theorem sft_s (X : ST) {p i : Nat} (h : p ≤ i) : up (sft X p i) 61 i (X 61 (i + 1)) = sft X p (i + 1) := by
  funext f j
  unfold up sft
  by_cases h1 : f = 61 ∧ j = i
  · rw [if_pos h1, if_pos (by omega), h1.2]
  · rw [if_neg h1]
    by_cases h2 : f = 61 ∧ p ≤ j ∧ j < i
    · rw [if_pos h2, if_pos (by omega)]
    · rw [if_neg h2, if_neg (by omega)]
theorem sft_n {X : ST} {p i f j : Nat} (h : ¬ (f = 61 ∧ p ≤ j ∧ j < i)) : sft X p i f j = X f j := if_neg h
theorem sft_y {X : ST} {p i j : Nat} (h : p ≤ j ∧ j < i) : sft X p i 61 j = X 61 (j + 1) := if_pos ⟨rfl, h⟩
def rmv (X : ST) (p n : Nat) : ST := up (sft X p (n - 1)) 6 0 (nI (n - 1))
theorem c_remove {post : ST → Prop} {X : ST} {p n : Nat} (h6 : X 6 0 = nI n) (hn : n ≤ 8) (hp : p < n) (h : post (rmv X p n)) : wp_Non_removeAt post X (nI p) := by
  have key : ∀ (d i : Nat), i + d = n - 1 → p ≤ i → wq_Non_removeAt_2 post (d + 1) (nI i) (sft X p i) := by
    intro d
    induction d with
    | zero =>
      intro i hi hpi
      have hi : i = n - 1 := hi
      subst hi
      rw [wq_Non_removeAt_2]; dsimp only
      rw [sft_n (show ¬ (6 = 61 ∧ p ≤ 0 ∧ 0 < n - 1) by omega), h6, nI_1]
      refine ⟨fun _ => ?_, fun a => absurd (nI_le (show n ≤ n - 1 + 1 by omega) (by omega)) a⟩
      have e : nI n - 1 = nI (n - 1) := pk_sub (a := n) (b := 1) (by omega)
      rw [e]
      exact h
    | succ d ih =>
      intro i hi hpi
      rw [wq_Non_removeAt_2]; dsimp only
      rw [sft_n (show ¬ (6 = 61 ∧ p ≤ 0 ∧ 0 < i) by omega), h6, nI_1, nI_clamp (show i < 2 ^ 31 by omega), nI_clamp (show i + 1 < 2 ^ 31 by omega), sft_n (show ¬ (61 = 61 ∧ p ≤ i + 1 ∧ i + 1 < i) by omega), sft_s X hpi]
      exact ⟨fun a => absurd a (nI_ge (by omega) (by omega)), fun _ => ⟨vp_in_nI (by omega) (by decide), vp_in_nI (by omega) (by decide), ih (i + 1) (by omega) (by omega)⟩⟩
  have h9 := key (n - 1 - p) p (by omega) (Nat.le_refl _)
  rw [sft_0] at h9
  exact ⟨_, h9⟩
theorem m_take {post : ST → Int64 → Prop} {X : ST} {Y : Int64} {p n : Nat} (h6 : X 6 0 = nI n) (hn : n ≤ 9) (hp : p < n) (h : post (rmv X p n) Y) : wp_MO_take post X Y (nI p) := by
  have key : ∀ (d i : Nat), i + d = n - 1 → p ≤ i → wq_MO_take_2 post (d + 1) (nI i) (sft X p i) Y := by
    intro d
    induction d with
    | zero =>
      intro i hi hpi
      have hi : i = n - 1 := hi
      subst hi
      rw [wq_MO_take_2]; dsimp only
      rw [sft_n (show ¬ (6 = 61 ∧ p ≤ 0 ∧ 0 < n - 1) by omega), h6, nI_1]
      refine ⟨fun _ => ?_, fun a => absurd (nI_le (show n ≤ n - 1 + 1 by omega) (by omega)) a⟩
      have e : nI n - 1 = nI (n - 1) := pk_sub (a := n) (b := 1) (by omega)
      rw [e]
      exact h
    | succ d ih =>
      intro i hi hpi
      rw [wq_MO_take_2]; dsimp only
      rw [sft_n (show ¬ (6 = 61 ∧ p ≤ 0 ∧ 0 < i) by omega), h6, nI_1, nI_clamp (show i < 2 ^ 31 by omega), nI_clamp (show i + 1 < 2 ^ 31 by omega), sft_n (show ¬ (61 = 61 ∧ p ≤ i + 1 ∧ i + 1 < i) by omega), sft_s X hpi]
      exact ⟨fun a => absurd a (nI_ge (by omega) (by omega)), fun _ => ⟨vp_in_nI (by omega) (by decide), vp_in_nI (by omega) (by decide), ih (i + 1) (by omega) (by omega)⟩⟩
  have h9 := key (n - 1 - p) p (by omega) (Nat.le_refl _)
  rw [sft_0] at h9
  exact ⟨_, h9⟩
theorem IV.sft {na no nu np nn nt : Nat} {X : ST} (h : IV na no nu np nn nt X) (p : Nat) : ∀ d : Nat, IV na no nu np nn nt (sft X p (p + d)) := by
  intro d
  induction d with
  | zero => rw [Nat.add_zero, sft_0]; exact h
  | succ d ih =>
    rw [← Nat.add_assoc, ← sft_s X (Nat.le_add_right p d)]
    exact ih.u (by decide)
theorem IV.n6 {na no nu np nn nt : Nat} {X : ST} (h : IV na no nu np nn nt X) {n : Nat} (hn : n ≤ 8) : IV na no nu np n nt (up X 6 0 (nI n)) := by
  have hN := h.1
  exact h.n (by decide) ⟨hN.1, hN.2.1, hN.2.2.1, hN.2.2.2.1, ⟨rfl, hn⟩, hN.2.2.2.2.2⟩ h.2.1 h.2.2.1 h.2.2.2.1 h.2.2.2.2.1 h.2.2.2.2.2.1 h.2.2.2.2.2.2.2
theorem IV.rmv {na no nu np nn nt : Nat} {X : ST} (h : IV na no nu np nn nt X) {p n : Nat} (hp : p < n) (hn : n ≤ 8) : IV na no nu np (n - 1) nt (rmv X p n) := by
  have h1 := h.sft p (n - 1 - p)
  rw [show p + (n - 1 - p) = n - 1 by omega] at h1
  exact h1.n6 (by omega)
theorem EQ.rmv {no np : Nat} {X Z : ST} {t : Int32} (h : EQ no np X Z t) {p n : Nat} (hn : n ≤ 8) : EQ no np (rmv X p n) (rmv Z p n) t := by
  refine EQ.upB ?_ 6 0 _ (by decide)
  refine ⟨fun f i hc => ?_, fun o j ho hj => ?_, ?_⟩
  · by_cases h1 : f = 61 ∧ p ≤ i ∧ i < n - 1
    · obtain ⟨rfl, h2, h3⟩ := h1
      rw [sft_y ⟨h2, h3⟩, sft_y ⟨h2, h3⟩]
      exact h.1 61 (i + 1) (by unfold cmp; omega)
    · rw [sft_n h1, sft_n h1]
      exact h.1 f i hc
  · rw [sft_n (by omega), sft_n (by omega)]
    exact h.2.1 o j ho hj
  · rw [sft_n (by omega)]
    exact h.2.2
theorem sp_0 {X : ST} {O : Nat → Int64} {Z : ST} {Y : Int64} (h : RL X O Z Y) : cs_0 RL X O Z Y := by
  obtain ⟨na, no, nu, np, nn, nt, t, hI, hE⟩ := h
  unfold cs_0 wp_CA_nonce wp_CA_draw
  have z0 : Z 0 0 = X 0 0 := hE.a 0 0 (by unfold cmp; omega)
  have z6 : Z 6 0 = X 6 0 := hE.a 6 0 (by unfold cmp; omega)
  unfold wp_MO_nonce wp_MO_draw
  rw [show up Z 90 0 0 0 0 = Z 0 0 from rfl, z0, z6]
  generalize ((X 0 0 * 1103515245 + 12345).toUInt32 >>> ((8 : Int32).toUInt32 &&& Int32.toUInt32 31)).toInt32 = r
  generalize X 0 0 * 1103515245 + 12345 = sd
  have hI1 : IV na no nu np nn nt (up X 0 0 sd) := hI.u (by decide)
  have hE1 : EQ no np (up X 0 0 sd) (up (up Z 90 0 0) 0 0 sd) 0 := (hE.thr 0).upB 0 0 sd (by decide)
  have h6 : X 6 0 = nI nn := hI.1.2.2.2.2.1.1
  have hn := hI.1.2.2.2.2.1.2
  generalize hX1 : up X 0 0 sd = X1 at hI1 hE1
  generalize hZ1 : up (up Z 90 0 0) 0 0 sd = Z1 at hE1
  have x6 : X1 6 0 = nI nn := hI1.1.2.2.2.2.1.1
  have z6 : Z1 6 0 = nI nn := (hE1.a 6 0 (by unfold cmp; omega)).trans x6
  dsimp only
  unfold wp_Non_putOut
  rw [x6, h6]
  rcases Nat.lt_or_ge nn 8 with hlt | hge
  · refine ⟨fun _ => ?_, fun a => absurd (show nI nn < nI 8 from nI_lt hlt (by decide)) a⟩
    unfold wq_Non_putOut_14
    rw [x6, nI_clamp (show nn < 2 ^ 31 by omega), z6, nI_1]
    refine ⟨vp_in_nI hlt (by decide), vp_in_nI (by omega) (by decide), fun a => ?_, fun _ => ?_⟩
    · have := (nI_eq (a := nn + 1) (b := 9) (by omega) (by decide)).mp a
      omega
    · unfold wq_MO_nonce_42
      rw [up_eq, show nI (nn + 1) - 1 = nI nn from nI_pred nn, nI_clamp (show nn < 2 ^ 31 by omega), up_g (show 61 ≠ 6 by decide), up_eq]
      refine ⟨vp_in_nI (by omega) (by decide), rfl, na, no, nu, np, nn + 1, nt, 0, ?_, (hE1.upB 61 nn r (by decide)).upB 6 0 _ (by decide)⟩
      exact (hI1.u (by decide)).n6 (by omega)
  · have h8 : nn = 8 := by omega
    subst h8
    refine ⟨fun a => absurd a (show ¬ nI 8 < 8 by decide), fun _ => c_remove (p := 0) x6 (by decide) (by decide) ?_⟩
    have hIr := hI1.rmv (p := 0) (n := 8) (by decide) (by decide)
    have hr6 : (rmv X1 0 8) 6 0 = nI 7 := rfl
    unfold wq_Non_putOut_14
    rw [hr6]
    refine ⟨by unfold vp_in; decide, by unfold vp_in; decide, fun _ => ?_, fun a => absurd (show Z1 6 0 + 1 = 9 by rw [z6]; rfl) a⟩
    rw [z6]
    refine m_take (p := 0) (n := 9) (up_eq _ _ _ _) (by decide) (by decide) ?_
    unfold wq_MO_nonce_42
    have hw6 : rmv (up (up Z1 61 (nI 8).toNatClampNeg r) 6 0 (nI 8 + 1)) 0 9 6 0 = nI 8 := rfl
    rw [hw6]
    have h7 : (nI 8 - 1).toNatClampNeg = 7 := by decide
    rw [h7]
    refine ⟨by unfold vp_in; decide, rfl, na, no, nu, np, 8, nt, 0, (hIr.u (by decide)).n6 (by decide), ?_⟩
    have hL : ∀ f i : Nat, f ≠ 6 → rmv (up (up Z1 61 (nI 8).toNatClampNeg r) 6 0 (nI 8 + 1)) 0 9 f i = sft (up Z1 61 8 r) 0 8 f i := by
      intro f i hf
      unfold rmv
      rw [up_g hf, show (nI 8).toNatClampNeg = 8 by decide]
      unfold sft
      rw [up_g hf, up_g (show 61 ≠ 6 by decide)]
    have hM : ∀ f i : Nat, f ≠ 6 → up (up (rmv X1 0 8) 61 (nI 7).toNatClampNeg r) 6 0 (nI 7 + 1) f i = up (sft X1 0 7) 61 7 r f i := by
      intro f i hf
      rw [up_g hf, show (nI 7).toNatClampNeg = 7 by decide]
      unfold rmv up
      by_cases h9 : f = 61 ∧ i = 7
      · rw [if_pos h9, if_pos h9]
      · rw [if_neg h9, if_neg h9, if_neg (by omega)]
    refine ⟨fun f i hc => ?_, fun o j ho hj => ?_, ?_⟩
    · by_cases h6 : f = 6
      · subst h6
        have hi : i = 0 := by unfold cmp at hc; omega
        subst hi
        rfl
      · rw [hL f i h6, hM f i h6]
        by_cases hf : f = 61
        · subst hf
          have hi : i < 8 := by unfold cmp at hc; omega
          rw [sft_y (show 0 ≤ i ∧ i < 8 by omega)]
          by_cases h9 : i = 7
          · subst h9
            rw [up_eq, up_eq]
          · rw [up_j h9, up_j (show i + 1 ≠ 8 by omega), sft_y (show 0 ≤ i ∧ i < 7 by omega)]
            exact hE1.1 61 (i + 1) (by unfold cmp; omega)
        · rw [sft_n (by omega), up_g hf, up_g hf, sft_n (by omega)]
          exact hE1.1 f i hc
    · rw [hM _ _ (by omega), hL _ _ (by decide), up_g (show 1000 + j ≠ 61 by omega), sft_n (by omega), sft_n (by omega), up_g (show 26 ≠ 61 by decide)]
      exact hE1.2.1 o j ho hj
    · rw [hL _ _ (by decide), sft_n (by omega), up_g (show 90 ≠ 61 by decide)]
      exact hE1.2.2
def fnd (f : Nat → Int32) (v : Int32) : Nat → Nat → Nat
  | i, 0 => i
  | i, d + 1 => if f i = v then i else fnd f v (i + 1) d
theorem fnd_le (f : Nat → Int32) (v : Int32) : ∀ (d i : Nat), fnd f v i d ≤ i + d := by
  intro d
  induction d with
  | zero => intro i; exact Nat.le_refl _
  | succ d ih =>
    intro i
    rw [fnd]
    by_cases h : f i = v
    · rw [if_pos h]; omega
    · rw [if_neg h]
      have := ih (i + 1)
      omega
theorem c_takeBack {post : Int32 → ST → Prop} {X : ST} {v : Int32} {n : Nat} (h6 : X 6 0 = nI n) (hn : n ≤ 8) (h1 : fnd (X 61) v 0 n < n → post 1 (rmv X (fnd (X 61) v 0 n) n)) (h0 : ¬ fnd (X 61) v 0 n < n → post 0 X) : wp_Non_takeBack post X v := by
  have key : ∀ (d i : Nat), i + d = n → fnd (X 61) v i d = fnd (X 61) v 0 n → wq_Non_takeBack_2 post v (d + 1) (nI i) X := by
    intro d
    induction d with
    | zero =>
      intro i hi he
      have hi : i = n := hi
      subst hi
      rw [wq_Non_takeBack_2]; dsimp only
      rw [h6]
      exact ⟨fun _ => h0 (by rw [← he]; exact Nat.lt_irrefl _), fun a => absurd (nI_le (Nat.le_refl _) (by omega)) a⟩
    | succ d ih =>
      intro i hi he
      rw [fnd] at he
      rw [wq_Non_takeBack_2]; dsimp only
      rw [h6, nI_clamp (show i < 2 ^ 31 by omega)]
      refine ⟨fun a => absurd a (nI_ge (by omega) (by omega)), fun _ => ⟨vp_in_nI (by omega) (by decide), fun a => ?_, fun a => ?_⟩⟩
      · rw [if_pos a] at he
        rw [← he] at h1
        exact c_remove h6 hn (by omega) (h1 (by omega))
      · rw [if_neg a] at he
        rw [nI_1]
        exact ih (i + 1) (by omega) he
  exact ⟨n + 1, key n 0 (by omega) rfl⟩
theorem m_find {post : Int32 → ST → Int64 → Prop} {X Z : ST} {Y : Int64} {v : Int32} {n no np : Nat} {t : Int32} (hE : EQ no np X Z t) (h6 : X 6 0 = nI n) (hn : n ≤ 8) (h1 : fnd (X 61) v 0 n < n → post (nI (fnd (X 61) v 0 n)) Z Y) (h0 : ¬ fnd (X 61) v 0 n < n → post (-1) Z Y) : wp_MO_find post Z Y v := by
  have z6 : Z 6 0 = nI n := (hE.a 6 0 (by unfold cmp; omega)).trans h6
  have key : ∀ (d i : Nat), i + d = n → fnd (X 61) v i d = fnd (X 61) v 0 n → wq_MO_find_2 post v (d + 1) (nI i) Z Y := by
    intro d
    induction d with
    | zero =>
      intro i hi he
      have hi : i = n := hi
      subst hi
      rw [wq_MO_find_2]; dsimp only
      rw [z6]
      exact ⟨fun _ => h0 (by rw [← he]; exact Nat.lt_irrefl _), fun a => absurd (nI_le (Nat.le_refl _) (by omega)) a⟩
    | succ d ih =>
      intro i hi he
      rw [fnd] at he
      rw [wq_MO_find_2]; dsimp only
      rw [z6, nI_clamp (show i < 2 ^ 31 by omega), hE.a 61 i (by unfold cmp; omega)]
      refine ⟨fun a => absurd a (nI_ge (by omega) (by omega)), fun _ => ⟨vp_in_nI (by omega) (by decide), fun a => ?_, fun a => ?_⟩⟩
      · rw [if_pos a] at he
        rw [← he] at h1
        exact h1 (by omega)
      · rw [if_neg a] at he
        rw [nI_1]
        exact ih (i + 1) (by omega) he
  exact ⟨n + 1, key n 0 (by omega) rfl⟩
/-- why a signed call is refused: no such account; closed or wrongly signed; no such nonce -/
abbrev gA (X : ST) (k : Int32) : Prop := k < 0 ∨ ¬ k < X 2 0
abbrev gB (X : ST) (k dig sig : Int32) : Prop := X 10 k.toNatClampNeg = 1 ∨ ¬ rt sig dig (X 11 k.toNatClampNeg)
abbrev gC (X : ST) (nn : Nat) (v : Int32) : Prop := ¬ fnd (X 61) v 0 nn < nn
theorem gA_n {X : ST} {k : Int32} {na : Nat} (h2 : X 2 0 = nI na) (hna : na ≤ 6) (h : ¬ gA X k) : ∃ j : Nat, j < na ∧ k = nI j := by
  have h0 : ¬ k < 0 := fun a => h (Or.inl a)
  have h1 : k < X 2 0 := by
    by_cases a : k < X 2 0
    · exact a
    · exact absurd (Or.inr a) h
  obtain ⟨j, hj, rfl⟩ := nI_of h0
  rw [h2] at h1
  exact ⟨j, (nI_ltI hj (by omega)).mp h1, rfl⟩
theorem c_accept {post : ST → Prop} {px : String → ST → Prop} {X : ST} {k v dig sig : Int32} {na no nu np nn nt : Nat} (hI : IV na no nu np nn nt X) (h1 : gA X k → px "java/util/NoSuchElementException" X) (h2 : ¬ gA X k → gB X k dig sig → px "java/lang/UnsupportedOperationException" X) (h3 : ¬ gA X k → ¬ gB X k dig sig → gC X nn v → px "java/lang/IllegalArgumentException" X) (h0 : ¬ gA X k → ¬ gB X k dig sig → ¬ gC X nn v → post (rmv X (fnd (X 61) v 0 nn) nn)) : wp_CA_acceptSigned post px X k v dig sig := by
  have hN := hI.1
  have hna := hN.1.2
  unfold wp_CA_acceptSigned
  refine ⟨fun a => h1 (Or.inl a), fun a => ⟨fun b => ?_, fun b => h1 (Or.inr b)⟩⟩
  have hg : ¬ gA X k := fun g => g.elim a (fun c => c b)
  obtain ⟨j, hj, rfl⟩ := gA_n hN.1.1 hN.1.2 hg
  have hc : (nI j).toNatClampNeg = j := nI_clamp (by omega)
  refine ⟨vp_in_nI (by omega) (by decide), fun c => h2 hg (Or.inl c), fun c => ?_⟩
  have hk : ky (X 11 (nI j).toNatClampNeg) := by rw [hc]; exact hI.2.1.1 j hj
  refine c_isRight hk (br_b (fun d => h2 hg (Or.inr d)) (fun d => ?_))
  have hgb : ¬ gB X (nI j) dig sig := fun g => g.elim c (fun e => e d)
  refine c_takeBack hN.2.2.2.2.1.1 hN.2.2.2.2.1.2 (fun e => ⟨fun f => absurd f (by decide), fun _ => h0 hg hgb (fun g => g e)⟩) (fun e => ⟨fun _ => h3 hg hgb e, fun f => absurd rfl f⟩)
theorem m_signed {post : Int32 → ST → Int64 → Prop} {X Z : ST} {Y : Int64} {k v dig sig t : Int32} {na no nu np nn nt : Nat} (hI : IV na no nu np nn nt X) (hE : EQ no np X Z t) (h1 : gA X k → post 1 Z Y) (h2 : ¬ gA X k → gB X k dig sig → post 2 Z Y) (h3 : ¬ gA X k → ¬ gB X k dig sig → gC X nn v → post 3 Z Y) (h0 : ¬ gA X k → ¬ gB X k dig sig → ¬ gC X nn v → post 0 (rmv Z (fnd (X 61) v 0 nn) nn) Y) : wp_MO_signed post Z Y k v dig sig := by
  have hN := hI.1
  have hna := hN.1.2
  have hnn := hN.2.2.2.2.1.2
  have z2 : Z 2 0 = X 2 0 := hE.a 2 0 (by unfold cmp; omega)
  have z6 : Z 6 0 = nI nn := (hE.a 6 0 (by unfold cmp; omega)).trans hN.2.2.2.2.1.1
  unfold wp_MO_signed
  rw [z2]
  refine ⟨fun a => h1 (Or.inl a), fun a => ⟨fun b => ?_, fun b => h1 (Or.inr b)⟩⟩
  have hg : ¬ gA X k := fun g => g.elim a (fun c => c b)
  obtain ⟨j, hj, rfl⟩ := gA_n hN.1.1 hN.1.2 hg
  have hc : (nI j).toNatClampNeg = j := nI_clamp (by omega)
  have hna := hN.1.2
  have e10 : Z 10 (nI j).toNatClampNeg = X 10 (nI j).toNatClampNeg := hE.a 10 _ (by rw [hc]; unfold cmp; omega)
  have e11 : Z 11 (nI j).toNatClampNeg = X 11 (nI j).toNatClampNeg := hE.a 11 _ (by rw [hc]; unfold cmp; omega)
  rw [e10, e11]
  have hk : ky (X 11 (nI j).toNatClampNeg) := by rw [hc]; exact hI.2.1.1 j hj
  have hcl : lv9 (X 10 (nI j).toNatClampNeg) := by rw [hc]; exact hI.2.1.2 j (by omega)
  refine ⟨vp_in_nI (by omega) (by decide), fun c => ?_, fun c => h2 hg (Or.inl (hcl.elim (fun e => absurd e c) id))⟩
  refine m_isRight hk (br_b (fun d => h2 hg (Or.inr d)) (fun d => ?_))
  have hgb : ¬ gB X (nI j) dig sig := fun g => g.elim (fun e => by rw [c] at e; exact absurd e (by decide)) (fun e => e d)
  refine m_find hE hN.2.2.2.2.1.1 hN.2.2.2.2.1.2 (fun e => ⟨fun _ => m_take z6 (by omega) e (h0 hg hgb (fun g => g e)), fun f => absurd (nI_pos' (by omega)) f⟩) (fun e => ⟨fun f => absurd f (by decide), fun _ => h3 hg hgb e⟩)

