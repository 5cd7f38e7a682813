-- ===== the newest valid authorization, what is missing =====
abbrev vld (X : ST) (k m : Int32) (a : Nat) : Prop := X 31 a = k ∧ X 32 a = m ∧ X 30 a = 1
def nv (X : ST) (k m : Int32) : Nat → Int32
  | 0 => -1
  | n + 1 => if vld X k m n then nI n else nv X k m n
theorem nv_or (X : ST) (k m : Int32) : ∀ n : Nat, nv X k m n = -1 ∨ ∃ a : Nat, a < n ∧ nv X k m n = nI a := by
  intro n
  induction n with
  | zero => exact Or.inl rfl
  | succ n ih =>
    by_cases e : vld X k m n
    · exact Or.inr ⟨n, by omega, if_pos e⟩
    · rw [show nv X k m (n + 1) = nv X k m n from if_neg e]
      exact ih.imp id (fun ⟨a, h1, h2⟩ => ⟨a, by omega, h2⟩)
theorem nv_of {X S : ST} {k m : Int32} : ∀ n : Nat, (∀ a : Nat, a < n → S 31 a = X 31 a ∧ S 32 a = X 32 a ∧ S 30 a = X 30 a) → nv S k m n = nv X k m n := by
  intro n
  induction n with
  | zero => intro _; rfl
  | succ n ih =>
    intro h
    have h0 := h n (by omega)
    show (if vld S k m n then nI n else nv S k m n) = (if vld X k m n then nI n else nv X k m n)
    unfold vld
    rw [h0.1, h0.2.1, h0.2.2, ih (fun a ha => h a (by omega))]
theorem c_newest {post : Int32 → ST → Prop} {X : ST} {k m : Int32} {nu : Nat} (h4 : X 4 0 = nI nu) (hnu : nu ≤ 24) (h : post (nv X k m nu) X) : wp_CA_newestValid post X k m := by
  have key : ∀ n : Nat, n ≤ 24 → nv X k m n = nv X k m nu → wq_CA_newestValid_7 post k m (n + 1) (nI n - 1) X := by
    intro n
    induction n with
    | zero =>
      intro _ e
      rw [wq_CA_newestValid_7]; dsimp only
      refine ⟨fun _ => ?_, fun q => absurd (by decide) q⟩
      rw [← e] at h
      exact h
    | succ n ih =>
      intro hn e
      rw [wq_CA_newestValid_7]; dsimp only
      rw [nI_pred, nI_clamp (show n < 2 ^ 31 by omega), show nI n + (-1 : Int32) = nI n - 1 from (Int32.sub_eq_add_neg _ _).symm]
      refine ⟨fun q => absurd q (nI_pos (by omega)), fun _ => ⟨vp_in_nI (by omega) (by decide), fun e1 => ⟨fun e2 => ⟨fun e3 => ?_, fun e3 => ih (by omega) ?_⟩, fun e2 => ih (by omega) ?_⟩, fun e1 => ih (by omega) ?_⟩⟩
      · rw [← e, show nv X k m (n + 1) = nI n from if_pos ⟨e1, e2, e3⟩] at h
        exact h
      · rw [← e]
        exact (if_neg (fun q => e3 q.2.2)).symm
      · rw [← e]
        exact (if_neg (fun q => e2 q.2.1)).symm
      · rw [← e]
        exact (if_neg (fun q => e1 q.1)).symm
  refine ⟨nu + 1, ?_⟩
  rw [h4]
  exact key nu hnu rfl
theorem m_valid {post : Int32 → ST → Int64 → Prop} {Z : ST} {Y : Int64} {k m : Int32} {nu : Nat} (h4 : Z 4 0 = nI nu) (hnu : nu ≤ 24) (h : post (nv Z k m nu) Z Y) : wp_MO_valid post Z Y k m := by
  have key : ∀ d n : Nat, n + d = nu → wq_MO_valid_5 post k m (d + 1) (nv Z k m n) (nI n) Z Y := by
    intro d
    induction d with
    | zero =>
      intro n hn
      have hn : n = nu := hn
      subst hn
      rw [wq_MO_valid_5]; dsimp only
      rw [h4]
      exact ⟨fun _ => h, fun a => absurd (nI_le (Nat.le_refl _) (by omega)) a⟩
    | succ d ih =>
      intro n hn
      rw [wq_MO_valid_5]; dsimp only
      rw [h4, nI_clamp (show n < 2 ^ 31 by omega), nI_1]
      have g := ih (n + 1) (by omega)
      refine ⟨fun a => absurd a (nI_ge (by omega) (by omega)), fun _ => ⟨vp_in_nI (by omega) (by decide), fun e1 => ⟨fun e2 => ⟨fun e3 => ?_, fun e3 => ?_⟩, fun e2 => ?_⟩, fun e1 => ?_⟩⟩
      · rw [show nv Z k m (n + 1) = nI n from if_pos ⟨e1, e2, e3⟩] at g
        exact g
      · rw [show nv Z k m (n + 1) = nv Z k m n from if_neg (fun q => e3 q.2.2)] at g
        exact g
      · rw [show nv Z k m (n + 1) = nv Z k m n from if_neg (fun q => e2 q.2.1)] at g
        exact g
      · rw [show nv Z k m (n + 1) = nv Z k m n from if_neg (fun q => e1 q.1)] at g
        exact g
  exact ⟨nu + 1, key nu 0 (by omega)⟩
theorem c_has {post : Int32 → ST → Prop} {X : ST} {n : Int32} {i : Nat} (h : post (bI (hs n i)) X) : wp_CA_hasName post X n (nI i) := by
  refine ⟨fun e => ?_, fun e => ?_⟩
  · rw [bI_t e] at h; exact h
  · rw [bI_f e] at h; exact h
theorem m_has {post : Int32 → ST → Int64 → Prop} {X : ST} {Y : Int64} {n : Int32} {i : Nat} (h : post (bI (hs n i)) X Y) : wp_MO_has post X Y n (nI i) := by
  refine ⟨fun e => ?_, fun e => ?_⟩
  · rw [bI_t e] at h; exact h
  · rw [bI_f e] at h; exact h
/-- how many of the names below i have no valid authorization -/
def ms (G : Int32 → Int32) (n : Int32) : Nat → Nat
  | 0 => 0
  | i + 1 => if hs n i ∧ G (nI i) = -1 then ms G n i + 1 else ms G n i
theorem ms_mono (G : Int32 → Int32) (n : Int32) (i : Nat) : ∀ d : Nat, ms G n i ≤ ms G n (i + d) := by
  intro d
  induction d with
  | zero => exact Nat.le_refl _
  | succ d ih =>
    show ms G n i ≤ (if hs n (i + d) ∧ G (nI (i + d)) = -1 then ms G n (i + d) + 1 else ms G n (i + d))
    split <;> omega
theorem ms_le (G : Int32 → Int32) (n : Int32) : ∀ i : Nat, ms G n i ≤ i := by
  intro i
  induction i with
  | zero => exact Nat.le_refl 0
  | succ i ih =>
    show (if hs n i ∧ G (nI i) = -1 then ms G n i + 1 else ms G n i) ≤ i + 1
    split <;> omega
theorem c_missing {post : Int32 → ST → Prop} {X : ST} {k n : Int32} {nu : Nat} (h4 : X 4 0 = nI nu) (hnu : nu ≤ 24) (h : post (nI (ms (fun m => nv X k m nu) n 16)) X) : wp_CA_missingAuthorizations post X k n := by
  have key : ∀ d i : Nat, i + d = 16 → wq_CA_missingAuthorizations_5 post k n (d + 1) (nI (ms (fun m => nv X k m nu) n i)) (nI i) X := by
    intro d
    induction d with
    | zero =>
      intro i hi
      have hi : i = 16 := hi
      subst hi
      rw [wq_CA_missingAuthorizations_5]; dsimp only
      exact ⟨fun _ => h, fun q => absurd (by decide) q⟩
    | succ d ih =>
      intro i hi
      rw [wq_CA_missingAuthorizations_5]; dsimp only
      rw [nI_1, nI_1]
      have g := ih (i + 1) (by omega)
      refine ⟨fun a => absurd (show nI 16 ≤ nI i from a) (nI_ge (by omega) (by omega)), fun _ => c_has (br_b (fun e => ?_) (fun e => c_newest h4 hnu ⟨fun e2 => ?_, fun e2 => ?_⟩))⟩
      · rw [show ms (fun m => nv X k m nu) n (i + 1) = ms (fun m => nv X k m nu) n i from if_neg (fun q => e q.1)] at g
        exact g
      · rw [show ms (fun m => nv X k m nu) n (i + 1) = ms (fun m => nv X k m nu) n i + 1 from if_pos ⟨e, e2⟩] at g
        exact g
      · rw [show ms (fun m => nv X k m nu) n (i + 1) = ms (fun m => nv X k m nu) n i from if_neg (fun q => e2 q.2)] at g
        exact g
  exact ⟨17, key 16 0 (by omega)⟩
theorem nv_ge {X : ST} {k m : Int32} {n : Nat} (hn : n ≤ 24) : 0 ≤ nv X k m n ↔ ¬ nv X k m n = -1 := by
  rcases nv_or X k m n with h | ⟨a, h1, h2⟩
  · rw [h]; decide
  · rw [h2]
    exact ⟨fun _ e => absurd (show nI a < 0 by rw [e]; decide) (nI_pos (by omega)), fun _ => nI_pos' (by omega)⟩
theorem m_fresh {post : Int32 → ST → Int64 → Prop} {Z : ST} {Y : Int64} {k n : Int32} {nu : Nat} (h4 : Z 4 0 = nI nu) (hnu : nu ≤ 24) (h : post (nI (ms (fun m => nv Z k m nu) n 16)) Z Y) : wp_MO_fresh post Z Y k n := by
  have key : ∀ d i : Nat, i + d = 16 → wq_MO_fresh_5 post k n (d + 1) (nI (ms (fun m => nv Z k m nu) n i)) (nI i) Z Y := by
    intro d
    induction d with
    | zero =>
      intro i hi
      have hi : i = 16 := hi
      subst hi
      rw [wq_MO_fresh_5]; dsimp only
      exact ⟨fun _ => h, fun q => absurd (by decide) q⟩
    | succ d ih =>
      intro i hi
      rw [wq_MO_fresh_5]; dsimp only
      rw [nI_1, nI_1]
      have g := ih (i + 1) (by omega)
      refine ⟨fun a => absurd (show nI 16 ≤ nI i from a) (nI_ge (by omega) (by omega)), fun _ => m_has (br_b (fun e => ?_) (fun e => m_valid h4 hnu ⟨fun e2 => ?_, fun e2 => ?_⟩))⟩
      · rw [show ms (fun m => nv Z k m nu) n (i + 1) = ms (fun m => nv Z k m nu) n i from if_neg (fun q => e q.1)] at g
        exact g
      · rw [show ms (fun m => nv Z k m nu) n (i + 1) = ms (fun m => nv Z k m nu) n i from if_neg (fun q => (nv_ge hnu).mp e2 q.2)] at g
        exact g
      · rw [show ms (fun m => nv Z k m nu) n (i + 1) = ms (fun m => nv Z k m nu) n i + 1 from if_pos ⟨e, Decidable.of_not_not (fun q => e2 ((nv_ge hnu).mpr q))⟩] at g
        exact g
  exact ⟨17, key 16 0 (by omega)⟩
theorem m_many {post : Int32 → ST → Int64 → Prop} {Z : ST} {Y : Int64} {n : Int32} (h : post (nI (cn n 16)) Z Y) : wp_MO_many post Z Y n := by
  have key : ∀ d i : Nat, i + d = 16 → wq_MO_many_4 post n (d + 1) (nI (cn n i)) (nI i) Z Y := by
    intro d
    induction d with
    | zero =>
      intro i hi
      have hi : i = 16 := hi
      subst hi
      rw [wq_MO_many_4]; dsimp only
      exact ⟨fun _ => h, fun q => absurd (by decide) q⟩
    | succ d ih =>
      intro i hi
      rw [wq_MO_many_4]; dsimp only
      rw [nI_1, nI_1]
      have g := ih (i + 1) (by omega)
      refine ⟨fun a => absurd (show nI 16 ≤ nI i from a) (nI_ge (by omega) (by omega)), fun _ => m_has (br_b (fun e => ?_) (fun e => ?_))⟩
      · rw [show cn n (i + 1) = cn n i from if_neg e] at g
        exact g
      · rw [show cn n (i + 1) = cn n i + 1 from if_pos e] at g
        exact g
  exact ⟨17, key 16 0 (by omega)⟩
abbrev okN (n : Int32) : Prop := ¬ n ≤ 0 ∧ ¬ (65536 : Int32) ≤ n ∧ cn n 16 ≤ 4
theorem c_can {post : Int32 → ST → Prop} {X : ST} {n : Int32} (h : post (bI (okN n)) X) : wp_CA_canBeOrdered post X n := by
  unfold wp_CA_canBeOrdered
  refine ⟨fun e => ?_, fun e1 => ⟨fun e => ?_, fun e2 => ?_⟩⟩
  · rw [bI_f (fun q => q.1 e)] at h
    exact h
  · rw [bI_f (fun q => q.2.1 e)] at h
    exact h
  · obtain ⟨N, hN', rfl⟩ := nI_of (fun q => e1 (Int32.le_of_lt q))
    have hN : N < 65536 := by
      rcases Nat.lt_or_ge N 65536 with q | q
      · exact q
      · exact absurd (show nI 65536 ≤ nI N from nI_le q hN') e2
    have hc := cn_le (nI N) 16
    refine c_bits hN ⟨fun q => ?_, fun q => ?_⟩
    · have := (nI_ltI (by decide) (by omega)).mp (show nI 4 < nI (cn (nI N) 16) from q)
      rw [bI_f (fun q => absurd q.2.2 (by omega))] at h
      exact h
    · have : ¬ 4 < cn (nI N) 16 := fun q2 => q (show nI 4 < nI (cn (nI N) 16) from nI_lt q2 (by omega))
      rw [bI_t ⟨e1, e2, by omega⟩] at h
      exact h
/-- a draw -/
def dw (s : Int32) : Int32 := s * (1103515245 : Int32) + (12345 : Int32)
def dr (s : Int32) : Int32 := (s.toUInt32 >>> ((8 : Int32).toUInt32 &&& Int32.toUInt32 31)).toInt32
/-- authorization n made -/
def mkB (S : ST) (n : Nat) : ST := up (up (up (up (up S 0 0 (dw (S 0 0))) 41 (2 * n) (dr (dw (S 0 0)))) 0 0 (dw (dw (S 0 0)))) 41 (2 * n + 1) (dr (dw (dw (S 0 0))))) 4 0 (nI (n + 1))
def mkA (S : ST) (n : Nat) (k m e : Int32) : ST := mkB (up (up (up S 31 n k) 32 n m) 33 n e) n
theorem c_mkA {post : Int32 → ST → Prop} {S : ST} {n : Nat} {k m e : Int32} (h4 : S 4 0 = nI n) (hn : n < 24) (h : post (nI n) (mkA S n k m e)) : wp_CA_makeAuthorization post S k m e := by
  unfold wp_CA_makeAuthorization
  rw [h4, nI_clamp (show n < 2 ^ 31 by omega)]
  refine ⟨vp_in_nI hn (by decide), 0 + 1 + 1 + 1, ?_⟩
  unfold mkA at h
  have h4' : up (up (up S 31 n k) 32 n m) 33 n e 4 0 = nI n := by rw [up_g (by decide), up_g (by decide), up_g (by decide), h4]
  generalize up (up (up S 31 n k) 32 n m) 33 n e = T at h h4' ⊢
  rw [wq_CA_makeAuthorization_32]; dsimp only
  refine ⟨fun q => absurd q (by decide), fun _ => ?_⟩
  rw [h4', show (2 : Int32) * nI n + 0 = nI (2 * n) by rw [Int32.add_zero]; exact pk_mul 2 n, nI_clamp (show 2 * n < 2 ^ 31 by omega)]
  refine ⟨vp_in_nI (by omega) (by decide), ?_⟩
  unfold wp_CA_draw
  rw [wq_CA_makeAuthorization_32]; dsimp only
  refine ⟨fun q => absurd q (by decide), fun _ => ?_⟩
  rw [up_g (show (4 : Nat) ≠ 41 by decide), up_g (show (4 : Nat) ≠ 0 by decide), h4', show (2 : Int32) * nI n + (0 + 1) = nI (2 * n + 1) from ix2 n 1, nI_clamp (show 2 * n + 1 < 2 ^ 31 by omega)]
  refine ⟨vp_in_nI (by omega) (by decide), ?_⟩
  unfold wp_CA_draw
  rw [wq_CA_makeAuthorization_32]; dsimp only
  refine ⟨fun _ => ?_, fun q => absurd (by decide) q⟩
  have e4 : ∀ (u1 u2 u3 u4 : Int32), up (up (up (up T 0 0 u1) 41 (2 * n) u2) 0 0 u3) 41 (2 * n + 1) u4 4 0 = nI n := fun u1 u2 u3 u4 => by rw [up_g (by decide), up_g (by decide), up_g (by decide), up_g (by decide), h4']
  rw [up_g (show (0 : Nat) ≠ 41 by decide), up_eq, e4, nI_1]
  exact h

