-- ===== the rule of promise 6 on both sides =====
theorem lv_le {s : Int32} (h : fv s) : s ≤ 1 ↔ lv9 s := by
  rcases h with rfl | rfl | rfl | rfl | rfl <;> decide
theorem lv_ge {s : Int32} (h : fv s) : (2 : Int32) ≤ s ↔ ¬ lv9 s := by
  rcases h with rfl | rfl | rfl | rfl | rfl <;> decide
theorem c_live {post : Int32 → ST → Prop} {X : ST} {a : Nat} (ha : a < 24) (h : post (bI (lv9 (X 30 a))) X) : wp_Aut_isLive post X a := by
  unfold wp_Aut_isLive
  by_cases h0 : X 30 a = 0
  · rw [bI_t (Or.inl h0)] at h
    refine ⟨ha, ?_⟩
    first
      | exact ⟨fun _ => h, fun e => absurd h0 e⟩
      | exact ⟨fun _ => ⟨ha, h⟩, fun e => absurd h0 e⟩
  · by_cases h1 : X 30 a = 1
    · rw [bI_t (Or.inr h1)] at h
      refine ⟨ha, fun e => absurd e h0, fun _ => ⟨fun _ => h, fun e => absurd h1 e⟩⟩
    · rw [bI_f (fun e => e.elim h0 h1)] at h
      refine ⟨ha, fun e => absurd e h0, fun _ => ⟨fun e => absurd e h1, fun _ => h⟩⟩
theorem c_open {post : Int32 → ST → Prop} {X : ST} {a : Nat} (ha : a < 12) (h : post (bI (lv9 (X 20 a))) X) : wp_Ord_isOpen post X a := by
  unfold wp_Ord_isOpen
  by_cases h0 : X 20 a = 0
  · rw [bI_t (Or.inl h0)] at h
    refine ⟨ha, ?_⟩
    first
      | exact ⟨fun _ => h, fun e => absurd h0 e⟩
      | exact ⟨fun _ => ⟨ha, h⟩, fun e => absurd h0 e⟩
  · by_cases h1 : X 20 a = 1
    · rw [bI_t (Or.inr h1)] at h
      refine ⟨ha, fun e => absurd e h0, fun _ => ⟨fun _ => h, fun e => absurd h1 e⟩⟩
    · rw [bI_f (fun e => e.elim h0 h1)] at h
      refine ⟨ha, fun e => absurd e h0, fun _ => ⟨fun e => absurd e h1, fun _ => h⟩⟩
theorem all_s {P : Nat → Prop} {i : Nat} (h : ∀ j, j < i → P j) (hi : P i) : ∀ j, j < i + 1 → P j := fun j hj => by
  rcases Nat.lt_succ_iff_lt_or_eq.mp hj with h1 | h1
  · exact h j h1
  · rw [h1]; exact hi
/-- an order's rows -/
def OR (X : ST) (o n : Nat) : Prop := n ≤ 4 ∧ X 25 o = nI n ∧ ∀ j : Nat, j < n → ∃ a : Nat, a < 24 ∧ X (1000 + j) o = nI a
theorem OR.nm {X : ST} {o n : Nat} (h : OR X o n) : nm9 X o = n := by unfold nm9; rw [h.2.1]; exact nI_clamp (by have := h.1; omega)
theorem OR.aw {X : ST} {o n j : Nat} (h : OR X o n) (hj : j < n) : au X o j < 24 ∧ X (1000 + j) o = nI (au X o j) := by
  obtain ⟨a, h1, h2⟩ := h.2.2 j hj
  have : au X o j = a := by unfold au; rw [h2]; exact nI_clamp (by omega)
  rw [this]
  exact ⟨h1, h2⟩
theorem c_set {post : ST → Prop} {X : ST} {o n : Nat} (ho : o < 12) (hO : OR X o n) (h1 : (∀ j : Nat, j < n → X 30 (au X o j) = 1) → post (up X 20 o 1)) (h0 : (∀ j : Nat, j < n → lv9 (X 30 (au X o j))) → ¬ (∀ j : Nat, j < n → X 30 (au X o j) = 1) → post X) (h4 : ¬ (∀ j : Nat, j < n → lv9 (X 30 (au X o j))) → post (up X 20 o 4)) : wp_CA_settle post X o := by
  have hn := hO.1
  have key : ∀ (d i : Nat), i + d = n → (∀ j : Nat, j < i → lv9 (X 30 (au X o j))) → ∀ b : Int32, ((b = 1 ∧ ∀ j : Nat, j < i → X 30 (au X o j) = 1) ∨ (b = 0 ∧ ¬ ∀ j : Nat, j < i → X 30 (au X o j) = 1)) → wq_CA_settle_4 post o (d + 1) b (nI i) X := by
    intro d
    induction d with
    | zero =>
      intro i hi hl b hb
      have hi : i = n := hi
      subst hi
      rw [wq_CA_settle_4]; dsimp only
      rw [hO.2.1]
      refine ⟨ho, fun _ => ?_, fun a => absurd (nI_le (Nat.le_refl _) (by omega)) a⟩
      rcases hb with ⟨rfl, hb⟩ | ⟨rfl, hb⟩
      · exact ⟨fun e => absurd e (by decide), fun _ => h1 hb⟩
      · exact ⟨fun _ => h0 hl hb, fun e => absurd rfl e⟩
    | succ d ih =>
      intro i hi hl b hb
      rw [wq_CA_settle_4]; dsimp only
      have hau := hO.aw (show i < n by omega)
      rw [hO.2.1, nI_clamp (show i < 2 ^ 31 by omega), hau.2, nI_clamp (show au X o i < 2 ^ 31 by omega), nI_1]
      refine ⟨ho, fun a => absurd a (nI_ge (by omega) (by omega)), fun _ => ⟨vp_in_nI (by omega) (by decide), vp_in_nI hau.1 (by decide), c_live hau.1 (br_b (fun l => h4 (fun e => l (e i (by omega)))) (fun l => ?_))⟩⟩
      have hl' := all_s hl l
      rcases hb with ⟨rfl, hb⟩ | ⟨rfl, hb⟩
      · refine ⟨fun e => absurd e (by decide), fun _ => ⟨fun e => ih (i + 1) (by omega) hl' 1 (Or.inl ⟨rfl, all_s hb e⟩), fun e => ih (i + 1) (by omega) hl' 0 (Or.inr ⟨rfl, fun f => e (f i (by omega))⟩)⟩⟩
      · exact ⟨fun _ => ih (i + 1) (by omega) hl' 0 (Or.inr ⟨rfl, fun f => hb (fun j hj => f j (by omega))⟩), fun e => absurd rfl e⟩
  exact ⟨n + 1, key n 0 (by omega) (fun j hj => absurd hj (Nat.not_lt_zero j)) 1 (Or.inl ⟨rfl, fun j hj => absurd hj (Nat.not_lt_zero j)⟩)⟩
theorem up_id {X : ST} {f i : Nat} {v : Int32} (h : X f i = v) : up X f i v = X := by
  funext g j
  by_cases e : g = f ∧ j = i
  · rw [e.1, e.2, up_eq, h]
  · exact up_ne e
theorem stl_0 (X : ST) : stl 0 X = X := by
  funext f i
  exact if_neg (fun e => absurd e.2 (Nat.not_lt_zero i))
theorem stl_s (X : ST) (o : Nat) : up (stl o X) 20 o (st1 X o) = stl (o + 1) X := by
  funext f i
  by_cases e : f = 20 ∧ i = o
  · rw [e.1, e.2, up_eq]
    unfold stl
    rw [if_pos ⟨rfl, by omega⟩]
  · rw [up_ne e]
    unfold stl
    by_cases e2 : f = 20 ∧ i < o
    · rw [if_pos e2, if_pos (by omega)]
    · rw [if_neg e2, if_neg (by omega)]
theorem stl_n {X : ST} {no f i : Nat} (h : ¬ (f = 20 ∧ i < no)) : stl no X f i = X f i := if_neg h
theorem stl_g {X : ST} {no f : Nat} (h : f ≠ 20) : stl no X f = X f := by
  funext i
  exact stl_n (fun e => h e.1)
theorem stl_au (X : ST) (no o j : Nat) : au (stl no X) o j = au X o j := by unfold au; rw [stl_g (by omega)]
theorem st1_0 {X : ST} {o : Nat} (h : ¬ lv9 (X 20 o)) : st1 X o = X 20 o := by unfold st1; rw [if_neg h]
theorem st1_4 {X : ST} {o : Nat} (h : lv9 (X 20 o)) (h2 : ¬ ∀ j : Nat, j < nm9 X o → lv9 (X 30 (au X o j))) : st1 X o = 4 := by unfold st1; rw [if_pos h, if_neg h2]
theorem st1_1 {X : ST} {o : Nat} (h : lv9 (X 20 o)) (h2 : ∀ j : Nat, j < nm9 X o → X 30 (au X o j) = 1) : st1 X o = 1 := by unfold st1; rw [if_pos h, if_pos (fun j hj => Or.inr (h2 j hj)), if_pos h2]
theorem st1_n {X : ST} {o : Nat} (h2 : ∀ j : Nat, j < nm9 X o → lv9 (X 30 (au X o j))) (h3 : ¬ ∀ j : Nat, j < nm9 X o → X 30 (au X o j) = 1) : st1 X o = X 20 o := by
  by_cases h : lv9 (X 20 o)
  · unfold st1; rw [if_pos h, if_pos h2, if_neg h3]
  · exact st1_0 h
theorem IR.or {no nu o : Nat} {X : ST} (h : IR no nu X) (hnu : nu ≤ 24) (ho : o < no) : ∃ n : Nat, OR X o n := by
  obtain ⟨n, h1, h2, h3⟩ := h.2.2 o ho
  exact ⟨n, h1, h2, fun j hj => by obtain ⟨a, h4, h5⟩ := h3 j hj; exact ⟨a, by omega, h5⟩⟩
theorem or_stl {X : ST} {o n i : Nat} (h : OR X o n) : OR (stl i X) o n := ⟨h.1, by rw [stl_g (by decide)]; exact h.2.1, fun j hj => by rw [stl_g (by omega)]; exact h.2.2 j hj⟩
theorem c_settle {post : ST → Prop} {X : ST} {no nu : Nat} (h3 : X 3 0 = nI no) (hno : no ≤ 12) (hR : IR no nu X) (hnu : nu ≤ 24) (h : post (stl no X)) : wp_CA_settleOrders post X := by
  have key : ∀ (d i : Nat), i + d = no → wq_CA_settleOrders_2 post (d + 1) (nI i) (stl i X) := by
    intro d
    induction d with
    | zero =>
      intro i hi
      have hi : i = no := hi
      subst hi
      rw [wq_CA_settleOrders_2]; dsimp only
      rw [stl_g (show (3 : Nat) ≠ 20 by decide), h3]
      exact ⟨fun _ => h, fun a => absurd (nI_le (Nat.le_refl _) (by omega)) a⟩
    | succ d ih =>
      intro i hi
      rw [wq_CA_settleOrders_2]; dsimp only
      rw [stl_g (show (3 : Nat) ≠ 20 by decide), h3, nI_clamp (show i < 2 ^ 31 by omega), nI_1]
      obtain ⟨n, hO⟩ := hR.or hnu (show i < no by omega)
      have e20 : stl i X 20 i = X 20 i := stl_n (by omega)
      have e30 : stl i X 30 = X 30 := stl_g (by decide)
      have n9 := hO.nm
      have g := ih (i + 1) (by omega)
      rw [← stl_s] at g
      refine ⟨fun a => absurd a (nI_ge (by omega) (by omega)), fun _ => ⟨vp_in_nI (by omega) (by decide), c_open (by omega) (br_b (fun l => ?_) (fun l => c_set (n := n) (by omega) (or_stl hO) (fun q => ?_) (fun q q2 => ?_) (fun q => ?_)))⟩⟩
      · rw [e20] at l
        rw [st1_0 l, up_id e20] at g
        exact g
      · rw [e20] at l
        simp only [stl_au, e30] at q
        rw [st1_1 l (by rw [n9]; exact q)] at g
        exact g
      · simp only [stl_au, e30] at q q2
        rw [st1_n (by rw [n9]; exact q) (by rw [n9]; exact q2), up_id e20] at g
        exact g
      · rw [e20] at l
        simp only [stl_au, e30] at q
        rw [st1_4 l (by rw [n9]; exact q)] at g
        exact g
  have g := key no 0 (by omega)
  rw [stl_0] at g
  exact ⟨no + 1, g⟩
theorem m_set {post : ST → Int64 → Prop} {J : Int32 → ST → Int64 → Prop} {X Z : ST} {Y : Int64} {o n no np : Nat} {t : Int32} (hE : EQ no np X Z t) (ho : o < 12) (hf : ∀ a : Nat, a < 24 → fv (X 30 a)) (hs : fv (X 20 o)) (hO : OR X o n) (h : J (nI (o + 1)) (up Z 20 o (st1 X o)) Y) : ∃ n9, wq_MO_settle_19 post J (nI o) n9 0 1 ((4 : Int32) * nI o) Z Y := by
  have hn := hO.1
  have n9 := hO.nm
  have z20 : Z 20 o = X 20 o := hE.a 20 o (by unfold cmp; omega)
  have z25 : Z 25 o = nI n := (hE.a 25 o (by unfold cmp; omega)).trans hO.2.1
  have w : ∀ b : Int32, ((b = 1 ∧ ∀ j : Nat, j < n → X 30 (au X o j) = 1) ∨ (b = 0 ∧ ¬ ∀ j : Nat, j < n → X 30 (au X o j) = 1)) → ((∀ j : Nat, j < n → lv9 (X 30 (au X o j))) ∨ ¬ lv9 (X 20 o)) → wq_MO_settle_110 post J (nI o) b Z Y := by
    intro b hb hl
    unfold wq_MO_settle_110
    rw [nI_clamp (show o < 2 ^ 31 by omega), nI_1, z20]
    refine ⟨vp_in_nI ho (by decide), fun e => ?_, fun e => ?_⟩
    · have l0 : lv9 (X 20 o) := Or.inl e
      have hl := hl.resolve_right (fun q => q l0)
      rcases hb with ⟨rfl, hb⟩ | ⟨rfl, hb⟩
      · rw [st1_1 l0 (by rw [n9]; exact hb)] at h
        exact ⟨fun e => absurd e (by decide), fun _ => h⟩
      · rw [st1_n (by rw [n9]; exact hl) (by rw [n9]; exact hb), up_id z20] at h
        exact ⟨fun _ => h, fun e => absurd rfl e⟩
    · have : st1 X o = X 20 o := by
        by_cases l0 : lv9 (X 20 o)
        · have l1 := l0.resolve_left e
          have hl := hl.resolve_right (fun q => q l0)
          rcases hb with ⟨rfl, hb⟩ | ⟨rfl, hb⟩
          · rw [st1_1 l0 (by rw [n9]; exact hb), l1]
          · exact st1_n (by rw [n9]; exact hl) (by rw [n9]; exact hb)
        · exact st1_0 l0
      rw [this, up_id z20] at h
      exact h
  have e4 : ∀ i : Nat, (4 : Int32) * nI o + nI i = nI (4 * o + i) := fun i => by rw [show (4 : Int32) = nI 4 from rfl, pk_mul, nI_add]
  have key : ∀ (d i : Nat), i + d = n → ∀ a b : Int32, ((a = 0 ∧ ∀ j : Nat, j < i → lv9 (X 30 (au X o j))) ∨ (a = 1 ∧ ¬ ∀ j : Nat, j < i → lv9 (X 30 (au X o j)))) → ((b = 1 ∧ ∀ j : Nat, j < i → X 30 (au X o j) = 1) ∨ (b = 0 ∧ ¬ ∀ j : Nat, j < i → X 30 (au X o j) = 1)) → wq_MO_settle_19 post J (nI o) (d + 1) a b (nI (4 * o + i)) Z Y := by
    intro d
    induction d with
    | zero =>
      intro i hi a b ha hb
      have hi : i = n := hi
      subst hi
      rw [wq_MO_settle_19]; dsimp only
      rw [nI_clamp (show o < 2 ^ 31 by omega), z20, z25, e4, nI_1]
      refine ⟨vp_in_nI ho (by decide), fun _ => ⟨fun g => w b hb (Or.inr ((lv_ge hs).mp g)), fun g => ?_⟩, fun q => absurd (nI_le (Nat.le_refl _) (by omega)) q⟩
      have l0 : lv9 (X 20 o) := Decidable.of_not_not (fun q => g ((lv_ge hs).mpr q))
      rcases ha with ⟨rfl, ha⟩ | ⟨rfl, ha⟩
      · exact ⟨fun _ => w b hb (Or.inl ha), fun e => absurd rfl e⟩
      · rw [st1_4 l0 (by rw [n9]; exact ha)] at h
        exact ⟨fun e => absurd e (by decide), fun _ => h⟩
    | succ d ih =>
      intro i hi a b ha hb
      have hau := hO.aw (show i < n by omega)
      have z26 : Z 26 (4 * o + i) = nI (au X o i) := (hE.2.1 o i ho (by omega)).symm.trans hau.2
      have z30 : Z 30 (au X o i) = X 30 (au X o i) := hE.a 30 _ (by unfold cmp; omega)
      have q63 : ∀ a : Int32, ((a = 0 ∧ ∀ j : Nat, j < i + 1 → lv9 (X 30 (au X o j))) ∨ (a = 1 ∧ ¬ ∀ j : Nat, j < i + 1 → lv9 (X 30 (au X o j)))) → wq_MO_settle_63 post J (wq_MO_settle_19 post J (nI o) (d + 1)) a (nI o) b (nI (4 * o + i)) (X 30 (au X o i)) Z Y := by
        intro a ha
        unfold wq_MO_settle_63
        rw [nI_1, Nat.add_assoc]
        rcases hb with ⟨rfl, hb⟩ | ⟨rfl, hb⟩
        · refine ⟨fun e => absurd e (by decide), fun _ => ⟨fun e => ih (i + 1) (by omega) a 1 ha (Or.inl ⟨rfl, all_s hb e⟩), fun e => ih (i + 1) (by omega) a 0 ha (Or.inr ⟨rfl, fun f => e (f i (by omega))⟩)⟩⟩
        · exact ⟨fun _ => ih (i + 1) (by omega) a 0 ha (Or.inr ⟨rfl, fun f => hb (fun j hj => f j (by omega))⟩), fun e => absurd rfl e⟩
      rw [wq_MO_settle_19]; dsimp only
      rw [nI_clamp (show o < 2 ^ 31 by omega), z25, e4, nI_clamp (show 4 * o + i < 2 ^ 31 by omega), z26, nI_clamp (show au X o i < 2 ^ 31 by omega), z30]
      refine ⟨vp_in_nI ho (by decide), fun a => absurd a (nI_ge (by omega) (by omega)), fun _ => ⟨vp_in_nI (by omega) (by decide), vp_in_nI hau.1 (by decide), ?_⟩⟩
      have hfv := hf _ hau.1
      rcases ha with ⟨rfl, ha⟩ | ⟨rfl, ha⟩
      · exact ⟨fun _ => ⟨fun e => q63 0 (Or.inl ⟨rfl, all_s ha ((lv_le hfv).mp e)⟩), fun e => q63 1 (Or.inr ⟨rfl, fun f => e ((lv_le hfv).mpr (f i (by omega)))⟩)⟩, fun e => absurd rfl e⟩
      · exact ⟨fun e => absurd e (by decide), fun _ => q63 1 (Or.inr ⟨rfl, fun f => ha (fun j hj => f j (by omega))⟩)⟩
  have g := key n 0 (by omega) 0 1 (Or.inl ⟨rfl, fun j hj => absurd hj (Nat.not_lt_zero j)⟩) (Or.inl ⟨rfl, fun j hj => absurd hj (Nat.not_lt_zero j)⟩)
  rw [← e4, show nI 0 = 0 from rfl, Int32.add_zero] at g
  exact ⟨n + 1, g⟩
theorem m_settle {post : ST → Int64 → Prop} {X Z : ST} {Y : Int64} {no nu np : Nat} {t : Int32} (hE : EQ no np X Z t) (h3 : X 3 0 = nI no) (hno : no ≤ 12) (hR : IR no nu X) (hnu : nu ≤ 24) (hf : ∀ a : Nat, a < 24 → fv (X 30 a)) (h : ∀ Z1 : ST, EQ no np (stl no X) Z1 t → post Z1 Y) : wp_MO_settle post Z Y := by
  have key : ∀ (d i : Nat) (Z1 : ST), i + d = no → EQ no np (stl i X) Z1 t → wq_MO_settle_2 post (d + 1) (nI i) Z1 Y := by
    intro d
    induction d with
    | zero =>
      intro i Z1 hi hE1
      have hi : i = no := hi
      subst hi
      rw [wq_MO_settle_2]; dsimp only
      rw [hE1.a 3 0 (by unfold cmp; omega), stl_g (show (3 : Nat) ≠ 20 by decide), h3]
      exact ⟨fun _ => h Z1 hE1, fun a => absurd (nI_le (Nat.le_refl _) (by omega)) a⟩
    | succ d ih =>
      intro i Z1 hi hE1
      rw [wq_MO_settle_2]; dsimp only
      rw [hE1.a 3 0 (by unfold cmp; omega), stl_g (show (3 : Nat) ≠ 20 by decide), h3]
      obtain ⟨n, hO⟩ := hR.or hnu (show i < no by omega)
      have e20 : stl i X 20 i = X 20 i := stl_n (by omega)
      refine ⟨fun a => absurd a (nI_ge (by omega) (by omega)), fun _ => m_set (n := n) hE1 (by omega) (by rw [stl_g (show (30 : Nat) ≠ 20 by decide)]; exact hf) (by rw [e20]; exact hR.1 i (by omega)) (or_stl hO) (ih (i + 1) _ (by omega) ?_)⟩
      have es : st1 (stl i X) i = st1 X i := st1_of e20 (by rw [stl_g (by decide)]) (fun j _ => by rw [stl_g (by omega)]) (fun j _ => by rw [stl_g (by decide)])
      rw [es, ← stl_s]
      exact hE1.upB 20 i _ (by decide)
  exact ⟨no + 1, key no 0 Z (by omega) (by rw [stl_0]; exact hE)⟩
theorem st1_fv {X : ST} {o : Nat} (h : fv (X 20 o)) : fv (st1 X o) := by
  unfold st1
  split
  · split
    · split
      · exact Or.inr (Or.inl rfl)
      · exact h
    · exact Or.inr (Or.inr (Or.inr (Or.inr rfl)))
  · exact h
theorem iv_stl {na no nu np nn nt : Nat} {X : ST} (hN : IN na no nu np nn nt X) (hA : IA na X) (hR : IR no nu X) (hU : IU na nu X) (hH : IH nu X) (hC : IC no np X) (hT : IT X) : IV na no nu np nn nt (stl no X) := by
  have g : ∀ f : Nat, f ≠ 20 → stl no X f = X f := fun f h => stl_g h
  refine ⟨?_, ?_, ⟨fun o ho => ?_, fun o h1 h2 => ?_, fun o ho => ?_⟩, ?_, ?_, ?_, ?_, fun o ho => ?_⟩
  · unfold IN at hN ⊢
    rw [g 2 (by decide), g 3 (by decide), g 4 (by decide), g 5 (by decide), g 6 (by decide), g 7 (by decide)]
    exact hN
  · unfold IA at hA ⊢
    rw [g 10 (by decide), g 11 (by decide)]
    exact hA
  · by_cases h : o < no
    · rw [show stl no X 20 o = st1 X o from if_pos ⟨rfl, h⟩]
      exact st1_fv (hR.1 o ho)
    · rw [stl_n (by omega)]
      exact hR.1 o ho
  · rw [stl_n (by omega), g 24 (by decide), g 25 (by decide)]
    exact hR.2.1 o h1 h2
  · obtain ⟨n, h1, h2, h3⟩ := hR.2.2 o ho
    refine ⟨n, h1, by rw [g 25 (by decide)]; exact h2, fun j hj => ?_⟩
    rw [g (1000 + j) (by omega)]
    exact h3 j hj
  · unfold IU at hU ⊢
    rw [g 30 (by decide), g 31 (by decide)]
    exact hU
  · unfold IH at hH ⊢
    rw [g 40 (by decide), g 42 (by decide)]
    exact hH
  · unfold IC at hC ⊢
    rw [g 50 (by decide), g 51 (by decide), g 52 (by decide), g 55 (by decide), g 22 (by decide)]
    exact hC
  · unfold IT at hT ⊢
    rw [g 63 (by decide)]
    exact hT
  · have e20 : stl no X 20 o = st1 X o := if_pos ⟨rfl, ho⟩
    have e9 : nm9 (stl no X) o = nm9 X o := by unfold nm9; rw [g 25 (by decide)]
    have ea : ∀ j : Nat, stl no X 30 (au (stl no X) o j) = X 30 (au X o j) := fun j => by rw [stl_au, g 30 (by decide)]
    by_cases l : lv9 (stl no X 20 o)
    · by_cases q : ∀ j : Nat, j < nm9 X o → lv9 (X 30 (au X o j))
      · by_cases q1 : ∀ j : Nat, j < nm9 X o → X 30 (au X o j) = 1
        · rw [st1_1 l (fun j hj => by rw [ea]; rw [e9] at hj; exact q1 j hj), e20]
          refine (st1_1 ?_ q1).symm
          by_cases l2 : lv9 (X 20 o)
          · exact l2
          · rw [e20, st1_0 l2] at l
            exact l
        · exact st1_n (fun j hj => by rw [ea]; rw [e9] at hj; exact q j hj) (fun f => q1 (fun j hj => by rw [← ea]; rw [← e9] at hj; exact f j hj))
      · exfalso
        by_cases l2 : lv9 (X 20 o)
        · rw [e20, st1_4 l2 q] at l
          exact absurd l (by decide)
        · rw [e20, st1_0 l2] at l
          exact l2 l
    · exact st1_0 l

