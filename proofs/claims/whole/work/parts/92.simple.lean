-- ===== small changes keep the invariant; there, clear, csr, publish =====
section UPS
variable {X : ST} {f i na no nu np nn nt : Nat} {v : Int32}
theorem up_g {g j : Nat} (h : g ≠ f) : up X f i v g j = X g j := up_ne (fun e => h e.1)
theorem up_j {g j : Nat} (h : j ≠ i) : up X f i v g j = X g j := up_ne (fun e => h e.2)
theorem au_up {o j : Nat} (hf : f < 1000) : au (up X f i v) o j = au X o j := by
  unfold au
  rw [up_g (by omega)]
theorem st1_of {X' : ST} {o : Nat} (h20 : X' 20 o = X 20 o) (h25 : X' 25 o = X 25 o) (ha : ∀ j : Nat, j < nm9 X o → X' (1000 + j) o = X (1000 + j) o) (h30 : ∀ j : Nat, j < nm9 X o → X' 30 (au X o j) = X 30 (au X o j)) : st1 X' o = st1 X o := by
  have hn : nm9 X' o = nm9 X o := by unfold nm9; rw [h25]
  have hau : ∀ j : Nat, j < nm9 X o → au X' o j = au X o j := fun j hj => by unfold au; rw [ha j hj]
  have e1 : (∀ j : Nat, j < nm9 X' o → lv9 (X' 30 (au X' o j))) ↔ (∀ j : Nat, j < nm9 X o → lv9 (X 30 (au X o j))) := by
    rw [hn]
    exact ⟨fun h j hj => by have h1 := h j hj; rw [hau j hj, h30 j hj] at h1; exact h1, fun h j hj => by rw [hau j hj, h30 j hj]; exact h j hj⟩
  have e2 : (∀ j : Nat, j < nm9 X' o → X' 30 (au X' o j) = 1) ↔ (∀ j : Nat, j < nm9 X o → X 30 (au X o j) = 1) := by
    rw [hn]
    exact ⟨fun h j hj => by have h1 := h j hj; rw [hau j hj, h30 j hj] at h1; exact h1, fun h j hj => by rw [hau j hj, h30 j hj]; exact h j hj⟩
  unfold st1
  rw [h20]
  simp only [e1, e2]
theorem IA.u (h : IA na X) (hf : f ≠ 10 ∧ f ≠ 11) : IA na (up X f i v) := ⟨fun k hk => by rw [up_g (Ne.symm hf.2)]; exact h.1 k hk, fun k hk => by rw [up_g (Ne.symm hf.1)]; exact h.2 k hk⟩
theorem IR.u (h : IR no nu X) (hf : f < 1000 ∧ f ≠ 20 ∧ f ≠ 24 ∧ f ≠ 25) : IR no nu (up X f i v) := by
  refine ⟨fun o ho => by rw [up_g (Ne.symm hf.2.1)]; exact h.1 o ho, fun o h1 h2 => by rw [up_g (Ne.symm hf.2.1), up_g (Ne.symm hf.2.2.1), up_g (Ne.symm hf.2.2.2)]; exact h.2.1 o h1 h2, fun o ho => ?_⟩
  obtain ⟨n, h1, h2, h3⟩ := h.2.2 o ho
  refine ⟨n, h1, by rw [up_g (Ne.symm hf.2.2.2)]; exact h2, fun j hj => ?_⟩
  rw [up_g (by omega)]
  exact h3 j hj
theorem IU.u (h : IU na nu X) (hf : f ≠ 30 ∧ f ≠ 31) : IU na nu (up X f i v) := ⟨fun a ha => by rw [up_g (Ne.symm hf.1)]; exact h.1 a ha, fun a h1 h2 => by rw [up_g (Ne.symm hf.1)]; exact h.2.1 a h1 h2, fun a ha => by rw [up_g (Ne.symm hf.2)]; exact h.2.2 a ha⟩
theorem IH.u (h : IH nu X) (hf : f ≠ 40 ∧ f ≠ 42) : IH nu (up X f i v) := ⟨fun c h1 h2 => by rw [up_g (Ne.symm hf.1), up_g (Ne.symm hf.2)]; exact h.1 c h1 h2, fun c hc => by rw [up_g (Ne.symm hf.1), up_g (Ne.symm hf.2)]; exact h.2 c hc⟩
theorem IC.u (h : IC no np X) (hf : f ≠ 50 ∧ f ≠ 51 ∧ f ≠ 52 ∧ f ≠ 55 ∧ f ≠ 22) : IC no np (up X f i v) := by
  refine ⟨fun c hc => ?_, fun c h1 h2 => by rw [up_g (Ne.symm hf.1), up_g (Ne.symm hf.2.2.2.1)]; exact h.2 c h1 h2⟩
  obtain ⟨o, h1, h2⟩ := h.1 c hc
  refine ⟨o, h1, ?_⟩
  rw [up_g (Ne.symm hf.1), up_g (Ne.symm hf.2.1), up_g (Ne.symm hf.2.2.1), up_g (Ne.symm hf.2.2.2.1), up_g (Ne.symm hf.2.2.2.2)]
  exact h2
theorem IT.u (h : IT X) (hf : f ≠ 63) : IT (up X f i v) := fun j hj => by rw [up_g (Ne.symm hf)]; exact h j hj
theorem IS.u (h : IS no X) (hf : f < 1000 ∧ f ≠ 20 ∧ f ≠ 25 ∧ f ≠ 30) : IS no (up X f i v) := by
  intro o ho
  rw [up_g (Ne.symm hf.2.1), st1_of (up_g (Ne.symm hf.2.1)) (up_g (Ne.symm hf.2.2.1)) (fun j _ => up_g (by omega)) (fun j _ => up_g (Ne.symm hf.2.2.2))]
  exact h o ho
theorem IN.u (h : IN na no nu np nn nt X) (hf : ¬ (2 ≤ f ∧ f ≤ 7)) : IN na no nu np nn nt (up X f i v) := by
  unfold IN
  rw [up_g (by omega), up_g (by omega), up_g (by omega), up_g (by omega), up_g (by omega), up_g (by omega)]
  exact h
/-- a place that the invariant doesn't name -/
theorem IV.u (h : IV na no nu np nn nt X) (hf : f < 1000 ∧ ¬ (2 ≤ f ∧ f ≤ 7) ∧ f ≠ 10 ∧ f ≠ 11 ∧ f ≠ 20 ∧ f ≠ 22 ∧ f ≠ 24 ∧ f ≠ 25 ∧ f ≠ 30 ∧ f ≠ 31 ∧ f ≠ 40 ∧ f ≠ 42 ∧ f ≠ 50 ∧ f ≠ 51 ∧ f ≠ 52 ∧ f ≠ 55 ∧ f ≠ 63) : IV na no nu np nn nt (up X f i v) :=
  ⟨h.1.u hf.2.1, h.2.1.u (by omega), h.2.2.1.u (by omega), h.2.2.2.1.u (by omega), h.2.2.2.2.1.u (by omega), h.2.2.2.2.2.1.u (by omega), h.2.2.2.2.2.2.1.u (by omega), h.2.2.2.2.2.2.2.u (by omega)⟩
/-- a count alone is changed -/
theorem IV.n {na' no' nu' np' nn' nt' : Nat} (h : IV na no nu np nn nt X) (hf : 2 ≤ f ∧ f ≤ 7) (hN : IN na' no' nu' np' nn' nt' (up X f i v)) (hA : IA na' X) (hO : IR no' nu' X) (hU : IU na' nu' X) (hH : IH nu' X) (hC : IC no' np' X) (hS : IS no' X) : IV na' no' nu' np' nn' nt' (up X f i v) :=
  ⟨hN, hA.u (by omega), hO.u (by omega), hU.u (by omega), hH.u (by omega), hC.u (by omega), h.2.2.2.2.2.2.1.u (by omega), hS.u (by omega)⟩
end UPS
def thv (X : ST) (k : Int32) : Int32 := if k = 0 then X 2 0 else if k = 1 then X 3 0 else if k = 2 then X 4 0 else if k = 3 then X 6 0 else if k = 4 then X 5 0 else 0
theorem thv_out {X : ST} {k : Int32} (h : k < 0 ∨ (4 : Int32) < k) : thv X k = 0 := by
  unfold thv
  rw [if_neg (fun e => by subst e; revert h; decide), if_neg (fun e => by subst e; revert h; decide), if_neg (fun e => by subst e; revert h; decide), if_neg (fun e => by subst e; revert h; decide), if_neg (fun e => by subst e; revert h; decide)]
theorem i_04 {k : Int32} (h1 : ¬ k < 0) (h2 : ¬ (4 : Int32) < k) : k = 0 ∨ k = 1 ∨ k = 2 ∨ k = 3 ∨ k = 4 := by
  obtain ⟨j, hj, rfl⟩ := nI_of2 (M := 4) (n := 4) rfl h1 (Int32.not_lt.mp h2)
  rcases (show j = 0 ∨ j = 1 ∨ j = 2 ∨ j = 3 ∨ j = 4 by omega) with rfl | rfl | rfl | rfl | rfl
  · exact Or.inl rfl
  · exact Or.inr (Or.inl rfl)
  · exact Or.inr (Or.inr (Or.inl rfl))
  · exact Or.inr (Or.inr (Or.inr (Or.inl rfl)))
  · exact Or.inr (Or.inr (Or.inr (Or.inr rfl)))
theorem c_there {post : Int32 → ST → Prop} {X : ST} {k : Int32} (h : post (thv X k) X) : wp_CA_there post X k := by
  unfold wp_CA_there
  refine ⟨fun a => ?_, fun a => ⟨fun b => ?_, fun b => ⟨fun e => ?_, fun n0 => ⟨fun e => ?_, fun n1 => ⟨fun e => ?_, fun n2 => ⟨fun e => ?_, fun n3 => ⟨fun e => ?_, fun n4 => ?_⟩⟩⟩⟩⟩⟩⟩
  · rw [thv_out (Or.inl a)] at h; exact h
  · rw [thv_out (Or.inr b)] at h; exact h
  · subst e; exact h
  · subst e; exact h
  · subst e; exact h
  · subst e; exact h
  · subst e; exact h
  · rcases i_04 a b with e | e | e | e | e
    · exact n0 e
    · exact n1 e
    · exact n2 e
    · exact n3 e
    · exact n4 e
theorem m_there {no np : Nat} {X Z : ST} {t : Int32} {Y : Int64} {post : Int32 → ST → Int64 → Prop} {k : Int32} (hE : EQ no np X Z t) (h : post (thv X k) (up Z 90 0 0) Y) : wp_MO_there post Z Y k := by
  have h2 := hE.a 2 0 (by unfold cmp; omega)
  have h3 := hE.a 3 0 (by unfold cmp; omega)
  have h4 := hE.a 4 0 (by unfold cmp; omega)
  have h5 := hE.a 5 0 (by unfold cmp; omega)
  have h6 := hE.a 6 0 (by unfold cmp; omega)
  unfold wp_MO_there wp_MO_counted
  refine ⟨fun e => ?_, fun n3 => ⟨fun e => ?_, fun n0 => ⟨fun e => ?_, fun n1 => ⟨fun e => ?_, fun n2 => ⟨fun e => ?_, fun n4 => ?_⟩⟩⟩⟩⟩
  · subst e; rw [h6]; exact h
  · subst e; show post (Z 2 0) _ _; rw [h2]; exact h
  · subst e; show post (Z 3 0) _ _; rw [h3]; exact h
  · subst e; show post (Z 4 0) _ _; rw [h4]; exact h
  · subst e; show post (Z 5 0) _ _; rw [h5]; exact h
  · have e : thv X k = 0 := by unfold thv; rw [if_neg n0, if_neg n1, if_neg n2, if_neg n3, if_neg n4]
    rw [e] at h
    exact h
theorem sp_16 {X : ST} {O : Nat → Int64} {Z : ST} {Y : Int64} (h : RL X O Z Y) (a1 : Int32) : cs_16 RL X O Z Y a1 := by
  obtain ⟨na, no, nu, np, nn, nt, t, hI, hE⟩ := h
  exact c_there (m_there hE ⟨rfl, na, no, nu, np, nn, nt, 0, hI, hE.thr 0⟩)
theorem sp_13 {X : ST} {O : Nat → Int64} {Z : ST} {Y : Int64} (h : RL X O Z Y) : cs_13 RL X O Z Y := by
  obtain ⟨na, no, nu, np, nn, nt, t, hI, hE⟩ := h
  have hN := hI.1
  refine ⟨(hE.a 7 0 (by unfold cmp; omega)).symm, na, no, nu, np, nn, 0, 0, ?_, (hE.thr 0).upB 7 0 0 (by decide)⟩
  refine hI.n (by decide) ⟨hN.1, hN.2.1, hN.2.2.1, hN.2.2.2.1, hN.2.2.2.2.1, ⟨rfl, by decide⟩⟩ hI.2.1 hI.2.2.1 hI.2.2.2.1 hI.2.2.2.2.1 hI.2.2.2.2.2.1 hI.2.2.2.2.2.2.2
/-- the digest of the text -/
def dt (f : Nat → Int32) : Nat → Int64
  | 0 => 0
  | n + 1 => mx (dt f n) (f n)
theorem c_csr {post : Int32 → ST → Prop} {X : ST} {nt : Nat} (h7 : X 7 0 = nI nt) (hn : nt ≤ 96) (h : post (dE (dt (X 63) nt)) X) : wp_CA_csr post X := by
  have key : ∀ (d i : Nat), i + d = nt → wq_CA_csr_4 post (d + 1) (dt (X 63) i) (nI i) X := by
    intro d
    induction d with
    | zero =>
      intro i hi
      have hi : i = nt := hi
      subst hi
      dsimp only [wq_CA_csr_4]
      rw [h7]
      exact ⟨fun _ => h, fun a => absurd (nI_le (Nat.le_refl _) (by omega)) a⟩
    | succ d ih =>
      intro i hi
      dsimp only [wq_CA_csr_4]
      rw [h7]
      refine ⟨fun a => absurd a (nI_ge (by omega) (by omega)), fun _ => ⟨vp_in_nI (by omega) (by decide), ?_⟩⟩
      show wq_CA_csr_4 post (d + 1) (mx (dt (X 63) i) (X 63 (nI i).toNatClampNeg)) (nI i + 1) X
      rw [nI_clamp (by omega), nI_1]
      exact ih (i + 1) (by omega)
  exact ⟨nt + 1, key nt 0 (by omega)⟩
theorem m_textDigest {no np nt : Nat} {X Z : ST} {t : Int32} {Y : Int64} {post : Int32 → ST → Int64 → Prop} (hE : EQ no np X Z t) (h7 : X 7 0 = nI nt) (hn : nt ≤ 96) (h : ∀ Y1 : Int64, post (dE (dt (X 63) nt)) Z Y1) : wp_MO_textDigest post Z Y := by
  have z7 : Z 7 0 = nI nt := (hE.a 7 0 (by unfold cmp; omega)).trans h7
  have key : ∀ (d i : Nat), i + d = nt → wq_MO_textDigest_7 post (d + 1) (nI i) Z (dt (X 63) i) := by
    intro d
    induction d with
    | zero =>
      intro i hi
      have hi : i = nt := hi
      subst hi
      dsimp only [wq_MO_textDigest_7]
      rw [z7]
      exact ⟨fun _ => h _, fun a => absurd (nI_le (Nat.le_refl _) (by omega)) a⟩
    | succ d ih =>
      intro i hi
      dsimp only [wq_MO_textDigest_7]
      rw [z7]
      refine ⟨fun a => absurd a (nI_ge (by omega) (by omega)), fun _ => ⟨vp_in_nI (by omega) (by decide), ?_⟩⟩
      show wq_MO_textDigest_7 post (d + 1) (nI i + 1) Z (mx (dt (X 63) i) (Z 63 (nI i).toNatClampNeg))
      rw [nI_clamp (by omega), nI_1, hE.a 63 i (by unfold cmp; omega)]
      exact ih (i + 1) (by omega)
  exact ⟨nt + 1, key nt 0 (by omega)⟩
theorem sp_14 {X : ST} {O : Nat → Int64} {Z : ST} {Y : Int64} (h : RL X O Z Y) : cs_14 RL X O Z Y := by
  obtain ⟨na, no, nu, np, nn, nt, t, hI, hE⟩ := h
  have hN := hI.1.2.2.2.2.2
  refine c_csr hN.1 hN.2 ?_
  unfold wp_MO_csr
  exact m_textDigest (hE.thr 0) hN.1 hN.2 (fun Y1 => ⟨rfl, na, no, nu, np, nn, nt, 0, hI, hE.thr 0⟩)
theorem sp_8 {X : ST} {O : Nat → Int64} {Z : ST} {Y : Int64} (h : RL X O Z Y) : cs_8 RL X O Z Y := by
  obtain ⟨na, no, nu, np, nn, nt, t, hI, hE⟩ := h
  have key : ∀ (d i : Nat) (v : Int32) (X Z : ST), i + d = no → IV na no nu np nn nt X → EQ no np X Z 0 → ∃ (r : Int32) (X' : ST), IV na no nu np nn nt X' ∧ (∀ post : Int32 → ST → Prop, post r X' → wq_CA_publish_4 post (d + 1) v (nI i) X) ∧ (∀ post : Int32 → ST → Int64 → Prop, (∀ Z' : ST, EQ no np X' Z' 0 → post r Z' Y) → wq_MO_publish_9 post (d + 1) v (nI i) Z Y) := by
    intro d
    induction d with
    | zero =>
      intro i v X Z hi hI hE
      have hi : i = no := hi
      subst hi
      have hN := hI.1.2.1
      have z3 : Z 3 0 = nI i := (hE.a 3 0 (by unfold cmp; omega)).trans hN.1
      refine ⟨v, X, hI, fun post hp => ?_, fun post hp => ?_⟩
      · rw [wq_CA_publish_4]; dsimp only
        rw [hN.1]
        exact ⟨fun _ => hp, fun a => absurd (nI_le (Nat.le_refl _) (by omega)) a⟩
      · rw [wq_MO_publish_9]; dsimp only
        rw [z3]
        exact ⟨fun _ => hp Z hE, fun a => absurd (nI_le (Nat.le_refl _) (by omega)) a⟩
    | succ d ih =>
      intro i v X Z hi hI hE
      have hN := hI.1.2.1
      have z3 : Z 3 0 = nI no := (hE.a 3 0 (by unfold cmp; omega)).trans hN.1
      have z20 : Z 20 i = X 20 i := hE.a 20 i (by unfold cmp; omega)
      have hc : (nI i).toNatClampNeg = i := nI_clamp (by omega)
      by_cases h2 : X 20 i = 2
      · have hI2 : IV na no nu np nn nt (up X 20 i 3) := by
          refine ⟨hI.1.u (by decide), hI.2.1.u (by decide), ⟨fun o ho => ?_, fun o h1 h3 => ?_, fun o ho => ?_⟩, hI.2.2.2.1.u (by decide), hI.2.2.2.2.1.u (by decide), hI.2.2.2.2.2.1.u (by decide), hI.2.2.2.2.2.2.1.u (by decide), fun o ho => ?_⟩
          · by_cases e : o = i
            · subst e; rw [up_eq]; exact Or.inr (Or.inr (Or.inr (Or.inl rfl)))
            · rw [up_j e]; exact hI.2.2.1.1 o ho
          · rw [up_j (show o ≠ i by omega), up_g (show 24 ≠ 20 by decide), up_g (show 25 ≠ 20 by decide)]
            exact hI.2.2.1.2.1 o h1 h3
          · obtain ⟨n, h1, h3, h4⟩ := hI.2.2.1.2.2 o ho
            refine ⟨n, h1, by rw [up_g (show 25 ≠ 20 by decide)]; exact h3, fun j hj => ?_⟩
            rw [up_g (by omega)]
            exact h4 j hj
          · by_cases e : o = i
            · subst e
              unfold st1
              rw [up_eq]
              rfl
            · rw [up_j e, st1_of (up_j e) (up_g (by decide)) (fun j _ => up_g (by omega)) (fun j _ => up_g (by decide))]
              exact hI.2.2.2.2.2.2.2 o ho
        obtain ⟨r, X', h5, h6, h7⟩ := ih (i + 1) (v + 1) (up X 20 i 3) (up Z 20 i 3) (by omega) hI2 (hE.upB 20 i 3 (by decide))
        refine ⟨r, X', h5, fun post hp => ?_, fun post hp => ?_⟩
        · rw [wq_CA_publish_4]; dsimp only
          rw [hN.1, hc]
          refine ⟨fun a => absurd a (nI_ge (by omega) (by omega)), fun _ => ⟨vp_in_nI (by omega) (by decide), fun _ => ?_, fun a => absurd h2 a⟩⟩
          rw [nI_1]
          exact h6 post hp
        · rw [wq_MO_publish_9]; dsimp only
          rw [z3, hc, z20]
          refine ⟨fun a => absurd a (nI_ge (by omega) (by omega)), fun _ => ⟨vp_in_nI (by omega) (by decide), fun _ => ?_, fun a => absurd h2 a⟩⟩
          rw [nI_1]
          exact h7 post hp
      · obtain ⟨r, X', h5, h6, h7⟩ := ih (i + 1) v X Z (by omega) hI hE
        refine ⟨r, X', h5, fun post hp => ?_, fun post hp => ?_⟩
        · rw [wq_CA_publish_4]; dsimp only
          rw [hN.1, hc]
          refine ⟨fun a => absurd a (nI_ge (by omega) (by omega)), fun _ => ⟨vp_in_nI (by omega) (by decide), fun a => absurd a h2, fun _ => ?_⟩⟩
          rw [nI_1]
          exact h6 post hp
        · rw [wq_MO_publish_9]; dsimp only
          rw [z3, hc, z20]
          refine ⟨fun a => absurd a (nI_ge (by omega) (by omega)), fun _ => ⟨vp_in_nI (by omega) (by decide), fun a => absurd a h2, fun _ => ?_⟩⟩
          rw [nI_1]
          exact h7 post hp
  obtain ⟨r, X', h5, h6, h7⟩ := key no 0 0 X (up Z 90 0 0) (by omega) hI (hE.thr 0)
  exact ⟨no + 1, h6 _ ⟨no + 1, h7 _ (fun Z' hE' => ⟨rfl, na, no, nu, np, nn, nt, 0, h5, hE'⟩)⟩⟩

