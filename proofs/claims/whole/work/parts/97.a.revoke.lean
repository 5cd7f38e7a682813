-- ===== revoke =====
section RV
variable {X Z : ST} {Y : Int64} {t : Int32} {na no nu np nn nt c o : Nat} {v k n : Int32}
theorem IV.rev (h : IV na no nu np nn nt X) (hc : c < np) (hv : ¬ v < 0) : IV na no nu np nn nt (up (up X 50 c 1) 55 c v) := by
  have g : ∀ g : Nat, g ≠ 50 → g ≠ 55 → up (up X 50 c 1) 55 c v g = X g := fun g h1 h2 => funext (fun j => by rw [up_g h2, up_g h1])
  have g50 : up (up X 50 c 1) 55 c v 50 = up X 50 c 1 50 := funext (fun j => up_g (by decide))
  have g55 : ∀ d : Nat, d ≠ c → up (up X 50 c 1) 55 c v 55 d = X 55 d := fun d hd => by rw [up_j hd, up_g (by decide)]
  refine ⟨(h.1.u (by decide)).u (by decide), (h.2.1.u (by decide)).u (by decide), (h.2.2.1.u (by decide)).u (by decide), (h.2.2.2.1.u (by decide)).u (by decide), (h.2.2.2.2.1.u (by decide)).u (by decide), ⟨fun d hd => ?_, fun d h1 h2 => ?_⟩, (h.2.2.2.2.2.2.1.u (by decide)).u (by decide), (h.2.2.2.2.2.2.2.u (by decide)).u (by decide)⟩
  · obtain ⟨o, h1, h2, h3, h4⟩ := h.2.2.2.2.2.1.1 d hd
    refine ⟨o, h1, ?_⟩
    rw [g 51 (by decide) (by decide), g 52 (by decide) (by decide), g 22 (by decide) (by decide), g50]
    refine ⟨h2, h3, ?_⟩
    by_cases e : d = c
    · subst e
      rw [up_eq, up_eq]
      exact Or.inr ⟨hv, rfl⟩
    · rw [g55 d e, up_j e]
      exact h4
  · rw [g50, g55 d (by omega), up_j (by omega)]
    exact h.2.2.2.2.2.1.2 d h1 h2
theorem EQ.rev (h : EQ no np X Z t) : EQ no np (up (up X 50 c 1) 55 c v) (up Z 55 c v) t := (h.upC 50 c 1 ⟨by decide, by unfold cmp; omega⟩).upB 55 c v (by decide)
def gd (X : ST) : Nat → Nat
  | 0 => 0
  | i + 1 => if X 50 i = 0 then gd X i + 1 else gd X i
theorem c_good {post : Int32 → ST → Prop} (h5 : X 5 0 = nI np) (hnp : np ≤ 12) (h : post (nI (gd X np)) X) : wp_CA_goodCertificates post X := by
  have key : ∀ d i : Nat, i + d = np → wq_CA_goodCertificates_4 post (d + 1) (nI (gd X i)) (nI i) X := by
    intro d
    induction d with
    | zero =>
      intro i hi
      have hi : i = np := hi
      subst hi
      rw [wq_CA_goodCertificates_4]; dsimp only
      rw [h5]
      exact ⟨fun _ => h, fun a => absurd (nI_le (Nat.le_refl _) (by omega)) a⟩
    | succ d ih =>
      intro i hi
      rw [wq_CA_goodCertificates_4]; dsimp only
      rw [h5, nI_clamp (show i < 2 ^ 31 by omega), nI_1, nI_1]
      have g := ih (i + 1) (by omega)
      refine ⟨fun a => absurd a (nI_ge (by omega) (by omega)), fun _ => ⟨vp_in_nI (by omega) (by decide), fun e => ?_, fun e => ?_⟩⟩
      · rw [show gd X (i + 1) = gd X i + 1 from if_pos e] at g
        exact g
      · rw [show gd X (i + 1) = gd X i from if_neg e] at g
        exact g
  exact ⟨np + 1, key np 0 (by omega)⟩
theorem IC.iff (h : IC no np X) (hc : c < np) : X 50 c = 0 ↔ X 55 c < 0 := by
  obtain ⟨o, _, _, _, h4⟩ := h.1 c hc
  rcases h4 with ⟨h5, h6⟩ | ⟨h5, h6⟩
  · rw [h5, h6]; decide
  · rw [h6]
    exact ⟨fun q => absurd q (by decide), fun q => absurd q h5⟩
theorem m_good {post : Int32 → ST → Int64 → Prop} (hI : IV na no nu np nn nt X) (hE : EQ no np X Z t) (h : post (nI (gd X np)) Z Y) : ∃ n9, wq_MO_revoke_144 post n9 (0 : Int32) (0 : Int32) Z Y := by
  have hnp := hI.1.2.2.2.1.2
  have z5 : Z 5 0 = nI np := (hE.a 5 0 (by unfold cmp; omega)).trans hI.1.2.2.2.1.1
  have key : ∀ d i : Nat, i + d = np → wq_MO_revoke_144 post (d + 1) (nI (gd X i)) (nI i) Z Y := by
    intro d
    induction d with
    | zero =>
      intro i hi
      have hi : i = np := hi
      subst hi
      rw [wq_MO_revoke_144]; dsimp only
      rw [z5]
      exact ⟨fun _ => h, fun a => absurd (nI_le (Nat.le_refl _) (by omega)) a⟩
    | succ d ih =>
      intro i hi
      rw [wq_MO_revoke_144]; dsimp only
      rw [z5, nI_clamp (show i < 2 ^ 31 by omega), nI_1, nI_1, hE.a 55 i (by unfold cmp; omega)]
      have g := ih (i + 1) (by omega)
      have q := hI.2.2.2.2.2.1.iff (show i < np by omega)
      refine ⟨fun a => absurd a (nI_ge (by omega) (by omega)), fun _ => ⟨vp_in_nI (by omega) (by decide), fun e => ?_, fun e => ?_⟩⟩
      · rw [show gd X (i + 1) = gd X i from if_neg (fun r => Int32.not_lt.mpr e (q.mp r))] at g
        exact g
      · rw [show gd X (i + 1) = gd X i + 1 from if_pos (q.mpr (Int32.not_le.mp e))] at g
        exact g
  exact ⟨np + 1, key np 0 (by omega)⟩
theorem m_may {post : Int32 → ST → Int64 → Prop} (h4 : Z 4 0 = nI nu) (hnu : nu ≤ 24) (hc : c < 12) (ho : o < 12) (h51 : Z 51 c = nI o) (h22 : Z 22 o = n) (h1 : ms (fun m => nv Z k m nu) n 16 = 0 ∨ Z 21 o = k → post 1 Z Y) (h0 : ¬ (ms (fun m => nv Z k m nu) n 16 = 0 ∨ Z 21 o = k) → post 0 Z Y) : wp_MO_may post Z Y k (nI c) := by
  have key : ∀ d i : Nat, i + d = 16 → ∀ b : Int32, ((b = 1 ∧ ms (fun m => nv Z k m nu) n i = 0) ∨ (b = 0 ∧ ¬ ms (fun m => nv Z k m nu) n i = 0)) → wq_MO_may_5 post k (nI c) (d + 1) b (nI i) Z Y := by
    intro d
    induction d with
    | zero =>
      intro i hi b hb
      have hi : i = 16 := hi
      subst hi
      rw [wq_MO_may_5]; dsimp only
      rw [nI_clamp (show c < 2 ^ 31 by omega), h51, nI_clamp (show o < 2 ^ 31 by omega)]
      refine ⟨fun _ => ?_, fun q => absurd (by decide) q⟩
      rcases hb with ⟨rfl, hb⟩ | ⟨rfl, hb⟩
      · exact ⟨n1, fun _ => h1 (Or.inl hb)⟩
      · exact ⟨fun _ => ⟨vp_in_nI hc (by decide), vp_in_nI ho (by decide), fun q => h1 (Or.inr q), fun q => h0 (fun r => r.elim hb q)⟩, nn0⟩
    | succ d ih =>
      intro i hi b hb
      rw [wq_MO_may_5]; dsimp only
      rw [nI_clamp (show c < 2 ^ 31 by omega), h51, nI_clamp (show o < 2 ^ 31 by omega), h22, nI_1]
      refine ⟨fun a => absurd (show nI 16 ≤ nI i from a) (nI_ge (by omega) (by omega)), fun _ => ?_⟩
      rcases hb with ⟨rfl, hb⟩ | ⟨rfl, hb⟩
      · refine ⟨n1, fun _ => ⟨vp_in_nI hc (by decide), vp_in_nI ho (by decide), m_has (br_b (fun e => ?_) (fun e => m_valid h4 hnu ⟨fun e2 => ?_, fun e2 => ?_⟩))⟩⟩
        · refine ih (i + 1) (by omega) 1 (Or.inl ⟨rfl, ?_⟩)
          rw [show ms (fun m => nv Z k m nu) n (i + 1) = ms (fun m => nv Z k m nu) n i from if_neg (fun q => e q.1)]
          exact hb
        · refine ih (i + 1) (by omega) 0 (Or.inr ⟨rfl, ?_⟩)
          rw [show ms (fun m => nv Z k m nu) n (i + 1) = ms (fun m => nv Z k m nu) n i + 1 from if_pos ⟨e, Decidable.of_not_not (fun q => Int32.not_lt.mpr ((nv_ge hnu).mpr q) e2)⟩]
          omega
        · refine ih (i + 1) (by omega) 1 (Or.inl ⟨rfl, ?_⟩)
          rw [show ms (fun m => nv Z k m nu) n (i + 1) = ms (fun m => nv Z k m nu) n i from if_neg (fun q => (nv_ge hnu).mp (Int32.not_lt.mp e2) q.2)]
          exact hb
      · refine ⟨fun _ => ih (i + 1) (by omega) 0 (Or.inr ⟨rfl, fun q => hb ?_⟩), nn0⟩
        have := ms_mono (fun m => nv Z k m nu) n i 1
        omega
  exact ⟨17, key 16 0 (by omega) 1 (Or.inl ⟨rfl, rfl⟩)⟩
end RV
theorem sp_9 {X : ST} {O : Nat → Int64} {Z : ST} {Y : Int64} (h : RL X O Z Y) (a1 a2 a3 a4 a5 : Int32) : cs_9 RL X O Z Y a1 a2 a3 a4 a5 := by
  obtain ⟨na, no, nu, np, nn, nt, t, hI, hE⟩ := h
  have hnn := hI.1.2.2.2.2.1.2
  have hnu := hI.1.2.2.1.2
  have hna := hI.1.1.2
  have hno := hI.1.2.1.2
  have hnp := hI.1.2.2.2.1.2
  suffices key : ∀ P : Int32 → ST → (Nat → Int64) → Prop, (∀ k X1 O1, wp_MO_revoke (FN k X1 O1) Z Y a1 a2 a3 a4 a5 → P k X1 O1) → wp_LW_revoke P X O a1 a2 a3 a4 a5 from key _ (fun _ _ _ h => h)
  intro P hP
  unfold wp_MO_revoke at hP
  unfold wp_LW_revoke wp_CA_revoke
  refine c_digest (sg_all (P := P) hI (fun g => ?_) (fun g1 g2 => ?_) (fun g1 g2 g3 => ?_) (fun g1 g2 g3 => ?_))
  · exact hP _ _ _ <| m_five (fun Y1 => m_sg hI hE (fun _ => fin9 hI (hE.thr 1) n1) (fun n => absurd g n) (fun n => absurd g n) (fun n => absurd g n))
  · exact hP _ _ _ <| m_five (fun Y1 => m_sg hI hE (fun g => absurd g g1) (fun _ _ => fin9 hI (hE.thr 2) n2) (fun _ n => absurd g2 n) (fun _ n => absurd g2 n))
  · exact hP _ _ _ <| m_five (fun Y1 => m_sg hI hE (fun g => absurd g g1) (fun _ g => absurd g g2) (fun _ _ _ => fin9 hI (hE.thr 3) n3) (fun _ _ n => absurd g3 n))
  have hp : fnd (X 61) a2 0 nn < nn := Decidable.of_not_not g3
  have hI2 := hI.rmv hp hnn
  have hE1 := hE.rmv (p := fnd (X 61) a2 0 nn) hnn
  have hE2 := hE1.thr 0
  have z5' := hE1.a 5 0 (by unfold cmp; omega)
  have ms9 := fun (Q : Int32 → ST → Int64 → Prop) (B : Int32 → ST → Int64 → Prop) (Y1 : Int64) (b : B 0 (rmv Z (fnd (X 61) a2 0 nn) nn) Y1) => m_sg (BODY := B) (post := Q) (Y := Y1) hI hE (fun g => absurd g g1) (fun _ g => absurd g g2) (fun _ _ g => absurd g g3) (fun _ _ _ => b)
  generalize hX2 : rmv X (fnd (X 61) a2 0 nn) nn = X2 at hI2 hE2 z5' ⊢
  generalize hZ2 : up (rmv Z (fnd (X 61) a2 0 nn) nn) 90 0 0 = Z2 at hE2
  have x5 : X2 5 0 = nI np := hI2.1.2.2.2.1.1
  have bad : (a3 < 0 ∨ ¬ a3 < X2 5 0) → P 1 X2 O := by
    intro q
    refine hP _ _ _ <| m_five (fun Y1 => ms9 _ _ _ ?_)
    rw [hZ2, z5']
    have fin : wq_MO_revoke_48 (FN 1 X2 O) 0 a1 a3 a4 Z2 Y1 := by
      unfold wq_MO_revoke_48 wq_MO_revoke_118
      exact ⟨fun _ => ⟨n1, fun _ => fin9 hI2 (hE2.thr 1) n1⟩, nn0⟩
    exact ⟨fun _ => fin, fun e1 => ⟨fun _ => fin, fun e2 => absurd q (fun q => q.elim e1 (fun r => r (Int32.not_le.mp e2)))⟩⟩
  refine ⟨fun e => Or.inl ⟨rfl, bad (Or.inl e)⟩, fun e1 => ⟨fun e2 => ?_, fun e => Or.inl ⟨rfl, bad (Or.inr e)⟩⟩⟩
  obtain ⟨c, hc', rfl⟩ := nI_of e1
  have hc : c < np := by rw [x5] at e2; exact (nI_ltI hc' (by omega)).mp e2
  have hcc : (nI c).toNatClampNeg = c := nI_clamp (by omega)
  have hvc : vp_in (nI c) 12 := vp_in_nI (by omega) (by decide)
  obtain ⟨o, ho, h51, h52, h50⟩ := hI2.2.2.2.2.2.1.1 c hc
  have hco : (nI o).toNatClampNeg = o := nI_clamp (by omega)
  have hvo : vp_in (nI o) 12 := vp_in_nI (by omega) (by decide)
  have z51 := (hE2.a 51 c (by unfold cmp; omega)).trans h51
  have z22 := hE2.a 22 o (by unfold cmp; omega)
  have z21 := hE2.a 21 o (by unfold cmp; omega)
  have z20 := hE2.a 20 o (by unfold cmp; omega)
  have z55 := hE2.a 55 c (by unfold cmp; omega)
  have z4 := (hE2.a 4 0 (by unfold cmp; omega)).trans hI2.1.2.2.1.1
  have hGm : ms (fun m => nv Z2 a1 m nu) (X2 22 o) 16 = ms (fun m => nv X2 a1 m nu) (X2 22 o) 16 := by
    rw [show (fun m => nv Z2 a1 m nu) = (fun m => nv X2 a1 m nu) from funext (fun m => nv_E hE2 hnu)]
  have i50 := hI2.2.2.2.2.2.1.iff hc
  -- the reference up to `may`
  have ref : ∀ (Q : Int32 → ST → Int64 → Prop) (Y1 : Int64), (ms (fun m => nv X2 a1 m nu) (X2 22 o) 16 = 0 ∨ X2 21 o = a1 → ((a4 < 0 → wq_MO_revoke_118 Q (3 : Int32) (nI c) a4 Z2 Y1) ∧ (¬ a4 < 0 → ((a4 ≤ (10 : Int32) → ((0 ≤ (X2 55 c) → wq_MO_revoke_118 Q (4 : Int32) (nI c) a4 Z2 Y1) ∧ (¬ 0 ≤ (X2 55 c) → (((X2 20 o) = (3 : Int32) → wq_MO_revoke_118 Q (0 : Int32) (nI c) a4 Z2 Y1) ∧ (¬ (X2 20 o) = (3 : Int32) → wq_MO_revoke_118 Q (4 : Int32) (nI c) a4 Z2 Y1))))) ∧ (¬ a4 ≤ (10 : Int32) → wq_MO_revoke_118 Q (3 : Int32) (nI c) a4 Z2 Y1))))) → (¬ (ms (fun m => nv X2 a1 m nu) (X2 22 o) 16 = 0 ∨ X2 21 o = a1) → wq_MO_revoke_118 Q (2 : Int32) (nI c) a4 Z2 Y1) → ((nI c < 0 → wq_MO_revoke_48 Q (0 : Int32) a1 (nI c) a4 Z2 Y1) ∧ (¬ nI c < 0 → ((X2 5 0 ≤ nI c → wq_MO_revoke_48 Q (0 : Int32) a1 (nI c) a4 Z2 Y1) ∧ (¬ X2 5 0 ≤ nI c → wq_MO_revoke_48 Q (1 : Int32) a1 (nI c) a4 Z2 Y1)))) := by
    intro Q Y1 q1 q0
    refine ⟨fun e => absurd e e1, fun _ => ⟨fun e => absurd e (Int32.not_le.mpr e2), fun _ => ?_⟩⟩
    unfold wq_MO_revoke_48
    refine ⟨n1, fun _ => m_may z4 hnu (by omega) (by omega) z51 z22 (fun r => ⟨n1, fun _ => ?_⟩) (fun r => ⟨fun _ => q0 ?_, nn0⟩)⟩
    · rw [hGm, z21] at r
      have q := q1 r
      rw [hcc, z51, z55, hco, z20]
      exact ⟨q.1, fun e3 => ⟨fun e4 => ⟨hvc, ((q.2 e3).1 e4).1, fun e5 => ⟨hvo, ((q.2 e3).1 e4).2 e5⟩⟩, (q.2 e3).2⟩⟩
    · rw [hGm, z21] at r
      exact r
  have rest : (ms (fun m => nv X2 a1 m nu) (X2 22 o) 16 = 0 ∨ X2 21 o = a1) → wq_CA_revoke_88 (fun (r : Int32) (X1 : ST) => P 0 X1 (vp_updL O 0 r.toInt64)) (fun (E : String) (X1 : ST) => (E = "java/util/NoSuchElementException" ∧ P 1 X1 O) ∨ (E = "java/lang/UnsupportedOperationException" ∧ P 2 X1 O) ∨ (E = "java/lang/IllegalArgumentException" ∧ P 3 X1 O) ∨ (E = "java/lang/IllegalStateException" ∧ P 4 X1 O)) a4 c o X2 := by
    intro ok
    have go : ∀ (s : Int32) (X1 : ST) (O1 : Nat → Int64), (∀ Y1 : Int64, ((a4 < 0 → wq_MO_revoke_118 (FN s X1 O1) (3 : Int32) (nI c) a4 Z2 Y1) ∧ (¬ a4 < 0 → ((a4 ≤ (10 : Int32) → ((0 ≤ (X2 55 c) → wq_MO_revoke_118 (FN s X1 O1) (4 : Int32) (nI c) a4 Z2 Y1) ∧ (¬ 0 ≤ (X2 55 c) → (((X2 20 o) = (3 : Int32) → wq_MO_revoke_118 (FN s X1 O1) (0 : Int32) (nI c) a4 Z2 Y1) ∧ (¬ (X2 20 o) = (3 : Int32) → wq_MO_revoke_118 (FN s X1 O1) (4 : Int32) (nI c) a4 Z2 Y1))))) ∧ (¬ a4 ≤ (10 : Int32) → wq_MO_revoke_118 (FN s X1 O1) (3 : Int32) (nI c) a4 Z2 Y1))))) → P s X1 O1 := by
      intro s X1 O1 q
      refine hP _ _ _ <| m_five (fun Y1 => ms9 _ _ _ ?_)
      rw [hZ2, z5']
      exact ref _ _ (fun _ => q Y1) (fun r => absurd ok r)
    have f3 : ∀ Y1 : Int64, wq_MO_revoke_118 (FN 3 X2 O) 3 (nI c) a4 Z2 Y1 := fun Y1 => ⟨n3, fun _ => fin9 hI2 (hE2.thr 3) n3⟩
    have f4 : ∀ Y1 : Int64, wq_MO_revoke_118 (FN 4 X2 O) 4 (nI c) a4 Z2 Y1 := fun Y1 => ⟨n4, fun _ => fin9 hI2 (hE2.thr 4) n4⟩
    unfold wq_CA_revoke_88
    refine ⟨fun e3 => Or.inr (Or.inr (Or.inl ⟨rfl, go _ _ _ (fun Y1 => ⟨fun _ => f3 Y1, fun q => absurd e3 q⟩)⟩)), fun e3 => ⟨fun e4 => ⟨by omega, fun e5 => Or.inr (Or.inr (Or.inr ⟨rfl, go _ _ _ (fun Y1 => ⟨fun q => absurd q e3, fun _ => ⟨fun _ => ⟨fun _ => f4 Y1, fun q => ?_⟩, fun q => absurd e4 q⟩⟩)⟩)), fun e5 => ⟨by omega, fun e6 => ?_, fun e6 => Or.inr (Or.inr (Or.inr ⟨rfl, go _ _ _ (fun Y1 => ⟨fun q => absurd q e3, fun _ => ⟨fun _ => ⟨fun _ => f4 Y1, fun _ => ⟨fun q => absurd q e6, fun _ => f4 Y1⟩⟩, fun q => absurd e4 q⟩⟩)⟩))⟩⟩, fun e4 => Or.inr (Or.inr (Or.inl ⟨rfl, go _ _ _ (fun Y1 => ⟨fun q => absurd q e3, fun _ => ⟨fun q => absurd q e4, fun _ => f3 Y1⟩⟩)⟩))⟩⟩
    · have := i50.mpr (Int32.not_le.mp q)
      rw [e5] at this
      exact absurd this (by decide)
    · have hI3 := hI2.rev hc e3
      have hE3 := EQ.rev (c := c) (v := a4) (hE2.thr 0)
      refine c_good hI3.1.2.2.2.1.1 hnp (go _ _ _ (fun Y1 => ⟨fun q => absurd q e3, fun _ => ⟨fun _ => ⟨fun q => ?_, fun _ => ⟨fun _ => ?_, fun q => absurd e6 q⟩⟩, fun q => absurd e4 q⟩⟩))
      · rcases h50 with ⟨r1, r2⟩ | ⟨r1, r2⟩
        · rw [r1] at q
          exact absurd q (by decide)
        · exact absurd r2 e5
      · unfold wq_MO_revoke_118
        rw [hcc]
        exact ⟨fun _ => ⟨hvc, m_good hI3 hE3 (fin9 hI3 hE3 (fun _ => pk_uLs))⟩, nn0⟩
  rw [hcc, h51, hco, h52]
  refine ⟨hvc, hvo, fun e3 => rest (Or.inr e3), fun e3 => c_missing hI2.1.2.2.1.1 hnu ⟨fun e4 => rest (Or.inl ?_), fun e4 => Or.inr (Or.inl ⟨rfl, ?_⟩)⟩⟩
  · have hl := ms_le (fun m => nv X2 a1 m nu) (X2 22 o) 16
    have := (nI_leI (by omega) (by decide)).mp (show nI (ms (fun m => nv X2 a1 m nu) (X2 22 o) 16) ≤ nI 0 from e4)
    omega
  · refine hP _ _ _ <| m_five (fun Y1 => ms9 _ _ _ ?_)
    rw [hZ2, z5']
    refine ref _ _ (fun r => ?_) (fun _ => ⟨n2, fun _ => fin9 hI2 (hE2.thr 2) n2⟩)
    rcases r with r | r
    · rw [r] at e4
      exact absurd (by decide) e4
    · exact absurd r e3

