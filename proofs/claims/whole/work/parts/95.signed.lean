-- ===== signed calls: rollover, answer =====
section SG
variable {X Z : ST} {O : Nat → Int64} {Y : Int64} {k v dig sig t : Int32} {na no nu np nn nt : Nat}
theorem sg_all {P : Int32 → ST → (Nat → Int64) → Prop} {rest : ST → Prop} (hI : IV na no nu np nn nt X) (h1 : gA X k → P 1 X O) (h2 : ¬ gA X k → gB X k dig sig → P 2 X O) (h3 : ¬ gA X k → ¬ gB X k dig sig → gC X nn v → P 3 X O) (h0 : ¬ gA X k → ¬ gB X k dig sig → ¬ gC X nn v → rest (rmv X (fnd (X 61) v 0 nn) nn)) :
    wp_CA_acceptSigned rest (fun (E : String) (X1 : ST) => (E = "java/util/NoSuchElementException" ∧ P 1 X1 O) ∨ (E = "java/lang/UnsupportedOperationException" ∧ P 2 X1 O) ∨ (E = "java/lang/IllegalArgumentException" ∧ P 3 X1 O) ∨ (E = "java/lang/IllegalStateException" ∧ P 4 X1 O)) X k v dig sig :=
  c_accept hI (fun g => Or.inl ⟨rfl, h1 g⟩) (fun g1 g2 => Or.inr (Or.inl ⟨rfl, h2 g1 g2⟩)) (fun g1 g2 g3 => Or.inr (Or.inr (Or.inl ⟨rfl, h3 g1 g2 g3⟩))) h0
theorem m_sg {BODY : Int32 → ST → Int64 → Prop} {post : Int32 → ST → Int64 → Prop} (hI : IV na no nu np nn nt X) (hE : EQ no np X Z t) (h1 : gA X k → post 0 (up Z 90 0 1) Y) (h2 : ¬ gA X k → gB X k dig sig → post 0 (up Z 90 0 2) Y) (h3 : ¬ gA X k → ¬ gB X k dig sig → gC X nn v → post 0 (up Z 90 0 3) Y) (h0 : ¬ gA X k → ¬ gB X k dig sig → ¬ gC X nn v → BODY 0 (rmv Z (fnd (X 61) v 0 nn) nn) Y) :
    wp_MO_signed (fun (r8 : Int32) (X6 : ST) (Y7 : Int64) => ((r8 = 0 → BODY r8 X6 Y7) ∧ (¬ r8 = 0 → post 0 (up X6 90 0 r8) Y7))) Z Y k v dig sig :=
  m_signed hI hE (fun g => ⟨fun e => absurd e (by decide), fun _ => h1 g⟩) (fun g1 g2 => ⟨fun e => absurd e (by decide), fun _ => h2 g1 g2⟩) (fun g1 g2 g3 => ⟨fun e => absurd e (by decide), fun _ => h3 g1 g2 g3⟩) (fun g1 g2 g3 => ⟨fun _ => h0 g1 g2 g3, fun e => absurd rfl e⟩)
end SG
abbrev FN (k : Int32) (X1 : ST) (O1 : Nat → Int64) : Int32 → ST → Int64 → Prop := fun r Z1 Y1 => wp_MO_thrown (fun t Z2 Y2 => t = k ∧ (k = 0 → O1 0 = r.toInt64) ∧ RL X1 O1 Z2 Y2) Z1 Y1
theorem n1 {a : Prop} : (1 : Int32) = 0 → a := fun e => absurd e (by decide)
theorem n2 {a : Prop} : (2 : Int32) = 0 → a := fun e => absurd e (by decide)
theorem n3 {a : Prop} : (3 : Int32) = 0 → a := fun e => absurd e (by decide)
theorem n4 {a : Prop} : (4 : Int32) = 0 → a := fun e => absurd e (by decide)
theorem nn0 {a : Prop} : ¬ (0 : Int32) = 0 → a := fun e => absurd rfl e
theorem sp_11 {X : ST} {O : Nat → Int64} {Z : ST} {Y : Int64} (h : RL X O Z Y) (a1 a2 a3 a4 a5 : Int32) : cs_11 RL X O Z Y a1 a2 a3 a4 a5 := by
  obtain ⟨na, no, nu, np, nn, nt, t, hI, hE⟩ := h
  have hnn := hI.1.2.2.2.2.1.2
  have hna := hI.1.1.2
  suffices key : ∀ P : Int32 → ST → (Nat → Int64) → Prop, (∀ k X1 O1, wp_MO_rollover (FN k X1 O1) Z Y a1 a2 a3 a4 a5 → P k X1 O1) → wp_LW_rollover P X O a1 a2 a3 a4 a5 from key _ (fun _ _ _ h => h)
  intro P hP
  unfold wp_MO_rollover at hP
  unfold wp_LW_rollover wp_CA_rollover
  refine c_digest (sg_all (P := P) hI (fun g => ?_) (fun g1 g2 => ?_) (fun g1 g2 g3 => ?_) (fun g1 g2 g3 => ?_))
  · exact hP _ _ _ <| m_five (fun Y1 => m_sg hI hE (fun _ => fin9 hI (hE.thr 1) n1) (fun n => absurd g n) (fun n => absurd g n) (fun n => absurd g n))
  · exact hP _ _ _ <| m_five (fun Y1 => m_sg hI hE (fun g => absurd g g1) (fun _ _ => fin9 hI (hE.thr 2) n2) (fun _ n => absurd g2 n) (fun _ n => absurd g2 n))
  · exact hP _ _ _ <| m_five (fun Y1 => m_sg hI hE (fun g => absurd g g1) (fun _ g => absurd g g2) (fun _ _ _ => fin9 hI (hE.thr 3) n3) (fun _ _ n => absurd g3 n))
  have hp : fnd (X 61) a2 0 nn < nn := Decidable.of_not_not g3
  have hI2 := hI.rmv hp hnn
  have hE2 := (hE.rmv (p := fnd (X 61) a2 0 nn) hnn).thr 0
  have hN2 := hI2.1
  have ms := fun (Q : Int32 → ST → Int64 → Prop) (B : Int32 → ST → Int64 → Prop) (Y1 : Int64) (b : B 0 (rmv Z (fnd (X 61) a2 0 nn) nn) Y1) => m_sg (BODY := B) (post := Q) (Y := Y1) hI hE (fun g => absurd g g1) (fun _ g => absurd g g2) (fun _ _ g => absurd g g3) (fun _ _ _ => b)
  refine c_isKey (br_b (fun k => Or.inr (Or.inr (Or.inl ⟨rfl, ?_⟩))) (fun k => ?_))
  · exact hP _ _ _ <| m_five (fun Y1 => ms _ _ _ (m_isKey (br_b (fun _ => ⟨n3, fun _ => fin9 hI2 (hE2.thr 3) n3⟩) (fun k' => absurd k' k))))
  refine c_isRight k (br_b (fun r => Or.inr (Or.inl ⟨rfl, ?_⟩)) (fun r => ?_))
  · exact hP _ _ _ <| m_five (fun Y1 => ms _ _ _ (m_isKey (br_b (fun k' => absurd k k') (fun _ => m_isRight k (br_b (fun _ => ⟨n2, fun _ => fin9 hI2 (hE2.thr 2) n2⟩) (fun r' => absurd r' r))))))
  refine c_awk hN2.1.1 hna (fun q => ⟨fun e => ?_, fun _ => Or.inr (Or.inr (Or.inr ⟨rfl, ?_⟩))⟩) (fun q => ⟨fun _ => ?_, fun e => absurd rfl e⟩)
  · exact absurd (show nI (fnd (rmv X (fnd (X 61) a2 0 nn) nn 11) a3 0 na) < 0 by rw [e]; decide) (nI_pos (by omega))
  · exact hP _ _ _ <| m_five (fun Y1 => ms _ _ _ (m_isKey (br_b (fun k' => absurd k k') (fun _ => m_isRight k (br_b (fun r' => absurd r r') (fun _ => m_holder hE2 hN2.1.1 hna (fun _ => ⟨fun a => absurd a (nI_pos (by omega)), fun _ => ⟨n4, fun _ => fin9 hI2 (hE2.thr 4) n4⟩⟩) (fun q' => absurd q q')))))))
  · obtain ⟨j, hj, rfl⟩ := gA_n hI.1.1.1 hna g1
    have hc : (nI j).toNatClampNeg = j := nI_clamp (by omega)
    have z11 := hE2.a 11 j (by unfold cmp; omega)
    rw [hc]
    refine ⟨vp_in_nI (by omega) (by decide), hP _ _ _ <| m_five (fun Y1 => ms _ _ _ (m_isKey (br_b (fun k' => absurd k k') (fun _ => m_isRight k (br_b (fun r' => absurd r r') (fun _ => m_holder hE2 hN2.1.1 hna (fun q' => absurd q' q) (fun _ => ⟨fun _ => ⟨fun _ => ?_, nn0⟩, fun a => absurd (by decide) a⟩)))))))⟩
    rw [hc, z11]
    exact ⟨vp_in_nI (by omega) (by decide), fin9 (hI2.key k) ((hE2.thr 0).upB 11 j a3 (by decide)) (fun _ => rfl)⟩
/-- no such challenge -/
abbrev gD (X : ST) (a w : Int32) : Prop := a < 0 ∨ X 4 0 ≤ a ∨ w < 0 ∨ ¬ w < 2
theorem gD_n {X : ST} {a w : Int32} {nu : Nat} (h4 : X 4 0 = nI nu) (hnu : nu ≤ 24) (h : ¬ gD X a w) : ∃ A W : Nat, A < nu ∧ W < 2 ∧ a = nI A ∧ w = nI W := by
  have h0 : ¬ a < 0 := fun e => h (Or.inl e)
  have h1 : ¬ X 4 0 ≤ a := fun e => h (Or.inr (Or.inl e))
  have h2 : ¬ w < 0 := fun e => h (Or.inr (Or.inr (Or.inl e)))
  have h3 : w < 2 := Decidable.of_not_not (fun e => h (Or.inr (Or.inr (Or.inr e))))
  obtain ⟨A, hA, rfl⟩ := nI_of h0
  obtain ⟨W, hW, rfl⟩ := nI_of h2
  rw [h4] at h1
  refine ⟨A, W, ?_, (nI_ltI hW (by decide)).mp (show nI W < nI 2 from h3), rfl, rfl⟩
  rcases Nat.lt_or_ge A nu with h9 | h9
  · exact h9
  · exact absurd (nI_le h9 hA) h1
theorem ix2 (A W : Nat) : (2 : Int32) * nI A + nI W = nI (2 * A + W) := by
  rw [show (2 : Int32) = nI 2 from rfl, pk_mul, nI_add]
theorem c_chal {post : Nat → ST → Prop} {px : String → ST → Prop} {X : ST} {a w : Int32} {na no nu np nn nt : Nat} (hI : IV na no nu np nn nt X) (h1 : gD X a w → px "java/util/NoSuchElementException" X) (h0 : ∀ A W : Nat, A < nu → W < 2 → a = nI A → w = nI W → post (2 * A + W) X) : wp_CA_challengeOf post px X a w := by
  have hN := hI.1.2.2.1
  have hnu := hN.2
  unfold wp_CA_challengeOf
  refine ⟨fun e => h1 (Or.inl e), fun e1 => ⟨fun e => h1 (Or.inr (Or.inl e)), fun e2 => ⟨fun e => h1 (Or.inr (Or.inr (Or.inl e))), fun e3 => ⟨fun e4 => ?_, fun e => h1 (Or.inr (Or.inr (Or.inr e)))⟩⟩⟩⟩
  obtain ⟨A, W, hA, hW, rfl, rfl⟩ := gD_n (a := a) (w := w) hN.1 hN.2 (fun g => by rcases g with g | g | g | g; exact e1 g; exact e2 g; exact e3 g; exact g e4)
  rw [ix2, nI_clamp (show 2 * A + W < 2 ^ 31 by omega)]
  exact ⟨vp_in_nI (by omega) (by decide), h0 A W hA hW rfl rfl⟩
theorem m_aw {F G : ST → Int64 → Prop} {X Z : ST} {Y : Int64} {a w t : Int32} {na no nu np nn nt : Nat} (hI : IV na no nu np nn nt X) (hE : EQ no np X Z t) (h1 : gD X a w → F Z Y) (h0 : ∀ A W : Nat, A < nu → W < 2 → a = nI A → w = nI W → G Z Y) :
    wp_MO_isAuth (fun (r : Int32) (X1 : ST) (Y1 : Int64) => ((r = 0 → F X1 Y1) ∧ (¬ r = 0 → wp_MO_isWhich (fun (r2 : Int32) (X2 : ST) (Y2 : Int64) => ((r2 = 0 → F X2 Y2) ∧ (¬ r2 = 0 → G X2 Y2))) X1 Y1 w))) Z Y a := by
  have hN := hI.1.2.2.1
  have z4 : Z 4 0 = X 4 0 := hE.a 4 0 (by unfold cmp; omega)
  unfold wp_MO_isAuth wp_MO_isWhich
  rw [z4]
  refine ⟨fun e => ⟨fun _ => h1 (Or.inl e), nn0⟩, fun e1 => ⟨fun e => ⟨fun _ => h1 (Or.inr (Or.inl e)), nn0⟩, fun e2 => ⟨n1, fun _ => ⟨fun e => ⟨n1, fun _ => ?_⟩, fun e3 => ⟨fun e => ⟨n1, fun _ => ?_⟩, fun e4 => ⟨fun _ => ?_, nn0⟩⟩⟩⟩⟩⟩
  · subst e
    obtain ⟨A, W, hA, hW, ha, hw⟩ := gD_n (a := a) (w := 0) hN.1 hN.2 (fun g => by rcases g with g | g | g | g; exact e1 g; exact e2 g; exact absurd g (by decide); exact absurd (by decide) g)
    exact h0 A W hA hW ha hw
  · subst e
    obtain ⟨A, W, hA, hW, ha, hw⟩ := gD_n (a := a) (w := 1) hN.1 hN.2 (fun g => by rcases g with g | g | g | g; exact e1 g; exact e2 g; exact absurd g (by decide); exact absurd (by decide) g)
    exact h0 A W hA hW ha hw
  · by_cases g : gD X a w
    · exact h1 g
    · obtain ⟨A, W, hA, hW, ha, rfl⟩ := gD_n hN.1 hN.2 g
      rcases (show W = 0 ∨ W = 1 by omega) with rfl | rfl
      · exact absurd rfl e3
      · exact absurd rfl e4
theorem IV.cha {na no nu np nn nt c : Nat} {X : ST} {v : Int32} (h : IV na no nu np nn nt X) (hc : c < 2 * nu) (h3 : X 40 c ≠ 3) : IV na no nu np nn nt (up X 40 c v) := by
  refine ⟨h.1.u (by decide), h.2.1.u (by decide), h.2.2.1.u (by decide), h.2.2.2.1.u (by decide), ⟨fun d h1 h2 => ?_, fun d hd => ?_⟩, h.2.2.2.2.2.1.u (by decide), h.2.2.2.2.2.2.1.u (by decide), h.2.2.2.2.2.2.2.u (by decide)⟩
  · rw [up_j (show d ≠ c by omega), up_g (show 42 ≠ 40 by decide)]
    exact h.2.2.2.2.1.1 d h1 h2
  · obtain ⟨w, h4, h5, h6⟩ := h.2.2.2.2.1.2 d hd
    rw [up_g (show 42 ≠ 40 by decide)]
    by_cases e : d = c
    · subst e
      exact ⟨w, h4, h5, Or.inl (h6.elim id (fun e => absurd e h3))⟩
    · rw [up_j e]
      exact ⟨w, h4, h5, h6⟩
theorem sp_5 {X : ST} {O : Nat → Int64} {Z : ST} {Y : Int64} (h : RL X O Z Y) (a1 a2 a3 a4 a5 : Int32) : cs_5 RL X O Z Y a1 a2 a3 a4 a5 := by
  obtain ⟨na, no, nu, np, nn, nt, t, hI, hE⟩ := h
  have hnn := hI.1.2.2.2.2.1.2
  have hnu := hI.1.2.2.1.2
  suffices key : ∀ P : Int32 → ST → (Nat → Int64) → Prop, (∀ k X1 O1, wp_MO_answer (FN k X1 O1) Z Y a1 a2 a3 a4 a5 → P k X1 O1) → wp_LW_answer P X O a1 a2 a3 a4 a5 from key _ (fun _ _ _ h => h)
  intro P hP
  unfold wp_MO_answer at hP
  unfold wp_LW_answer wp_CA_answer
  refine c_digest (sg_all (P := P) hI (fun g => ?_) (fun g1 g2 => ?_) (fun g1 g2 g3 => ?_) (fun g1 g2 g3 => ?_))
  · exact hP _ _ _ <| m_five (fun Y1 => m_sg hI hE (fun _ => fin9 hI (hE.thr 1) n1) (fun n => absurd g n) (fun n => absurd g n) (fun n => absurd g n))
  · exact hP _ _ _ <| m_five (fun Y1 => m_sg hI hE (fun g => absurd g g1) (fun _ _ => fin9 hI (hE.thr 2) n2) (fun _ n => absurd g2 n) (fun _ n => absurd g2 n))
  · exact hP _ _ _ <| m_five (fun Y1 => m_sg hI hE (fun g => absurd g g1) (fun _ g => absurd g g2) (fun _ _ _ => fin9 hI (hE.thr 3) n3) (fun _ _ n => absurd g3 n))
  have hp : fnd (X 61) a2 0 nn < nn := Decidable.of_not_not g3
  have hI2 := hI.rmv hp hnn
  have hE2 := (hE.rmv (p := fnd (X 61) a2 0 nn) hnn).thr 0
  have ms := fun (Q : Int32 → ST → Int64 → Prop) (B : Int32 → ST → Int64 → Prop) (Y1 : Int64) (b : B 0 (rmv Z (fnd (X 61) a2 0 nn) nn) Y1) => m_sg (BODY := B) (post := Q) (Y := Y1) hI hE (fun g => absurd g g1) (fun _ g => absurd g g2) (fun _ _ g => absurd g g3) (fun _ _ _ => b)
  refine c_chal hI2 (fun g => Or.inl ⟨rfl, ?_⟩) (fun A W hA hW e1 e2 => ?_)
  · refine hP _ _ _ <| m_five (fun Y1 => ms _ _ _ (m_aw hI2 hE2 (fun _ => ⟨n1, fun _ => fin9 hI2 (hE2.thr 1) n1⟩) (fun A W hA hW e1 e2 => ?_)))
    exfalso
    subst e1
    subst e2
    rcases g with g | g | g | g
    · exact nI_pos (by omega) g
    · rw [hI2.1.2.2.1.1] at g
      exact nI_ge hA (by omega) g
    · exact nI_pos (by omega) g
    · exact g (show nI W < nI 2 from nI_lt hW (by decide))
  subst e1
  subst e2
  have hng : ¬ gD (rmv X (fnd (X 61) a2 0 nn) nn) (nI A) (nI W) := by
    rintro (g | g | g | g)
    · exact nI_pos (by omega) g
    · rw [hI2.1.2.2.1.1] at g
      exact nI_ge hA (by omega) g
    · exact nI_pos (by omega) g
    · exact g (show nI W < nI 2 from nI_lt hW (by decide))
  have hcA : (nI A).toNatClampNeg = A := nI_clamp (by omega)
  have hcC : ((2 : Int32) * nI A + nI W).toNatClampNeg = 2 * A + W := by rw [ix2]; exact nI_clamp (by omega)
  have hvC : vp_in ((2 : Int32) * nI A + nI W) 48 := by rw [ix2]; exact vp_in_nI (by omega) (by decide)
  have z31 := hE2.a 31 A (by unfold cmp; omega)
  have z30 := hE2.a 30 A (by unfold cmp; omega)
  have z40 := hE2.a 40 (2 * A + W) (by unfold cmp; omega)
  have z41 := hE2.a 41 (2 * A + W) (by unfold cmp; omega)
  generalize hX2 : rmv X (fnd (X 61) a2 0 nn) nn = X2 at hI2 hE2 hng z31 z30 z40 z41 ⊢
  rw [hcA]
  refine ⟨vp_in_nI (by omega) (by decide), fun e1 => ⟨fun e2 => ⟨by omega, fun e3 => ?_, fun e3 => Or.inr (Or.inr (Or.inr ⟨rfl, ?_⟩))⟩, fun e2 => Or.inr (Or.inr (Or.inr ⟨rfl, ?_⟩))⟩, fun e1 => Or.inr (Or.inl ⟨rfl, ?_⟩)⟩
  · refine hP _ _ _ <| m_five (fun Y1 => ms _ _ _ (m_aw hI2 hE2 (fun g => absurd g hng) (fun _ _ _ _ _ _ => ?_)))
    rw [hcA, hcC, z31, z30, z40]
    refine ⟨vp_in_nI (by omega) (by decide), fun _ => ⟨fun _ => ⟨hvC, fun _ => ⟨fun _ => ?_, nn0⟩, fun e => absurd e3 e⟩, fun e => absurd e2 e⟩, fun e => absurd e1 e⟩
    rw [hcC, z41]
    exact ⟨hvC, fin9 (hI2.cha (by omega) (by rw [e3]; decide)) ((hE2.thr 0).upB 40 _ 1 (by decide)) (fun _ => rfl)⟩
  · refine hP _ _ _ <| m_five (fun Y1 => ms _ _ _ (m_aw hI2 hE2 (fun g => absurd g hng) (fun _ _ _ _ _ _ => ?_)))
    rw [hcA, hcC, z31, z30, z40]
    exact ⟨vp_in_nI (by omega) (by decide), fun _ => ⟨fun _ => ⟨hvC, fun e => absurd e e3, fun _ => ⟨n4, fun _ => fin9 hI2 (hE2.thr 4) n4⟩⟩, fun e => absurd e2 e⟩, fun e => absurd e1 e⟩
  · refine hP _ _ _ <| m_five (fun Y1 => ms _ _ _ (m_aw hI2 hE2 (fun g => absurd g hng) (fun _ _ _ _ _ _ => ?_)))
    rw [hcA, hcC, z31, z30, z40]
    exact ⟨vp_in_nI (by omega) (by decide), fun _ => ⟨fun e => absurd e e2, fun _ => ⟨n4, fun _ => fin9 hI2 (hE2.thr 4) n4⟩⟩, fun e => absurd e1 e⟩
  · refine hP _ _ _ <| m_five (fun Y1 => ms _ _ _ (m_aw hI2 hE2 (fun g => absurd g hng) (fun _ _ _ _ _ _ => ?_)))
    rw [hcA, hcC, z31, z30, z40]
    exact ⟨vp_in_nI (by omega) (by decide), fun e => absurd e e1, fun _ => ⟨n2, fun _ => fin9 hI2 (hE2.thr 2) n2⟩⟩

