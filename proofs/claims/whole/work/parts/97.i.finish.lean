-- ===== finish =====
section FI
variable {W X Z : ST} {t k n p s : Int32} {na no nu np nn nt o : Nat}
theorem IV.st4 (h : IV na no nu np nn nt W) (hs : ST4 W X k n p s) : IV na no nu np nn nt X := by
  have g : ∀ f : Nat, f < 64 ∨ 67 < f → X f = W f := fun f hf => funext (fun i => hs.1 f i hf)
  obtain ⟨h1, h2, h3, h4, h5, h6, h7, h8⟩ := h
  refine ⟨?_, ?_, ?_, ?_, ?_, ?_, ?_, fun o ho => ?_⟩
  · unfold IN at h1 ⊢
    rw [g 2 (by omega), g 3 (by omega), g 4 (by omega), g 5 (by omega), g 6 (by omega), g 7 (by omega)]
    exact h1
  · unfold IA at h2 ⊢
    rw [g 10 (by omega), g 11 (by omega)]
    exact h2
  · unfold IR at h3 ⊢
    rw [g 20 (by omega), g 24 (by omega), g 25 (by omega)]
    refine ⟨h3.1, h3.2.1, fun o ho => ?_⟩
    obtain ⟨m, q1, q2, q3⟩ := h3.2.2 o ho
    exact ⟨m, q1, q2, fun j hj => by rw [g (1000 + j) (by omega)]; exact q3 j hj⟩
  · unfold IU at h4 ⊢
    rw [g 30 (by omega), g 31 (by omega)]
    exact h4
  · unfold IH at h5 ⊢
    rw [g 40 (by omega), g 42 (by omega)]
    exact h5
  · unfold IC at h6 ⊢
    rw [g 50 (by omega), g 51 (by omega), g 52 (by omega), g 55 (by omega), g 22 (by omega)]
    exact h6
  · unfold IT at h7 ⊢
    rw [g 63 (by omega)]
    exact h7
  · rw [st1_of (X := W) (by rw [g 20 (by omega)]) (by rw [g 25 (by omega)]) (fun j _ => by rw [g (1000 + j) (by omega)]) (fun j _ => by rw [g 30 (by omega)]), g 20 (by omega)]
    exact h8 o ho
theorem cmp_n {f i : Nat} (h : cmp no np f i) : f < 64 ∨ 67 < f := by
  unfold cmp at h
  rcases h with c | c | c | c | c | c | c | c | c | c <;> omega
theorem EQ.c4 (h : EQ no np W Z t) (hs : ST4 W X k n p s) : EQ no np X Z t := ⟨fun f i hc => (hs.1 f i (cmp_n hc)).trans (h.1 f i hc), fun o j ho hj => (hs.1 (1000 + j) o (by omega)).trans (h.2.1 o j ho hj), h.2.2⟩
theorem EQ.m4 (h : EQ no np X W t) (hs : ST4 W Z k n p s) : EQ no np X Z t := ⟨fun f i hc => (h.1 f i hc).trans (hs.1 f i (cmp_n hc)).symm, fun o j ho hj => (h.2.1 o j ho hj).trans (hs.1 26 _ (by omega)).symm, (hs.1 90 0 (by omega)).trans h.2.2⟩
theorem EQ.moreP (h : EQ no np X Z t) (e : X 55 np = Z 55 np) : EQ no (np + 1) X Z t := by
  refine ⟨fun f i hc => ?_, h.2.1, h.2.2⟩
  by_cases q : f = 55 ∧ i = np
  · rw [q.1, q.2]; exact e
  · refine h.1 f i ?_
    unfold cmp at hc ⊢
    rcases hc with c | c | c | c | c | c | c | c | c
    · exact Or.inl c
    · exact Or.inr (Or.inl c)
    · exact Or.inr (Or.inr (Or.inl c))
    · exact Or.inr (Or.inr (Or.inr (Or.inl c)))
    · exact Or.inr (Or.inr (Or.inr (Or.inr (Or.inl c))))
    · exact Or.inr (Or.inr (Or.inr (Or.inr (Or.inr (Or.inl c)))))
    · exact Or.inr (Or.inr (Or.inr (Or.inr (Or.inr (Or.inr (Or.inl c))))))
    · exact Or.inr (Or.inr (Or.inr (Or.inr (Or.inr (Or.inr (Or.inr (Or.inl ⟨c.1, by omega⟩)))))))
    · exact Or.inr (Or.inr (Or.inr (Or.inr (Or.inr (Or.inr (Or.inr (Or.inr c)))))))
/-- order o finished: certificate np made -/
def ctd (X : ST) (o np : Nat) (nm key tm : Int32) : ST := up (up (up (up (up (up (up X 20 o 2) 51 np (nI o)) 52 np nm) 53 np key) 54 np tm) 5 0 (nI (np + 1))) 24 o (nI np)
theorem iv_ctd {key tm : Int32} (h : IV na no nu np nn nt X) (ho : o < no) (hnp : np < 12) : IV na no nu (np + 1) nn nt (ctd X o np (X 22 o) key tm) := by
  have g : ∀ f : Nat, f ≠ 20 → f ≠ 51 → f ≠ 52 → f ≠ 53 → f ≠ 54 → f ≠ 5 → f ≠ 24 → ctd X o np (X 22 o) key tm f = X f := fun f h1 h2 h3 h4 h5 h6 h7 => funext (fun i => by unfold ctd; rw [up_g h7, up_g h6, up_g h5, up_g h4, up_g h3, up_g h2, up_g h1])
  have g20 : ∀ i : Nat, ctd X o np (X 22 o) key tm 20 i = up X 20 o 2 20 i := fun i => by unfold ctd; rw [up_g (by decide), up_g (by decide), up_g (by decide), up_g (by decide), up_g (by decide), up_g (by decide)]
  have g24 : ∀ i : Nat, i ≠ o → ctd X o np (X 22 o) key tm 24 i = X 24 i := fun i hi => by unfold ctd; rw [up_j hi, up_g (by decide), up_g (by decide), up_g (by decide), up_g (by decide), up_g (by decide), up_g (by decide)]
  have g51 : ∀ i : Nat, ctd X o np (X 22 o) key tm 51 i = if i = np then nI o else X 51 i := fun i => by
    unfold ctd
    rw [up_g (by decide), up_g (by decide), up_g (by decide), up_g (by decide), up_g (by decide)]
    by_cases e : i = np
    · rw [if_pos e, e, up_eq]
    · rw [if_neg e, up_j e, up_g (by decide)]
  have g52 : ∀ i : Nat, ctd X o np (X 22 o) key tm 52 i = if i = np then X 22 o else X 52 i := fun i => by
    unfold ctd
    rw [up_g (by decide), up_g (by decide), up_g (by decide), up_g (by decide)]
    by_cases e : i = np
    · rw [if_pos e, e, up_eq]
    · rw [if_neg e, up_j e, up_g (by decide), up_g (by decide)]
  have g5 : ctd X o np (X 22 o) key tm 5 0 = nI (np + 1) := by unfold ctd; rw [up_g (by decide), up_eq]
  obtain ⟨h1, h2, h3, h4, h5, h6, h7, h8⟩ := h
  refine ⟨?_, ?_, ?_, ?_, ?_, ⟨fun c hc => ?_, fun c q1 q2 => ?_⟩, ?_, fun o' ho' => ?_⟩
  · unfold IN at h1 ⊢
    rw [g 2 (by decide) (by decide) (by decide) (by decide) (by decide) (by decide) (by decide), g 3 (by decide) (by decide) (by decide) (by decide) (by decide) (by decide) (by decide), g 4 (by decide) (by decide) (by decide) (by decide) (by decide) (by decide) (by decide), g 6 (by decide) (by decide) (by decide) (by decide) (by decide) (by decide) (by decide), g 7 (by decide) (by decide) (by decide) (by decide) (by decide) (by decide) (by decide), g5]
    exact ⟨h1.1, h1.2.1, h1.2.2.1, ⟨rfl, by omega⟩, h1.2.2.2.2⟩
  · unfold IA at h2 ⊢
    rw [g 10 (by decide) (by decide) (by decide) (by decide) (by decide) (by decide) (by decide), g 11 (by decide) (by decide) (by decide) (by decide) (by decide) (by decide) (by decide)]
    exact h2
  · refine ⟨fun o' ho' => ?_, fun o' q1 q2 => ?_, fun o' ho' => ?_⟩
    · rw [g20]
      by_cases e : o' = o
      · rw [e, up_eq]
        exact Or.inr (Or.inr (Or.inl rfl))
      · rw [up_j e]
        exact h3.1 o' ho'
    · rw [g20, up_j (by omega), g24 o' (by omega), g 25 (by decide) (by decide) (by decide) (by decide) (by decide) (by decide) (by decide)]
      exact h3.2.1 o' q1 q2
    · obtain ⟨m, q1, q2, q3⟩ := h3.2.2 o' ho'
      refine ⟨m, q1, by rw [g 25 (by decide) (by decide) (by decide) (by decide) (by decide) (by decide) (by decide)]; exact q2, fun j hj => ?_⟩
      rw [g (1000 + j) (by omega) (by omega) (by omega) (by omega) (by omega) (by omega) (by omega)]
      exact q3 j hj
  · unfold IU at h4 ⊢
    rw [g 30 (by decide) (by decide) (by decide) (by decide) (by decide) (by decide) (by decide), g 31 (by decide) (by decide) (by decide) (by decide) (by decide) (by decide) (by decide)]
    exact h4
  · unfold IH at h5 ⊢
    rw [g 40 (by decide) (by decide) (by decide) (by decide) (by decide) (by decide) (by decide), g 42 (by decide) (by decide) (by decide) (by decide) (by decide) (by decide) (by decide)]
    exact h5
  · rw [g51, g52, g 55 (by decide) (by decide) (by decide) (by decide) (by decide) (by decide) (by decide), g 50 (by decide) (by decide) (by decide) (by decide) (by decide) (by decide) (by decide), g 22 (by decide) (by decide) (by decide) (by decide) (by decide) (by decide) (by decide)]
    by_cases e : c = np
    · rw [if_pos e, if_pos e]
      have q := h6.2 c (by omega) (by omega)
      exact ⟨o, ho, rfl, rfl, Or.inl ⟨q.2, q.1⟩⟩
    · rw [if_neg e, if_neg e]
      exact h6.1 c (by omega)
  · rw [g 55 (by decide) (by decide) (by decide) (by decide) (by decide) (by decide) (by decide), g 50 (by decide) (by decide) (by decide) (by decide) (by decide) (by decide) (by decide)]
    exact h6.2 c (by omega) q2
  · unfold IT at h7 ⊢
    rw [g 63 (by decide) (by decide) (by decide) (by decide) (by decide) (by decide) (by decide)]
    exact h7
  · by_cases e : o' = o
    · subst e
      exact st1_0 (by rw [g20, up_eq]; decide)
    · rw [st1_of (X := X) (by rw [g20, up_j e]) (by rw [g 25 (by decide) (by decide) (by decide) (by decide) (by decide) (by decide) (by decide)]) (fun j _ => by rw [g (1000 + j) (by omega) (by omega) (by omega) (by omega) (by omega) (by omega) (by omega)]) (fun j _ => by rw [g 30 (by decide) (by decide) (by decide) (by decide) (by decide) (by decide) (by decide)]), g20, up_j e]
      exact h8 o' ho'
theorem eq_ctd {nm key tm : Int32} (h : EQ no np X Z t) (h55 : X 55 np = -1) : EQ no (np + 1) (ctd X o np nm key tm) (up (up (up (up (up (up (up Z 51 np (nI o)) 53 np key) 54 np tm) 55 np (-1)) 5 0 (nI (np + 1))) 24 o (nI np)) 20 o 2) t := by
  have e1 : ∀ (T : ST) (f i : Nat) (v : Int32), f ≠ 20 → up (up T 20 o 2) f i v = up (up T f i v) 20 o 2 := fun T f i v hf => up_cm (by omega)
  unfold ctd
  rw [e1 _ 51 _ _ (by decide), e1 _ 52 _ _ (by decide), e1 _ 53 _ _ (by decide), e1 _ 54 _ _ (by decide), e1 _ 5 _ _ (by decide), e1 _ 24 _ _ (by decide)]
  have a1 := (h.upB 51 np (nI o) (by decide)).upC 52 np nm ⟨by decide, by unfold cmp; omega⟩
  have a2 := (a1.upB 53 np key (by decide)).upB 54 np tm (by decide)
  have u55 : up (up (up (up X 51 np (nI o)) 52 np nm) 53 np key) 54 np tm 55 np = -1 := by rw [up_g (by decide), up_g (by decide), up_g (by decide), up_g (by decide), h55]
  have a3 := (a2.w (f := 55) (i := np) (v := -1) (by decide) u55).moreP (by rw [u55, up_eq])
  exact ((a3.upB 5 0 _ (by decide)).upB 24 o _ (by decide)).upB 20 o 2 (by decide)
end FI
theorem IV.tx {na no nu np nn nt : Nat} {X : ST} (h : IV na no nu np nn nt X) : TX X (fun j => (X 63 j).toNatClampNeg) nt := by
  refine ⟨h.1.2.2.2.2.2.1, h.1.2.2.2.2.2.2, fun j hj => ?_⟩
  obtain ⟨v, h1, h2⟩ := h.2.2.2.2.2.2.1 j hj
  have : (X 63 j).toNatClampNeg = v := by rw [h2]; exact nI_clamp (by omega)
  show X 63 j = nI (X 63 j).toNatClampNeg ∧ (X 63 j).toNatClampNeg < 256
  rw [this]
  exact ⟨h2, h1⟩
theorem TX.eq {no np N : Nat} {X Z : ST} {t : Int32} {B : Nat → Nat} (h : TX X B N) (hE : EQ no np X Z t) : TX Z B N := ⟨(hE.a 7 0 (by unfold cmp; omega)).trans h.1, h.2.1, fun j hj => ⟨(hE.a 63 j (by unfold cmp; omega)).trans (h.2.2 j hj).1, (h.2.2 j hj).2⟩⟩
theorem sp_7 {X : ST} {O : Nat → Int64} {Z : ST} {Y : Int64} (h : RL X O Z Y) (a1 a2 a3 a4 : Int32) : cs_7 RL X O Z Y a1 a2 a3 a4 := by
  obtain ⟨na, no, nu, np, nn, nt, t, hI, hE⟩ := h
  have hnn := hI.1.2.2.2.2.1.2
  have hna := hI.1.1.2
  have hno := hI.1.2.1.2
  have hnp := hI.1.2.2.2.1.2
  have x7 := hI.1.2.2.2.2.2.1
  have hnt := hI.1.2.2.2.2.2.2
  suffices key : ∀ P : Int32 → ST → (Nat → Int64) → Prop, (∀ k X1 O1, wp_MO_finish (FN k X1 O1) Z Y a1 a2 a3 a4 → P k X1 O1) → wp_LW_finish P X O a1 a2 a3 a4 from key _ (fun _ _ _ h => h)
  intro P hP
  unfold wp_MO_finish at hP
  unfold wp_LW_finish wp_CA_finish
  refine c_csr x7 hnt (c_digest (sg_all (P := P) hI (fun g => ?_) (fun g1 g2 => ?_) (fun g1 g2 g3 => ?_) (fun g1 g2 g3 => ?_)))
  · exact hP _ _ _ <| m_textDigest hE x7 hnt (fun Y0 => m_five (fun Y1 => m_sg hI hE (fun _ => fin9 hI (hE.thr 1) n1) (fun n => absurd g n) (fun n => absurd g n) (fun n => absurd g n)))
  · exact hP _ _ _ <| m_textDigest hE x7 hnt (fun Y0 => m_five (fun Y1 => m_sg hI hE (fun g => absurd g g1) (fun _ _ => fin9 hI (hE.thr 2) n2) (fun _ n => absurd g2 n) (fun _ n => absurd g2 n)))
  · exact hP _ _ _ <| m_textDigest hE x7 hnt (fun Y0 => m_five (fun Y1 => m_sg hI hE (fun g => absurd g g1) (fun _ g => absurd g g2) (fun _ _ _ => fin9 hI (hE.thr 3) n3) (fun _ _ n => absurd g3 n)))
  have hp : fnd (X 61) a2 0 nn < nn := Decidable.of_not_not g3
  have hI2 := hI.rmv hp hnn
  have hE1 := hE.rmv (p := fnd (X 61) a2 0 nn) hnn
  have hE2 := hE1.thr 0
  have z3' := hE1.a 3 0 (by unfold cmp; omega)
  have ms9 := fun (Q : Int32 → ST → Int64 → Prop) (B : Int32 → ST → Int64 → Prop) (Y1 : Int64) (b : B 0 (rmv Z (fnd (X 61) a2 0 nn) nn) Y1) => m_sg (BODY := B) (post := Q) (Y := Y1) hI hE (fun g => absurd g g1) (fun _ g => absurd g g2) (fun _ _ g => absurd g g3) (fun _ _ _ => b)
  obtain ⟨K, hK, rfl⟩ := gA_n hI.1.1.1 hna g1
  generalize hX2 : rmv X (fnd (X 61) a2 0 nn) nn = X2 at hI2 hE2 z3' ⊢
  generalize hZ2 : up (rmv Z (fnd (X 61) a2 0 nn) nn) 90 0 0 = Z2 at hE2
  have x3 : X2 3 0 = nI no := hI2.1.2.1.1
  have x5 : X2 5 0 = nI np := hI2.1.2.2.2.1.1
  have z5 : Z2 5 0 = nI np := (hE2.a 5 0 (by unfold cmp; omega)).trans x5
  have bad : (a3 < 0 ∨ ¬ a3 < X2 3 0) → P 1 X2 O := by
    intro q
    refine hP _ _ _ <| m_textDigest hE x7 hnt (fun Y0 => m_five (fun Y1 => ms9 _ _ _ ?_))
    rw [hZ2, z3']
    have fin : wq_MO_finish_54 (FN 1 X2 O) 0 (nI K) a3 Z2 Y1 := by
      unfold wq_MO_finish_54 wq_MO_finish_104
      exact ⟨fun _ => ⟨n1, fun _ => fin9 hI2 (hE2.thr 1) n1⟩, nn0⟩
    exact ⟨fun _ => fin, fun e1 => ⟨fun _ => fin, fun e2 => absurd q (fun q => q.elim e1 (fun r => r (Int32.not_le.mp e2)))⟩⟩
  refine ⟨fun e => Or.inl ⟨rfl, bad (Or.inl e)⟩, fun e1 => ⟨fun e2 => ?_, fun e => Or.inl ⟨rfl, bad (Or.inr e)⟩⟩⟩
  obtain ⟨o, ho', rfl⟩ := nI_of e1
  have ho : o < no := by rw [x3] at e2; exact (nI_ltI ho' (by omega)).mp e2
  have hco : (nI o).toNatClampNeg = o := nI_clamp (by omega)
  have hvo : vp_in (nI o) 12 := vp_in_nI (by omega) (by decide)
  have hcK : (nI K).toNatClampNeg = K := nI_clamp (by omega)
  have hvK : vp_in (nI K) 6 := vp_in_nI (by omega) (by decide)
  have z21 := hE2.a 21 o (by unfold cmp; omega)
  have z20 := hE2.a 20 o (by unfold cmp; omega)
  -- the reference up to the tests of the order
  have ref : ∀ (s : Int32) (X1 : ST) (O1 : Nat → Int64), (∀ Y1 : Int64, ((X2 21 o = nI K → ((X2 20 o = (1 : Int32) → ((nI np = (12 : Int32) → wq_MO_finish_104 (FN s X1 O1) (4 : Int32) (nI K) (nI o) Z2 Y1) ∧ (¬ nI np = (12 : Int32) → wq_MO_finish_104 (FN s X1 O1) (0 : Int32) (nI K) (nI o) Z2 Y1))) ∧ (¬ X2 20 o = (1 : Int32) → wq_MO_finish_104 (FN s X1 O1) (4 : Int32) (nI K) (nI o) Z2 Y1))) ∧ (¬ X2 21 o = nI K → wq_MO_finish_104 (FN s X1 O1) (2 : Int32) (nI K) (nI o) Z2 Y1))) → P s X1 O1 := by
    intro s X1 O1 q
    refine hP _ _ _ <| m_textDigest hE x7 hnt (fun Y0 => m_five (fun Y1 => ms9 _ _ _ ?_))
    rw [hZ2, z3']
    refine ⟨fun e => absurd e e1, fun _ => ⟨fun e => absurd e (Int32.not_le.mpr e2), fun _ => ?_⟩⟩
    unfold wq_MO_finish_54
    rw [hco, z21, z20, z5]
    exact ⟨n1, fun _ => ⟨hvo, q Y1⟩⟩
  have f4 : ∀ Y1 : Int64, wq_MO_finish_104 (FN 4 X2 O) 4 (nI K) (nI o) Z2 Y1 := fun Y1 => ⟨n4, fun _ => fin9 hI2 (hE2.thr 4) n4⟩
  have f2 : ∀ Y1 : Int64, wq_MO_finish_104 (FN 2 X2 O) 2 (nI K) (nI o) Z2 Y1 := fun Y1 => ⟨n2, fun _ => fin9 hI2 (hE2.thr 2) n2⟩
  rw [hco, hcK, x5]
  refine ⟨hvo, fun e3 => ⟨fun e4 => ⟨fun e5 => ?_, fun e5 => Or.inr (Or.inr (Or.inr ⟨rfl, ref _ _ _ (fun Y1 => tt e3 (tt e4 (tt ?_ (f4 Y1))))⟩))⟩, fun e4 => Or.inr (Or.inr (Or.inr ⟨rfl, ref _ _ _ (fun Y1 => tt e3 (ff e4 (f4 Y1)))⟩))⟩, fun e3 => Or.inr (Or.inl ⟨rfl, ref _ _ _ (fun Y1 => ff e3 (f2 Y1))⟩)⟩
  rotate_left
  · have : ¬ np < 12 := fun q => e5 (show nI np < nI 12 from nI_lt q (by decide))
    rw [show np = 12 by omega]
    rfl
  have hnp2 : np < 12 := (nI_ltI (by omega) (by decide)).mp (show nI np < nI 12 from e5)
  have hn12 : ¬ nI np = (12 : Int32) := fun q => absurd ((nI_eq (by omega) (by decide)).mp (show nI np = nI 12 from q)) (by omega)
  have hT := hI2.tx
  have hE0 := hE2.thr 0
  have hTz := hT.eq hE0
  generalize hBB : (fun j => (X2 63 j).toNatClampNeg) = B at hT hTz
  -- the reference's end
  have rd : ∀ (s : Int32) (X1 : ST) (O1 : Nat → Int64), (∀ Y1 : Int64, wp_MO_readRequest (fun (X2 : ST) (Y3 : Int64) => (((X2 67 0) = 0 → wq_MO_finish_153 (FN s X1 O1) X2 Y3) ∧ (¬ (X2 67 0) = 0 → (vp_in (nI o) 12 ∧ (((X2 65 0) = (X2 22 o) → (vp_in (nI K) 6 ∧ (((X2 64 0) = (X2 11 K) → wq_MO_finish_153 (FN s X1 O1) X2 Y3) ∧ (¬ (X2 64 0) = (X2 11 K) → (vp_in (X2 5 0) 12 ∧ FN s X1 O1 (X2 5 0) (up (up (up (up (up (up (up X2 51 ((X2 5 0).toNatClampNeg) (nI o)) 53 ((X2 5 0).toNatClampNeg) (X2 64 0)) 54 ((X2 5 0).toNatClampNeg) (X2 1 0)) 55 ((X2 5 0).toNatClampNeg) (-1 : Int32)) 5 0 ((X2 5 0) + (1 : Int32))) 24 o (X2 5 0)) 20 o (2 : Int32)) Y3))))) ∧ (¬ (X2 65 0) = (X2 22 o) → wq_MO_finish_153 (FN s X1 O1) X2 Y3)))))) (up Z2 90 0 0) Y1) → P s X1 O1 := by
    intro s X1 O1 q
    refine ref _ _ _ (fun Y1 => tt e3 (tt e4 (ff hn12 ?_)))
    unfold wq_MO_finish_104
    rw [hco, hcK]
    exact ⟨fun _ => q Y1, nn0⟩
  refine c_from hT (fun S rq p s X3 s3 => ?_) (fun nr k n p s X3 s3 => ?_)
  · have hI3 := hI2.st4 s3
    have hE3 := hE0.c4 s3
    have x22 : X3 22 o = X2 22 o := s3.1 22 o (by omega)
    have x11 : X3 11 K = X2 11 K := s3.1 11 K (by omega)
    -- any end of the reference's reader
    have zz : ∀ {p' : Int32} {Z3 : ST}, ST4 (up Z2 90 0 0) Z3 (nI (vl B 2)) (nI S) p' 1 → Z3 67 0 = 1 ∧ Z3 65 0 = nI S ∧ Z3 64 0 = nI (vl B 2) ∧ Z3 22 o = X3 22 o ∧ Z3 11 K = X3 11 K ∧ Z3 5 0 = nI np ∧ Z3 1 0 = X3 1 0 ∧ EQ no np X3 Z3 0 := by
      intro p' Z3 z3
      have hEz := hE3.m4 z3
      exact ⟨z3.2.2.2.2, z3.2.2.1, z3.2.1, hEz.a 22 o (by unfold cmp; omega), hEz.a 11 K (by unfold cmp; omega), (hEz.a 5 0 (by unfold cmp; omega)).trans hI3.1.2.2.2.1.1, hEz.a 1 0 (by unfold cmp; omega), hEz⟩
    have same : ∀ S' : Nat, RQ B nt S' → S' = S := fun S' q => Option.some.inj (q.2.2.2.2.1.symm.trans rq.2.2.2.2.1)
    have no3 : (∀ Z3 : ST, ∀ p' : Int32, ST4 (up Z2 90 0 0) Z3 (nI (vl B 2)) (nI S) p' 1 → ∀ Y3 : Int64, (X3 65 0 = X3 22 o → X3 64 0 = X3 11 K → wq_MO_finish_153 (FN 3 X3 O) Z3 Y3) ∧ wq_MO_finish_153 (FN 3 X3 O) Z3 Y3) := by
      intro Z3 p' z3 Y3
      have f : wq_MO_finish_153 (FN 3 X3 O) Z3 Y3 := by
        unfold wq_MO_finish_153
        exact fin9 hI3 ((zz z3).2.2.2.2.2.2.2.thr 3) n3
      exact ⟨fun _ _ => f, f⟩
    refine ⟨n1, fun _ => ⟨fun e6 => ⟨hvK, fun e7 => Or.inr (Or.inr (Or.inl ⟨rfl, rd _ _ _ (fun Y1 => m_from hTz (fun S' rq' p' Z3 Y3 z3 => ?_) (fun nr => absurd ⟨S, rq⟩ nr))⟩)), fun e7 => ?_⟩, fun e6 => Or.inr (Or.inr (Or.inl ⟨rfl, rd _ _ _ (fun Y1 => m_from hTz (fun S' rq' p' Z3 Y3 z3 => ?_) (fun nr => absurd ⟨S, rq⟩ nr))⟩))⟩⟩
    · rw [same S' rq'] at z3
      obtain ⟨q1, q2, q3, q4, q5, q6, q7, q8⟩ := zz z3
      rw [s3.2.2.1] at e6
      rw [s3.2.1] at e7
      rw [q1, q2, q3, q4, q5]
      exact ⟨n1, fun _ => ⟨hvo, tt e6 ⟨hvK, tt e7 ((no3 Z3 p' z3 Y3).2)⟩⟩⟩
    · -- a certificate
      unfold wp_CA_makeCertificate
      have x5' : up X3 20 o 2 5 0 = nI np := by rw [up_g (by decide)]; exact hI3.1.2.2.2.1.1
      have x1' : up X3 20 o 2 1 0 = X3 1 0 := up_g (by decide)
      rw [x5', x1', nI_clamp (show np < 2 ^ 31 by omega), nI_1]
      dsimp only
      rw [up_eq]
      refine ⟨vp_in_nI hnp2 (by decide), rd _ _ _ (fun Y1 => m_from hTz (fun S' rq' p' Z3 Y3 z3 => ?_) (fun nr => absurd ⟨S, rq⟩ nr))⟩
      rw [same S' rq'] at z3
      obtain ⟨q1, q2, q3, q4, q5, q6, q7, q8⟩ := zz z3
      rw [s3.2.2.1] at e6
      rw [s3.2.1] at e7
      rw [q1, q2, q3, q4, q5, q6, q7, nI_clamp (show np < 2 ^ 31 by omega), nI_1, s3.2.1]
      refine ⟨n1, fun _ => ⟨hvo, tt e6 ⟨hvK, ff e7 ⟨vp_in_nI hnp2 (by decide), ?_⟩⟩⟩⟩
      exact fin9 (iv_ctd hI3 (key := nI (vl B 2)) (tm := X3 1 0) ho hnp2) (eq_ctd (nm := X3 22 o) q8 (hI3.2.2.2.2.2.1.2 np (Nat.le_refl _) hnp2).2) (fun _ => pk_uLs)
    · rw [same S' rq'] at z3
      obtain ⟨q1, q2, q3, q4, q5, q6, q7, q8⟩ := zz z3
      rw [s3.2.2.1] at e6
      rw [q1, q2, q4]
      exact ⟨n1, fun _ => ⟨hvo, ff e6 ((no3 Z3 p' z3 Y3).2)⟩⟩
  · refine ⟨fun _ => Or.inr (Or.inr (Or.inl ⟨rfl, rd _ _ _ (fun Y1 => m_from hTz (fun S rq => absurd ⟨S, rq⟩ nr) (fun _ k' n' p' Z3 Y3 z3 => tt z3.2.2.2.2 ?_))⟩)), nn0⟩
    unfold wq_MO_finish_153
    exact fin9 (hI2.st4 s3) (((hE0.c4 s3).m4 z3).thr 3) n3

