theorem EQ.more {no np : Nat} {X Z : ST} {t : Int32} (h : EQ no np X Z t) (e : X 24 no = Z 24 no) : EQ (no + 1) np X Z t := by
  refine ⟨fun f i hc => ?_, h.2.1, h.2.2⟩
  by_cases q : f = 24 ∧ i = no
  · rw [q.1, q.2]; exact e
  · refine h.1 f i ?_
    unfold cmp at hc ⊢
    rcases hc with c | c | c | c | c
    · exact Or.inl c
    · exact Or.inr (Or.inl c)
    · exact Or.inr (Or.inr (Or.inl c))
    · exact Or.inr (Or.inr (Or.inr (Or.inl ⟨c.1, by omega⟩)))
    · exact Or.inr (Or.inr (Or.inr (Or.inr c)))
theorem nv_E {X Z : ST} {t k m : Int32} {no np nu : Nat} (hE : EQ no np X Z t) (hnu : nu ≤ 24) : nv Z k m nu = nv X k m nu := nv_of nu (fun a ha => ⟨hE.a 31 a (by unfold cmp; omega), hE.a 32 a (by unfold cmp; omega), hE.a 30 a (by unfold cmp; omega)⟩)
theorem sp_4 {X : ST} {O : Nat → Int64} {Z : ST} {Y : Int64} (h : RL X O Z Y) (a1 a2 a3 a4 a5 : Int32) : cs_4 RL X O Z Y a1 a2 a3 a4 a5 := by
  obtain ⟨na, no, nu, np, nn, nt, t, hI, hE⟩ := h
  have hnn := hI.1.2.2.2.2.1.2
  have hnu := hI.1.2.2.1.2
  have hna := hI.1.1.2
  have hno := hI.1.2.1.2
  suffices key : ∀ P : Int32 → ST → (Nat → Int64) → Prop, (∀ k X1 O1, wp_MO_order (FN k X1 O1) Z Y a1 a2 a3 a4 a5 → P k X1 O1) → wp_LW_order P X O a1 a2 a3 a4 a5 from key _ (fun _ _ _ h => h)
  intro P hP
  unfold wp_MO_order at hP
  unfold wp_LW_order wp_CA_order
  refine c_digest (sg_all (P := P) hI (fun g => ?_) (fun g1 g2 => ?_) (fun g1 g2 g3 => ?_) (fun g1 g2 g3 => ?_))
  · exact hP _ _ _ <| m_five (fun Y1 => m_sg hI hE (fun _ => fin9 hI (hE.thr 1) n1) (fun n => absurd g n) (fun n => absurd g n) (fun n => absurd g n))
  · exact hP _ _ _ <| m_five (fun Y1 => m_sg hI hE (fun g => absurd g g1) (fun _ _ => fin9 hI (hE.thr 2) n2) (fun _ n => absurd g2 n) (fun _ n => absurd g2 n))
  · exact hP _ _ _ <| m_five (fun Y1 => m_sg hI hE (fun g => absurd g g1) (fun _ g => absurd g g2) (fun _ _ _ => fin9 hI (hE.thr 3) n3) (fun _ _ n => absurd g3 n))
  have hp : fnd (X 61) a2 0 nn < nn := Decidable.of_not_not g3
  have hI2 := hI.rmv hp hnn
  have hE2 := (hE.rmv (p := fnd (X 61) a2 0 nn) hnn).thr 0
  have ms9 := fun (Q : Int32 → ST → Int64 → Prop) (B : Int32 → ST → Int64 → Prop) (Y1 : Int64) (b : B 0 (rmv Z (fnd (X 61) a2 0 nn) nn) Y1) => m_sg (BODY := B) (post := Q) (Y := Y1) hI hE (fun g => absurd g g1) (fun _ g => absurd g g2) (fun _ _ g => absurd g g3) (fun _ _ _ => b)
  obtain ⟨K, hK, rfl⟩ := gA_n hI.1.1.1 hna g1
  generalize hX2 : rmv X (fnd (X 61) a2 0 nn) nn = X2 at hI2 hE2 ⊢
  generalize hZ2 : up (rmv Z (fnd (X 61) a2 0 nn) nn) 90 0 0 = Z2 at hE2
  have x3 : X2 3 0 = nI no := hI2.1.2.1.1
  have x4 : X2 4 0 = nI nu := hI2.1.2.2.1.1
  have z3 : Z2 3 0 = nI no := (hE2.a 3 0 (by unfold cmp; omega)).trans x3
  have z4 : Z2 4 0 = nI nu := (hE2.a 4 0 (by unfold cmp; omega)).trans x4
  have z1 : Z2 1 0 = X2 1 0 := hE2.a 1 0 (by unfold cmp; omega)
  have hcn := cn_le a3 16
  -- the reference's tests of names and life
  have tst : ∀ (Q : Int32 → ST → Int64 → Prop) (Y1 : Int64), (okN a3 ∧ ¬ a4 < 1 ∧ ¬ (100 : Int32) < a4 → wq_MO_order_67 Q 1 (nI K) a3 a4 Z2 Y1) → (¬ (okN a3 ∧ ¬ a4 < 1 ∧ ¬ (100 : Int32) < a4) → wq_MO_order_67 Q 0 (nI K) a3 a4 Z2 Y1) → ((a3 ≤ 0 → wq_MO_order_67 Q (0 : Int32) (nI K) a3 a4 Z2 Y1) ∧ (¬ a3 ≤ 0 → (((65536 : Int32) ≤ a3 → wq_MO_order_67 Q (0 : Int32) (nI K) a3 a4 Z2 Y1) ∧ (¬ (65536 : Int32) ≤ a3 → wp_MO_many (fun (r38 : Int32) (X36 : ST) (Y37 : Int64) => (((4 : Int32) < r38 → wq_MO_order_67 Q (0 : Int32) (nI K) a3 a4 X36 Y37) ∧ (¬ (4 : Int32) < r38 → ((a4 < (1 : Int32) → wq_MO_order_67 Q (0 : Int32) (nI K) a3 a4 X36 Y37) ∧ (¬ a4 < (1 : Int32) → (((100 : Int32) < a4 → wq_MO_order_67 Q (0 : Int32) (nI K) a3 a4 X36 Y37) ∧ (¬ (100 : Int32) < a4 → wq_MO_order_67 Q (1 : Int32) (nI K) a3 a4 X36 Y37))))))) Z2 Y1 a3)))) := by
    intro Q Y1 q1 q0
    refine ⟨fun e => q0 (fun q => q.1.1 e), fun e1 => ⟨fun e => q0 (fun q => q.1.2.1 e), fun e2 => m_many ⟨fun e => q0 (fun q => ?_), fun e3 => ⟨fun e => q0 (fun q => q.2.1 e), fun e4 => ⟨fun e => q0 (fun q => q.2.2 e), fun e5 => q1 ⟨⟨e1, e2, ?_⟩, e4, e5⟩⟩⟩⟩⟩⟩
    · have := (nI_ltI (by decide) (by omega)).mp (show nI 4 < nI (cn a3 16) from e)
      have := q.1.2.2
      omega
    · rcases Nat.lt_or_ge 4 (cn a3 16) with r | r
      · exact absurd (show nI 4 < nI (cn a3 16) from nI_lt r (by omega)) e3
      · exact r
  have bad : (¬ (okN a3 ∧ ¬ a4 < 1 ∧ ¬ (100 : Int32) < a4)) → P 3 X2 O := by
    intro q
    refine hP _ _ _ <| m_five (fun Y1 => ms9 _ _ _ ?_)
    rw [hZ2]
    refine tst _ _ (fun r => absurd r q) (fun _ => ?_)
    unfold wq_MO_order_67 wq_MO_order_109
    exact ⟨fun _ => ⟨n3, fun _ => fin9 hI2 (hE2.thr 3) n3⟩, nn0⟩
  refine c_can (br_b (fun o => Or.inr (Or.inr (Or.inl ⟨rfl, bad (fun q => o q.1)⟩))) (fun o => ⟨fun e => Or.inr (Or.inr (Or.inl ⟨rfl, bad (fun q => q.2.1 e)⟩)), fun e1 => ⟨fun e2 => ?_, fun e => Or.inr (Or.inr (Or.inl ⟨rfl, bad (fun q => q.2.2 (Int32.not_le.mp e))⟩))⟩⟩))
  have good : okN a3 ∧ ¬ a4 < 1 ∧ ¬ (100 : Int32) < a4 := ⟨o, e1, Int32.not_lt.mpr e2⟩
  rw [x3, x4]
  refine ⟨fun e3 => Or.inr (Or.inr (Or.inr ⟨rfl, ?_⟩)), fun e3 => c_missing x4 hnu ?_⟩
  · have hno2 : no = 12 := by
      have := (nI_leI (by decide) (by omega)).mp (show nI 12 ≤ nI no from e3)
      omega
    refine hP _ _ _ <| m_five (fun Y1 => ms9 _ _ _ ?_)
    rw [hZ2]
    refine tst _ _ (fun _ => ?_) (fun r => absurd good r)
    unfold wq_MO_order_67 wq_MO_order_109
    rw [z3, hno2]
    exact ⟨n1, fun _ => ⟨fun _ => ⟨n4, fun _ => fin9 hI2 (hE2.thr 4) n4⟩, fun q => absurd rfl q⟩⟩
  have hno2 : no < 12 := by
    rcases Nat.lt_or_ge no 12 with q | q
    · exact q
    · exact absurd (show nI 12 ≤ nI no from nI_le q (by omega)) e3
  have z12 : ¬ Z2 3 0 = 12 := by
    rw [z3]
    exact fun q => absurd ((nI_eq (by omega) (by decide)).mp (show nI no = nI 12 from q)) (by omega)
  have hGm : ms (fun m => nv Z2 (nI K) m nu) a3 16 = ms (fun m => nv X2 (nI K) m nu) a3 16 := by
    rw [show (fun m => nv Z2 (nI K) m nu) = (fun m => nv X2 (nI K) m nu) from funext (fun m => nv_E hE2 hnu)]
  have hml := ms_le (fun m => nv X2 (nI K) m nu) a3 16
  rw [nI_add]
  refine ⟨fun e4 => ?_, fun e4 => Or.inr (Or.inr (Or.inr ⟨rfl, ?_⟩))⟩
  · have hms : nu + ms (fun m => nv X2 (nI K) m nu) a3 16 ≤ 24 := (nI_leI (by omega) (by decide)).mp (show nI _ ≤ nI 24 from e4)
    unfold wp_CA_makeOrder
    rw [x3, nI_clamp (show no < 2 ^ 31 by omega)]
    have hk0 := KV.of hI2 hno2 (nI K) a3 (X2 1 0 + a4)
    have hnv : ∀ m : Int32, nv (up (up (up X2 21 no (nI K)) 22 no a3) 23 no (X2 1 0 + a4)) (nI K) m nu = nv X2 (nI K) m nu := fun m => nv_of nu (fun a _ => by
      rw [up_g (show (31 : Nat) ≠ 23 by decide), up_g (show (31 : Nat) ≠ 22 by decide), up_g (show (31 : Nat) ≠ 21 by decide), up_g (show (32 : Nat) ≠ 23 by decide), up_g (show (32 : Nat) ≠ 22 by decide), up_g (show (32 : Nat) ≠ 21 by decide), up_g (show (30 : Nat) ≠ 23 by decide), up_g (show (30 : Nat) ≠ 22 by decide), up_g (show (30 : Nat) ≠ 21 by decide)]
      exact ⟨rfl, rfl, rfl⟩)
    have hkv := (mkO_KV (e := X2 1 0 + a4) (n := a3) hk0 hnv hK hms o.2.2 16 (Nat.le_refl _)).1
    have hJ := hkv.done hno2
    refine ⟨vp_in_nI hno2 (by decide), c_mkO hk0 hno2 hnv hK hms o.2.2 (c_stl hJ ?_)⟩
    refine hP _ _ _ <| m_five (fun Y1 => ms9 _ _ _ ?_)
    rw [hZ2]
    refine tst _ _ (fun _ => ?_) (fun r => absurd good r)
    unfold wq_MO_order_67
    refine ⟨n1, fun _ => ⟨fun q => absurd q z12, fun _ => m_fresh z4 hnu ?_⟩⟩
    rw [hGm, z4, nI_add]
    refine ⟨fun _ => ?_, fun q => absurd e4 q⟩
    unfold wq_MO_order_109
    rw [z3, z1, nI_clamp (show no < 2 ^ 31 by omega), nI_1]
    refine ⟨fun _ => ⟨vp_in_nI hno2 (by decide), ?_⟩, nn0⟩
    have q0 := hI2.2.2.1.2.1 no (Nat.le_refl _) hno2
    have u : ∀ f : Nat, f ≠ 21 → f ≠ 22 → f ≠ 23 → up (up (up X2 21 no (nI K)) 22 no a3) 23 no (X2 1 0 + a4) f no = X2 f no := fun f h1 h2 h3 => by rw [up_g h3, up_g h2, up_g h1]
    have hE3 := ((((hE2.thr 0).upB 21 no (nI K) (by decide)).upB 22 no a3 (by decide)).upB 23 no (X2 1 0 + a4) (by decide)).w (f := 20) (i := no) (v := 0) (by decide) (by rw [u 20 (by decide) (by decide) (by decide)]; exact q0.1)
    have hE4 := (hE3.w (f := 24) (i := no) (v := -1) (by decide) (by rw [u 24 (by decide) (by decide) (by decide)]; exact q0.2.1)).more (by rw [u 24 (by decide) (by decide) (by decide), up_eq]; exact q0.2.1)
    have hE5 := (hE4.w (f := 25) (i := no) (v := 0) (by decide) (by rw [u 25 (by decide) (by decide) (by decide)]; exact q0.2.2)).upB 3 0 (nI (no + 1)) (by decide)
    refine m_mkO hk0 hno2 hnv hK hms o.2.2 (by rw [up_g (by decide), up_g (by decide), up_g (by decide)]) hE5 (fun Z1 hE6 => ?_)
    exact m_stl hJ hE6 (fun Z3 hE7 => fin9 hJ.st hE7 (fun _ => pk_uLs))
  · refine hP _ _ _ <| m_five (fun Y1 => ms9 _ _ _ ?_)
    rw [hZ2]
    refine tst _ _ (fun _ => ?_) (fun r => absurd good r)
    unfold wq_MO_order_67
    refine ⟨n1, fun _ => ⟨fun q => absurd q z12, fun _ => m_fresh z4 hnu ?_⟩⟩
    rw [hGm, z4, nI_add]
    refine ⟨fun q => absurd q e4, fun _ => ?_⟩
    unfold wq_MO_order_109
    exact ⟨n4, fun _ => fin9 hI2 (hE2.thr 4) n4⟩

