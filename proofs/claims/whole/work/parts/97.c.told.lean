-- ===== state, detail =====
theorem tt {p A B : Prop} (h : p) (a : A) : (p → A) ∧ (¬ p → B) := ⟨fun _ => a, fun n => absurd h n⟩
theorem ff {p A B : Prop} (h : ¬ p) (b : B) : (p → A) ∧ (¬ p → B) := ⟨fun n => absurd n h, fun _ => b⟩
def ctv (X : ST) (k : Int32) : Int32 := if k = 3 then (2 : Int32) * X 4 0 else thv X k
section TD
variable {X Z : ST} {Y : Int64} {t k i : Int32} {na no nu np nn nt : Nat}
theorem c_req {post : ST → Prop} {px : String → ST → Prop} (h1 : i < 0 ∨ ¬ i < ctv X k → px "java/util/NoSuchElementException" X) (h0 : ¬ i < 0 → i < ctv X k → post X) : wp_CA_requireThere post px X k i := by
  unfold wp_CA_requireThere wq_CA_requireThere_19
  by_cases e : k = 3
  · have ec : ctv X k = (2 : Int32) * X 4 0 := if_pos e
    rw [ec] at h1 h0
    exact tt e ⟨fun q => h1 (Or.inl q), fun q => ⟨h0 q, fun r => h1 (Or.inr r)⟩⟩
  · have ec : ctv X k = thv X k := if_neg e
    rw [ec] at h1 h0
    exact ff e (c_there ⟨fun q => h1 (Or.inl q), fun q => ⟨h0 q, fun r => h1 (Or.inr r)⟩⟩)
theorem m_look {post : ST → Int64 → Prop} (hE : EQ no np X Z t) (h1 : i < 0 ∨ ¬ i < ctv X k → post (up Z 90 0 1) Y) (h0 : ¬ i < 0 → i < ctv X k → post (up Z 90 0 0) Y) : wp_MO_look post Z Y k i := by
  have z2 := hE.a 2 0 (by unfold cmp; omega)
  have z3 := hE.a 3 0 (by unfold cmp; omega)
  have z4 := hE.a 4 0 (by unfold cmp; omega)
  have z5 := hE.a 5 0 (by unfold cmp; omega)
  have fin : ∀ s : Int32, ctv X k = s → wq_MO_look_19 post s i Z Y := by
    intro s hs
    rw [hs] at h1 h0
    exact ⟨fun q => h1 (Or.inl q), fun q => ⟨fun r => h1 (Or.inr (Int32.not_lt.mpr r)), fun r => h0 q (Int32.not_le.mp r)⟩⟩
  unfold wp_MO_look wp_MO_counted
  rw [z2, z3, z4, z5]
  by_cases e : k = 3
  · exact tt e (fin _ (if_pos e))
  · refine ff e ?_
    have ec : ctv X k = thv X k := if_neg e
    unfold thv at ec
    by_cases e0 : k = 0
    · rw [if_pos e0] at ec
      exact tt e0 (fin _ ec)
    · rw [if_neg e0] at ec
      refine ff e0 ?_
      by_cases e1 : k = 1
      · rw [if_pos e1] at ec
        exact tt e1 (fin _ ec)
      · rw [if_neg e1] at ec
        refine ff e1 ?_
        by_cases e2 : k = 2
        · rw [if_pos e2] at ec
          exact tt e2 (fin _ ec)
        · rw [if_neg e2, if_neg e] at ec
          refine ff e2 ?_
          by_cases e4 : k = 4
          · rw [if_pos e4] at ec
            exact tt e4 (fin _ ec)
          · rw [if_neg e4] at ec
            exact ff e4 (fin _ ec)
theorem ctv_n (hI : IV na no nu np nn nt X) (h0 : ¬ i < 0) (h1 : i < ctv X k) : ∃ K : Nat, i = nI K ∧ ((k = 0 ∧ K < na) ∨ (k = 1 ∧ K < no) ∨ (k = 2 ∧ K < nu) ∨ (k = 3 ∧ K < 2 * nu) ∨ (k = 4 ∧ K < np)) := by
  obtain ⟨K, hK, rfl⟩ := nI_of h0
  refine ⟨K, rfl, ?_⟩
  have hN := hI.1
  have b1 := hN.1.2
  have b2 := hN.2.1.2
  have b3 := hN.2.2.1.2
  have b4 := hN.2.2.2.1.2
  unfold ctv at h1
  by_cases e : k = 3
  · rw [if_pos e, hN.2.2.1.1, show (2 : Int32) = nI 2 from rfl, pk_mul] at h1
    exact Or.inr (Or.inr (Or.inr (Or.inl ⟨e, (nI_ltI hK (by omega)).mp h1⟩)))
  · rw [if_neg e] at h1
    unfold thv at h1
    by_cases e0 : k = 0
    · rw [if_pos e0, hN.1.1] at h1
      exact Or.inl ⟨e0, (nI_ltI hK (by omega)).mp h1⟩
    · rw [if_neg e0] at h1
      by_cases e1 : k = 1
      · rw [if_pos e1, hN.2.1.1] at h1
        exact Or.inr (Or.inl ⟨e1, (nI_ltI hK (by omega)).mp h1⟩)
      · rw [if_neg e1] at h1
        by_cases e2 : k = 2
        · rw [if_pos e2, hN.2.2.1.1] at h1
          exact Or.inr (Or.inr (Or.inl ⟨e2, (nI_ltI hK (by omega)).mp h1⟩))
        · rw [if_neg e2, if_neg e] at h1
          by_cases e4 : k = 4
          · rw [if_pos e4, hN.2.2.2.1.1] at h1
            exact Or.inr (Or.inr (Or.inr (Or.inr ⟨e4, (nI_ltI hK (by omega)).mp h1⟩)))
          · rw [if_neg e4] at h1
            exact absurd h1 (nI_pos hK)
end TD
theorem sp_17 {X : ST} {O : Nat → Int64} {Z : ST} {Y : Int64} (h : RL X O Z Y) (a1 a2 : Int32) : cs_17 RL X O Z Y a1 a2 := by
  obtain ⟨na, no, nu, np, nn, nt, t, hI, hE⟩ := h
  have b1 := hI.1.1.2
  have b2 := hI.1.2.1.2
  have b3 := hI.1.2.2.1.2
  have b4 := hI.1.2.2.2.1.2
  suffices key : ∀ P : Int32 → ST → (Nat → Int64) → Prop, (∀ k X1 O1, wp_MO_state (FN k X1 O1) Z Y a1 a2 → P k X1 O1) → wp_LW_state P X O a1 a2 from key _ (fun _ _ _ h => h)
  intro P hP
  unfold wp_MO_state at hP
  unfold wp_LW_state wp_CA_state
  have hE0 := hE.thr 0
  refine c_req (fun q => ⟨rfl, hP _ _ _ <| m_look hE (fun _ => ff (by rw [up_eq]; decide) (fin9 hI (hE.thr 1) n1)) (fun r1 r2 => absurd q (fun q => q.elim r1 (fun r => r r2)))⟩) (fun q1 q2 => ?_)
  obtain ⟨K, rfl, hk⟩ := ctv_n hI q1 q2
  have ml : ∀ (Q : ST → Int64 → Prop), Q (up Z 90 0 0) Y → wp_MO_look Q Z Y a1 (nI K) := fun Q hQ => m_look hE (fun q => absurd q (fun q => q.elim q1 (fun r => r q2))) (fun _ _ => hQ)
  have y90 : up Z 90 0 0 90 0 = 0 := up_eq _ _ _ _
  have hcK : (nI K).toNatClampNeg = K := by
    refine nI_clamp ?_
    rcases hk with ⟨_, hk⟩ | ⟨_, hk⟩ | ⟨_, hk⟩ | ⟨_, hk⟩ | ⟨_, hk⟩ <;> omega
  rw [hcK]
  rcases hk with ⟨rfl, hk⟩ | ⟨rfl, hk⟩ | ⟨rfl, hk⟩ | ⟨rfl, hk⟩ | ⟨rfl, hk⟩
  · refine ff (by decide) (ff (by decide) (tt rfl ⟨vp_in_nI (by omega) (by decide), hP _ _ _ <| ml _ (tt y90 (ff (by decide) (ff (by decide) (tt rfl ⟨vp_in_nI (by omega) (by decide), ?_⟩))))⟩))
    rw [hcK, hE0.a 10 K (by unfold cmp; omega)]
    rcases hI.2.1.2 K (by omega) with e | e
    · refine tt e (fin9 hI hE0 (fun _ => ?_))
      rw [pk_uLs, e]
    · refine ff (by rw [e]; decide) (fin9 hI hE0 (fun _ => ?_))
      rw [pk_uLs, e]
  · refine ff (by decide) (ff (by decide) (ff (by decide) (tt rfl ⟨vp_in_nI (by omega) (by decide), hP _ _ _ <| ml _ (tt y90 (ff (by decide) (ff (by decide) (ff (by decide) (tt rfl ⟨vp_in_nI (by omega) (by decide), ?_⟩)))))⟩)))
    rw [hcK, hE0.a 20 K (by unfold cmp; omega)]
    exact fin9 hI hE0 (fun _ => pk_uLs)
  · refine ff (by decide) (ff (by decide) (ff (by decide) (ff (by decide) (tt rfl ⟨vp_in_nI (by omega) (by decide), hP _ _ _ <| ml _ (tt y90 (ff (by decide) (ff (by decide) (ff (by decide) (ff (by decide) (tt rfl ⟨vp_in_nI (by omega) (by decide), ?_⟩))))))⟩))))
    rw [hcK, hE0.a 30 K (by unfold cmp; omega)]
    exact fin9 hI hE0 (fun _ => pk_uLs)
  · refine ff (by decide) (ff (by decide) (ff (by decide) (ff (by decide) (ff (by decide) (tt rfl ⟨vp_in_nI (by omega) (by decide), hP _ _ _ <| ml _ (tt y90 (ff (by decide) (ff (by decide) (ff (by decide) (ff (by decide) (ff (by decide) (tt rfl ⟨vp_in_nI (by omega) (by decide), ?_⟩)))))))⟩)))))
    rw [hcK, hE0.a 40 K (by unfold cmp; omega)]
    exact fin9 hI hE0 (fun _ => pk_uLs)
  · refine ff (by decide) (tt (by decide) ⟨vp_in_nI (by omega) (by decide), hP _ _ _ <| ml _ (tt y90 (ff (by decide) (tt (by decide) ⟨vp_in_nI (by omega) (by decide), ?_⟩)))⟩)
    rw [hcK, hE0.a 55 K (by unfold cmp; omega)]
    obtain ⟨o, _, _, _, e⟩ := hI.2.2.2.2.2.1.1 K hk
    rcases e with ⟨e1, e2⟩ | ⟨e1, e2⟩
    · refine ff (by rw [e1]; decide) (fin9 hI hE0 (fun _ => ?_))
      rw [pk_uLs, e2]
    · refine tt (Int32.not_lt.mp e1) (fin9 hI hE0 (fun _ => ?_))
      rw [pk_uLs, e2]

