-- ===== probe =====
/-- the invariant without the rule -/
def JV (na no nu np nn nt : Nat) (X : ST) : Prop := IN na no nu np nn nt X ∧ IA na X ∧ IR no nu X ∧ IU na nu X ∧ IH nu X ∧ IC no np X ∧ IT X
section JV9
variable {X Z : ST} {Y : Int64} {t : Int32} {na no nu np nn nt f i a o c : Nat} {v : Int32}
theorem IV.j (h : IV na no nu np nn nt X) : JV na no nu np nn nt X := ⟨h.1, h.2.1, h.2.2.1, h.2.2.2.1, h.2.2.2.2.1, h.2.2.2.2.2.1, h.2.2.2.2.2.2.1⟩
theorem JV.u (h : JV na no nu np nn nt X) (hf : f < 1000 ∧ ¬ (2 ≤ f ∧ f ≤ 7) ∧ f ≠ 10 ∧ f ≠ 11 ∧ f ≠ 20 ∧ f ≠ 22 ∧ f ≠ 24 ∧ f ≠ 25 ∧ f ≠ 30 ∧ f ≠ 31 ∧ f ≠ 40 ∧ f ≠ 42 ∧ f ≠ 50 ∧ f ≠ 51 ∧ f ≠ 52 ∧ f ≠ 55 ∧ f ≠ 63) : JV na no nu np nn nt (up X f i v) :=
  ⟨h.1.u (by omega), h.2.1.u (by omega), h.2.2.1.u (by omega), h.2.2.2.1.u (by omega), h.2.2.2.2.1.u (by omega), h.2.2.2.2.2.1.u (by omega), h.2.2.2.2.2.2.u (by omega)⟩
theorem JV.u30 (h : JV na no nu np nn nt X) (ha : a < nu) (hv : fv v) : JV na no nu np nn nt (up X 30 a v) := by
  refine ⟨h.1.u (by decide), h.2.1.u (by decide), h.2.2.1.u (by decide), ⟨fun b hb => ?_, fun b h1 h2 => ?_, fun b hb => ?_⟩, h.2.2.2.2.1.u (by decide), h.2.2.2.2.2.1.u (by decide), h.2.2.2.2.2.2.u (by decide)⟩
  · by_cases e : b = a
    · rw [e, up_eq]; exact hv
    · rw [up_j e]; exact h.2.2.2.1.1 b hb
  · rw [up_j (by omega)]; exact h.2.2.2.1.2.1 b h1 h2
  · rw [up_g (by decide)]; exact h.2.2.2.1.2.2 b hb
theorem JV.u20 (h : JV na no nu np nn nt X) (ho : o < no) (hv : fv v) : JV na no nu np nn nt (up X 20 o v) := by
  refine ⟨h.1.u (by decide), h.2.1.u (by decide), ⟨fun b hb => ?_, fun b h1 h2 => ?_, fun b hb => ?_⟩, h.2.2.2.1.u (by decide), h.2.2.2.2.1.u (by decide), h.2.2.2.2.2.1.u (by decide), h.2.2.2.2.2.2.u (by decide)⟩
  · by_cases e : b = o
    · rw [e, up_eq]; exact hv
    · rw [up_j e]; exact h.2.2.1.1 b hb
  · rw [up_j (by omega), up_g (by decide), up_g (by decide)]; exact h.2.2.1.2.1 b h1 h2
  · obtain ⟨n, h1, h2, h3⟩ := h.2.2.1.2.2 b hb
    refine ⟨n, h1, by rw [up_g (by decide)]; exact h2, fun j hj => ?_⟩
    rw [up_g (by omega)]
    exact h3 j hj
theorem JV.ih (h : JV na no nu np nn nt X) (hf : f = 40 ∨ f = 42) (hH : IH nu (up X f i v)) : JV na no nu np nn nt (up X f i v) :=
  ⟨h.1.u (by omega), h.2.1.u (by omega), h.2.2.1.u (by omega), h.2.2.2.1.u (by omega), hH, h.2.2.2.2.2.1.u (by omega), h.2.2.2.2.2.2.u (by omega)⟩
theorem JV.cha (h : JV na no nu np nn nt X) (hc : c < 2 * nu) (h3 : X 40 c ≠ 3) : JV na no nu np nn nt (up X 40 c v) := by
  refine h.ih (Or.inl rfl) ⟨fun d h1 h2 => ?_, fun d hd => ?_⟩
  · rw [up_j (show d ≠ c by omega), up_g (show 42 ≠ 40 by decide)]
    exact h.2.2.2.2.1.1 d h1 h2
  · obtain ⟨w, h4, h5, h6⟩ := h.2.2.2.2.1.2 d hd
    rw [up_g (show 42 ≠ 40 by decide)]
    by_cases e : d = c
    · subst e
      exact ⟨w, h4, h5, Or.inl (h6.elim id (fun e => absurd e h3))⟩
    · rw [up_j e]
      exact ⟨w, h4, h5, h6⟩
theorem JV.wr {w : Nat} (h : JV na no nu np nn nt X) (hc : c < 2 * nu) (hw : w < 3 ∨ (w = 3 ∧ X 40 c = 3)) : JV na no nu np nn nt (up X 42 c (nI w)) := by
  refine h.ih (Or.inr rfl) ⟨fun d h1 h2 => ?_, fun d hd => ?_⟩
  · rw [up_g (show 40 ≠ 42 by decide), up_j (show d ≠ c by omega)]
    exact h.2.2.2.2.1.1 d h1 h2
  · obtain ⟨w', h4, h5, h6⟩ := h.2.2.2.2.1.2 d hd
    rw [up_g (show 40 ≠ 42 by decide)]
    by_cases e : d = c
    · subst e
      exact ⟨w, by omega, up_eq _ _ _ _, hw.imp id (fun e => e.2)⟩
    · rw [up_j e]
      exact ⟨w', h4, h5, h6⟩
theorem up_cm {g j : Nat} {u : Int32} (h : ¬ (f = g ∧ i = j)) : up (up X f i v) g j u = up (up X g j u) f i v := by
  funext p q
  by_cases e : p = g ∧ q = j
  · rw [e.1, e.2, up_eq, up_ne (fun e2 => h ⟨e2.1.symm, e2.2.symm⟩), up_eq]
  · rw [up_ne e]
    by_cases e2 : p = f ∧ q = i
    · rw [e2.1, e2.2, up_eq, up_eq]
    · rw [up_ne e2, up_ne e2, up_ne e]
theorem JV.st (h : JV na no nu np nn nt X) : IV na no nu np nn nt (stl no X) := iv_stl h.1 h.2.1 h.2.2.1 h.2.2.2.1 h.2.2.2.2.1 h.2.2.2.2.2.1 h.2.2.2.2.2.2
theorem c_stl {post : ST → Prop} (h : JV na no nu np nn nt X) (hp : post (stl no X)) : wp_CA_settleOrders post X := c_settle h.1.2.1.1 h.1.2.1.2 h.2.2.1 h.1.2.2.1.2 hp
theorem m_stl {post : ST → Int64 → Prop} (h : JV na no nu np nn nt X) (hE : EQ no np X Z t) (hp : ∀ Z1 : ST, EQ no np (stl no X) Z1 t → post Z1 Y) : wp_MO_settle post Z Y := m_settle hE h.1.2.1.1 h.1.2.1.2 h.2.2.1 h.1.2.2.1.2 h.2.2.2.1.1 hp
theorem gD_no {A W : Nat} (hI : IV na no nu np nn nt X) (hA : A < nu) (hW : W < 2) : ¬ gD X (nI A) (nI W) := by
  have hnu := hI.1.2.2.1.2
  rintro (g | g | g | g)
  · exact nI_pos (by omega) g
  · rw [hI.1.2.2.1.1] at g
    exact nI_ge hA (by omega) g
  · exact nI_pos (by omega) g
  · exact g (show nI W < nI 2 from nI_lt hW (by decide))
end JV9
theorem sp_6 {X : ST} {O : Nat → Int64} {Z : ST} {Y : Int64} (h : RL X O Z Y) (a1 a2 a3 : Int32) : cs_6 RL X O Z Y a1 a2 a3 := by
  obtain ⟨na, no, nu, np, nn, nt, t, hI, hE⟩ := h
  have hnu := hI.1.2.2.1.2
  have hna := hI.1.1.2
  suffices key : ∀ P : Int32 → ST → (Nat → Int64) → Prop, (∀ k X1 O1, wp_MO_probe (FN k X1 O1) Z Y a1 a2 a3 → P k X1 O1) → wp_LW_probe P X O a1 a2 a3 from key _ (fun _ _ _ h => h)
  intro P hP
  unfold wp_MO_probe wq_MO_probe_48 at hP
  unfold wp_LW_probe wp_CA_probe
  refine c_chal hI (fun g => Or.inl ⟨rfl, ?_⟩) (fun A W hA hW e1 e2 => ?_)
  · refine hP _ _ _ <| m_aw hI hE (fun _ => ⟨n1, fun _ => fin9 hI (hE.thr 1) n1⟩) (fun A W hA hW e1 e2 => ?_)
    subst e1
    subst e2
    exact absurd g (gD_no hI hA hW)
  subst e1
  subst e2
  have hng := gD_no hI hA hW
  have hcA : (nI A).toNatClampNeg = A := nI_clamp (by omega)
  have hcC : ((2 : Int32) * nI A + nI W).toNatClampNeg = 2 * A + W := by rw [ix2]; exact nI_clamp (by omega)
  have hvC : vp_in ((2 : Int32) * nI A + nI W) 48 := by rw [ix2]; exact vp_in_nI (by omega) (by decide)
  have hvA : vp_in (nI A) 24 := vp_in_nI (by omega) (by decide)
  obtain ⟨K, hK, h31⟩ := hI.2.2.2.1.2.2 A hA
  obtain ⟨w, hw1, hw2, hw3⟩ := hI.2.2.2.2.1.2 (2 * A + W) (by omega)
  have hcK : (nI K).toNatClampNeg = K := nI_clamp (by omega)
  have hvK : vp_in (nI K) 6 := vp_in_nI (by omega) (by decide)
  have z31 := (hE.a 31 A (by unfold cmp; omega)).trans h31
  have z30 := hE.a 30 A (by unfold cmp; omega)
  have z40 := hE.a 40 (2 * A + W) (by unfold cmp; omega)
  have z41 := hE.a 41 (2 * A + W) (by unfold cmp; omega)
  have z11 := hE.a 11 K (by unfold cmp; omega)
  have hE0 := hE.thr 0
  have y1 : up Z 90 0 0 1 0 = X 1 0 := hE0.a 1 0 (by unfold cmp; omega)
  have y42 : up Z 90 0 0 42 (2 * A + W) = nI w := (hE0.a 42 _ (by unfold cmp; omega)).trans hw2
  have hJ := hI.j
  rw [hcA, h31, hcK]
  refine ⟨hvA, by omega, fun e1 => ⟨fun e2 => ⟨hvK, c_digest ⟨fun e3 => ?_, fun e3 => ?_⟩⟩, fun e2 => Or.inr ⟨rfl, ?_⟩⟩, fun e1 => Or.inr ⟨rfl, ?_⟩⟩
  · unfold wq_CA_probe_109
    have hJ3 : JV na no nu np nn nt (up (up (up X 40 (2 * A + W) 2) 30 A 1) 33 A (X 1 0 + 40)) := ((hJ.cha (by omega) (by rw [e1]; decide)).u30 hA (by decide)).u (by decide)
    have hE3 : EQ no np (up (up (up X 40 (2 * A + W) 2) 30 A 1) 33 A (X 1 0 + 40)) (up (up (up (up Z 90 0 0) 40 (2 * A + W) 2) 30 A 1) 33 A (X 1 0 + 40)) 0 := ((hE0.upB 40 _ 2 (by decide)).upB 30 A 1 (by decide)).upB 33 A _ (by decide)
    refine c_stl hJ3 ⟨by omega, ?_⟩
    refine hP _ _ _ <| m_aw hI hE (fun g => absurd g hng) (fun _ _ _ _ _ _ => ?_)
    rw [hcC, hcA, z40, z30, z31, hcK, z41, z11]
    refine ⟨hvC, fun _ => ⟨hvA, fun _ => ⟨fun _ => ⟨hvC, hvA, hvK, m_five (fun Y1 => ⟨fun _ => ?_, fun e => absurd e3 e⟩)⟩, nn0⟩, fun e => absurd e2 e⟩, fun e => absurd e1 e⟩
    rw [y1]
    unfold wq_MO_probe_165
    refine m_stl hJ3 hE3 (fun Z1 hE1 => ⟨hvA, ?_⟩)
    rw [hcA, hE1.a 30 A (by unfold cmp; omega)]
    exact fin9 hJ3.st hE1 (fun _ => pk_uLs)
  · have hw4 : w < 3 := hw3.elim id (fun e => absurd (e1.symm.trans e) (by decide))
    unfold wp_CA_countWrong
    rw [up_eq, hw2, nI_1]
    refine ⟨by omega, fun e4 => ?_, fun e4 => ⟨by omega, ?_⟩⟩
    · have hw5 : w + 1 < 3 := (nI_ltI (by omega) (by decide)).mp (show nI (w + 1) < nI 3 from e4)
      unfold wq_CA_probe_109
      have hJ3 : JV na no nu np nn nt (up X 42 (2 * A + W) (nI (w + 1))) := hJ.wr (by omega) (Or.inl hw5)
      have hE3 : EQ no np (up X 42 (2 * A + W) (nI (w + 1))) (up (up Z 90 0 0) 42 (2 * A + W) (nI (w + 1))) 0 := hE0.upB 42 _ _ (by decide)
      refine c_stl hJ3 ⟨by omega, ?_⟩
      refine hP _ _ _ <| m_aw hI hE (fun g => absurd g hng) (fun _ _ _ _ _ _ => ?_)
      rw [hcC, hcA, z40, z30, z31, hcK, z41, z11]
      refine ⟨hvC, fun _ => ⟨hvA, fun _ => ⟨fun _ => ⟨hvC, hvA, hvK, m_five (fun Y1 => ⟨fun e => absurd e e3, fun _ => ?_⟩)⟩, nn0⟩, fun e => absurd e2 e⟩, fun e => absurd e1 e⟩
      rw [up_eq, y42, nI_1]
      refine ⟨fun e => absurd ((nI_eq (by omega) (by decide)).mp (show nI (w + 1) = nI 3 from e)) (by omega), fun _ => ?_⟩
      unfold wq_MO_probe_165
      refine m_stl hJ3 hE3 (fun Z1 hE1 => ⟨hvA, ?_⟩)
      rw [hcA, hE1.a 30 A (by unfold cmp; omega)]
      exact fin9 hJ3.st hE1 (fun _ => pk_uLs)
    · have hw5 : ¬ w + 1 < 3 := fun q => e4 (show nI (w + 1) < nI 3 from nI_lt q (by decide))
      have hw6 : w = 2 := by omega
      subst hw6
      unfold wq_CA_probe_109
      have hJ3 : JV na no nu np nn nt (up (up (up X 42 (2 * A + W) (nI (2 + 1))) 40 (2 * A + W) 3) 30 A 2) := by
        rw [up_cm (show ¬ (42 = 40 ∧ 2 * A + W = 2 * A + W) by omega)]
        exact ((hJ.cha (by omega) (by rw [e1]; decide)).wr (by omega) (Or.inr ⟨rfl, up_eq _ _ _ _⟩)).u30 hA (by decide)
      have hE3 : EQ no np (up (up (up X 42 (2 * A + W) (nI (2 + 1))) 40 (2 * A + W) 3) 30 A 2) (up (up (up (up Z 90 0 0) 42 (2 * A + W) (nI (2 + 1))) 40 (2 * A + W) 3) 30 A 2) 0 := ((hE0.upB 42 _ _ (by decide)).upB 40 _ 3 (by decide)).upB 30 A 2 (by decide)
      refine c_stl hJ3 ⟨by omega, ?_⟩
      refine hP _ _ _ <| m_aw hI hE (fun g => absurd g hng) (fun _ _ _ _ _ _ => ?_)
      rw [hcC, hcA, z40, z30, z31, hcK, z41, z11]
      refine ⟨hvC, fun _ => ⟨hvA, fun _ => ⟨fun _ => ⟨hvC, hvA, hvK, m_five (fun Y1 => ⟨fun e => absurd e e3, fun _ => ?_⟩)⟩, nn0⟩, fun e => absurd e2 e⟩, fun e => absurd e1 e⟩
      rw [up_eq, y42, nI_1]
      refine ⟨fun _ => ?_, fun e => absurd rfl e⟩
      unfold wq_MO_probe_165
      refine m_stl hJ3 hE3 (fun Z1 hE1 => ⟨hvA, ?_⟩)
      rw [hcA, hE1.a 30 A (by unfold cmp; omega)]
      exact fin9 hJ3.st hE1 (fun _ => pk_uLs)
  · refine hP _ _ _ <| m_aw hI hE (fun g => absurd g hng) (fun _ _ _ _ _ _ => ?_)
    rw [hcC, hcA, z40, z30]
    exact ⟨hvC, fun _ => ⟨hvA, fun e => absurd e e2, fun _ => ⟨n2, fun _ => fin9 hI (hE.thr 2) n2⟩⟩, fun e => absurd e1 e⟩
  · refine hP _ _ _ <| m_aw hI hE (fun g => absurd g hng) (fun _ _ _ _ _ _ => ?_)
    rw [hcC, hcA, z40, z30]
    exact ⟨hvC, fun e => absurd e e1, fun _ => ⟨n2, fun _ => fin9 hI (hE.thr 2) n2⟩⟩

