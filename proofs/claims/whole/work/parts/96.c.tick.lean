-- ===== tick, deactivate =====
/-- a field's places below i given anew -/
def mp (f : Nat) (g : Nat → Int32) (i : Nat) (X : ST) : ST := fun h a => if h = f ∧ a < i then g a else X h a
section MP
variable {X Z : ST} {Y : Int64} {t : Int32} {na no nu np nn nt f i a o c : Nat} {v : Int32} {g : Nat → Int32}
theorem mp_0 : mp f g 0 X = X := by
  funext h a
  exact if_neg (fun e => absurd e.2 (Nat.not_lt_zero a))
theorem mp_s : up (mp f g i X) f i (g i) = mp f g (i + 1) X := by
  funext h a
  by_cases e : h = f ∧ a = i
  · rw [e.1, e.2, up_eq]
    unfold mp
    rw [if_pos ⟨rfl, by omega⟩]
  · rw [up_ne e]
    unfold mp
    by_cases e2 : h = f ∧ a < i
    · rw [if_pos e2, if_pos (by omega)]
    · rw [if_neg e2, if_neg (by omega)]
theorem mp_n {h : Nat} (e : ¬ (h = f ∧ a < i)) : mp f g i X h a = X h a := if_neg e
theorem mp_g {h : Nat} (e : h ≠ f) : mp f g i X h = X h := by
  funext a
  exact mp_n (fun q => e q.1)
theorem mp_same (e : g i = mp f g i X f i) : mp f g i X = mp f g (i + 1) X := by
  rw [← mp_s, up_id e.symm]
theorem JV.m30 (h : JV na no nu np nn nt X) (hg : ∀ a : Nat, a < nu → fv (g a)) : ∀ i : Nat, i ≤ nu → JV na no nu np nn nt (mp 30 g i X) := by
  intro i
  induction i with
  | zero => intro _; rw [mp_0]; exact h
  | succ i ih =>
    intro hi
    rw [← mp_s]
    exact (ih (by omega)).u30 (by omega) (hg i (by omega))
theorem JV.m20 (h : JV na no nu np nn nt X) (hg : ∀ a : Nat, a < no → fv (g a)) : ∀ i : Nat, i ≤ no → JV na no nu np nn nt (mp 20 g i X) := by
  intro i
  induction i with
  | zero => intro _; rw [mp_0]; exact h
  | succ i ih =>
    intro hi
    rw [← mp_s]
    exact (ih (by omega)).u20 (by omega) (hg i (by omega))
end MP
/-- authorization a, order o after the time has gone on -/
def exA (X : ST) (a : Nat) : Int32 := if lv9 (X 30 a) then (if X 1 0 < X 33 a then X 30 a else if X 30 a = 0 then 2 else 4) else X 30 a
def exO (X : ST) (o : Nat) : Int32 := if lv9 (X 20 o) then (if X 1 0 < X 23 o then X 20 o else 4) else X 20 o
theorem exA_fv {X : ST} {a : Nat} (h : fv (X 30 a)) : fv (exA X a) := by
  unfold exA
  split
  · split
    · exact h
    · split
      · exact Or.inr (Or.inr (Or.inl rfl))
      · exact Or.inr (Or.inr (Or.inr (Or.inr rfl)))
  · exact h
theorem exO_fv {X : ST} {a : Nat} (h : fv (X 20 a)) : fv (exO X a) := by
  unfold exO
  split
  · split
    · exact h
    · exact Or.inr (Or.inr (Or.inr (Or.inr rfl)))
  · exact h
section TK
variable {X Z : ST} {Y : Int64} {t : Int32} {na no nu np nn nt : Nat}
theorem c_exA {post : ST → Prop} {a : Nat} (ha : a < 24) (h : post (up X 30 a (exA X a))) : wp_Aut_expireAt post X a (X 1 0) := by
  unfold wp_Aut_expireAt
  refine ⟨ha, c_live ha (br_b (fun l => ?_) (fun l => ⟨fun e => ?_, fun e => ⟨fun e2 => ⟨ha, ?_⟩, fun e2 => ⟨ha, ?_⟩⟩⟩))⟩
  · unfold exA at h
    rw [if_neg l, up_id rfl] at h
    exact h
  · unfold exA at h
    rw [if_pos l, if_pos e, up_id rfl] at h
    exact h
  · unfold exA at h
    rw [if_pos l, if_neg e, if_pos e2] at h
    exact h
  · unfold exA at h
    rw [if_pos l, if_neg e, if_neg e2] at h
    exact h
theorem c_exO {post : ST → Prop} {a : Nat} (ha : a < 12) (h : post (up X 20 a (exO X a))) : wp_Ord_expireAt post X a (X 1 0) := by
  unfold wp_Ord_expireAt
  refine ⟨ha, c_open ha (br_b (fun l => ?_) (fun l => ⟨fun e => ?_, fun e => ?_⟩))⟩
  · unfold exO at h
    rw [if_neg l, up_id rfl] at h
    exact h
  · unfold exO at h
    rw [if_pos l, if_pos e, up_id rfl] at h
    exact h
  · unfold exO at h
    rw [if_pos l, if_neg e] at h
    exact h
theorem c_tickO {post : Int32 → ST → Prop} {px : String → ST → Prop} (h3 : X 3 0 = nI no) (hno : no ≤ 12) (h : wp_CA_settleOrders (fun (X2 : ST) => post (X2 1 0) X2) (mp 20 (exO X) no X)) : ∃ n9, wq_CA_tick_60 post px n9 (0 : Int32) X := by
  have key : ∀ (d i : Nat), i + d = no → wq_CA_tick_60 post px (d + 1) (nI i) (mp 20 (exO X) i X) := by
    intro d
    induction d with
    | zero =>
      intro i hi
      have hi : i = no := hi
      subst hi
      rw [wq_CA_tick_60]; dsimp only
      rw [mp_g (show (3 : Nat) ≠ 20 by decide), h3]
      exact ⟨fun _ => h, fun a => absurd (nI_le (Nat.le_refl _) (by omega)) a⟩
    | succ d ih =>
      intro i hi
      rw [wq_CA_tick_60]; dsimp only
      rw [show mp 20 (exO X) i X 3 = X 3 from mp_g (by decide), h3, nI_clamp (show i < 2 ^ 31 by omega), nI_1]
      refine ⟨fun a => absurd a (nI_ge (by omega) (by omega)), fun _ => ⟨vp_in_nI (by omega) (by decide), c_exO (by omega) ?_⟩⟩
      have e : exO (mp 20 (exO X) i X) i = exO X i := by
        unfold exO
        rw [show mp 20 _ i X 20 i = X 20 i from mp_n (by omega), show mp 20 _ i X 1 = X 1 from mp_g (by decide), show mp 20 _ i X 23 = X 23 from mp_g (by decide)]
      rw [e, mp_s]
      exact ih (i + 1) (by omega)
  have g := key no 0 (by omega)
  rw [mp_0] at g
  exact ⟨no + 1, g⟩
theorem c_tickA {post : Int32 → ST → Prop} {px : String → ST → Prop} (h4 : X 4 0 = nI nu) (hnu : nu ≤ 24) (h : ∃ n9, wq_CA_tick_60 post px n9 (0 : Int32) (mp 30 (exA X) nu X)) : ∃ n9, wq_CA_tick_31 post px n9 (0 : Int32) X := by
  have key : ∀ (d i : Nat), i + d = nu → wq_CA_tick_31 post px (d + 1) (nI i) (mp 30 (exA X) i X) := by
    intro d
    induction d with
    | zero =>
      intro i hi
      have hi : i = nu := hi
      subst hi
      rw [wq_CA_tick_31]; dsimp only
      rw [mp_g (show (4 : Nat) ≠ 30 by decide), h4]
      exact ⟨fun _ => h, fun a => absurd (nI_le (Nat.le_refl _) (by omega)) a⟩
    | succ d ih =>
      intro i hi
      rw [wq_CA_tick_31]; dsimp only
      rw [show mp 30 (exA X) i X 4 = X 4 from mp_g (by decide), h4, nI_clamp (show i < 2 ^ 31 by omega), nI_1]
      refine ⟨fun a => absurd a (nI_ge (by omega) (by omega)), fun _ => ⟨vp_in_nI (by omega) (by decide), c_exA (by omega) ?_⟩⟩
      have e : exA (mp 30 (exA X) i X) i = exA X i := by
        unfold exA
        rw [show mp 30 _ i X 30 i = X 30 i from mp_n (by omega), show mp 30 _ i X 1 = X 1 from mp_g (by decide), show mp 30 _ i X 33 = X 33 from mp_g (by decide)]
      rw [e, mp_s]
      exact ih (i + 1) (by omega)
  have g := key nu 0 (by omega)
  rw [mp_0] at g
  exact ⟨nu + 1, g⟩
theorem m_tickO {post : Int32 → ST → Int64 → Prop} (hJ : JV na no nu np nn nt X) (hE : EQ no np X Z t) (h : ∀ Z1 : ST, EQ no np (mp 20 (exO X) no X) Z1 t → wp_MO_settle (fun (X2 : ST) (Y3 : Int64) => post (X2 1 0) X2 Y3) Z1 Y) : ∃ n9, wq_MO_tick_100 post n9 (0 : Int32) Z Y := by
  have hno := hJ.1.2.1.2
  have key : ∀ (d i : Nat) (Z1 : ST), i + d = no → EQ no np (mp 20 (exO X) i X) Z1 t → wq_MO_tick_100 post (d + 1) (nI i) Z1 Y := by
    intro d
    induction d with
    | zero =>
      intro i Z1 hi hE1
      have hi : i = no := hi
      subst hi
      rw [wq_MO_tick_100]; dsimp only
      rw [hE1.a 3 0 (by unfold cmp; omega), mp_g (show (3 : Nat) ≠ 20 by decide), hJ.1.2.1.1]
      exact ⟨fun _ => h Z1 hE1, fun a => absurd (nI_le (Nat.le_refl _) (by omega)) a⟩
    | succ d ih =>
      intro i Z1 hi hE1
      rw [wq_MO_tick_100]; dsimp only
      have z20 : Z1 20 i = X 20 i := (hE1.a 20 i (by unfold cmp; omega)).trans (mp_n (by omega))
      have z23 : Z1 23 i = X 23 i := (hE1.a 23 i (by unfold cmp; omega)).trans (mp_n (by omega))
      have z1 : Z1 1 0 = X 1 0 := (hE1.a 1 0 (by unfold cmp; omega)).trans (mp_n (by omega))
      rw [hE1.a 3 0 (by unfold cmp; omega), mp_g (show (3 : Nat) ≠ 20 by decide), hJ.1.2.1.1, nI_clamp (show i < 2 ^ 31 by omega), nI_1, z20, z23, z1]
      have hfv := hJ.2.2.1.1 i (by omega)
      refine ⟨fun a => absurd a (nI_ge (by omega) (by omega)), fun _ => ⟨vp_in_nI (by omega) (by decide), fun e => ih (i + 1) _ (by omega) ?_, fun e => ⟨fun e2 => ih (i + 1) _ (by omega) ?_, fun e2 => ih (i + 1) _ (by omega) ?_⟩⟩⟩
      · rw [← mp_same (by unfold exO; rw [if_neg ((lv_ge hfv).mp e)]; exact (mp_n (by omega)).symm)]
        exact hE1
      · rw [← mp_same (by unfold exO; rw [if_pos (Decidable.of_not_not (fun q => e ((lv_ge hfv).mpr q))), if_pos e2]; exact (mp_n (by omega)).symm)]
        exact hE1
      · rw [← mp_s, show exO X i = 4 by unfold exO; rw [if_pos (Decidable.of_not_not (fun q => e ((lv_ge hfv).mpr q))), if_neg e2]]
        exact hE1.upB 20 i 4 (by decide)
  exact ⟨no + 1, key no 0 Z (by omega) (by rw [mp_0]; exact hE)⟩
theorem m_tickA {post : Int32 → ST → Int64 → Prop} (hJ : JV na no nu np nn nt X) (hE : EQ no np X Z t) (h : ∀ Z1 : ST, EQ no np (mp 30 (exA X) nu X) Z1 t → ∃ n9, wq_MO_tick_100 post n9 (0 : Int32) Z1 Y) : ∃ n9, wq_MO_tick_41 post n9 (0 : Int32) Z Y := by
  have hnu := hJ.1.2.2.1.2
  have key : ∀ (d i : Nat) (Z1 : ST), i + d = nu → EQ no np (mp 30 (exA X) i X) Z1 t → wq_MO_tick_41 post (d + 1) (nI i) Z1 Y := by
    intro d
    induction d with
    | zero =>
      intro i Z1 hi hE1
      have hi : i = nu := hi
      subst hi
      rw [wq_MO_tick_41]; dsimp only
      rw [hE1.a 4 0 (by unfold cmp; omega), mp_g (show (4 : Nat) ≠ 30 by decide), hJ.1.2.2.1.1]
      exact ⟨fun _ => h Z1 hE1, fun a => absurd (nI_le (Nat.le_refl _) (by omega)) a⟩
    | succ d ih =>
      intro i Z1 hi hE1
      rw [wq_MO_tick_41]; dsimp only
      have z20 : Z1 30 i = X 30 i := (hE1.a 30 i (by unfold cmp; omega)).trans (mp_n (by omega))
      have z23 : Z1 33 i = X 33 i := (hE1.a 33 i (by unfold cmp; omega)).trans (mp_n (by omega))
      have z1 : Z1 1 0 = X 1 0 := (hE1.a 1 0 (by unfold cmp; omega)).trans (mp_n (by omega))
      rw [hE1.a 4 0 (by unfold cmp; omega), mp_g (show (4 : Nat) ≠ 30 by decide), hJ.1.2.2.1.1, nI_clamp (show i < 2 ^ 31 by omega), nI_1, z20, z23, z1]
      have hfv := hJ.2.2.2.1.1 i (by omega)
      refine ⟨fun a => absurd a (nI_ge (by omega) (by omega)), fun _ => ⟨vp_in_nI (by omega) (by decide), fun e => ih (i + 1) _ (by omega) ?_, fun e => ⟨fun e2 => ih (i + 1) _ (by omega) ?_, fun e2 => ⟨fun e3 => ih (i + 1) _ (by omega) ?_, fun e3 => ih (i + 1) _ (by omega) ?_⟩⟩⟩⟩
      · rw [← mp_same (by unfold exA; rw [if_neg ((lv_ge hfv).mp e)]; exact (mp_n (by omega)).symm)]
        exact hE1
      · rw [← mp_same (by unfold exA; rw [if_pos (Decidable.of_not_not (fun q => e ((lv_ge hfv).mpr q))), if_pos e2]; exact (mp_n (by omega)).symm)]
        exact hE1
      · rw [← mp_s, show exA X i = 2 by unfold exA; rw [if_pos (Decidable.of_not_not (fun q => e ((lv_ge hfv).mpr q))), if_neg e2, if_pos e3]]
        exact hE1.upB 30 i 2 (by decide)
      · rw [← mp_s, show exA X i = 4 by unfold exA; rw [if_pos (Decidable.of_not_not (fun q => e ((lv_ge hfv).mpr q))), if_neg e2, if_neg e3]]
        exact hE1.upB 30 i 4 (by decide)
  exact ⟨nu + 1, key nu 0 Z (by omega) (by rw [mp_0]; exact hE)⟩
end TK
theorem sp_15 {X : ST} {O : Nat → Int64} {Z : ST} {Y : Int64} (h : RL X O Z Y) (a1 : Int32) : cs_15 RL X O Z Y a1 := by
  obtain ⟨na, no, nu, np, nn, nt, t, hI, hE⟩ := h
  have hnu := hI.1.2.2.1.2
  have hno := hI.1.2.1.2
  suffices key : ∀ P : Int32 → ST → (Nat → Int64) → Prop, (∀ k X1 O1, wp_MO_tick (FN k X1 O1) Z Y a1 → P k X1 O1) → wp_LW_tick P X O a1 from key _ (fun _ _ _ h => h)
  intro P hP
  unfold wp_MO_tick wq_MO_tick_17 at hP
  unfold wp_LW_tick wp_CA_tick
  refine ⟨fun e => ⟨rfl, hP _ _ _ ⟨fun _ => ⟨n1, fun _ => fin9 hI (hE.thr 1) n1⟩, fun q => absurd e q⟩⟩, fun e1 => ⟨fun e2 => ?_, fun e => ⟨rfl, hP _ _ _ ⟨fun q => absurd q e1, fun _ => ⟨fun q => absurd q e, fun _ => ⟨n1, fun _ => fin9 hI (hE.thr 1) n1⟩⟩⟩⟩⟩⟩
  have hJ1 : JV na no nu np nn nt (up X 1 0 (X 1 0 + a1)) := hI.j.u (by decide)
  have hE1 : EQ no np (up X 1 0 (X 1 0 + a1)) (up (up Z 90 0 0) 1 0 (X 1 0 + a1)) 0 := (hE.thr 0).upB 1 0 _ (by decide)
  have z1 : Z 1 0 = X 1 0 := hE.a 1 0 (by unfold cmp; omega)
  generalize hX1 : up X 1 0 (X 1 0 + a1) = X1 at hJ1 hE1 ⊢
  have hJ2 := hJ1.m30 (g := exA X1) (fun a ha => exA_fv (hJ1.2.2.2.1.1 a (by omega))) nu (Nat.le_refl nu)
  have hJ3 := hJ2.m20 (g := exO (mp 30 (exA X1) nu X1)) (fun a ha => exO_fv (hJ2.2.2.1.1 a (by omega))) no (Nat.le_refl no)
  refine c_tickA hJ1.1.2.2.1.1 hnu (c_tickO hJ2.1.2.1.1 hno (c_stl hJ3 ?_))
  refine hP _ _ _ ⟨fun q => absurd q e1, fun _ => ⟨fun _ => ⟨fun _ => ?_, nn0⟩, fun q => absurd e2 q⟩⟩
  rw [z1]
  refine m_tickA hJ1 hE1 (fun Z1 hE2 => m_tickO hJ2 hE2 (fun Z2 hE3 => m_stl hJ3 hE3 (fun Z3 hE4 => ?_)))
  rw [hE4.a 1 0 (by unfold cmp; omega)]
  exact fin9 hJ3.st hE4 (fun _ => pk_uLs)
theorem stl_id {no : Nat} {X : ST} (h : IS no X) : stl no X = X := by
  funext f o
  by_cases e : f = 20 ∧ o < no
  · rw [show stl no X f o = st1 X o from if_pos e, e.1]
    exact h o e.2
  · exact stl_n e
/-- authorization a after account k has closed -/
def clA (X : ST) (k : Int32) (a : Nat) : Int32 := if X 31 a = k ∧ lv9 (X 30 a) then 3 else X 30 a
def clN (X : ST) (k : Int32) : Nat → Nat
  | 0 => 0
  | n + 1 => if X 31 n = k ∧ lv9 (X 30 n) then clN X k n + 1 else clN X k n
theorem clA_fv {X : ST} {k : Int32} {a : Nat} (h : fv (X 30 a)) : fv (clA X k a) := by
  unfold clA
  split
  · exact Or.inr (Or.inr (Or.inr (Or.inl rfl)))
  · exact h
section DA
variable {X Z : ST} {Y : Int64} {t : Int32} {na no nu np nn nt : Nat}
theorem c_close {post : Int32 → ST → Prop} {k : Int32} (h4 : X 4 0 = nI nu) (hnu : nu ≤ 24) (h : post (nI (clN X k nu)) (mp 30 (clA X k) nu X)) : ∃ n9, wq_CA_closeAccount_14 post k n9 (0 : Int32) (0 : Int32) X := by
  have key : ∀ (d i : Nat), i + d = nu → wq_CA_closeAccount_14 post k (d + 1) (nI (clN X k i)) (nI i) (mp 30 (clA X k) i X) := by
    intro d
    induction d with
    | zero =>
      intro i hi
      have hi : i = nu := hi
      subst hi
      rw [wq_CA_closeAccount_14]; dsimp only
      rw [mp_g (show (4 : Nat) ≠ 30 by decide), h4]
      exact ⟨fun _ => h, fun a => absurd (nI_le (Nat.le_refl _) (by omega)) a⟩
    | succ d ih =>
      intro i hi
      rw [wq_CA_closeAccount_14]; dsimp only
      have e30 : mp 30 (clA X k) i X 30 i = X 30 i := mp_n (by omega)
      have g := ih (i + 1) (by omega)
      rw [show mp 30 (clA X k) i X 4 = X 4 from mp_g (by decide), show mp 30 (clA X k) i X 31 = X 31 from mp_g (by decide), h4, nI_clamp (show i < 2 ^ 31 by omega), nI_1, nI_1]
      refine ⟨fun a => absurd a (nI_ge (by omega) (by omega)), fun _ => ⟨vp_in_nI (by omega) (by decide), fun e => c_live (by omega) (br_b (fun l => ?_) (fun l => ?_)), fun e => ?_⟩⟩
      · rw [e30] at l
        rw [show clN X k (i + 1) = clN X k i from if_neg (fun q => l q.2), ← mp_same (by rw [e30]; exact if_neg (fun q => l q.2))] at g
        exact g
      · rw [e30] at l
        rw [show clN X k (i + 1) = clN X k i + 1 from if_pos ⟨e, l⟩, ← mp_s, show clA X k i = 3 from if_pos ⟨e, l⟩] at g
        exact g
      · rw [show clN X k (i + 1) = clN X k i from if_neg (fun q => e q.1), ← mp_same (by rw [e30]; exact if_neg (fun q => e q.1))] at g
        exact g
  have g := key nu 0 (by omega)
  rw [mp_0] at g
  exact ⟨nu + 1, g⟩
theorem m_give {post : Int32 → ST → Int64 → Prop} {a : Nat} (ha : a < 24) (hf : fv (Z 30 a)) (h1 : lv9 (Z 30 a) → post 1 (up Z 30 a 3) Y) (h0 : ¬ lv9 (Z 30 a) → post 0 Z Y) : wp_MO_give post Z Y (nI a) := by
  unfold wp_MO_give wq_MO_give_15 wq_MO_give_35
  rw [nI_clamp (show a < 2 ^ 31 by omega)]
  refine ⟨vp_in_nI ha (by decide), fun e => ⟨fun _ => ⟨vp_in_nI ha (by decide), vp_in_nI ha (by decide), fun _ => ?_, nn0⟩, nn0⟩, fun e => ⟨n1, fun _ => ⟨vp_in_nI ha (by decide), n1, fun _ => h1 (Decidable.of_not_not (fun q => e ((lv_ge hf).mpr q)))⟩⟩⟩
  rw [up_id rfl]
  exact h0 ((lv_ge hf).mp e)
theorem m_close {post : Int32 → ST → Int64 → Prop} {k : Int32} (hJ : JV na no nu np nn nt X) (hE : EQ no np X Z t) (h : ∀ Z1 : ST, EQ no np (mp 30 (clA X k) nu X) Z1 t → wq_MO_deactivate_157 post (nI (clN X k nu)) Z1 Y) : ∃ n9, wq_MO_deactivate_49 post k n9 (0 : Int32) (0 : Int32) Z Y := by
  have hnu := hJ.1.2.2.1.2
  have key : ∀ (d i : Nat) (Z1 : ST), i + d = nu → EQ no np (mp 30 (clA X k) i X) Z1 t → wq_MO_deactivate_49 post k (d + 1) (nI (clN X k i)) (nI i) Z1 Y := by
    intro d
    induction d with
    | zero =>
      intro i Z1 hi hE1
      have hi : i = nu := hi
      subst hi
      rw [wq_MO_deactivate_49]; dsimp only
      rw [hE1.a 4 0 (by unfold cmp; omega), mp_g (show (4 : Nat) ≠ 30 by decide), hJ.1.2.2.1.1]
      exact ⟨fun _ => h Z1 hE1, fun a => absurd (nI_le (Nat.le_refl _) (by omega)) a⟩
    | succ d ih =>
      intro i Z1 hi hE1
      rw [wq_MO_deactivate_49]; dsimp only
      have e30 : mp 30 (clA X k) i X 30 i = X 30 i := mp_n (by omega)
      have z30 : Z1 30 i = X 30 i := (hE1.a 30 i (by unfold cmp; omega)).trans e30
      have z31 : Z1 31 i = X 31 i := (hE1.a 31 i (by unfold cmp; omega)).trans (mp_n (by omega))
      rw [hE1.a 4 0 (by unfold cmp; omega), mp_g (show (4 : Nat) ≠ 30 by decide), hJ.1.2.2.1.1, nI_clamp (show i < 2 ^ 31 by omega), nI_1, z31]
      have g := fun Z1 => ih (i + 1) Z1 (by omega)
      refine ⟨fun a => absurd a (nI_ge (by omega) (by omega)), fun _ => ⟨vp_in_nI (by omega) (by decide), fun e => m_give (by omega) (by rw [z30]; exact hJ.2.2.2.1.1 i (by omega)) (fun l => ?_) (fun l => ?_), fun e => ?_⟩⟩
      · rw [z30] at l
        rw [show clN X k (i + 1) = clN X k i + 1 from if_pos ⟨e, l⟩, ← mp_s, show clA X k i = 3 from if_pos ⟨e, l⟩] at g
        rw [nI_1]
        exact g _ (hE1.upB 30 i 3 (by decide))
      · rw [z30] at l
        rw [show clN X k (i + 1) = clN X k i from if_neg (fun q => l q.2), ← mp_same (by rw [e30]; exact if_neg (fun q => l q.2))] at g
        rw [Int32.add_zero]
        exact g _ hE1
      · rw [show clN X k (i + 1) = clN X k i from if_neg (fun q => e q.1), ← mp_same (by rw [e30]; exact if_neg (fun q => e q.1))] at g
        exact g _ hE1
  exact ⟨nu + 1, key nu 0 Z (by omega) (by rw [mp_0]; exact hE)⟩
theorem JV.u10 {k : Nat} (h : JV na no nu np nn nt X) : JV na no nu np nn nt (up X 10 k 1) := by
  refine ⟨h.1.u (by decide), ⟨fun i hi => ?_, fun i hi => ?_⟩, h.2.2.1.u (by decide), h.2.2.2.1.u (by decide), h.2.2.2.2.1.u (by decide), h.2.2.2.2.2.1.u (by decide), h.2.2.2.2.2.2.u (by decide)⟩
  · rw [up_g (by decide)]
    exact h.2.1.1 i hi
  · by_cases e : i = k
    · rw [e, up_eq]
      exact Or.inr rfl
    · rw [up_j e]
      exact h.2.1.2 i hi
end DA
theorem sp_10 {X : ST} {O : Nat → Int64} {Z : ST} {Y : Int64} (h : RL X O Z Y) (a1 a2 a3 a4 : Int32) : cs_10 RL X O Z Y a1 a2 a3 a4 := by
  obtain ⟨na, no, nu, np, nn, nt, t, hI, hE⟩ := h
  have hnn := hI.1.2.2.2.2.1.2
  have hnu := hI.1.2.2.1.2
  have hna := hI.1.1.2
  suffices key : ∀ P : Int32 → ST → (Nat → Int64) → Prop, (∀ k X1 O1, wp_MO_deactivate (FN k X1 O1) Z Y a1 a2 a3 a4 → P k X1 O1) → wp_LW_deactivate P X O a1 a2 a3 a4 from key _ (fun _ _ _ h => h)
  intro P hP
  unfold wp_MO_deactivate at hP
  unfold wp_LW_deactivate wp_CA_deactivate
  refine c_digest (sg_all (P := P) hI (fun g => ?_) (fun g1 g2 => ?_) (fun g1 g2 g3 => ?_) (fun g1 g2 g3 => ?_))
  · exact hP _ _ _ <| m_five (fun Y1 => m_sg hI hE (fun _ => fin9 hI (hE.thr 1) n1) (fun n => absurd g n) (fun n => absurd g n) (fun n => absurd g n))
  · exact hP _ _ _ <| m_five (fun Y1 => m_sg hI hE (fun g => absurd g g1) (fun _ _ => fin9 hI (hE.thr 2) n2) (fun _ n => absurd g2 n) (fun _ n => absurd g2 n))
  · exact hP _ _ _ <| m_five (fun Y1 => m_sg hI hE (fun g => absurd g g1) (fun _ g => absurd g g2) (fun _ _ _ => fin9 hI (hE.thr 3) n3) (fun _ _ n => absurd g3 n))
  have hp : fnd (X 61) a2 0 nn < nn := Decidable.of_not_not g3
  have hI2 := hI.rmv hp hnn
  have hE2 := (hE.rmv (p := fnd (X 61) a2 0 nn) hnn).thr 0
  have ms := fun (Q : Int32 → ST → Int64 → Prop) (B : Int32 → ST → Int64 → Prop) (Y1 : Int64) (b : B 0 (rmv Z (fnd (X 61) a2 0 nn) nn) Y1) => m_sg (BODY := B) (post := Q) (Y := Y1) hI hE (fun g => absurd g g1) (fun _ g => absurd g g2) (fun _ _ g => absurd g g3) (fun _ _ _ => b)
  obtain ⟨j, hj, rfl⟩ := gA_n hI.1.1.1 hna g1
  have hcj : (nI j).toNatClampNeg = j := nI_clamp (by omega)
  have hvj : vp_in (nI j) 6 := vp_in_nI (by omega) (by decide)
  generalize hX2 : rmv X (fnd (X 61) a2 0 nn) nn = X2 at hI2 hE2 ⊢
  have hJ2 := hI2.j
  have z4 := hE2.a 4 0 (by unfold cmp; omega)
  have x4 : X2 4 0 = nI nu := hI2.1.2.2.1.1
  -- a refusal: the reference settles, which changes nothing
  have rf : ∀ (s : Int32) (Y1 : Int64), (s = 0 → False) → wq_MO_deactivate_157 (FN s X2 O) 0 (up (up (rmv Z (fnd (X 61) a2 0 nn) nn) 90 0 0) 90 0 s) Y1 := by
    intro s Y1 hs
    unfold wq_MO_deactivate_157
    refine m_stl hJ2 (hE2.thr s) (fun Z1 hE3 => ?_)
    rw [stl_id hI2.2.2.2.2.2.2.2] at hE3
    exact fin9 hI2 hE3 (fun e => (hs e).elim)
  refine ⟨fun e => ?_, fun e => ?_⟩
  · unfold wp_CA_closeAccount wq_CA_deactivate_37
    rw [hcj]
    have hJ3 := hJ2.u10 (k := j)
    have hE3 := hE2.upB 10 j 1 (by decide)
    have hJ4 := hJ3.m30 (g := clA (up X2 10 j 1) (nI j)) (fun a ha => clA_fv (hJ3.2.2.2.1.1 a (by omega))) nu (Nat.le_refl nu)
    refine ⟨hvj, c_close hJ3.1.2.2.1.1 hnu (c_stl hJ4 ?_)⟩
    refine hP _ _ _ <| m_five (fun Y1 => ms _ _ _ ⟨fun _ => ?_, fun q => absurd e q⟩)
    rw [hcj, show vp_nar .boolean (1 : Int32) = 1 from rfl]
    refine ⟨hvj, m_close hJ3 hE3 (fun Z1 hE4 => ?_)⟩
    unfold wq_MO_deactivate_157
    exact m_stl hJ4 hE4 (fun Z2 hE5 => fin9 hJ4.st hE5 (fun _ => pk_uLs))
  · unfold wp_CA_deactivateOne wq_CA_deactivate_37
    have is1 : ∀ (Q : Int32 → ST → Int64 → Prop) (Y1 : Int64), (a3 < 0 ∨ ¬ a3 < X2 4 0 → Q 0 (up (rmv Z (fnd (X 61) a2 0 nn) nn) 90 0 0) Y1) → (¬ a3 < 0 → a3 < X2 4 0 → Q 1 (up (rmv Z (fnd (X 61) a2 0 nn) nn) 90 0 0) Y1) → wp_MO_isAuth Q (up (rmv Z (fnd (X 61) a2 0 nn) nn) 90 0 0) Y1 a3 := by
      intro Q Y1 q0 q1
      unfold wp_MO_isAuth
      rw [z4]
      exact ⟨fun a => q0 (Or.inl a), fun a => ⟨fun b => q0 (Or.inr (Int32.not_lt.mpr b)), fun b => q1 a (Int32.not_le.mp b)⟩⟩
    refine ⟨fun e1 => Or.inl ⟨rfl, ?_⟩, fun e1 => ⟨fun e2 => ?_, fun e2 => Or.inl ⟨rfl, ?_⟩⟩⟩
    · refine hP _ _ _ <| m_five (fun Y1 => ms _ _ _ ⟨fun q => absurd q e, fun _ => is1 _ _ (fun _ => ⟨fun _ => ⟨n1, fun _ => rf 1 Y1 n1⟩, nn0⟩) (fun q => absurd e1 q)⟩)
    · obtain ⟨A, hA', rfl⟩ := nI_of e1
      have hA : A < nu := by rw [x4] at e2; exact (nI_ltI hA' (by omega)).mp e2
      have hcA : (nI A).toNatClampNeg = A := nI_clamp (by omega)
      have hvA : vp_in (nI A) 24 := vp_in_nI (by omega) (by decide)
      have z31 := hE2.a 31 A (by unfold cmp; omega)
      have z30 := hE2.a 30 A (by unfold cmp; omega)
      have hfv := hI2.2.2.2.1.1 A (by omega)
      rw [hcA]
      refine ⟨hvA, fun e3 => c_live (by omega) (br_b (fun l => Or.inr (Or.inr (Or.inr ⟨rfl, ?_⟩))) (fun l => ?_)), fun e3 => Or.inr (Or.inl ⟨rfl, ?_⟩)⟩
      · refine hP _ _ _ <| m_five (fun Y1 => ms _ _ _ ⟨fun q => absurd q e, fun _ => is1 _ _ (fun q => absurd q (fun q => q.elim e1 (fun r => r e2))) (fun _ _ => ⟨n1, fun _ => ?_⟩)⟩)
        rw [hcA, z31, z30]
        exact ⟨hvA, fun _ => ⟨fun q => absurd ((lv_le hfv).mp q) l, fun _ => ⟨n4, fun _ => rf 4 Y1 n4⟩⟩, fun q => absurd e3 q⟩
      · have hJ3 := hJ2.u30 hA (v := 3) (by decide)
        refine c_stl hJ3 ?_
        refine hP _ _ _ <| m_five (fun Y1 => ms _ _ _ ⟨fun q => absurd q e, fun _ => is1 _ _ (fun q => absurd q (fun q => q.elim e1 (fun r => r e2))) (fun _ _ => ⟨n1, fun _ => ?_⟩)⟩)
        rw [hcA, z31, z30]
        refine ⟨hvA, fun _ => ⟨fun _ => ⟨fun _ => ?_, nn0⟩, fun q => absurd ((lv_le hfv).mpr l) q⟩, fun q => absurd e3 q⟩
        have hE3 := hE2.thr 0
        have y30 := hE3.a 30 A (by unfold cmp; omega)
        refine m_give (by omega) (by rw [y30]; exact hfv) (fun _ => ?_) (fun q => absurd l (by rw [y30] at q; exact q))
        unfold wq_MO_deactivate_157
        exact m_stl hJ3 (hE3.upB 30 A 3 (by decide)) (fun Z2 hE5 => fin9 hJ3.st hE5 (fun _ => pk_uLs))
      · refine hP _ _ _ <| m_five (fun Y1 => ms _ _ _ ⟨fun q => absurd q e, fun _ => is1 _ _ (fun q => absurd q (fun q => q.elim e1 (fun r => r e2))) (fun _ _ => ⟨n1, fun _ => ?_⟩)⟩)
        rw [hcA, z31, z30]
        exact ⟨hvA, fun q => absurd q e3, fun _ => ⟨n2, fun _ => rf 2 Y1 n2⟩⟩
    · refine hP _ _ _ <| m_five (fun Y1 => ms _ _ _ ⟨fun q => absurd q e, fun _ => is1 _ _ (fun _ => ⟨fun _ => ⟨n1, fun _ => rf 1 Y1 n1⟩, nn0⟩) (fun _ q => absurd q e2)⟩)

