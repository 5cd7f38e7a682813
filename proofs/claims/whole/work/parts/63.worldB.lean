def X0 (sd : Int32) : ST := fun f _ => if f = 0 then sd else if f = 24 then -1 else if f = 55 then -1 else 0
def Z0 (sd : Int32) : ST := fun f _ => if f = 0 then sd else 0
theorem inj_of_D {A : Nat → Prop} {ws : va_W} {ad : Nat → Nat} {n : Nat} (hD : va_D A ws) (hm : ws.map (fun q => q.1) = (List.range n).map ad) : INJ ad n ∧ ∀ k : Nat, k < n → A (ad k) := by
  have hg : ∀ k : Nat, k < n → ∃ q : Nat × va_E, ws[k]? = some q ∧ q.1 = ad k := by
    intro k hk
    have h1 : (ws.map (fun q => q.1))[k]? = some (ad k) := by rw [hm, List.getElem?_map, List.getElem?_range hk]; rfl
    rw [List.getElem?_map] at h1
    cases h2 : ws[k]? with
    | none => rw [h2] at h1; cases h1
    | some q => rw [h2] at h1; exact ⟨q, rfl, Option.some.inj h1⟩
  refine ⟨fun i j hi hj he => ?_, fun k hk => ?_⟩
  · obtain ⟨p, h1, e1⟩ := hg i hi
    obtain ⟨q, h2, e2⟩ := hg j hj
    exact hD.1 i j p q h1 h2 (by rw [e1, e2]; exact he)
  · obtain ⟨q, h1, e1⟩ := hg k hk
    rw [← e1]
    exact hD.2 k q h1
def cB (cA : Nat → ClassId) (sd : Int32) (bd : Nat → Nat) (g : Nat → Nat → Option Nat) (c : Nat) : va_E :=
  if c = 0 then .inr (0, [.int sd, .int 0, .int 0, .int 0, .int 0, .int 0, .ref (bd 1), .ref (bd 2), .ref (bd 3), .ref (bd 4), .ref (bd 5), .ref (bd 6), .ref (bd 8), .ref (bd 10)])
  else if c = 1 then .inl (cA 0, 6, .inr (.inr (.inr (.inr (g 1)))))
  else if c = 2 then .inl (cA 1, 12, .inr (.inr (.inr (.inr (g 2)))))
  else if c = 3 then .inl (cA 2, 24, .inr (.inr (.inr (.inr (g 3)))))
  else if c = 4 then .inl (cA 3, 48, .inr (.inr (.inr (.inr (g 4)))))
  else if c = 5 then .inl (cA 4, 12, .inr (.inr (.inr (.inr (g 5)))))
  else if c = 6 then .inr (1, [.int 0, .ref (bd 7)])
  else if c = 7 then .inl (cA 5, 8, .inl (fun _ => 0))
  else if c = 8 then .inr (2, [.int 0, .ref (bd 9)])
  else if c = 9 then .inl (cA 6, 96, .inl (fun _ => 0))
  else if c = 10 then .inr (3, [.int 0, .int 0, .int 0, .int 0])
  else if c < 17 then .inr (4, [.int 0, .int 0])
  else if c < 41 then (if (c - 17) % 2 = 0 then .inr (5, [.int 0, .int 0, .int 0, .int 0, .int (-1), .int 0, .ref (bd (c + 1))]) else .inl (cA 7, 4, .inl (fun _ => 0)))
  else if c < 65 then .inr (6, [.int 0, .int 0, .int 0, .int 0])
  else if c < 113 then .inr (7, [.int 0, .int 0, .int 0])
  else .inr (8, [.int 0, .int 0, .int 0, .int 0, .int 0, .int (-1)])
def wB (cA : Nat → ClassId) (sd : Int32) (n : Nat) (bd : Nat → Nat) (g : Nat → Nat → Option Nat) : va_W := (List.range n).map (fun c => (bd c, cB cA sd bd g c))
def gset (g : Nat → Nat → Option Nat) (k : Nat) (h : Nat → Option Nat) : Nat → Nat → Option Nat := fun k' => if k' = k then h else g k'
def bset (bd : Nat → Nat) (n q : Nat) : Nat → Nat := fun c => if c = n then q else bd c
section WBS
variable {cA : Nat → ClassId} {sd : Int32} {bd bd' : Nat → Nat} {g : Nat → Nat → Option Nat} {n : Nat}
theorem wB_at {c : Nat} (h : c < n) : (wB cA sd n bd g)[c]? = some (bd c, cB cA sd bd g c) := by
  unfold wB
  rw [List.getElem?_map, List.getElem?_range h]
  rfl
theorem wB_no {c : Nat} (h : n ≤ c) : (wB cA sd n bd g)[c]? = none := by
  unfold wB
  rw [List.getElem?_map, List.getElem?_eq_none (by rw [List.length_range]; exact h)]
  rfl
theorem cB_old (hn : 11 ≤ n) (hp : n ≤ 17 ∨ 41 ≤ n ∨ (n - 17) % 2 = 0) (hb : ∀ c : Nat, c < n → bd' c = bd c) : ∀ c : Nat, c < n → cB cA sd bd' g c = cB cA sd bd g c := by
  intro c hc
  have e1 := hb 1 (by omega)
  have e2 := hb 2 (by omega)
  have e3 := hb 3 (by omega)
  have e4 := hb 4 (by omega)
  have e5 := hb 5 (by omega)
  have e6 := hb 6 (by omega)
  have e7 := hb 7 (by omega)
  have e8 := hb 8 (by omega)
  have e9 := hb 9 (by omega)
  have e10 := hb 10 (by omega)
  by_cases ho : (17 ≤ c ∧ c < 41) ∧ (c - 17) % 2 = 0
  · have e11 := hb (c + 1) (by omega)
    unfold cB
    rw [e1, e2, e3, e4, e5, e6, e7, e8, e9, e10, e11]
  · unfold cB
    rw [e1, e2, e3, e4, e5, e6, e7, e8, e9, e10]
    by_cases h41 : c < 41
    · by_cases h17 : c < 17
      · simp only [h17, if_true]
      · have h2 : ¬ (c - 17) % 2 = 0 := fun h => ho ⟨⟨by omega, h41⟩, h⟩
        simp only [h2, if_false]
    · have h17 : ¬ c < 17 := by omega
      simp only [h41, h17, if_false]
theorem wB_push {q : Nat} {e : va_E} (hn : 11 ≤ n) (hp : n ≤ 17 ∨ 41 ≤ n ∨ (n - 17) % 2 = 0) (he : cB cA sd (bset bd n q) g n = e) : wB cA sd n bd g ++ [(q, e)] = wB cA sd (n + 1) (bset bd n q) g := by
  have hb : ∀ c : Nat, c < n → bset bd n q c = bd c := fun c hc => if_neg (Nat.ne_of_lt hc)
  unfold wB
  rw [List.range_succ, List.map_append]
  congr 1
  · refine List.map_congr_left (fun c hc => ?_)
    have hc := List.mem_range.mp hc
    rw [hb c hc, cB_old hn hp hb c hc]
  · show [(q, e)] = [(bset bd n q n, cB cA sd (bset bd n q) g n)]
    rw [he, show bset bd n q n = q from if_pos rfl]
theorem wB_push2 {q q2 : Nat} {e e2 : va_E} (hn : 11 ≤ n) (hp : n ≤ 17 ∨ 41 ≤ n ∨ (n - 17) % 2 = 0) (he : cB cA sd (bset (bset bd n q) (n + 1) q2) g n = e) (he2 : cB cA sd (bset (bset bd n q) (n + 1) q2) g (n + 1) = e2) : wB cA sd n bd g ++ [(q, e), (q2, e2)] = wB cA sd (n + 2) (bset (bset bd n q) (n + 1) q2) g := by
  have hb : ∀ c : Nat, c < n → bset (bset bd n q) (n + 1) q2 c = bd c := fun c hc => (if_neg (show ¬ c = n + 1 by omega)).trans (if_neg (Nat.ne_of_lt hc))
  have h1 : bset (bset bd n q) (n + 1) q2 n = q := (if_neg (show ¬ n = n + 1 by omega)).trans (if_pos rfl)
  have h2 : bset (bset bd n q) (n + 1) q2 (n + 1) = q2 := if_pos rfl
  unfold wB
  rw [show n + 2 = (n + 1) + 1 from rfl, List.range_succ, List.map_append, List.range_succ, List.map_append, List.append_assoc]
  congr 1
  · refine List.map_congr_left (fun c hc => ?_)
    have hc := List.mem_range.mp hc
    rw [hb c hc, cB_old hn hp hb c hc]
  · show [(q, e), (q2, e2)] = [(bset (bset bd n q) (n + 1) q2 n, cB cA sd (bset (bset bd n q) (n + 1) q2) g n), (bset (bset bd n q) (n + 1) q2 (n + 1), cB cA sd (bset (bset bd n q) (n + 1) q2) g (n + 1))]
    rw [he, he2, h1, h2]
theorem wB_set {k : Nat} {e : va_E} {h : Nat → Option Nat} (hk : k < n) (he : cB cA sd bd (gset g k h) k = e) (ho : ∀ c : Nat, c ≠ k → cB cA sd bd (gset g k h) c = cB cA sd bd g c) : (wB cA sd n bd g).set k (bd k, e) = wB cA sd n bd (gset g k h) := by
  refine List.ext_getElem? fun c => ?_
  rw [List.getElem?_set]
  rcases Nat.lt_or_ge c n with hc | hc
  · by_cases h9 : k = c
    · subst h9
      rw [if_pos rfl, if_pos (by unfold wB; rw [List.length_map, List.length_range]; exact hk), wB_at hc, he]
    · rw [if_neg h9, wB_at hc, wB_at hc, ho c (fun q => h9 q.symm)]
  · rw [if_neg (by omega), wB_no hc, wB_no hc]
theorem cB_g1 {h : Nat → Option Nat} : ∀ c : Nat, c ≠ 1 → cB cA sd bd (gset g 1 h) c = cB cA sd bd g c := by
  intro c hc
  unfold cB
  simp only [hc, if_false]
  rfl
theorem cB_g2 {h : Nat → Option Nat} : ∀ c : Nat, c ≠ 2 → cB cA sd bd (gset g 2 h) c = cB cA sd bd g c := by
  intro c hc
  unfold cB
  simp only [hc, if_false]
  rfl
theorem cB_g3 {h : Nat → Option Nat} : ∀ c : Nat, c ≠ 3 → cB cA sd bd (gset g 3 h) c = cB cA sd bd g c := by
  intro c hc
  unfold cB
  simp only [hc, if_false]
  rfl
theorem cB_g4 {h : Nat → Option Nat} : ∀ c : Nat, c ≠ 4 → cB cA sd bd (gset g 4 h) c = cB cA sd bd g c := by
  intro c hc
  unfold cB
  simp only [hc, if_false]
  rfl
theorem cB_g5 {h : Nat → Option Nat} : ∀ c : Nat, c ≠ 5 → cB cA sd bd (gset g 5 h) c = cB cA sd bd g c := by
  intro c hc
  unfold cB
  simp only [hc, if_false]
  rfl
end WBS
def GI (n1 n2 n3 n4 n5 : Nat) (bd : Nat → Nat) (g : Nat → Nat → Option Nat) : Prop := (∀ j : Nat, j < n1 → g 1 j = some (bd (11 + j))) ∧ (∀ j : Nat, j < n2 → g 2 j = some (bd (17 + 2 * j))) ∧ (∀ j : Nat, j < n3 → g 3 j = some (bd (41 + j))) ∧ (∀ j : Nat, j < n4 → g 4 j = some (bd (65 + j))) ∧ (∀ j : Nat, j < n5 → g 5 j = some (bd (113 + j)))
theorem arr_ext {cA : ClassId} {n : Nat} {f f' : Nat → Option Nat} (h : ∀ j : Nat, j < n → f j = f' j) : vp_cell cA (n, .inr (.inr (.inr (.inr f)))) = vp_cell cA (n, .inr (.inr (.inr (.inr f')))) := by
  show arrV cA n (fun j => va_rf (f j)) = arrV cA n (fun j => va_rf (f' j))
  unfold arrV
  congr 2
  funext j
  show va_rf (f j.val) = va_rf (f' j.val)
  rw [h j.val j.isLt]
def pm (c : Nat) : Nat := if c < 17 then c else if c < 29 then 17 + 2 * (c - 17) else if c < 41 then 18 + 2 * (c - 29) else c
theorem pm_lt {c : Nat} (h : c < 125) : pm c < 125 := by
  unfold pm
  split
  · omega
  · split
    · omega
    · split <;> omega
theorem pm_inj {a b : Nat} (ha : a < 125) (hb : b < 125) (h : pm a = pm b) : a = b := by
  unfold pm at h
  split at h <;> split at h <;> (try split at h) <;> (try split at h) <;> (try split at h) <;> (try split at h) <;> omega
theorem wB_fin {D : va_G} {cl : List vw_C} {cA : Nat → ClassId} {sd : Int32} {bd : Nat → Nat} {g : Nat → Nat → Option Nat} {H : Heap} (hP : va_P D cl (wB cA sd 125 bd g) H) (hG : GI 6 12 24 48 12 bd g) : va_P D cl (wdC cA (fun c => bd (pm c)) (X0 sd)) H := by
  intro k q hk
  rcases Nat.lt_or_ge k 125 with h | h
  rotate_left
  · rw [zwC_no h] at hk
    cases hk
  rw [zwC_at h] at hk
  cases hk
  have h1 := hP (pm k) _ (wB_at (pm_lt h))
  rcases (show k = 0 ∨ k = 1 ∨ k = 2 ∨ k = 3 ∨ k = 4 ∨ k = 5 ∨ k = 6 ∨ k = 7 ∨ k = 8 ∨ k = 9 ∨ k = 10 ∨ (11 ≤ k ∧ k < 17) ∨ (17 ≤ k ∧ k < 29) ∨ (29 ≤ k ∧ k < 41) ∨ (41 ≤ k ∧ k < 65) ∨ (65 ≤ k ∧ k < 113) ∨ (113 ≤ k ∧ k < 125) by omega) with h9 | h9 | h9 | h9 | h9 | h9 | h9 | h9 | h9 | h9 | h9 | ⟨h9, h8⟩ | ⟨h9, h8⟩ | ⟨h9, h8⟩ | ⟨h9, h8⟩ | ⟨h9, h8⟩ | ⟨h9, h8⟩
  · subst h9
    exact h1
  · subst h9
    have h2 : H[bd (pm 1)]? = some (vp_cell (cA 0) (6, .inr (.inr (.inr (.inr (g 1)))))) := h1
    rw [arr_ext (f' := fun i => some (bd (pm (11 + i)))) (fun i hi => by rw [hG.1 i hi]; show some (bd (11 + i)) = some (bd (pm (11 + i))); rw [show pm (11 + i) = 11 + i by unfold pm; rw [if_pos (by omega)]])] at h2
    exact h2
  · subst h9
    have h2 : H[bd (pm 2)]? = some (vp_cell (cA 1) (12, .inr (.inr (.inr (.inr (g 2)))))) := h1
    rw [arr_ext (f' := fun i => some (bd (pm (17 + i)))) (fun i hi => by rw [hG.2.1 i hi]; show some (bd (17 + 2 * i)) = some (bd (pm (17 + i))); rw [show pm (17 + i) = 17 + 2 * i by unfold pm; rw [if_neg (by omega), if_pos (by omega)]; omega])] at h2
    exact h2
  · subst h9
    have h2 : H[bd (pm 3)]? = some (vp_cell (cA 2) (24, .inr (.inr (.inr (.inr (g 3)))))) := h1
    rw [arr_ext (f' := fun i => some (bd (pm (41 + i)))) (fun i hi => by rw [hG.2.2.1 i hi]; show some (bd (41 + i)) = some (bd (pm (41 + i))); rw [show pm (41 + i) = 41 + i by unfold pm; rw [if_neg (by omega), if_neg (by omega), if_neg (by omega)]])] at h2
    exact h2
  · subst h9
    have h2 : H[bd (pm 4)]? = some (vp_cell (cA 3) (48, .inr (.inr (.inr (.inr (g 4)))))) := h1
    rw [arr_ext (f' := fun i => some (bd (pm (65 + i)))) (fun i hi => by rw [hG.2.2.2.1 i hi]; show some (bd (65 + i)) = some (bd (pm (65 + i))); rw [show pm (65 + i) = 65 + i by unfold pm; rw [if_neg (by omega), if_neg (by omega), if_neg (by omega)]])] at h2
    exact h2
  · subst h9
    have h2 : H[bd (pm 5)]? = some (vp_cell (cA 4) (12, .inr (.inr (.inr (.inr (g 5)))))) := h1
    rw [arr_ext (f' := fun i => some (bd (pm (113 + i)))) (fun i hi => by rw [hG.2.2.2.2 i hi]; show some (bd (113 + i)) = some (bd (pm (113 + i))); rw [show pm (113 + i) = 113 + i by unfold pm; rw [if_neg (by omega), if_neg (by omega), if_neg (by omega)]])] at h2
    exact h2
  · subst h9
    exact h1
  · subst h9
    exact h1
  · subst h9
    exact h1
  · subst h9
    exact h1
  · subst h9
    exact h1
  · obtain ⟨j, rfl⟩ : ∃ j, k = 11 + j := ⟨k - 11, by omega⟩
    rw [cC_Acc (show j < 6 by omega)]
    have hp : pm (11 + j) = 11 + j := by
      unfold pm
      rw [if_pos (by omega)]
    rw [hp] at h1
    have h3 : cB cA sd bd g (11 + j) = .inr (4, [.int 0, .int 0]) := by
      unfold cB
      rw [if_neg (show ¬ 11 + j = 0 by omega), if_neg (show ¬ 11 + j = 1 by omega), if_neg (show ¬ 11 + j = 2 by omega), if_neg (show ¬ 11 + j = 3 by omega), if_neg (show ¬ 11 + j = 4 by omega), if_neg (show ¬ 11 + j = 5 by omega), if_neg (show ¬ 11 + j = 6 by omega), if_neg (show ¬ 11 + j = 7 by omega), if_neg (show ¬ 11 + j = 8 by omega), if_neg (show ¬ 11 + j = 9 by omega), if_neg (show ¬ 11 + j = 10 by omega), if_pos (show 11 + j < 17 by omega)]
    rw [h3] at h1
    show va_at D cl (bd (pm (11 + j)), .inr (4, [.int 0, .int 0])) H
    rw [hp]
    exact h1
  · obtain ⟨j, rfl⟩ : ∃ j, k = 17 + j := ⟨k - 17, by omega⟩
    rw [cC_Ord (show j < 12 by omega)]
    have hp : pm (17 + j) = 17 + 2 * j := by
      unfold pm
      rw [if_neg (by omega), if_pos (by omega)]
      omega
    rw [hp] at h1
    have hp2 : pm (29 + j) = 17 + 2 * j + 1 := by
      unfold pm
      rw [if_neg (by omega), if_neg (by omega), if_pos (by omega)]
      omega
    have h3 : cB cA sd bd g (17 + 2 * j) = .inr (5, [.int 0, .int 0, .int 0, .int 0, .int (-1), .int 0, .ref (bd (17 + 2 * j + 1))]) := by
      unfold cB
      rw [if_neg (show ¬ 17 + 2 * j = 0 by omega), if_neg (show ¬ 17 + 2 * j = 1 by omega), if_neg (show ¬ 17 + 2 * j = 2 by omega), if_neg (show ¬ 17 + 2 * j = 3 by omega), if_neg (show ¬ 17 + 2 * j = 4 by omega), if_neg (show ¬ 17 + 2 * j = 5 by omega), if_neg (show ¬ 17 + 2 * j = 6 by omega), if_neg (show ¬ 17 + 2 * j = 7 by omega), if_neg (show ¬ 17 + 2 * j = 8 by omega), if_neg (show ¬ 17 + 2 * j = 9 by omega), if_neg (show ¬ 17 + 2 * j = 10 by omega), if_neg (show ¬ 17 + 2 * j < 17 by omega), if_pos (show 17 + 2 * j < 41 by omega), if_pos (by omega)]
    rw [h3] at h1
    show va_at D cl (bd (pm (17 + j)), .inr (5, [.int 0, .int 0, .int 0, .int 0, .int (-1), .int 0, .ref (bd (pm (29 + j)))])) H
    rw [hp, hp2]
    exact h1
  · obtain ⟨j, rfl⟩ : ∃ j, k = 29 + j := ⟨k - 29, by omega⟩
    rw [cC_iOrd (show j < 12 by omega)]
    have hp : pm (29 + j) = 18 + 2 * j := by
      unfold pm
      rw [if_neg (by omega), if_neg (by omega), if_pos (by omega)]
      omega
    rw [hp] at h1
    have h3 : cB cA sd bd g (18 + 2 * j) = .inl (cA 7, 4, .inl (fun _ => 0)) := by
      unfold cB
      rw [if_neg (show ¬ 18 + 2 * j = 0 by omega), if_neg (show ¬ 18 + 2 * j = 1 by omega), if_neg (show ¬ 18 + 2 * j = 2 by omega), if_neg (show ¬ 18 + 2 * j = 3 by omega), if_neg (show ¬ 18 + 2 * j = 4 by omega), if_neg (show ¬ 18 + 2 * j = 5 by omega), if_neg (show ¬ 18 + 2 * j = 6 by omega), if_neg (show ¬ 18 + 2 * j = 7 by omega), if_neg (show ¬ 18 + 2 * j = 8 by omega), if_neg (show ¬ 18 + 2 * j = 9 by omega), if_neg (show ¬ 18 + 2 * j = 10 by omega), if_neg (show ¬ 18 + 2 * j < 17 by omega), if_pos (show 18 + 2 * j < 41 by omega), if_neg (by omega)]
    rw [h3] at h1
    show va_at D cl (bd (pm (29 + j)), .inl (cA 7, 4, .inl (fun j2 => X0 sd (1000 + j2) j))) H
    have e5 : (fun j2 => X0 sd (1000 + j2) j) = fun _ => (0 : Int32) := by
      funext j2
      unfold X0
      rw [if_neg (by omega), if_neg (by omega), if_neg (by omega)]
    rw [hp, e5]
    exact h1
  · obtain ⟨j, rfl⟩ : ∃ j, k = 41 + j := ⟨k - 41, by omega⟩
    rw [cC_Aut (show j < 24 by omega)]
    have hp : pm (41 + j) = 41 + j := by
      unfold pm
      rw [if_neg (by omega), if_neg (by omega), if_neg (by omega)]
    rw [hp] at h1
    have h3 : cB cA sd bd g (41 + j) = .inr (6, [.int 0, .int 0, .int 0, .int 0]) := by
      unfold cB
      rw [if_neg (show ¬ 41 + j = 0 by omega), if_neg (show ¬ 41 + j = 1 by omega), if_neg (show ¬ 41 + j = 2 by omega), if_neg (show ¬ 41 + j = 3 by omega), if_neg (show ¬ 41 + j = 4 by omega), if_neg (show ¬ 41 + j = 5 by omega), if_neg (show ¬ 41 + j = 6 by omega), if_neg (show ¬ 41 + j = 7 by omega), if_neg (show ¬ 41 + j = 8 by omega), if_neg (show ¬ 41 + j = 9 by omega), if_neg (show ¬ 41 + j = 10 by omega), if_neg (show ¬ 41 + j < 17 by omega), if_neg (show ¬ 41 + j < 41 by omega), if_pos (show 41 + j < 65 by omega)]
    rw [h3] at h1
    show va_at D cl (bd (pm (41 + j)), .inr (6, [.int 0, .int 0, .int 0, .int 0])) H
    rw [hp]
    exact h1
  · obtain ⟨j, rfl⟩ : ∃ j, k = 65 + j := ⟨k - 65, by omega⟩
    rw [cC_Cha (show j < 48 by omega)]
    have hp : pm (65 + j) = 65 + j := by
      unfold pm
      rw [if_neg (by omega), if_neg (by omega), if_neg (by omega)]
    rw [hp] at h1
    have h3 : cB cA sd bd g (65 + j) = .inr (7, [.int 0, .int 0, .int 0]) := by
      unfold cB
      rw [if_neg (show ¬ 65 + j = 0 by omega), if_neg (show ¬ 65 + j = 1 by omega), if_neg (show ¬ 65 + j = 2 by omega), if_neg (show ¬ 65 + j = 3 by omega), if_neg (show ¬ 65 + j = 4 by omega), if_neg (show ¬ 65 + j = 5 by omega), if_neg (show ¬ 65 + j = 6 by omega), if_neg (show ¬ 65 + j = 7 by omega), if_neg (show ¬ 65 + j = 8 by omega), if_neg (show ¬ 65 + j = 9 by omega), if_neg (show ¬ 65 + j = 10 by omega), if_neg (show ¬ 65 + j < 17 by omega), if_neg (show ¬ 65 + j < 41 by omega), if_neg (show ¬ 65 + j < 65 by omega), if_pos (show 65 + j < 113 by omega)]
    rw [h3] at h1
    show va_at D cl (bd (pm (65 + j)), .inr (7, [.int 0, .int 0, .int 0])) H
    rw [hp]
    exact h1
  · obtain ⟨j, rfl⟩ : ∃ j, k = 113 + j := ⟨k - 113, by omega⟩
    rw [cC_Cer (show j < 12 by omega)]
    have hp : pm (113 + j) = 113 + j := by
      unfold pm
      rw [if_neg (by omega), if_neg (by omega), if_neg (by omega)]
    rw [hp] at h1
    have h3 : cB cA sd bd g (113 + j) = .inr (8, [.int 0, .int 0, .int 0, .int 0, .int 0, .int (-1)]) := by
      unfold cB
      rw [if_neg (show ¬ 113 + j = 0 by omega), if_neg (show ¬ 113 + j = 1 by omega), if_neg (show ¬ 113 + j = 2 by omega), if_neg (show ¬ 113 + j = 3 by omega), if_neg (show ¬ 113 + j = 4 by omega), if_neg (show ¬ 113 + j = 5 by omega), if_neg (show ¬ 113 + j = 6 by omega), if_neg (show ¬ 113 + j = 7 by omega), if_neg (show ¬ 113 + j = 8 by omega), if_neg (show ¬ 113 + j = 9 by omega), if_neg (show ¬ 113 + j = 10 by omega), if_neg (show ¬ 113 + j < 17 by omega), if_neg (show ¬ 113 + j < 41 by omega), if_neg (show ¬ 113 + j < 65 by omega), if_neg (show ¬ 113 + j < 113 by omega)]
    rw [h3] at h1
    show va_at D cl (bd (pm (113 + j)), .inr (8, [.int 0, .int 0, .int 0, .int 0, .int 0, .int (-1)])) H
    rw [hp]
    exact h1
