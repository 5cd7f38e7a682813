abbrev ST : Type := Nat → Nat → Int32
def up (X : ST) (f i : Nat) (v : Int32) : ST := fun g j => if g = f ∧ j = i then v else X g j
theorem up_eq (X : ST) (f i : Nat) (v : Int32) : up X f i v f i = v := by simp [up]
theorem up_ne {X : ST} {f i g j : Nat} {v : Int32} (h : ¬ (g = f ∧ j = i)) : up X f i v g j = X g j := by simp [up, h]
theorem up_upd (X : ST) (f i : Nat) (v : Int32) : up X f i v f = upd (X f) i v := by
  funext j
  simp [up, upd]
theorem up_off {X : ST} {f i g : Nat} {v : Int32} (h : g ≠ f) : up X f i v g = X g := by
  funext j
  simp [up, h]
def INJ (ad : Nat → Nat) (n : Nat) : Prop := ∀ i j : Nat, i < n → j < n → ad i = ad j → i = j
def CA (ad : Nat → Nat) (n sz : Nat) : Nat → Prop := fun q => (∃ k : Nat, k < n ∧ q = ad k) ∨ sz ≤ q
theorem CA_le {ad : Nat → Nat} {n a b : Nat} (h : a ≤ b) (q : Nat) (hq : CA ad n b q) : CA ad n a q := by
  rcases hq with hq | hq
  · exact Or.inl hq
  · exact Or.inr (Nat.le_trans h hq)
theorem zw_lt {e : Int32} {n : Nat} (h : vp_in e n) : e.toNatClampNeg < n := Nat.not_le.mp fun q => h (Or.inr q)
theorem zw_bn {e : Int32} (h : e = 0 ∨ e = 1) : narrow .boolean (.int e) = .int e := by rcases h with rfl | rfl <;> rfl
theorem zw_bf {e : Int32} (h : e = 0 ∨ e = 1) : fits .boolean (.int e) = true := by rcases h with rfl | rfl <;> rfl
theorem zw_keep {D : va_G} {cl : List vw_C} {ws : va_W} {H H1 : Heap} (hP : va_P D cl ws H) (hk : ∀ q : Nat, q < H.size → H1[q]? = H[q]?) : va_P D cl ws H1 := fun k q hq => (hP k q hq).kept (hk _ (hP k q hq).lt)
theorem zw_F {A : Nat → Prop} {s t : State} {H : Heap} {locs : List Loc} (hS : va_S A s.heap H locs) (hz : H.size ≤ t.heap.size) (hk : ∀ q : Nat, q < H.size → t.heap[q]? = H[q]?) : va_F A s t :=
  ⟨Nat.le_trans hS.1 hz, fun q h1 h2 => (hk q (Nat.lt_of_lt_of_le h1 hS.1)).trans (hS.2.1 q h1 h2)⟩
def cC (cA : Nat → ClassId) (ad : Nat → Nat) (X : ST) (c : Nat) : va_E :=
  if c = 0 then .inr (0, [.int (X 0 0), .int (X 1 0), .int (X 2 0), .int (X 3 0), .int (X 4 0), .int (X 5 0), .ref (ad 1), .ref (ad 2), .ref (ad 3), .ref (ad 4), .ref (ad 5), .ref (ad 6), .ref (ad 8), .ref (ad 10)])
  else if c = 1 then .inl (cA 0, 6, .inr (.inr (.inr (.inr (fun j => some (ad (11 + j)))))))
  else if c = 2 then .inl (cA 1, 12, .inr (.inr (.inr (.inr (fun j => some (ad (17 + j)))))))
  else if c = 3 then .inl (cA 2, 24, .inr (.inr (.inr (.inr (fun j => some (ad (41 + j)))))))
  else if c = 4 then .inl (cA 3, 48, .inr (.inr (.inr (.inr (fun j => some (ad (65 + j)))))))
  else if c = 5 then .inl (cA 4, 12, .inr (.inr (.inr (.inr (fun j => some (ad (113 + j)))))))
  else if c = 6 then .inr (1, [.int (X 6 0), .ref (ad 7)])
  else if c = 7 then .inl (cA 5, 8, .inl (X 61))
  else if c = 8 then .inr (2, [.int (X 7 0), .ref (ad 9)])
  else if c = 9 then .inl (cA 6, 96, .inl (X 63))
  else if c = 10 then .inr (3, [.int (X 64 0), .int (X 65 0), .int (X 66 0), .int (X 67 0)])
  else if c < 17 then .inr (4, [.int (X 10 (c - 11)), .int (X 11 (c - 11))])
  else if c < 29 then .inr (5, [.int (X 20 (c - 17)), .int (X 21 (c - 17)), .int (X 22 (c - 17)), .int (X 23 (c - 17)), .int (X 24 (c - 17)), .int (X 25 (c - 17)), .ref (ad (29 + (c - 17)))])
  else if c < 41 then .inl (cA 7, 4, .inl (fun j => X (1000 + j) (c - 29)))
  else if c < 65 then .inr (6, [.int (X 30 (c - 41)), .int (X 31 (c - 41)), .int (X 32 (c - 41)), .int (X 33 (c - 41))])
  else if c < 113 then .inr (7, [.int (X 40 (c - 65)), .int (X 41 (c - 65)), .int (X 42 (c - 65))])
  else .inr (8, [.int (X 50 (c - 113)), .int (X 51 (c - 113)), .int (X 52 (c - 113)), .int (X 53 (c - 113)), .int (X 54 (c - 113)), .int (X 55 (c - 113))])
def wdC (cA : Nat → ClassId) (ad : Nat → Nat) (X : ST) : va_W := (List.range 125).map (fun c => (ad c, cC cA ad X c))
theorem zwC_at {cA : Nat → ClassId} {ad : Nat → Nat} {X : ST} {c : Nat} (h : c < 125) : (wdC cA ad X)[c]? = some (ad c, cC cA ad X c) := by
  unfold wdC
  rw [List.getElem?_map, List.getElem?_range h]
  rfl
theorem zwC_no {cA : Nat → ClassId} {ad : Nat → Nat} {X : ST} {c : Nat} (h : 125 ≤ c) : (wdC cA ad X)[c]? = none := by
  unfold wdC
  rw [List.getElem?_map, List.getElem?_eq_none (by rw [List.length_range]; exact h)]
  rfl
theorem zwC_D {cA : Nat → ClassId} {ad : Nat → Nat} {X : ST} {sz : Nat} (hI : INJ ad 125) : va_D (CA ad 125 sz) (wdC cA ad X) := by
  refine ⟨fun i j p q hp hq he => ?_, fun k q hk => ?_⟩
  · rcases Nat.lt_or_ge i 125 with hi | hi
    · rcases Nat.lt_or_ge j 125 with hj | hj
      · rw [zwC_at hi] at hp
        rw [zwC_at hj] at hq
        cases hp
        cases hq
        exact hI i j hi hj he
      · rw [zwC_no hj] at hq
        cases hq
    · rw [zwC_no hi] at hp
      cases hp
  · rcases Nat.lt_or_ge k 125 with hi | hi
    · rw [zwC_at hi] at hk
      cases hk
      exact Or.inl ⟨k, hi, rfl⟩
    · rw [zwC_no hi] at hk
      cases hk
theorem zwC_set {cA : Nat → ClassId} {ad : Nat → Nat} {X : ST} {X' : ST} {c : Nat} {e : va_E} (h : c < 125) (he : cC cA ad X' c = e) (hn : ∀ d : Nat, d < 125 → d ≠ c → cC cA ad X' d = cC cA ad X d) : (wdC cA ad X).set c (ad c, e) = wdC cA ad X' := by
  refine List.ext_getElem? fun k => ?_
  rw [List.getElem?_set]
  rcases Nat.lt_or_ge k 125 with hk | hk
  · by_cases hc : c = k
    · subst hc
      rw [if_pos rfl, if_pos (by rw [wdC, List.length_map, List.length_range]; exact h), zwC_at hk, he]
    · rw [if_neg hc, zwC_at hk, zwC_at hk, hn k hk (fun q => hc q.symm)]
  · rw [if_neg (by omega), zwC_no hk, zwC_no hk]
theorem atC_CA {cA : Nat → ClassId} {ad : Nat → Nat} {X : ST} : (wdC cA ad X)[0]? = some (ad 0, .inr (0, [.int (X 0 0), .int (X 1 0), .int (X 2 0), .int (X 3 0), .int (X 4 0), .int (X 5 0), .ref (ad 1), .ref (ad 2), .ref (ad 3), .ref (ad 4), .ref (ad 5), .ref (ad 6), .ref (ad 8), .ref (ad 10)])) := zwC_at (by decide)
theorem atC_aAcc {cA : Nat → ClassId} {ad : Nat → Nat} {X : ST} : (wdC cA ad X)[1]? = some (ad 1, .inl (cA 0, 6, .inr (.inr (.inr (.inr (fun j => some (ad (11 + j)))))))) := zwC_at (by decide)
theorem atC_aOrd {cA : Nat → ClassId} {ad : Nat → Nat} {X : ST} : (wdC cA ad X)[2]? = some (ad 2, .inl (cA 1, 12, .inr (.inr (.inr (.inr (fun j => some (ad (17 + j)))))))) := zwC_at (by decide)
theorem atC_aAut {cA : Nat → ClassId} {ad : Nat → Nat} {X : ST} : (wdC cA ad X)[3]? = some (ad 3, .inl (cA 2, 24, .inr (.inr (.inr (.inr (fun j => some (ad (41 + j)))))))) := zwC_at (by decide)
theorem atC_aCha {cA : Nat → ClassId} {ad : Nat → Nat} {X : ST} : (wdC cA ad X)[4]? = some (ad 4, .inl (cA 3, 48, .inr (.inr (.inr (.inr (fun j => some (ad (65 + j)))))))) := zwC_at (by decide)
theorem atC_aCer {cA : Nat → ClassId} {ad : Nat → Nat} {X : ST} : (wdC cA ad X)[5]? = some (ad 5, .inl (cA 4, 12, .inr (.inr (.inr (.inr (fun j => some (ad (113 + j)))))))) := zwC_at (by decide)
theorem atC_Non {cA : Nat → ClassId} {ad : Nat → Nat} {X : ST} : (wdC cA ad X)[6]? = some (ad 6, .inr (1, [.int (X 6 0), .ref (ad 7)])) := zwC_at (by decide)
theorem atC_iNon {cA : Nat → ClassId} {ad : Nat → Nat} {X : ST} : (wdC cA ad X)[7]? = some (ad 7, .inl (cA 5, 8, .inl (X 61))) := zwC_at (by decide)
theorem atC_Txt {cA : Nat → ClassId} {ad : Nat → Nat} {X : ST} : (wdC cA ad X)[8]? = some (ad 8, .inr (2, [.int (X 7 0), .ref (ad 9)])) := zwC_at (by decide)
theorem atC_iTxt {cA : Nat → ClassId} {ad : Nat → Nat} {X : ST} : (wdC cA ad X)[9]? = some (ad 9, .inl (cA 6, 96, .inl (X 63))) := zwC_at (by decide)
theorem atC_Req {cA : Nat → ClassId} {ad : Nat → Nat} {X : ST} : (wdC cA ad X)[10]? = some (ad 10, .inr (3, [.int (X 64 0), .int (X 65 0), .int (X 66 0), .int (X 67 0)])) := zwC_at (by decide)
theorem cC_Acc {cA : Nat → ClassId} {ad : Nat → Nat} {X : ST} {i : Nat} (h : i < 6) : cC cA ad X (11 + i) = .inr (4, [.int (X 10 i), .int (X 11 i)]) := by
  unfold cC
  rw [if_neg (show ¬ 11 + i = 0 by omega), if_neg (show ¬ 11 + i = 1 by omega), if_neg (show ¬ 11 + i = 2 by omega), if_neg (show ¬ 11 + i = 3 by omega), if_neg (show ¬ 11 + i = 4 by omega), if_neg (show ¬ 11 + i = 5 by omega), if_neg (show ¬ 11 + i = 6 by omega), if_neg (show ¬ 11 + i = 7 by omega), if_neg (show ¬ 11 + i = 8 by omega), if_neg (show ¬ 11 + i = 9 by omega), if_neg (show ¬ 11 + i = 10 by omega), if_pos (show 11 + i < 17 by omega), Nat.add_sub_cancel_left]
theorem atC_Acc {cA : Nat → ClassId} {ad : Nat → Nat} {X : ST} {i : Nat} (h : i < 6) : (wdC cA ad X)[11 + i]? = some (ad (11 + i), .inr (4, [.int (X 10 i), .int (X 11 i)])) := by
  rw [zwC_at (show 11 + i < 125 by omega), cC_Acc h]
theorem cC_Ord {cA : Nat → ClassId} {ad : Nat → Nat} {X : ST} {i : Nat} (h : i < 12) : cC cA ad X (17 + i) = .inr (5, [.int (X 20 i), .int (X 21 i), .int (X 22 i), .int (X 23 i), .int (X 24 i), .int (X 25 i), .ref (ad (29 + i))]) := by
  unfold cC
  rw [if_neg (show ¬ 17 + i = 0 by omega), if_neg (show ¬ 17 + i = 1 by omega), if_neg (show ¬ 17 + i = 2 by omega), if_neg (show ¬ 17 + i = 3 by omega), if_neg (show ¬ 17 + i = 4 by omega), if_neg (show ¬ 17 + i = 5 by omega), if_neg (show ¬ 17 + i = 6 by omega), if_neg (show ¬ 17 + i = 7 by omega), if_neg (show ¬ 17 + i = 8 by omega), if_neg (show ¬ 17 + i = 9 by omega), if_neg (show ¬ 17 + i = 10 by omega), if_neg (show ¬ 17 + i < 17 by omega), if_pos (show 17 + i < 29 by omega), Nat.add_sub_cancel_left]
theorem atC_Ord {cA : Nat → ClassId} {ad : Nat → Nat} {X : ST} {i : Nat} (h : i < 12) : (wdC cA ad X)[17 + i]? = some (ad (17 + i), .inr (5, [.int (X 20 i), .int (X 21 i), .int (X 22 i), .int (X 23 i), .int (X 24 i), .int (X 25 i), .ref (ad (29 + i))])) := by
  rw [zwC_at (show 17 + i < 125 by omega), cC_Ord h]
theorem cC_iOrd {cA : Nat → ClassId} {ad : Nat → Nat} {X : ST} {i : Nat} (h : i < 12) : cC cA ad X (29 + i) = .inl (cA 7, 4, .inl (fun j => X (1000 + j) i)) := by
  unfold cC
  rw [if_neg (show ¬ 29 + i = 0 by omega), if_neg (show ¬ 29 + i = 1 by omega), if_neg (show ¬ 29 + i = 2 by omega), if_neg (show ¬ 29 + i = 3 by omega), if_neg (show ¬ 29 + i = 4 by omega), if_neg (show ¬ 29 + i = 5 by omega), if_neg (show ¬ 29 + i = 6 by omega), if_neg (show ¬ 29 + i = 7 by omega), if_neg (show ¬ 29 + i = 8 by omega), if_neg (show ¬ 29 + i = 9 by omega), if_neg (show ¬ 29 + i = 10 by omega), if_neg (show ¬ 29 + i < 17 by omega), if_neg (show ¬ 29 + i < 29 by omega), if_pos (show 29 + i < 41 by omega), Nat.add_sub_cancel_left]
theorem atC_iOrd {cA : Nat → ClassId} {ad : Nat → Nat} {X : ST} {i : Nat} (h : i < 12) : (wdC cA ad X)[29 + i]? = some (ad (29 + i), .inl (cA 7, 4, .inl (fun j => X (1000 + j) i))) := by
  rw [zwC_at (show 29 + i < 125 by omega), cC_iOrd h]
theorem cC_Aut {cA : Nat → ClassId} {ad : Nat → Nat} {X : ST} {i : Nat} (h : i < 24) : cC cA ad X (41 + i) = .inr (6, [.int (X 30 i), .int (X 31 i), .int (X 32 i), .int (X 33 i)]) := by
  unfold cC
  rw [if_neg (show ¬ 41 + i = 0 by omega), if_neg (show ¬ 41 + i = 1 by omega), if_neg (show ¬ 41 + i = 2 by omega), if_neg (show ¬ 41 + i = 3 by omega), if_neg (show ¬ 41 + i = 4 by omega), if_neg (show ¬ 41 + i = 5 by omega), if_neg (show ¬ 41 + i = 6 by omega), if_neg (show ¬ 41 + i = 7 by omega), if_neg (show ¬ 41 + i = 8 by omega), if_neg (show ¬ 41 + i = 9 by omega), if_neg (show ¬ 41 + i = 10 by omega), if_neg (show ¬ 41 + i < 17 by omega), if_neg (show ¬ 41 + i < 29 by omega), if_neg (show ¬ 41 + i < 41 by omega), if_pos (show 41 + i < 65 by omega), Nat.add_sub_cancel_left]
theorem atC_Aut {cA : Nat → ClassId} {ad : Nat → Nat} {X : ST} {i : Nat} (h : i < 24) : (wdC cA ad X)[41 + i]? = some (ad (41 + i), .inr (6, [.int (X 30 i), .int (X 31 i), .int (X 32 i), .int (X 33 i)])) := by
  rw [zwC_at (show 41 + i < 125 by omega), cC_Aut h]
theorem cC_Cha {cA : Nat → ClassId} {ad : Nat → Nat} {X : ST} {i : Nat} (h : i < 48) : cC cA ad X (65 + i) = .inr (7, [.int (X 40 i), .int (X 41 i), .int (X 42 i)]) := by
  unfold cC
  rw [if_neg (show ¬ 65 + i = 0 by omega), if_neg (show ¬ 65 + i = 1 by omega), if_neg (show ¬ 65 + i = 2 by omega), if_neg (show ¬ 65 + i = 3 by omega), if_neg (show ¬ 65 + i = 4 by omega), if_neg (show ¬ 65 + i = 5 by omega), if_neg (show ¬ 65 + i = 6 by omega), if_neg (show ¬ 65 + i = 7 by omega), if_neg (show ¬ 65 + i = 8 by omega), if_neg (show ¬ 65 + i = 9 by omega), if_neg (show ¬ 65 + i = 10 by omega), if_neg (show ¬ 65 + i < 17 by omega), if_neg (show ¬ 65 + i < 29 by omega), if_neg (show ¬ 65 + i < 41 by omega), if_neg (show ¬ 65 + i < 65 by omega), if_pos (show 65 + i < 113 by omega), Nat.add_sub_cancel_left]
theorem atC_Cha {cA : Nat → ClassId} {ad : Nat → Nat} {X : ST} {i : Nat} (h : i < 48) : (wdC cA ad X)[65 + i]? = some (ad (65 + i), .inr (7, [.int (X 40 i), .int (X 41 i), .int (X 42 i)])) := by
  rw [zwC_at (show 65 + i < 125 by omega), cC_Cha h]
theorem cC_Cer {cA : Nat → ClassId} {ad : Nat → Nat} {X : ST} {i : Nat} (h : i < 12) : cC cA ad X (113 + i) = .inr (8, [.int (X 50 i), .int (X 51 i), .int (X 52 i), .int (X 53 i), .int (X 54 i), .int (X 55 i)]) := by
  unfold cC
  rw [if_neg (show ¬ 113 + i = 0 by omega), if_neg (show ¬ 113 + i = 1 by omega), if_neg (show ¬ 113 + i = 2 by omega), if_neg (show ¬ 113 + i = 3 by omega), if_neg (show ¬ 113 + i = 4 by omega), if_neg (show ¬ 113 + i = 5 by omega), if_neg (show ¬ 113 + i = 6 by omega), if_neg (show ¬ 113 + i = 7 by omega), if_neg (show ¬ 113 + i = 8 by omega), if_neg (show ¬ 113 + i = 9 by omega), if_neg (show ¬ 113 + i = 10 by omega), if_neg (show ¬ 113 + i < 17 by omega), if_neg (show ¬ 113 + i < 29 by omega), if_neg (show ¬ 113 + i < 41 by omega), if_neg (show ¬ 113 + i < 65 by omega), if_neg (show ¬ 113 + i < 113 by omega), Nat.add_sub_cancel_left]
theorem atC_Cer {cA : Nat → ClassId} {ad : Nat → Nat} {X : ST} {i : Nat} (h : i < 12) : (wdC cA ad X)[113 + i]? = some (ad (113 + i), .inr (8, [.int (X 50 i), .int (X 51 i), .int (X 52 i), .int (X 53 i), .int (X 54 i), .int (X 55 i)])) := by
  rw [zwC_at (show 113 + i < 125 by omega), cC_Cer h]
theorem stC_CA_0 {cA : Nat → ClassId} {ad : Nat → Nat} {X : ST} {v : Int32} : (wdC cA ad X).set (0) (ad (0), .inr (0, ([.int (X 0 0), .int (X 1 0), .int (X 2 0), .int (X 3 0), .int (X 4 0), .int (X 5 0), .ref (ad 1), .ref (ad 2), .ref (ad 3), .ref (ad 4), .ref (ad 5), .ref (ad 6), .ref (ad 8), .ref (ad 10)] : List Value).set 0 (.int v))) = wdC cA ad (up X 0 0 v) := by
  refine zwC_set (by decide) ?_ ?_
  · show (.inr (0, [.int ((up X 0 0 v) 0 0), .int ((up X 0 0 v) 1 0), .int ((up X 0 0 v) 2 0), .int ((up X 0 0 v) 3 0), .int ((up X 0 0 v) 4 0), .int ((up X 0 0 v) 5 0), .ref (ad 1), .ref (ad 2), .ref (ad 3), .ref (ad 4), .ref (ad 5), .ref (ad 6), .ref (ad 8), .ref (ad 10)]) : va_E) = _
    simp [up]
  · intro d hd hne
    rcases (show d = 0 ∨ d = 1 ∨ d = 2 ∨ d = 3 ∨ d = 4 ∨ d = 5 ∨ d = 6 ∨ d = 7 ∨ d = 8 ∨ d = 9 ∨ d = 10 ∨ (11 ≤ d ∧ d < 17) ∨ (17 ≤ d ∧ d < 29) ∨ (29 ≤ d ∧ d < 41) ∨ (41 ≤ d ∧ d < 65) ∨ (65 ≤ d ∧ d < 113) ∨ (113 ≤ d ∧ d < 125) by omega) with h9 | h9 | h9 | h9 | h9 | h9 | h9 | h9 | h9 | h9 | h9 | ⟨h9, h8⟩ | ⟨h9, h8⟩ | ⟨h9, h8⟩ | ⟨h9, h8⟩ | ⟨h9, h8⟩ | ⟨h9, h8⟩
    · exact absurd h9 hne
    · subst h9; rfl
    · subst h9; rfl
    · subst h9; rfl
    · subst h9; rfl
    · subst h9; rfl
    · subst h9; rfl
    · subst h9; rfl
    · subst h9; rfl
    · subst h9; rfl
    · subst h9; rfl
    · obtain ⟨j9, rfl⟩ : ∃ j9, d = 11 + j9 := ⟨d - 11, by omega⟩
      rw [cC_Acc (show j9 < 6 by omega), cC_Acc (show j9 < 6 by omega)]
      rfl
    · obtain ⟨j9, rfl⟩ : ∃ j9, d = 17 + j9 := ⟨d - 17, by omega⟩
      rw [cC_Ord (show j9 < 12 by omega), cC_Ord (show j9 < 12 by omega)]
      rfl
    · obtain ⟨j9, rfl⟩ : ∃ j9, d = 29 + j9 := ⟨d - 29, by omega⟩
      rw [cC_iOrd (show j9 < 12 by omega), cC_iOrd (show j9 < 12 by omega)]
      have e8 : (fun j8 => up X 0 0 v (1000 + j8) j9) = (fun j8 => X (1000 + j8) j9) := funext fun j8 => congrFun (up_off (by omega)) j9
      rw [e8]
    · obtain ⟨j9, rfl⟩ : ∃ j9, d = 41 + j9 := ⟨d - 41, by omega⟩
      rw [cC_Aut (show j9 < 24 by omega), cC_Aut (show j9 < 24 by omega)]
      rfl
    · obtain ⟨j9, rfl⟩ : ∃ j9, d = 65 + j9 := ⟨d - 65, by omega⟩
      rw [cC_Cha (show j9 < 48 by omega), cC_Cha (show j9 < 48 by omega)]
      rfl
    · obtain ⟨j9, rfl⟩ : ∃ j9, d = 113 + j9 := ⟨d - 113, by omega⟩
      rw [cC_Cer (show j9 < 12 by omega), cC_Cer (show j9 < 12 by omega)]
      rfl
theorem stC_CA_1 {cA : Nat → ClassId} {ad : Nat → Nat} {X : ST} {v : Int32} : (wdC cA ad X).set (0) (ad (0), .inr (0, ([.int (X 0 0), .int (X 1 0), .int (X 2 0), .int (X 3 0), .int (X 4 0), .int (X 5 0), .ref (ad 1), .ref (ad 2), .ref (ad 3), .ref (ad 4), .ref (ad 5), .ref (ad 6), .ref (ad 8), .ref (ad 10)] : List Value).set 1 (.int v))) = wdC cA ad (up X 1 0 v) := by
  refine zwC_set (by decide) ?_ ?_
  · show (.inr (0, [.int ((up X 1 0 v) 0 0), .int ((up X 1 0 v) 1 0), .int ((up X 1 0 v) 2 0), .int ((up X 1 0 v) 3 0), .int ((up X 1 0 v) 4 0), .int ((up X 1 0 v) 5 0), .ref (ad 1), .ref (ad 2), .ref (ad 3), .ref (ad 4), .ref (ad 5), .ref (ad 6), .ref (ad 8), .ref (ad 10)]) : va_E) = _
    simp [up]
  · intro d hd hne
    rcases (show d = 0 ∨ d = 1 ∨ d = 2 ∨ d = 3 ∨ d = 4 ∨ d = 5 ∨ d = 6 ∨ d = 7 ∨ d = 8 ∨ d = 9 ∨ d = 10 ∨ (11 ≤ d ∧ d < 17) ∨ (17 ≤ d ∧ d < 29) ∨ (29 ≤ d ∧ d < 41) ∨ (41 ≤ d ∧ d < 65) ∨ (65 ≤ d ∧ d < 113) ∨ (113 ≤ d ∧ d < 125) by omega) with h9 | h9 | h9 | h9 | h9 | h9 | h9 | h9 | h9 | h9 | h9 | ⟨h9, h8⟩ | ⟨h9, h8⟩ | ⟨h9, h8⟩ | ⟨h9, h8⟩ | ⟨h9, h8⟩ | ⟨h9, h8⟩
    · exact absurd h9 hne
    · subst h9; rfl
    · subst h9; rfl
    · subst h9; rfl
    · subst h9; rfl
    · subst h9; rfl
    · subst h9; rfl
    · subst h9; rfl
    · subst h9; rfl
    · subst h9; rfl
    · subst h9; rfl
    · obtain ⟨j9, rfl⟩ : ∃ j9, d = 11 + j9 := ⟨d - 11, by omega⟩
      rw [cC_Acc (show j9 < 6 by omega), cC_Acc (show j9 < 6 by omega)]
      rfl
    · obtain ⟨j9, rfl⟩ : ∃ j9, d = 17 + j9 := ⟨d - 17, by omega⟩
      rw [cC_Ord (show j9 < 12 by omega), cC_Ord (show j9 < 12 by omega)]
      rfl
    · obtain ⟨j9, rfl⟩ : ∃ j9, d = 29 + j9 := ⟨d - 29, by omega⟩
      rw [cC_iOrd (show j9 < 12 by omega), cC_iOrd (show j9 < 12 by omega)]
      have e8 : (fun j8 => up X 1 0 v (1000 + j8) j9) = (fun j8 => X (1000 + j8) j9) := funext fun j8 => congrFun (up_off (by omega)) j9
      rw [e8]
    · obtain ⟨j9, rfl⟩ : ∃ j9, d = 41 + j9 := ⟨d - 41, by omega⟩
      rw [cC_Aut (show j9 < 24 by omega), cC_Aut (show j9 < 24 by omega)]
      rfl
    · obtain ⟨j9, rfl⟩ : ∃ j9, d = 65 + j9 := ⟨d - 65, by omega⟩
      rw [cC_Cha (show j9 < 48 by omega), cC_Cha (show j9 < 48 by omega)]
      rfl
    · obtain ⟨j9, rfl⟩ : ∃ j9, d = 113 + j9 := ⟨d - 113, by omega⟩
      rw [cC_Cer (show j9 < 12 by omega), cC_Cer (show j9 < 12 by omega)]
      rfl
theorem stC_CA_2 {cA : Nat → ClassId} {ad : Nat → Nat} {X : ST} {v : Int32} : (wdC cA ad X).set (0) (ad (0), .inr (0, ([.int (X 0 0), .int (X 1 0), .int (X 2 0), .int (X 3 0), .int (X 4 0), .int (X 5 0), .ref (ad 1), .ref (ad 2), .ref (ad 3), .ref (ad 4), .ref (ad 5), .ref (ad 6), .ref (ad 8), .ref (ad 10)] : List Value).set 2 (.int v))) = wdC cA ad (up X 2 0 v) := by
  refine zwC_set (by decide) ?_ ?_
  · show (.inr (0, [.int ((up X 2 0 v) 0 0), .int ((up X 2 0 v) 1 0), .int ((up X 2 0 v) 2 0), .int ((up X 2 0 v) 3 0), .int ((up X 2 0 v) 4 0), .int ((up X 2 0 v) 5 0), .ref (ad 1), .ref (ad 2), .ref (ad 3), .ref (ad 4), .ref (ad 5), .ref (ad 6), .ref (ad 8), .ref (ad 10)]) : va_E) = _
    simp [up]
  · intro d hd hne
    rcases (show d = 0 ∨ d = 1 ∨ d = 2 ∨ d = 3 ∨ d = 4 ∨ d = 5 ∨ d = 6 ∨ d = 7 ∨ d = 8 ∨ d = 9 ∨ d = 10 ∨ (11 ≤ d ∧ d < 17) ∨ (17 ≤ d ∧ d < 29) ∨ (29 ≤ d ∧ d < 41) ∨ (41 ≤ d ∧ d < 65) ∨ (65 ≤ d ∧ d < 113) ∨ (113 ≤ d ∧ d < 125) by omega) with h9 | h9 | h9 | h9 | h9 | h9 | h9 | h9 | h9 | h9 | h9 | ⟨h9, h8⟩ | ⟨h9, h8⟩ | ⟨h9, h8⟩ | ⟨h9, h8⟩ | ⟨h9, h8⟩ | ⟨h9, h8⟩
    · exact absurd h9 hne
    · subst h9; rfl
    · subst h9; rfl
    · subst h9; rfl
    · subst h9; rfl
    · subst h9; rfl
    · subst h9; rfl
    · subst h9; rfl
    · subst h9; rfl
    · subst h9; rfl
    · subst h9; rfl
    · obtain ⟨j9, rfl⟩ : ∃ j9, d = 11 + j9 := ⟨d - 11, by omega⟩
      rw [cC_Acc (show j9 < 6 by omega), cC_Acc (show j9 < 6 by omega)]
      rfl
    · obtain ⟨j9, rfl⟩ : ∃ j9, d = 17 + j9 := ⟨d - 17, by omega⟩
      rw [cC_Ord (show j9 < 12 by omega), cC_Ord (show j9 < 12 by omega)]
      rfl
    · obtain ⟨j9, rfl⟩ : ∃ j9, d = 29 + j9 := ⟨d - 29, by omega⟩
      rw [cC_iOrd (show j9 < 12 by omega), cC_iOrd (show j9 < 12 by omega)]
      have e8 : (fun j8 => up X 2 0 v (1000 + j8) j9) = (fun j8 => X (1000 + j8) j9) := funext fun j8 => congrFun (up_off (by omega)) j9
      rw [e8]
    · obtain ⟨j9, rfl⟩ : ∃ j9, d = 41 + j9 := ⟨d - 41, by omega⟩
      rw [cC_Aut (show j9 < 24 by omega), cC_Aut (show j9 < 24 by omega)]
      rfl
    · obtain ⟨j9, rfl⟩ : ∃ j9, d = 65 + j9 := ⟨d - 65, by omega⟩
      rw [cC_Cha (show j9 < 48 by omega), cC_Cha (show j9 < 48 by omega)]
      rfl
    · obtain ⟨j9, rfl⟩ : ∃ j9, d = 113 + j9 := ⟨d - 113, by omega⟩
      rw [cC_Cer (show j9 < 12 by omega), cC_Cer (show j9 < 12 by omega)]
      rfl
theorem stC_CA_3 {cA : Nat → ClassId} {ad : Nat → Nat} {X : ST} {v : Int32} : (wdC cA ad X).set (0) (ad (0), .inr (0, ([.int (X 0 0), .int (X 1 0), .int (X 2 0), .int (X 3 0), .int (X 4 0), .int (X 5 0), .ref (ad 1), .ref (ad 2), .ref (ad 3), .ref (ad 4), .ref (ad 5), .ref (ad 6), .ref (ad 8), .ref (ad 10)] : List Value).set 3 (.int v))) = wdC cA ad (up X 3 0 v) := by
  refine zwC_set (by decide) ?_ ?_
  · show (.inr (0, [.int ((up X 3 0 v) 0 0), .int ((up X 3 0 v) 1 0), .int ((up X 3 0 v) 2 0), .int ((up X 3 0 v) 3 0), .int ((up X 3 0 v) 4 0), .int ((up X 3 0 v) 5 0), .ref (ad 1), .ref (ad 2), .ref (ad 3), .ref (ad 4), .ref (ad 5), .ref (ad 6), .ref (ad 8), .ref (ad 10)]) : va_E) = _
    simp [up]
  · intro d hd hne
    rcases (show d = 0 ∨ d = 1 ∨ d = 2 ∨ d = 3 ∨ d = 4 ∨ d = 5 ∨ d = 6 ∨ d = 7 ∨ d = 8 ∨ d = 9 ∨ d = 10 ∨ (11 ≤ d ∧ d < 17) ∨ (17 ≤ d ∧ d < 29) ∨ (29 ≤ d ∧ d < 41) ∨ (41 ≤ d ∧ d < 65) ∨ (65 ≤ d ∧ d < 113) ∨ (113 ≤ d ∧ d < 125) by omega) with h9 | h9 | h9 | h9 | h9 | h9 | h9 | h9 | h9 | h9 | h9 | ⟨h9, h8⟩ | ⟨h9, h8⟩ | ⟨h9, h8⟩ | ⟨h9, h8⟩ | ⟨h9, h8⟩ | ⟨h9, h8⟩
    · exact absurd h9 hne
    · subst h9; rfl
    · subst h9; rfl
    · subst h9; rfl
    · subst h9; rfl
    · subst h9; rfl
    · subst h9; rfl
    · subst h9; rfl
    · subst h9; rfl
    · subst h9; rfl
    · subst h9; rfl
    · obtain ⟨j9, rfl⟩ : ∃ j9, d = 11 + j9 := ⟨d - 11, by omega⟩
      rw [cC_Acc (show j9 < 6 by omega), cC_Acc (show j9 < 6 by omega)]
      rfl
    · obtain ⟨j9, rfl⟩ : ∃ j9, d = 17 + j9 := ⟨d - 17, by omega⟩
      rw [cC_Ord (show j9 < 12 by omega), cC_Ord (show j9 < 12 by omega)]
      rfl
    · obtain ⟨j9, rfl⟩ : ∃ j9, d = 29 + j9 := ⟨d - 29, by omega⟩
      rw [cC_iOrd (show j9 < 12 by omega), cC_iOrd (show j9 < 12 by omega)]
      have e8 : (fun j8 => up X 3 0 v (1000 + j8) j9) = (fun j8 => X (1000 + j8) j9) := funext fun j8 => congrFun (up_off (by omega)) j9
      rw [e8]
    · obtain ⟨j9, rfl⟩ : ∃ j9, d = 41 + j9 := ⟨d - 41, by omega⟩
      rw [cC_Aut (show j9 < 24 by omega), cC_Aut (show j9 < 24 by omega)]
      rfl
    · obtain ⟨j9, rfl⟩ : ∃ j9, d = 65 + j9 := ⟨d - 65, by omega⟩
      rw [cC_Cha (show j9 < 48 by omega), cC_Cha (show j9 < 48 by omega)]
      rfl
    · obtain ⟨j9, rfl⟩ : ∃ j9, d = 113 + j9 := ⟨d - 113, by omega⟩
      rw [cC_Cer (show j9 < 12 by omega), cC_Cer (show j9 < 12 by omega)]
      rfl
theorem stC_CA_4 {cA : Nat → ClassId} {ad : Nat → Nat} {X : ST} {v : Int32} : (wdC cA ad X).set (0) (ad (0), .inr (0, ([.int (X 0 0), .int (X 1 0), .int (X 2 0), .int (X 3 0), .int (X 4 0), .int (X 5 0), .ref (ad 1), .ref (ad 2), .ref (ad 3), .ref (ad 4), .ref (ad 5), .ref (ad 6), .ref (ad 8), .ref (ad 10)] : List Value).set 4 (.int v))) = wdC cA ad (up X 4 0 v) := by
  refine zwC_set (by decide) ?_ ?_
  · show (.inr (0, [.int ((up X 4 0 v) 0 0), .int ((up X 4 0 v) 1 0), .int ((up X 4 0 v) 2 0), .int ((up X 4 0 v) 3 0), .int ((up X 4 0 v) 4 0), .int ((up X 4 0 v) 5 0), .ref (ad 1), .ref (ad 2), .ref (ad 3), .ref (ad 4), .ref (ad 5), .ref (ad 6), .ref (ad 8), .ref (ad 10)]) : va_E) = _
    simp [up]
  · intro d hd hne
    rcases (show d = 0 ∨ d = 1 ∨ d = 2 ∨ d = 3 ∨ d = 4 ∨ d = 5 ∨ d = 6 ∨ d = 7 ∨ d = 8 ∨ d = 9 ∨ d = 10 ∨ (11 ≤ d ∧ d < 17) ∨ (17 ≤ d ∧ d < 29) ∨ (29 ≤ d ∧ d < 41) ∨ (41 ≤ d ∧ d < 65) ∨ (65 ≤ d ∧ d < 113) ∨ (113 ≤ d ∧ d < 125) by omega) with h9 | h9 | h9 | h9 | h9 | h9 | h9 | h9 | h9 | h9 | h9 | ⟨h9, h8⟩ | ⟨h9, h8⟩ | ⟨h9, h8⟩ | ⟨h9, h8⟩ | ⟨h9, h8⟩ | ⟨h9, h8⟩
    · exact absurd h9 hne
    · subst h9; rfl
    · subst h9; rfl
    · subst h9; rfl
    · subst h9; rfl
    · subst h9; rfl
    · subst h9; rfl
    · subst h9; rfl
    · subst h9; rfl
    · subst h9; rfl
    · subst h9; rfl
    · obtain ⟨j9, rfl⟩ : ∃ j9, d = 11 + j9 := ⟨d - 11, by omega⟩
      rw [cC_Acc (show j9 < 6 by omega), cC_Acc (show j9 < 6 by omega)]
      rfl
    · obtain ⟨j9, rfl⟩ : ∃ j9, d = 17 + j9 := ⟨d - 17, by omega⟩
      rw [cC_Ord (show j9 < 12 by omega), cC_Ord (show j9 < 12 by omega)]
      rfl
    · obtain ⟨j9, rfl⟩ : ∃ j9, d = 29 + j9 := ⟨d - 29, by omega⟩
      rw [cC_iOrd (show j9 < 12 by omega), cC_iOrd (show j9 < 12 by omega)]
      have e8 : (fun j8 => up X 4 0 v (1000 + j8) j9) = (fun j8 => X (1000 + j8) j9) := funext fun j8 => congrFun (up_off (by omega)) j9
      rw [e8]
    · obtain ⟨j9, rfl⟩ : ∃ j9, d = 41 + j9 := ⟨d - 41, by omega⟩
      rw [cC_Aut (show j9 < 24 by omega), cC_Aut (show j9 < 24 by omega)]
      rfl
    · obtain ⟨j9, rfl⟩ : ∃ j9, d = 65 + j9 := ⟨d - 65, by omega⟩
      rw [cC_Cha (show j9 < 48 by omega), cC_Cha (show j9 < 48 by omega)]
      rfl
    · obtain ⟨j9, rfl⟩ : ∃ j9, d = 113 + j9 := ⟨d - 113, by omega⟩
      rw [cC_Cer (show j9 < 12 by omega), cC_Cer (show j9 < 12 by omega)]
      rfl
theorem stC_CA_5 {cA : Nat → ClassId} {ad : Nat → Nat} {X : ST} {v : Int32} : (wdC cA ad X).set (0) (ad (0), .inr (0, ([.int (X 0 0), .int (X 1 0), .int (X 2 0), .int (X 3 0), .int (X 4 0), .int (X 5 0), .ref (ad 1), .ref (ad 2), .ref (ad 3), .ref (ad 4), .ref (ad 5), .ref (ad 6), .ref (ad 8), .ref (ad 10)] : List Value).set 5 (.int v))) = wdC cA ad (up X 5 0 v) := by
  refine zwC_set (by decide) ?_ ?_
  · show (.inr (0, [.int ((up X 5 0 v) 0 0), .int ((up X 5 0 v) 1 0), .int ((up X 5 0 v) 2 0), .int ((up X 5 0 v) 3 0), .int ((up X 5 0 v) 4 0), .int ((up X 5 0 v) 5 0), .ref (ad 1), .ref (ad 2), .ref (ad 3), .ref (ad 4), .ref (ad 5), .ref (ad 6), .ref (ad 8), .ref (ad 10)]) : va_E) = _
    simp [up]
  · intro d hd hne
    rcases (show d = 0 ∨ d = 1 ∨ d = 2 ∨ d = 3 ∨ d = 4 ∨ d = 5 ∨ d = 6 ∨ d = 7 ∨ d = 8 ∨ d = 9 ∨ d = 10 ∨ (11 ≤ d ∧ d < 17) ∨ (17 ≤ d ∧ d < 29) ∨ (29 ≤ d ∧ d < 41) ∨ (41 ≤ d ∧ d < 65) ∨ (65 ≤ d ∧ d < 113) ∨ (113 ≤ d ∧ d < 125) by omega) with h9 | h9 | h9 | h9 | h9 | h9 | h9 | h9 | h9 | h9 | h9 | ⟨h9, h8⟩ | ⟨h9, h8⟩ | ⟨h9, h8⟩ | ⟨h9, h8⟩ | ⟨h9, h8⟩ | ⟨h9, h8⟩
    · exact absurd h9 hne
    · subst h9; rfl
    · subst h9; rfl
    · subst h9; rfl
    · subst h9; rfl
    · subst h9; rfl
    · subst h9; rfl
    · subst h9; rfl
    · subst h9; rfl
    · subst h9; rfl
    · subst h9; rfl
    · obtain ⟨j9, rfl⟩ : ∃ j9, d = 11 + j9 := ⟨d - 11, by omega⟩
      rw [cC_Acc (show j9 < 6 by omega), cC_Acc (show j9 < 6 by omega)]
      rfl
    · obtain ⟨j9, rfl⟩ : ∃ j9, d = 17 + j9 := ⟨d - 17, by omega⟩
      rw [cC_Ord (show j9 < 12 by omega), cC_Ord (show j9 < 12 by omega)]
      rfl
    · obtain ⟨j9, rfl⟩ : ∃ j9, d = 29 + j9 := ⟨d - 29, by omega⟩
      rw [cC_iOrd (show j9 < 12 by omega), cC_iOrd (show j9 < 12 by omega)]
      have e8 : (fun j8 => up X 5 0 v (1000 + j8) j9) = (fun j8 => X (1000 + j8) j9) := funext fun j8 => congrFun (up_off (by omega)) j9
      rw [e8]
    · obtain ⟨j9, rfl⟩ : ∃ j9, d = 41 + j9 := ⟨d - 41, by omega⟩
      rw [cC_Aut (show j9 < 24 by omega), cC_Aut (show j9 < 24 by omega)]
      rfl
    · obtain ⟨j9, rfl⟩ : ∃ j9, d = 65 + j9 := ⟨d - 65, by omega⟩
      rw [cC_Cha (show j9 < 48 by omega), cC_Cha (show j9 < 48 by omega)]
      rfl
    · obtain ⟨j9, rfl⟩ : ∃ j9, d = 113 + j9 := ⟨d - 113, by omega⟩
      rw [cC_Cer (show j9 < 12 by omega), cC_Cer (show j9 < 12 by omega)]
      rfl
theorem stC_Non_0 {cA : Nat → ClassId} {ad : Nat → Nat} {X : ST} {v : Int32} : (wdC cA ad X).set (6) (ad (6), .inr (1, ([.int (X 6 0), .ref (ad 7)] : List Value).set 0 (.int v))) = wdC cA ad (up X 6 0 v) := by
  refine zwC_set (by decide) ?_ ?_
  · show (.inr (1, [.int ((up X 6 0 v) 6 0), .ref (ad 7)]) : va_E) = _
    simp [up]
  · intro d hd hne
    rcases (show d = 0 ∨ d = 1 ∨ d = 2 ∨ d = 3 ∨ d = 4 ∨ d = 5 ∨ d = 6 ∨ d = 7 ∨ d = 8 ∨ d = 9 ∨ d = 10 ∨ (11 ≤ d ∧ d < 17) ∨ (17 ≤ d ∧ d < 29) ∨ (29 ≤ d ∧ d < 41) ∨ (41 ≤ d ∧ d < 65) ∨ (65 ≤ d ∧ d < 113) ∨ (113 ≤ d ∧ d < 125) by omega) with h9 | h9 | h9 | h9 | h9 | h9 | h9 | h9 | h9 | h9 | h9 | ⟨h9, h8⟩ | ⟨h9, h8⟩ | ⟨h9, h8⟩ | ⟨h9, h8⟩ | ⟨h9, h8⟩ | ⟨h9, h8⟩
    · subst h9; rfl
    · subst h9; rfl
    · subst h9; rfl
    · subst h9; rfl
    · subst h9; rfl
    · subst h9; rfl
    · exact absurd h9 hne
    · subst h9; rfl
    · subst h9; rfl
    · subst h9; rfl
    · subst h9; rfl
    · obtain ⟨j9, rfl⟩ : ∃ j9, d = 11 + j9 := ⟨d - 11, by omega⟩
      rw [cC_Acc (show j9 < 6 by omega), cC_Acc (show j9 < 6 by omega)]
      rfl
    · obtain ⟨j9, rfl⟩ : ∃ j9, d = 17 + j9 := ⟨d - 17, by omega⟩
      rw [cC_Ord (show j9 < 12 by omega), cC_Ord (show j9 < 12 by omega)]
      rfl
    · obtain ⟨j9, rfl⟩ : ∃ j9, d = 29 + j9 := ⟨d - 29, by omega⟩
      rw [cC_iOrd (show j9 < 12 by omega), cC_iOrd (show j9 < 12 by omega)]
      have e8 : (fun j8 => up X 6 0 v (1000 + j8) j9) = (fun j8 => X (1000 + j8) j9) := funext fun j8 => congrFun (up_off (by omega)) j9
      rw [e8]
    · obtain ⟨j9, rfl⟩ : ∃ j9, d = 41 + j9 := ⟨d - 41, by omega⟩
      rw [cC_Aut (show j9 < 24 by omega), cC_Aut (show j9 < 24 by omega)]
      rfl
    · obtain ⟨j9, rfl⟩ : ∃ j9, d = 65 + j9 := ⟨d - 65, by omega⟩
      rw [cC_Cha (show j9 < 48 by omega), cC_Cha (show j9 < 48 by omega)]
      rfl
    · obtain ⟨j9, rfl⟩ : ∃ j9, d = 113 + j9 := ⟨d - 113, by omega⟩
      rw [cC_Cer (show j9 < 12 by omega), cC_Cer (show j9 < 12 by omega)]
      rfl
theorem stC_iNon {cA : Nat → ClassId} {ad : Nat → Nat} {X : ST} {j : Nat} {v : Int32} : (wdC cA ad X).set 7 (ad 7, .inl (cA 5, 8, .inl (upd (X 61) j v))) = wdC cA ad (up X 61 j v) := by
  refine zwC_set (by decide) ?_ ?_
  · show Sum.inl (cA 5, 8, Sum.inl (up X 61 j v 61)) = _
    rw [up_upd]
  · intro d hd hne
    rcases (show d = 0 ∨ d = 1 ∨ d = 2 ∨ d = 3 ∨ d = 4 ∨ d = 5 ∨ d = 6 ∨ d = 7 ∨ d = 8 ∨ d = 9 ∨ d = 10 ∨ (11 ≤ d ∧ d < 17) ∨ (17 ≤ d ∧ d < 29) ∨ (29 ≤ d ∧ d < 41) ∨ (41 ≤ d ∧ d < 65) ∨ (65 ≤ d ∧ d < 113) ∨ (113 ≤ d ∧ d < 125) by omega) with h9 | h9 | h9 | h9 | h9 | h9 | h9 | h9 | h9 | h9 | h9 | ⟨h9, h8⟩ | ⟨h9, h8⟩ | ⟨h9, h8⟩ | ⟨h9, h8⟩ | ⟨h9, h8⟩ | ⟨h9, h8⟩
    · subst h9; rfl
    · subst h9; rfl
    · subst h9; rfl
    · subst h9; rfl
    · subst h9; rfl
    · subst h9; rfl
    · subst h9; rfl
    · exact absurd h9 hne
    · subst h9; rfl
    · subst h9; rfl
    · subst h9; rfl
    · obtain ⟨j9, rfl⟩ : ∃ j9, d = 11 + j9 := ⟨d - 11, by omega⟩
      rw [cC_Acc (show j9 < 6 by omega), cC_Acc (show j9 < 6 by omega)]
      rfl
    · obtain ⟨j9, rfl⟩ : ∃ j9, d = 17 + j9 := ⟨d - 17, by omega⟩
      rw [cC_Ord (show j9 < 12 by omega), cC_Ord (show j9 < 12 by omega)]
      rfl
    · obtain ⟨j9, rfl⟩ : ∃ j9, d = 29 + j9 := ⟨d - 29, by omega⟩
      rw [cC_iOrd (show j9 < 12 by omega), cC_iOrd (show j9 < 12 by omega)]
      have e8 : (fun j8 => up X 61 j v (1000 + j8) j9) = (fun j8 => X (1000 + j8) j9) := funext fun j8 => congrFun (up_off (by omega)) j9
      rw [e8]
    · obtain ⟨j9, rfl⟩ : ∃ j9, d = 41 + j9 := ⟨d - 41, by omega⟩
      rw [cC_Aut (show j9 < 24 by omega), cC_Aut (show j9 < 24 by omega)]
      rfl
    · obtain ⟨j9, rfl⟩ : ∃ j9, d = 65 + j9 := ⟨d - 65, by omega⟩
      rw [cC_Cha (show j9 < 48 by omega), cC_Cha (show j9 < 48 by omega)]
      rfl
    · obtain ⟨j9, rfl⟩ : ∃ j9, d = 113 + j9 := ⟨d - 113, by omega⟩
      rw [cC_Cer (show j9 < 12 by omega), cC_Cer (show j9 < 12 by omega)]
      rfl
theorem stC_Txt_0 {cA : Nat → ClassId} {ad : Nat → Nat} {X : ST} {v : Int32} : (wdC cA ad X).set (8) (ad (8), .inr (2, ([.int (X 7 0), .ref (ad 9)] : List Value).set 0 (.int v))) = wdC cA ad (up X 7 0 v) := by
  refine zwC_set (by decide) ?_ ?_
  · show (.inr (2, [.int ((up X 7 0 v) 7 0), .ref (ad 9)]) : va_E) = _
    simp [up]
  · intro d hd hne
    rcases (show d = 0 ∨ d = 1 ∨ d = 2 ∨ d = 3 ∨ d = 4 ∨ d = 5 ∨ d = 6 ∨ d = 7 ∨ d = 8 ∨ d = 9 ∨ d = 10 ∨ (11 ≤ d ∧ d < 17) ∨ (17 ≤ d ∧ d < 29) ∨ (29 ≤ d ∧ d < 41) ∨ (41 ≤ d ∧ d < 65) ∨ (65 ≤ d ∧ d < 113) ∨ (113 ≤ d ∧ d < 125) by omega) with h9 | h9 | h9 | h9 | h9 | h9 | h9 | h9 | h9 | h9 | h9 | ⟨h9, h8⟩ | ⟨h9, h8⟩ | ⟨h9, h8⟩ | ⟨h9, h8⟩ | ⟨h9, h8⟩ | ⟨h9, h8⟩
    · subst h9; rfl
    · subst h9; rfl
    · subst h9; rfl
    · subst h9; rfl
    · subst h9; rfl
    · subst h9; rfl
    · subst h9; rfl
    · subst h9; rfl
    · exact absurd h9 hne
    · subst h9; rfl
    · subst h9; rfl
    · obtain ⟨j9, rfl⟩ : ∃ j9, d = 11 + j9 := ⟨d - 11, by omega⟩
      rw [cC_Acc (show j9 < 6 by omega), cC_Acc (show j9 < 6 by omega)]
      rfl
    · obtain ⟨j9, rfl⟩ : ∃ j9, d = 17 + j9 := ⟨d - 17, by omega⟩
      rw [cC_Ord (show j9 < 12 by omega), cC_Ord (show j9 < 12 by omega)]
      rfl
    · obtain ⟨j9, rfl⟩ : ∃ j9, d = 29 + j9 := ⟨d - 29, by omega⟩
      rw [cC_iOrd (show j9 < 12 by omega), cC_iOrd (show j9 < 12 by omega)]
      have e8 : (fun j8 => up X 7 0 v (1000 + j8) j9) = (fun j8 => X (1000 + j8) j9) := funext fun j8 => congrFun (up_off (by omega)) j9
      rw [e8]
    · obtain ⟨j9, rfl⟩ : ∃ j9, d = 41 + j9 := ⟨d - 41, by omega⟩
      rw [cC_Aut (show j9 < 24 by omega), cC_Aut (show j9 < 24 by omega)]
      rfl
    · obtain ⟨j9, rfl⟩ : ∃ j9, d = 65 + j9 := ⟨d - 65, by omega⟩
      rw [cC_Cha (show j9 < 48 by omega), cC_Cha (show j9 < 48 by omega)]
      rfl
    · obtain ⟨j9, rfl⟩ : ∃ j9, d = 113 + j9 := ⟨d - 113, by omega⟩
      rw [cC_Cer (show j9 < 12 by omega), cC_Cer (show j9 < 12 by omega)]
      rfl
theorem stC_iTxt {cA : Nat → ClassId} {ad : Nat → Nat} {X : ST} {j : Nat} {v : Int32} : (wdC cA ad X).set 9 (ad 9, .inl (cA 6, 96, .inl (upd (X 63) j v))) = wdC cA ad (up X 63 j v) := by
  refine zwC_set (by decide) ?_ ?_
  · show Sum.inl (cA 6, 96, Sum.inl (up X 63 j v 63)) = _
    rw [up_upd]
  · intro d hd hne
    rcases (show d = 0 ∨ d = 1 ∨ d = 2 ∨ d = 3 ∨ d = 4 ∨ d = 5 ∨ d = 6 ∨ d = 7 ∨ d = 8 ∨ d = 9 ∨ d = 10 ∨ (11 ≤ d ∧ d < 17) ∨ (17 ≤ d ∧ d < 29) ∨ (29 ≤ d ∧ d < 41) ∨ (41 ≤ d ∧ d < 65) ∨ (65 ≤ d ∧ d < 113) ∨ (113 ≤ d ∧ d < 125) by omega) with h9 | h9 | h9 | h9 | h9 | h9 | h9 | h9 | h9 | h9 | h9 | ⟨h9, h8⟩ | ⟨h9, h8⟩ | ⟨h9, h8⟩ | ⟨h9, h8⟩ | ⟨h9, h8⟩ | ⟨h9, h8⟩
    · subst h9; rfl
    · subst h9; rfl
    · subst h9; rfl
    · subst h9; rfl
    · subst h9; rfl
    · subst h9; rfl
    · subst h9; rfl
    · subst h9; rfl
    · subst h9; rfl
    · exact absurd h9 hne
    · subst h9; rfl
    · obtain ⟨j9, rfl⟩ : ∃ j9, d = 11 + j9 := ⟨d - 11, by omega⟩
      rw [cC_Acc (show j9 < 6 by omega), cC_Acc (show j9 < 6 by omega)]
      rfl
    · obtain ⟨j9, rfl⟩ : ∃ j9, d = 17 + j9 := ⟨d - 17, by omega⟩
      rw [cC_Ord (show j9 < 12 by omega), cC_Ord (show j9 < 12 by omega)]
      rfl
    · obtain ⟨j9, rfl⟩ : ∃ j9, d = 29 + j9 := ⟨d - 29, by omega⟩
      rw [cC_iOrd (show j9 < 12 by omega), cC_iOrd (show j9 < 12 by omega)]
      have e8 : (fun j8 => up X 63 j v (1000 + j8) j9) = (fun j8 => X (1000 + j8) j9) := funext fun j8 => congrFun (up_off (by omega)) j9
      rw [e8]
    · obtain ⟨j9, rfl⟩ : ∃ j9, d = 41 + j9 := ⟨d - 41, by omega⟩
      rw [cC_Aut (show j9 < 24 by omega), cC_Aut (show j9 < 24 by omega)]
      rfl
    · obtain ⟨j9, rfl⟩ : ∃ j9, d = 65 + j9 := ⟨d - 65, by omega⟩
      rw [cC_Cha (show j9 < 48 by omega), cC_Cha (show j9 < 48 by omega)]
      rfl
    · obtain ⟨j9, rfl⟩ : ∃ j9, d = 113 + j9 := ⟨d - 113, by omega⟩
      rw [cC_Cer (show j9 < 12 by omega), cC_Cer (show j9 < 12 by omega)]
      rfl
theorem stC_Req_0 {cA : Nat → ClassId} {ad : Nat → Nat} {X : ST} {v : Int32} : (wdC cA ad X).set (10) (ad (10), .inr (3, ([.int (X 64 0), .int (X 65 0), .int (X 66 0), .int (X 67 0)] : List Value).set 0 (.int v))) = wdC cA ad (up X 64 0 v) := by
  refine zwC_set (by decide) ?_ ?_
  · show (.inr (3, [.int ((up X 64 0 v) 64 0), .int ((up X 64 0 v) 65 0), .int ((up X 64 0 v) 66 0), .int ((up X 64 0 v) 67 0)]) : va_E) = _
    simp [up]
  · intro d hd hne
    rcases (show d = 0 ∨ d = 1 ∨ d = 2 ∨ d = 3 ∨ d = 4 ∨ d = 5 ∨ d = 6 ∨ d = 7 ∨ d = 8 ∨ d = 9 ∨ d = 10 ∨ (11 ≤ d ∧ d < 17) ∨ (17 ≤ d ∧ d < 29) ∨ (29 ≤ d ∧ d < 41) ∨ (41 ≤ d ∧ d < 65) ∨ (65 ≤ d ∧ d < 113) ∨ (113 ≤ d ∧ d < 125) by omega) with h9 | h9 | h9 | h9 | h9 | h9 | h9 | h9 | h9 | h9 | h9 | ⟨h9, h8⟩ | ⟨h9, h8⟩ | ⟨h9, h8⟩ | ⟨h9, h8⟩ | ⟨h9, h8⟩ | ⟨h9, h8⟩
    · subst h9; rfl
    · subst h9; rfl
    · subst h9; rfl
    · subst h9; rfl
    · subst h9; rfl
    · subst h9; rfl
    · subst h9; rfl
    · subst h9; rfl
    · subst h9; rfl
    · subst h9; rfl
    · exact absurd h9 hne
    · obtain ⟨j9, rfl⟩ : ∃ j9, d = 11 + j9 := ⟨d - 11, by omega⟩
      rw [cC_Acc (show j9 < 6 by omega), cC_Acc (show j9 < 6 by omega)]
      rfl
    · obtain ⟨j9, rfl⟩ : ∃ j9, d = 17 + j9 := ⟨d - 17, by omega⟩
      rw [cC_Ord (show j9 < 12 by omega), cC_Ord (show j9 < 12 by omega)]
      rfl
    · obtain ⟨j9, rfl⟩ : ∃ j9, d = 29 + j9 := ⟨d - 29, by omega⟩
      rw [cC_iOrd (show j9 < 12 by omega), cC_iOrd (show j9 < 12 by omega)]
      have e8 : (fun j8 => up X 64 0 v (1000 + j8) j9) = (fun j8 => X (1000 + j8) j9) := funext fun j8 => congrFun (up_off (by omega)) j9
      rw [e8]
    · obtain ⟨j9, rfl⟩ : ∃ j9, d = 41 + j9 := ⟨d - 41, by omega⟩
      rw [cC_Aut (show j9 < 24 by omega), cC_Aut (show j9 < 24 by omega)]
      rfl
    · obtain ⟨j9, rfl⟩ : ∃ j9, d = 65 + j9 := ⟨d - 65, by omega⟩
      rw [cC_Cha (show j9 < 48 by omega), cC_Cha (show j9 < 48 by omega)]
      rfl
    · obtain ⟨j9, rfl⟩ : ∃ j9, d = 113 + j9 := ⟨d - 113, by omega⟩
      rw [cC_Cer (show j9 < 12 by omega), cC_Cer (show j9 < 12 by omega)]
      rfl
theorem stC_Req_1 {cA : Nat → ClassId} {ad : Nat → Nat} {X : ST} {v : Int32} : (wdC cA ad X).set (10) (ad (10), .inr (3, ([.int (X 64 0), .int (X 65 0), .int (X 66 0), .int (X 67 0)] : List Value).set 1 (.int v))) = wdC cA ad (up X 65 0 v) := by
  refine zwC_set (by decide) ?_ ?_
  · show (.inr (3, [.int ((up X 65 0 v) 64 0), .int ((up X 65 0 v) 65 0), .int ((up X 65 0 v) 66 0), .int ((up X 65 0 v) 67 0)]) : va_E) = _
    simp [up]
  · intro d hd hne
    rcases (show d = 0 ∨ d = 1 ∨ d = 2 ∨ d = 3 ∨ d = 4 ∨ d = 5 ∨ d = 6 ∨ d = 7 ∨ d = 8 ∨ d = 9 ∨ d = 10 ∨ (11 ≤ d ∧ d < 17) ∨ (17 ≤ d ∧ d < 29) ∨ (29 ≤ d ∧ d < 41) ∨ (41 ≤ d ∧ d < 65) ∨ (65 ≤ d ∧ d < 113) ∨ (113 ≤ d ∧ d < 125) by omega) with h9 | h9 | h9 | h9 | h9 | h9 | h9 | h9 | h9 | h9 | h9 | ⟨h9, h8⟩ | ⟨h9, h8⟩ | ⟨h9, h8⟩ | ⟨h9, h8⟩ | ⟨h9, h8⟩ | ⟨h9, h8⟩
    · subst h9; rfl
    · subst h9; rfl
    · subst h9; rfl
    · subst h9; rfl
    · subst h9; rfl
    · subst h9; rfl
    · subst h9; rfl
    · subst h9; rfl
    · subst h9; rfl
    · subst h9; rfl
    · exact absurd h9 hne
    · obtain ⟨j9, rfl⟩ : ∃ j9, d = 11 + j9 := ⟨d - 11, by omega⟩
      rw [cC_Acc (show j9 < 6 by omega), cC_Acc (show j9 < 6 by omega)]
      rfl
    · obtain ⟨j9, rfl⟩ : ∃ j9, d = 17 + j9 := ⟨d - 17, by omega⟩
      rw [cC_Ord (show j9 < 12 by omega), cC_Ord (show j9 < 12 by omega)]
      rfl
    · obtain ⟨j9, rfl⟩ : ∃ j9, d = 29 + j9 := ⟨d - 29, by omega⟩
      rw [cC_iOrd (show j9 < 12 by omega), cC_iOrd (show j9 < 12 by omega)]
      have e8 : (fun j8 => up X 65 0 v (1000 + j8) j9) = (fun j8 => X (1000 + j8) j9) := funext fun j8 => congrFun (up_off (by omega)) j9
      rw [e8]
    · obtain ⟨j9, rfl⟩ : ∃ j9, d = 41 + j9 := ⟨d - 41, by omega⟩
      rw [cC_Aut (show j9 < 24 by omega), cC_Aut (show j9 < 24 by omega)]
      rfl
    · obtain ⟨j9, rfl⟩ : ∃ j9, d = 65 + j9 := ⟨d - 65, by omega⟩
      rw [cC_Cha (show j9 < 48 by omega), cC_Cha (show j9 < 48 by omega)]
      rfl
    · obtain ⟨j9, rfl⟩ : ∃ j9, d = 113 + j9 := ⟨d - 113, by omega⟩
      rw [cC_Cer (show j9 < 12 by omega), cC_Cer (show j9 < 12 by omega)]
      rfl
theorem stC_Req_2 {cA : Nat → ClassId} {ad : Nat → Nat} {X : ST} {v : Int32} : (wdC cA ad X).set (10) (ad (10), .inr (3, ([.int (X 64 0), .int (X 65 0), .int (X 66 0), .int (X 67 0)] : List Value).set 2 (.int v))) = wdC cA ad (up X 66 0 v) := by
  refine zwC_set (by decide) ?_ ?_
  · show (.inr (3, [.int ((up X 66 0 v) 64 0), .int ((up X 66 0 v) 65 0), .int ((up X 66 0 v) 66 0), .int ((up X 66 0 v) 67 0)]) : va_E) = _
    simp [up]
  · intro d hd hne
    rcases (show d = 0 ∨ d = 1 ∨ d = 2 ∨ d = 3 ∨ d = 4 ∨ d = 5 ∨ d = 6 ∨ d = 7 ∨ d = 8 ∨ d = 9 ∨ d = 10 ∨ (11 ≤ d ∧ d < 17) ∨ (17 ≤ d ∧ d < 29) ∨ (29 ≤ d ∧ d < 41) ∨ (41 ≤ d ∧ d < 65) ∨ (65 ≤ d ∧ d < 113) ∨ (113 ≤ d ∧ d < 125) by omega) with h9 | h9 | h9 | h9 | h9 | h9 | h9 | h9 | h9 | h9 | h9 | ⟨h9, h8⟩ | ⟨h9, h8⟩ | ⟨h9, h8⟩ | ⟨h9, h8⟩ | ⟨h9, h8⟩ | ⟨h9, h8⟩
    · subst h9; rfl
    · subst h9; rfl
    · subst h9; rfl
    · subst h9; rfl
    · subst h9; rfl
    · subst h9; rfl
    · subst h9; rfl
    · subst h9; rfl
    · subst h9; rfl
    · subst h9; rfl
    · exact absurd h9 hne
    · obtain ⟨j9, rfl⟩ : ∃ j9, d = 11 + j9 := ⟨d - 11, by omega⟩
      rw [cC_Acc (show j9 < 6 by omega), cC_Acc (show j9 < 6 by omega)]
      rfl
    · obtain ⟨j9, rfl⟩ : ∃ j9, d = 17 + j9 := ⟨d - 17, by omega⟩
      rw [cC_Ord (show j9 < 12 by omega), cC_Ord (show j9 < 12 by omega)]
      rfl
    · obtain ⟨j9, rfl⟩ : ∃ j9, d = 29 + j9 := ⟨d - 29, by omega⟩
      rw [cC_iOrd (show j9 < 12 by omega), cC_iOrd (show j9 < 12 by omega)]
      have e8 : (fun j8 => up X 66 0 v (1000 + j8) j9) = (fun j8 => X (1000 + j8) j9) := funext fun j8 => congrFun (up_off (by omega)) j9
      rw [e8]
    · obtain ⟨j9, rfl⟩ : ∃ j9, d = 41 + j9 := ⟨d - 41, by omega⟩
      rw [cC_Aut (show j9 < 24 by omega), cC_Aut (show j9 < 24 by omega)]
      rfl
    · obtain ⟨j9, rfl⟩ : ∃ j9, d = 65 + j9 := ⟨d - 65, by omega⟩
      rw [cC_Cha (show j9 < 48 by omega), cC_Cha (show j9 < 48 by omega)]
      rfl
    · obtain ⟨j9, rfl⟩ : ∃ j9, d = 113 + j9 := ⟨d - 113, by omega⟩
      rw [cC_Cer (show j9 < 12 by omega), cC_Cer (show j9 < 12 by omega)]
      rfl
theorem stC_Req_3 {cA : Nat → ClassId} {ad : Nat → Nat} {X : ST} {v : Int32} : (wdC cA ad X).set (10) (ad (10), .inr (3, ([.int (X 64 0), .int (X 65 0), .int (X 66 0), .int (X 67 0)] : List Value).set 3 (.int v))) = wdC cA ad (up X 67 0 v) := by
  refine zwC_set (by decide) ?_ ?_
  · show (.inr (3, [.int ((up X 67 0 v) 64 0), .int ((up X 67 0 v) 65 0), .int ((up X 67 0 v) 66 0), .int ((up X 67 0 v) 67 0)]) : va_E) = _
    simp [up]
  · intro d hd hne
    rcases (show d = 0 ∨ d = 1 ∨ d = 2 ∨ d = 3 ∨ d = 4 ∨ d = 5 ∨ d = 6 ∨ d = 7 ∨ d = 8 ∨ d = 9 ∨ d = 10 ∨ (11 ≤ d ∧ d < 17) ∨ (17 ≤ d ∧ d < 29) ∨ (29 ≤ d ∧ d < 41) ∨ (41 ≤ d ∧ d < 65) ∨ (65 ≤ d ∧ d < 113) ∨ (113 ≤ d ∧ d < 125) by omega) with h9 | h9 | h9 | h9 | h9 | h9 | h9 | h9 | h9 | h9 | h9 | ⟨h9, h8⟩ | ⟨h9, h8⟩ | ⟨h9, h8⟩ | ⟨h9, h8⟩ | ⟨h9, h8⟩ | ⟨h9, h8⟩
    · subst h9; rfl
    · subst h9; rfl
    · subst h9; rfl
    · subst h9; rfl
    · subst h9; rfl
    · subst h9; rfl
    · subst h9; rfl
    · subst h9; rfl
    · subst h9; rfl
    · subst h9; rfl
    · exact absurd h9 hne
    · obtain ⟨j9, rfl⟩ : ∃ j9, d = 11 + j9 := ⟨d - 11, by omega⟩
      rw [cC_Acc (show j9 < 6 by omega), cC_Acc (show j9 < 6 by omega)]
      rfl
    · obtain ⟨j9, rfl⟩ : ∃ j9, d = 17 + j9 := ⟨d - 17, by omega⟩
      rw [cC_Ord (show j9 < 12 by omega), cC_Ord (show j9 < 12 by omega)]
      rfl
    · obtain ⟨j9, rfl⟩ : ∃ j9, d = 29 + j9 := ⟨d - 29, by omega⟩
      rw [cC_iOrd (show j9 < 12 by omega), cC_iOrd (show j9 < 12 by omega)]
      have e8 : (fun j8 => up X 67 0 v (1000 + j8) j9) = (fun j8 => X (1000 + j8) j9) := funext fun j8 => congrFun (up_off (by omega)) j9
      rw [e8]
    · obtain ⟨j9, rfl⟩ : ∃ j9, d = 41 + j9 := ⟨d - 41, by omega⟩
      rw [cC_Aut (show j9 < 24 by omega), cC_Aut (show j9 < 24 by omega)]
      rfl
    · obtain ⟨j9, rfl⟩ : ∃ j9, d = 65 + j9 := ⟨d - 65, by omega⟩
      rw [cC_Cha (show j9 < 48 by omega), cC_Cha (show j9 < 48 by omega)]
      rfl
    · obtain ⟨j9, rfl⟩ : ∃ j9, d = 113 + j9 := ⟨d - 113, by omega⟩
      rw [cC_Cer (show j9 < 12 by omega), cC_Cer (show j9 < 12 by omega)]
      rfl
theorem stC_Acc_0 {cA : Nat → ClassId} {ad : Nat → Nat} {X : ST} {i : Nat} {v : Int32} (h : i < 6) : (wdC cA ad X).set (11 + i) (ad (11 + i), .inr (4, ([.int (X 10 i), .int (X 11 i)] : List Value).set 0 (.int v))) = wdC cA ad (up X 10 i v) := by
  refine zwC_set (show 11 + i < 125 by omega) ?_ ?_
  · rw [cC_Acc h]; simp [up]
  · intro d hd hne
    rcases (show d = 0 ∨ d = 1 ∨ d = 2 ∨ d = 3 ∨ d = 4 ∨ d = 5 ∨ d = 6 ∨ d = 7 ∨ d = 8 ∨ d = 9 ∨ d = 10 ∨ (11 ≤ d ∧ d < 17) ∨ (17 ≤ d ∧ d < 29) ∨ (29 ≤ d ∧ d < 41) ∨ (41 ≤ d ∧ d < 65) ∨ (65 ≤ d ∧ d < 113) ∨ (113 ≤ d ∧ d < 125) by omega) with h9 | h9 | h9 | h9 | h9 | h9 | h9 | h9 | h9 | h9 | h9 | ⟨h9, h8⟩ | ⟨h9, h8⟩ | ⟨h9, h8⟩ | ⟨h9, h8⟩ | ⟨h9, h8⟩ | ⟨h9, h8⟩
    · subst h9; rfl
    · subst h9; rfl
    · subst h9; rfl
    · subst h9; rfl
    · subst h9; rfl
    · subst h9; rfl
    · subst h9; rfl
    · subst h9; rfl
    · subst h9; rfl
    · subst h9; rfl
    · subst h9; rfl
    · obtain ⟨j9, rfl⟩ : ∃ j9, d = 11 + j9 := ⟨d - 11, by omega⟩
      have hj : j9 ≠ i := fun q => hne (by rw [q])
      rw [cC_Acc (show j9 < 6 by omega), cC_Acc (show j9 < 6 by omega)]
      simp [up, hj]
    · obtain ⟨j9, rfl⟩ : ∃ j9, d = 17 + j9 := ⟨d - 17, by omega⟩
      rw [cC_Ord (show j9 < 12 by omega), cC_Ord (show j9 < 12 by omega)]
      rfl
    · obtain ⟨j9, rfl⟩ : ∃ j9, d = 29 + j9 := ⟨d - 29, by omega⟩
      rw [cC_iOrd (show j9 < 12 by omega), cC_iOrd (show j9 < 12 by omega)]
      have e8 : (fun j8 => up X 10 i v (1000 + j8) j9) = (fun j8 => X (1000 + j8) j9) := funext fun j8 => congrFun (up_off (by omega)) j9
      rw [e8]
    · obtain ⟨j9, rfl⟩ : ∃ j9, d = 41 + j9 := ⟨d - 41, by omega⟩
      rw [cC_Aut (show j9 < 24 by omega), cC_Aut (show j9 < 24 by omega)]
      rfl
    · obtain ⟨j9, rfl⟩ : ∃ j9, d = 65 + j9 := ⟨d - 65, by omega⟩
      rw [cC_Cha (show j9 < 48 by omega), cC_Cha (show j9 < 48 by omega)]
      rfl
    · obtain ⟨j9, rfl⟩ : ∃ j9, d = 113 + j9 := ⟨d - 113, by omega⟩
      rw [cC_Cer (show j9 < 12 by omega), cC_Cer (show j9 < 12 by omega)]
      rfl
theorem stC_Acc_1 {cA : Nat → ClassId} {ad : Nat → Nat} {X : ST} {i : Nat} {v : Int32} (h : i < 6) : (wdC cA ad X).set (11 + i) (ad (11 + i), .inr (4, ([.int (X 10 i), .int (X 11 i)] : List Value).set 1 (.int v))) = wdC cA ad (up X 11 i v) := by
  refine zwC_set (show 11 + i < 125 by omega) ?_ ?_
  · rw [cC_Acc h]; simp [up]
  · intro d hd hne
    rcases (show d = 0 ∨ d = 1 ∨ d = 2 ∨ d = 3 ∨ d = 4 ∨ d = 5 ∨ d = 6 ∨ d = 7 ∨ d = 8 ∨ d = 9 ∨ d = 10 ∨ (11 ≤ d ∧ d < 17) ∨ (17 ≤ d ∧ d < 29) ∨ (29 ≤ d ∧ d < 41) ∨ (41 ≤ d ∧ d < 65) ∨ (65 ≤ d ∧ d < 113) ∨ (113 ≤ d ∧ d < 125) by omega) with h9 | h9 | h9 | h9 | h9 | h9 | h9 | h9 | h9 | h9 | h9 | ⟨h9, h8⟩ | ⟨h9, h8⟩ | ⟨h9, h8⟩ | ⟨h9, h8⟩ | ⟨h9, h8⟩ | ⟨h9, h8⟩
    · subst h9; rfl
    · subst h9; rfl
    · subst h9; rfl
    · subst h9; rfl
    · subst h9; rfl
    · subst h9; rfl
    · subst h9; rfl
    · subst h9; rfl
    · subst h9; rfl
    · subst h9; rfl
    · subst h9; rfl
    · obtain ⟨j9, rfl⟩ : ∃ j9, d = 11 + j9 := ⟨d - 11, by omega⟩
      have hj : j9 ≠ i := fun q => hne (by rw [q])
      rw [cC_Acc (show j9 < 6 by omega), cC_Acc (show j9 < 6 by omega)]
      simp [up, hj]
    · obtain ⟨j9, rfl⟩ : ∃ j9, d = 17 + j9 := ⟨d - 17, by omega⟩
      rw [cC_Ord (show j9 < 12 by omega), cC_Ord (show j9 < 12 by omega)]
      rfl
    · obtain ⟨j9, rfl⟩ : ∃ j9, d = 29 + j9 := ⟨d - 29, by omega⟩
      rw [cC_iOrd (show j9 < 12 by omega), cC_iOrd (show j9 < 12 by omega)]
      have e8 : (fun j8 => up X 11 i v (1000 + j8) j9) = (fun j8 => X (1000 + j8) j9) := funext fun j8 => congrFun (up_off (by omega)) j9
      rw [e8]
    · obtain ⟨j9, rfl⟩ : ∃ j9, d = 41 + j9 := ⟨d - 41, by omega⟩
      rw [cC_Aut (show j9 < 24 by omega), cC_Aut (show j9 < 24 by omega)]
      rfl
    · obtain ⟨j9, rfl⟩ : ∃ j9, d = 65 + j9 := ⟨d - 65, by omega⟩
      rw [cC_Cha (show j9 < 48 by omega), cC_Cha (show j9 < 48 by omega)]
      rfl
    · obtain ⟨j9, rfl⟩ : ∃ j9, d = 113 + j9 := ⟨d - 113, by omega⟩
      rw [cC_Cer (show j9 < 12 by omega), cC_Cer (show j9 < 12 by omega)]
      rfl
theorem stC_Ord_0 {cA : Nat → ClassId} {ad : Nat → Nat} {X : ST} {i : Nat} {v : Int32} (h : i < 12) : (wdC cA ad X).set (17 + i) (ad (17 + i), .inr (5, ([.int (X 20 i), .int (X 21 i), .int (X 22 i), .int (X 23 i), .int (X 24 i), .int (X 25 i), .ref (ad (29 + i))] : List Value).set 0 (.int v))) = wdC cA ad (up X 20 i v) := by
  refine zwC_set (show 17 + i < 125 by omega) ?_ ?_
  · rw [cC_Ord h]; simp [up]
  · intro d hd hne
    rcases (show d = 0 ∨ d = 1 ∨ d = 2 ∨ d = 3 ∨ d = 4 ∨ d = 5 ∨ d = 6 ∨ d = 7 ∨ d = 8 ∨ d = 9 ∨ d = 10 ∨ (11 ≤ d ∧ d < 17) ∨ (17 ≤ d ∧ d < 29) ∨ (29 ≤ d ∧ d < 41) ∨ (41 ≤ d ∧ d < 65) ∨ (65 ≤ d ∧ d < 113) ∨ (113 ≤ d ∧ d < 125) by omega) with h9 | h9 | h9 | h9 | h9 | h9 | h9 | h9 | h9 | h9 | h9 | ⟨h9, h8⟩ | ⟨h9, h8⟩ | ⟨h9, h8⟩ | ⟨h9, h8⟩ | ⟨h9, h8⟩ | ⟨h9, h8⟩
    · subst h9; rfl
    · subst h9; rfl
    · subst h9; rfl
    · subst h9; rfl
    · subst h9; rfl
    · subst h9; rfl
    · subst h9; rfl
    · subst h9; rfl
    · subst h9; rfl
    · subst h9; rfl
    · subst h9; rfl
    · obtain ⟨j9, rfl⟩ : ∃ j9, d = 11 + j9 := ⟨d - 11, by omega⟩
      rw [cC_Acc (show j9 < 6 by omega), cC_Acc (show j9 < 6 by omega)]
      rfl
    · obtain ⟨j9, rfl⟩ : ∃ j9, d = 17 + j9 := ⟨d - 17, by omega⟩
      have hj : j9 ≠ i := fun q => hne (by rw [q])
      rw [cC_Ord (show j9 < 12 by omega), cC_Ord (show j9 < 12 by omega)]
      simp [up, hj]
    · obtain ⟨j9, rfl⟩ : ∃ j9, d = 29 + j9 := ⟨d - 29, by omega⟩
      rw [cC_iOrd (show j9 < 12 by omega), cC_iOrd (show j9 < 12 by omega)]
      have e8 : (fun j8 => up X 20 i v (1000 + j8) j9) = (fun j8 => X (1000 + j8) j9) := funext fun j8 => congrFun (up_off (by omega)) j9
      rw [e8]
    · obtain ⟨j9, rfl⟩ : ∃ j9, d = 41 + j9 := ⟨d - 41, by omega⟩
      rw [cC_Aut (show j9 < 24 by omega), cC_Aut (show j9 < 24 by omega)]
      rfl
    · obtain ⟨j9, rfl⟩ : ∃ j9, d = 65 + j9 := ⟨d - 65, by omega⟩
      rw [cC_Cha (show j9 < 48 by omega), cC_Cha (show j9 < 48 by omega)]
      rfl
    · obtain ⟨j9, rfl⟩ : ∃ j9, d = 113 + j9 := ⟨d - 113, by omega⟩
      rw [cC_Cer (show j9 < 12 by omega), cC_Cer (show j9 < 12 by omega)]
      rfl
theorem stC_Ord_1 {cA : Nat → ClassId} {ad : Nat → Nat} {X : ST} {i : Nat} {v : Int32} (h : i < 12) : (wdC cA ad X).set (17 + i) (ad (17 + i), .inr (5, ([.int (X 20 i), .int (X 21 i), .int (X 22 i), .int (X 23 i), .int (X 24 i), .int (X 25 i), .ref (ad (29 + i))] : List Value).set 1 (.int v))) = wdC cA ad (up X 21 i v) := by
  refine zwC_set (show 17 + i < 125 by omega) ?_ ?_
  · rw [cC_Ord h]; simp [up]
  · intro d hd hne
    rcases (show d = 0 ∨ d = 1 ∨ d = 2 ∨ d = 3 ∨ d = 4 ∨ d = 5 ∨ d = 6 ∨ d = 7 ∨ d = 8 ∨ d = 9 ∨ d = 10 ∨ (11 ≤ d ∧ d < 17) ∨ (17 ≤ d ∧ d < 29) ∨ (29 ≤ d ∧ d < 41) ∨ (41 ≤ d ∧ d < 65) ∨ (65 ≤ d ∧ d < 113) ∨ (113 ≤ d ∧ d < 125) by omega) with h9 | h9 | h9 | h9 | h9 | h9 | h9 | h9 | h9 | h9 | h9 | ⟨h9, h8⟩ | ⟨h9, h8⟩ | ⟨h9, h8⟩ | ⟨h9, h8⟩ | ⟨h9, h8⟩ | ⟨h9, h8⟩
    · subst h9; rfl
    · subst h9; rfl
    · subst h9; rfl
    · subst h9; rfl
    · subst h9; rfl
    · subst h9; rfl
    · subst h9; rfl
    · subst h9; rfl
    · subst h9; rfl
    · subst h9; rfl
    · subst h9; rfl
    · obtain ⟨j9, rfl⟩ : ∃ j9, d = 11 + j9 := ⟨d - 11, by omega⟩
      rw [cC_Acc (show j9 < 6 by omega), cC_Acc (show j9 < 6 by omega)]
      rfl
    · obtain ⟨j9, rfl⟩ : ∃ j9, d = 17 + j9 := ⟨d - 17, by omega⟩
      have hj : j9 ≠ i := fun q => hne (by rw [q])
      rw [cC_Ord (show j9 < 12 by omega), cC_Ord (show j9 < 12 by omega)]
      simp [up, hj]
    · obtain ⟨j9, rfl⟩ : ∃ j9, d = 29 + j9 := ⟨d - 29, by omega⟩
      rw [cC_iOrd (show j9 < 12 by omega), cC_iOrd (show j9 < 12 by omega)]
      have e8 : (fun j8 => up X 21 i v (1000 + j8) j9) = (fun j8 => X (1000 + j8) j9) := funext fun j8 => congrFun (up_off (by omega)) j9
      rw [e8]
    · obtain ⟨j9, rfl⟩ : ∃ j9, d = 41 + j9 := ⟨d - 41, by omega⟩
      rw [cC_Aut (show j9 < 24 by omega), cC_Aut (show j9 < 24 by omega)]
      rfl
    · obtain ⟨j9, rfl⟩ : ∃ j9, d = 65 + j9 := ⟨d - 65, by omega⟩
      rw [cC_Cha (show j9 < 48 by omega), cC_Cha (show j9 < 48 by omega)]
      rfl
    · obtain ⟨j9, rfl⟩ : ∃ j9, d = 113 + j9 := ⟨d - 113, by omega⟩
      rw [cC_Cer (show j9 < 12 by omega), cC_Cer (show j9 < 12 by omega)]
      rfl
theorem stC_Ord_2 {cA : Nat → ClassId} {ad : Nat → Nat} {X : ST} {i : Nat} {v : Int32} (h : i < 12) : (wdC cA ad X).set (17 + i) (ad (17 + i), .inr (5, ([.int (X 20 i), .int (X 21 i), .int (X 22 i), .int (X 23 i), .int (X 24 i), .int (X 25 i), .ref (ad (29 + i))] : List Value).set 2 (.int v))) = wdC cA ad (up X 22 i v) := by
  refine zwC_set (show 17 + i < 125 by omega) ?_ ?_
  · rw [cC_Ord h]; simp [up]
  · intro d hd hne
    rcases (show d = 0 ∨ d = 1 ∨ d = 2 ∨ d = 3 ∨ d = 4 ∨ d = 5 ∨ d = 6 ∨ d = 7 ∨ d = 8 ∨ d = 9 ∨ d = 10 ∨ (11 ≤ d ∧ d < 17) ∨ (17 ≤ d ∧ d < 29) ∨ (29 ≤ d ∧ d < 41) ∨ (41 ≤ d ∧ d < 65) ∨ (65 ≤ d ∧ d < 113) ∨ (113 ≤ d ∧ d < 125) by omega) with h9 | h9 | h9 | h9 | h9 | h9 | h9 | h9 | h9 | h9 | h9 | ⟨h9, h8⟩ | ⟨h9, h8⟩ | ⟨h9, h8⟩ | ⟨h9, h8⟩ | ⟨h9, h8⟩ | ⟨h9, h8⟩
    · subst h9; rfl
    · subst h9; rfl
    · subst h9; rfl
    · subst h9; rfl
    · subst h9; rfl
    · subst h9; rfl
    · subst h9; rfl
    · subst h9; rfl
    · subst h9; rfl
    · subst h9; rfl
    · subst h9; rfl
    · obtain ⟨j9, rfl⟩ : ∃ j9, d = 11 + j9 := ⟨d - 11, by omega⟩
      rw [cC_Acc (show j9 < 6 by omega), cC_Acc (show j9 < 6 by omega)]
      rfl
    · obtain ⟨j9, rfl⟩ : ∃ j9, d = 17 + j9 := ⟨d - 17, by omega⟩
      have hj : j9 ≠ i := fun q => hne (by rw [q])
      rw [cC_Ord (show j9 < 12 by omega), cC_Ord (show j9 < 12 by omega)]
      simp [up, hj]
    · obtain ⟨j9, rfl⟩ : ∃ j9, d = 29 + j9 := ⟨d - 29, by omega⟩
      rw [cC_iOrd (show j9 < 12 by omega), cC_iOrd (show j9 < 12 by omega)]
      have e8 : (fun j8 => up X 22 i v (1000 + j8) j9) = (fun j8 => X (1000 + j8) j9) := funext fun j8 => congrFun (up_off (by omega)) j9
      rw [e8]
    · obtain ⟨j9, rfl⟩ : ∃ j9, d = 41 + j9 := ⟨d - 41, by omega⟩
      rw [cC_Aut (show j9 < 24 by omega), cC_Aut (show j9 < 24 by omega)]
      rfl
    · obtain ⟨j9, rfl⟩ : ∃ j9, d = 65 + j9 := ⟨d - 65, by omega⟩
      rw [cC_Cha (show j9 < 48 by omega), cC_Cha (show j9 < 48 by omega)]
      rfl
    · obtain ⟨j9, rfl⟩ : ∃ j9, d = 113 + j9 := ⟨d - 113, by omega⟩
      rw [cC_Cer (show j9 < 12 by omega), cC_Cer (show j9 < 12 by omega)]
      rfl
theorem stC_Ord_3 {cA : Nat → ClassId} {ad : Nat → Nat} {X : ST} {i : Nat} {v : Int32} (h : i < 12) : (wdC cA ad X).set (17 + i) (ad (17 + i), .inr (5, ([.int (X 20 i), .int (X 21 i), .int (X 22 i), .int (X 23 i), .int (X 24 i), .int (X 25 i), .ref (ad (29 + i))] : List Value).set 3 (.int v))) = wdC cA ad (up X 23 i v) := by
  refine zwC_set (show 17 + i < 125 by omega) ?_ ?_
  · rw [cC_Ord h]; simp [up]
  · intro d hd hne
    rcases (show d = 0 ∨ d = 1 ∨ d = 2 ∨ d = 3 ∨ d = 4 ∨ d = 5 ∨ d = 6 ∨ d = 7 ∨ d = 8 ∨ d = 9 ∨ d = 10 ∨ (11 ≤ d ∧ d < 17) ∨ (17 ≤ d ∧ d < 29) ∨ (29 ≤ d ∧ d < 41) ∨ (41 ≤ d ∧ d < 65) ∨ (65 ≤ d ∧ d < 113) ∨ (113 ≤ d ∧ d < 125) by omega) with h9 | h9 | h9 | h9 | h9 | h9 | h9 | h9 | h9 | h9 | h9 | ⟨h9, h8⟩ | ⟨h9, h8⟩ | ⟨h9, h8⟩ | ⟨h9, h8⟩ | ⟨h9, h8⟩ | ⟨h9, h8⟩
    · subst h9; rfl
    · subst h9; rfl
    · subst h9; rfl
    · subst h9; rfl
    · subst h9; rfl
    · subst h9; rfl
    · subst h9; rfl
    · subst h9; rfl
    · subst h9; rfl
    · subst h9; rfl
    · subst h9; rfl
    · obtain ⟨j9, rfl⟩ : ∃ j9, d = 11 + j9 := ⟨d - 11, by omega⟩
      rw [cC_Acc (show j9 < 6 by omega), cC_Acc (show j9 < 6 by omega)]
      rfl
    · obtain ⟨j9, rfl⟩ : ∃ j9, d = 17 + j9 := ⟨d - 17, by omega⟩
      have hj : j9 ≠ i := fun q => hne (by rw [q])
      rw [cC_Ord (show j9 < 12 by omega), cC_Ord (show j9 < 12 by omega)]
      simp [up, hj]
    · obtain ⟨j9, rfl⟩ : ∃ j9, d = 29 + j9 := ⟨d - 29, by omega⟩
      rw [cC_iOrd (show j9 < 12 by omega), cC_iOrd (show j9 < 12 by omega)]
      have e8 : (fun j8 => up X 23 i v (1000 + j8) j9) = (fun j8 => X (1000 + j8) j9) := funext fun j8 => congrFun (up_off (by omega)) j9
      rw [e8]
    · obtain ⟨j9, rfl⟩ : ∃ j9, d = 41 + j9 := ⟨d - 41, by omega⟩
      rw [cC_Aut (show j9 < 24 by omega), cC_Aut (show j9 < 24 by omega)]
      rfl
    · obtain ⟨j9, rfl⟩ : ∃ j9, d = 65 + j9 := ⟨d - 65, by omega⟩
      rw [cC_Cha (show j9 < 48 by omega), cC_Cha (show j9 < 48 by omega)]
      rfl
    · obtain ⟨j9, rfl⟩ : ∃ j9, d = 113 + j9 := ⟨d - 113, by omega⟩
      rw [cC_Cer (show j9 < 12 by omega), cC_Cer (show j9 < 12 by omega)]
      rfl
theorem stC_Ord_4 {cA : Nat → ClassId} {ad : Nat → Nat} {X : ST} {i : Nat} {v : Int32} (h : i < 12) : (wdC cA ad X).set (17 + i) (ad (17 + i), .inr (5, ([.int (X 20 i), .int (X 21 i), .int (X 22 i), .int (X 23 i), .int (X 24 i), .int (X 25 i), .ref (ad (29 + i))] : List Value).set 4 (.int v))) = wdC cA ad (up X 24 i v) := by
  refine zwC_set (show 17 + i < 125 by omega) ?_ ?_
  · rw [cC_Ord h]; simp [up]
  · intro d hd hne
    rcases (show d = 0 ∨ d = 1 ∨ d = 2 ∨ d = 3 ∨ d = 4 ∨ d = 5 ∨ d = 6 ∨ d = 7 ∨ d = 8 ∨ d = 9 ∨ d = 10 ∨ (11 ≤ d ∧ d < 17) ∨ (17 ≤ d ∧ d < 29) ∨ (29 ≤ d ∧ d < 41) ∨ (41 ≤ d ∧ d < 65) ∨ (65 ≤ d ∧ d < 113) ∨ (113 ≤ d ∧ d < 125) by omega) with h9 | h9 | h9 | h9 | h9 | h9 | h9 | h9 | h9 | h9 | h9 | ⟨h9, h8⟩ | ⟨h9, h8⟩ | ⟨h9, h8⟩ | ⟨h9, h8⟩ | ⟨h9, h8⟩ | ⟨h9, h8⟩
    · subst h9; rfl
    · subst h9; rfl
    · subst h9; rfl
    · subst h9; rfl
    · subst h9; rfl
    · subst h9; rfl
    · subst h9; rfl
    · subst h9; rfl
    · subst h9; rfl
    · subst h9; rfl
    · subst h9; rfl
    · obtain ⟨j9, rfl⟩ : ∃ j9, d = 11 + j9 := ⟨d - 11, by omega⟩
      rw [cC_Acc (show j9 < 6 by omega), cC_Acc (show j9 < 6 by omega)]
      rfl
    · obtain ⟨j9, rfl⟩ : ∃ j9, d = 17 + j9 := ⟨d - 17, by omega⟩
      have hj : j9 ≠ i := fun q => hne (by rw [q])
      rw [cC_Ord (show j9 < 12 by omega), cC_Ord (show j9 < 12 by omega)]
      simp [up, hj]
    · obtain ⟨j9, rfl⟩ : ∃ j9, d = 29 + j9 := ⟨d - 29, by omega⟩
      rw [cC_iOrd (show j9 < 12 by omega), cC_iOrd (show j9 < 12 by omega)]
      have e8 : (fun j8 => up X 24 i v (1000 + j8) j9) = (fun j8 => X (1000 + j8) j9) := funext fun j8 => congrFun (up_off (by omega)) j9
      rw [e8]
    · obtain ⟨j9, rfl⟩ : ∃ j9, d = 41 + j9 := ⟨d - 41, by omega⟩
      rw [cC_Aut (show j9 < 24 by omega), cC_Aut (show j9 < 24 by omega)]
      rfl
    · obtain ⟨j9, rfl⟩ : ∃ j9, d = 65 + j9 := ⟨d - 65, by omega⟩
      rw [cC_Cha (show j9 < 48 by omega), cC_Cha (show j9 < 48 by omega)]
      rfl
    · obtain ⟨j9, rfl⟩ : ∃ j9, d = 113 + j9 := ⟨d - 113, by omega⟩
      rw [cC_Cer (show j9 < 12 by omega), cC_Cer (show j9 < 12 by omega)]
      rfl
theorem stC_Ord_5 {cA : Nat → ClassId} {ad : Nat → Nat} {X : ST} {i : Nat} {v : Int32} (h : i < 12) : (wdC cA ad X).set (17 + i) (ad (17 + i), .inr (5, ([.int (X 20 i), .int (X 21 i), .int (X 22 i), .int (X 23 i), .int (X 24 i), .int (X 25 i), .ref (ad (29 + i))] : List Value).set 5 (.int v))) = wdC cA ad (up X 25 i v) := by
  refine zwC_set (show 17 + i < 125 by omega) ?_ ?_
  · rw [cC_Ord h]; simp [up]
  · intro d hd hne
    rcases (show d = 0 ∨ d = 1 ∨ d = 2 ∨ d = 3 ∨ d = 4 ∨ d = 5 ∨ d = 6 ∨ d = 7 ∨ d = 8 ∨ d = 9 ∨ d = 10 ∨ (11 ≤ d ∧ d < 17) ∨ (17 ≤ d ∧ d < 29) ∨ (29 ≤ d ∧ d < 41) ∨ (41 ≤ d ∧ d < 65) ∨ (65 ≤ d ∧ d < 113) ∨ (113 ≤ d ∧ d < 125) by omega) with h9 | h9 | h9 | h9 | h9 | h9 | h9 | h9 | h9 | h9 | h9 | ⟨h9, h8⟩ | ⟨h9, h8⟩ | ⟨h9, h8⟩ | ⟨h9, h8⟩ | ⟨h9, h8⟩ | ⟨h9, h8⟩
    · subst h9; rfl
    · subst h9; rfl
    · subst h9; rfl
    · subst h9; rfl
    · subst h9; rfl
    · subst h9; rfl
    · subst h9; rfl
    · subst h9; rfl
    · subst h9; rfl
    · subst h9; rfl
    · subst h9; rfl
    · obtain ⟨j9, rfl⟩ : ∃ j9, d = 11 + j9 := ⟨d - 11, by omega⟩
      rw [cC_Acc (show j9 < 6 by omega), cC_Acc (show j9 < 6 by omega)]
      rfl
    · obtain ⟨j9, rfl⟩ : ∃ j9, d = 17 + j9 := ⟨d - 17, by omega⟩
      have hj : j9 ≠ i := fun q => hne (by rw [q])
      rw [cC_Ord (show j9 < 12 by omega), cC_Ord (show j9 < 12 by omega)]
      simp [up, hj]
    · obtain ⟨j9, rfl⟩ : ∃ j9, d = 29 + j9 := ⟨d - 29, by omega⟩
      rw [cC_iOrd (show j9 < 12 by omega), cC_iOrd (show j9 < 12 by omega)]
      have e8 : (fun j8 => up X 25 i v (1000 + j8) j9) = (fun j8 => X (1000 + j8) j9) := funext fun j8 => congrFun (up_off (by omega)) j9
      rw [e8]
    · obtain ⟨j9, rfl⟩ : ∃ j9, d = 41 + j9 := ⟨d - 41, by omega⟩
      rw [cC_Aut (show j9 < 24 by omega), cC_Aut (show j9 < 24 by omega)]
      rfl
    · obtain ⟨j9, rfl⟩ : ∃ j9, d = 65 + j9 := ⟨d - 65, by omega⟩
      rw [cC_Cha (show j9 < 48 by omega), cC_Cha (show j9 < 48 by omega)]
      rfl
    · obtain ⟨j9, rfl⟩ : ∃ j9, d = 113 + j9 := ⟨d - 113, by omega⟩
      rw [cC_Cer (show j9 < 12 by omega), cC_Cer (show j9 < 12 by omega)]
      rfl
theorem stC_iOrd {cA : Nat → ClassId} {ad : Nat → Nat} {X : ST} {i : Nat} {j : Nat} {v : Int32} (h : i < 12) : (wdC cA ad X).set (29 + i) (ad (29 + i), .inl (cA 7, 4, .inl (upd (fun j => X (1000 + j) i) j v))) = wdC cA ad (up X (1000 + j) i v) := by
  refine zwC_set (show 29 + i < 125 by omega) ?_ ?_
  · rw [cC_iOrd h]
    have e7 : (fun j2 => up X (1000 + j) i v (1000 + j2) i) = upd (fun j => X (1000 + j) i) j v := by
      funext j2
      by_cases h2 : j2 = j
      · subst h2
        simp [up, upd]
      · simp [up, upd, h2]
    rw [e7]
  · intro d hd hne
    have e9 : ∀ g : Nat, g < 1000 → up X (1000 + j) i v g = X g := fun g hg => up_off (by omega)
    rcases (show d = 0 ∨ d = 1 ∨ d = 2 ∨ d = 3 ∨ d = 4 ∨ d = 5 ∨ d = 6 ∨ d = 7 ∨ d = 8 ∨ d = 9 ∨ d = 10 ∨ (11 ≤ d ∧ d < 17) ∨ (17 ≤ d ∧ d < 29) ∨ (29 ≤ d ∧ d < 41) ∨ (41 ≤ d ∧ d < 65) ∨ (65 ≤ d ∧ d < 113) ∨ (113 ≤ d ∧ d < 125) by omega) with h9 | h9 | h9 | h9 | h9 | h9 | h9 | h9 | h9 | h9 | h9 | ⟨h9, h8⟩ | ⟨h9, h8⟩ | ⟨h9, h8⟩ | ⟨h9, h8⟩ | ⟨h9, h8⟩ | ⟨h9, h8⟩
    · subst h9
      show (.inr (0, [.int ((up X (1000 + j) i v) 0 0), .int ((up X (1000 + j) i v) 1 0), .int ((up X (1000 + j) i v) 2 0), .int ((up X (1000 + j) i v) 3 0), .int ((up X (1000 + j) i v) 4 0), .int ((up X (1000 + j) i v) 5 0), .ref (ad 1), .ref (ad 2), .ref (ad 3), .ref (ad 4), .ref (ad 5), .ref (ad 6), .ref (ad 8), .ref (ad 10)]) : va_E) = _
      rw [e9 0 (by decide), e9 1 (by decide), e9 2 (by decide), e9 3 (by decide), e9 4 (by decide), e9 5 (by decide)]
      rfl
    · subst h9; rfl
    · subst h9; rfl
    · subst h9; rfl
    · subst h9; rfl
    · subst h9; rfl
    · subst h9
      show (.inr (1, [.int ((up X (1000 + j) i v) 6 0), .ref (ad 7)]) : va_E) = _
      rw [e9 6 (by decide)]
      rfl
    · subst h9
      show (.inl (cA 5, 8, .inl ((up X (1000 + j) i v) 61)) : va_E) = _
      rw [e9 61 (by decide)]
      rfl
    · subst h9
      show (.inr (2, [.int ((up X (1000 + j) i v) 7 0), .ref (ad 9)]) : va_E) = _
      rw [e9 7 (by decide)]
      rfl
    · subst h9
      show (.inl (cA 6, 96, .inl ((up X (1000 + j) i v) 63)) : va_E) = _
      rw [e9 63 (by decide)]
      rfl
    · subst h9
      show (.inr (3, [.int ((up X (1000 + j) i v) 64 0), .int ((up X (1000 + j) i v) 65 0), .int ((up X (1000 + j) i v) 66 0), .int ((up X (1000 + j) i v) 67 0)]) : va_E) = _
      rw [e9 64 (by decide), e9 65 (by decide), e9 66 (by decide), e9 67 (by decide)]
      rfl
    · obtain ⟨j9, rfl⟩ : ∃ j9, d = 11 + j9 := ⟨d - 11, by omega⟩
      rw [cC_Acc (show j9 < 6 by omega), cC_Acc (show j9 < 6 by omega)]
      rw [e9 10 (by decide), e9 11 (by decide)]
    · obtain ⟨j9, rfl⟩ : ∃ j9, d = 17 + j9 := ⟨d - 17, by omega⟩
      rw [cC_Ord (show j9 < 12 by omega), cC_Ord (show j9 < 12 by omega)]
      rw [e9 20 (by decide), e9 21 (by decide), e9 22 (by decide), e9 23 (by decide), e9 24 (by decide), e9 25 (by decide)]
    · obtain ⟨j9, rfl⟩ : ∃ j9, d = 29 + j9 := ⟨d - 29, by omega⟩
      have hj : j9 ≠ i := fun q => hne (by rw [q])
      rw [cC_iOrd (show j9 < 12 by omega), cC_iOrd (show j9 < 12 by omega)]
      simp [up, hj]
    · obtain ⟨j9, rfl⟩ : ∃ j9, d = 41 + j9 := ⟨d - 41, by omega⟩
      rw [cC_Aut (show j9 < 24 by omega), cC_Aut (show j9 < 24 by omega)]
      rw [e9 30 (by decide), e9 31 (by decide), e9 32 (by decide), e9 33 (by decide)]
    · obtain ⟨j9, rfl⟩ : ∃ j9, d = 65 + j9 := ⟨d - 65, by omega⟩
      rw [cC_Cha (show j9 < 48 by omega), cC_Cha (show j9 < 48 by omega)]
      rw [e9 40 (by decide), e9 41 (by decide), e9 42 (by decide)]
    · obtain ⟨j9, rfl⟩ : ∃ j9, d = 113 + j9 := ⟨d - 113, by omega⟩
      rw [cC_Cer (show j9 < 12 by omega), cC_Cer (show j9 < 12 by omega)]
      rw [e9 50 (by decide), e9 51 (by decide), e9 52 (by decide), e9 53 (by decide), e9 54 (by decide), e9 55 (by decide)]
theorem stC_Aut_0 {cA : Nat → ClassId} {ad : Nat → Nat} {X : ST} {i : Nat} {v : Int32} (h : i < 24) : (wdC cA ad X).set (41 + i) (ad (41 + i), .inr (6, ([.int (X 30 i), .int (X 31 i), .int (X 32 i), .int (X 33 i)] : List Value).set 0 (.int v))) = wdC cA ad (up X 30 i v) := by
  refine zwC_set (show 41 + i < 125 by omega) ?_ ?_
  · rw [cC_Aut h]; simp [up]
  · intro d hd hne
    rcases (show d = 0 ∨ d = 1 ∨ d = 2 ∨ d = 3 ∨ d = 4 ∨ d = 5 ∨ d = 6 ∨ d = 7 ∨ d = 8 ∨ d = 9 ∨ d = 10 ∨ (11 ≤ d ∧ d < 17) ∨ (17 ≤ d ∧ d < 29) ∨ (29 ≤ d ∧ d < 41) ∨ (41 ≤ d ∧ d < 65) ∨ (65 ≤ d ∧ d < 113) ∨ (113 ≤ d ∧ d < 125) by omega) with h9 | h9 | h9 | h9 | h9 | h9 | h9 | h9 | h9 | h9 | h9 | ⟨h9, h8⟩ | ⟨h9, h8⟩ | ⟨h9, h8⟩ | ⟨h9, h8⟩ | ⟨h9, h8⟩ | ⟨h9, h8⟩
    · subst h9; rfl
    · subst h9; rfl
    · subst h9; rfl
    · subst h9; rfl
    · subst h9; rfl
    · subst h9; rfl
    · subst h9; rfl
    · subst h9; rfl
    · subst h9; rfl
    · subst h9; rfl
    · subst h9; rfl
    · obtain ⟨j9, rfl⟩ : ∃ j9, d = 11 + j9 := ⟨d - 11, by omega⟩
      rw [cC_Acc (show j9 < 6 by omega), cC_Acc (show j9 < 6 by omega)]
      rfl
    · obtain ⟨j9, rfl⟩ : ∃ j9, d = 17 + j9 := ⟨d - 17, by omega⟩
      rw [cC_Ord (show j9 < 12 by omega), cC_Ord (show j9 < 12 by omega)]
      rfl
    · obtain ⟨j9, rfl⟩ : ∃ j9, d = 29 + j9 := ⟨d - 29, by omega⟩
      rw [cC_iOrd (show j9 < 12 by omega), cC_iOrd (show j9 < 12 by omega)]
      have e8 : (fun j8 => up X 30 i v (1000 + j8) j9) = (fun j8 => X (1000 + j8) j9) := funext fun j8 => congrFun (up_off (by omega)) j9
      rw [e8]
    · obtain ⟨j9, rfl⟩ : ∃ j9, d = 41 + j9 := ⟨d - 41, by omega⟩
      have hj : j9 ≠ i := fun q => hne (by rw [q])
      rw [cC_Aut (show j9 < 24 by omega), cC_Aut (show j9 < 24 by omega)]
      simp [up, hj]
    · obtain ⟨j9, rfl⟩ : ∃ j9, d = 65 + j9 := ⟨d - 65, by omega⟩
      rw [cC_Cha (show j9 < 48 by omega), cC_Cha (show j9 < 48 by omega)]
      rfl
    · obtain ⟨j9, rfl⟩ : ∃ j9, d = 113 + j9 := ⟨d - 113, by omega⟩
      rw [cC_Cer (show j9 < 12 by omega), cC_Cer (show j9 < 12 by omega)]
      rfl
theorem stC_Aut_1 {cA : Nat → ClassId} {ad : Nat → Nat} {X : ST} {i : Nat} {v : Int32} (h : i < 24) : (wdC cA ad X).set (41 + i) (ad (41 + i), .inr (6, ([.int (X 30 i), .int (X 31 i), .int (X 32 i), .int (X 33 i)] : List Value).set 1 (.int v))) = wdC cA ad (up X 31 i v) := by
  refine zwC_set (show 41 + i < 125 by omega) ?_ ?_
  · rw [cC_Aut h]; simp [up]
  · intro d hd hne
    rcases (show d = 0 ∨ d = 1 ∨ d = 2 ∨ d = 3 ∨ d = 4 ∨ d = 5 ∨ d = 6 ∨ d = 7 ∨ d = 8 ∨ d = 9 ∨ d = 10 ∨ (11 ≤ d ∧ d < 17) ∨ (17 ≤ d ∧ d < 29) ∨ (29 ≤ d ∧ d < 41) ∨ (41 ≤ d ∧ d < 65) ∨ (65 ≤ d ∧ d < 113) ∨ (113 ≤ d ∧ d < 125) by omega) with h9 | h9 | h9 | h9 | h9 | h9 | h9 | h9 | h9 | h9 | h9 | ⟨h9, h8⟩ | ⟨h9, h8⟩ | ⟨h9, h8⟩ | ⟨h9, h8⟩ | ⟨h9, h8⟩ | ⟨h9, h8⟩
    · subst h9; rfl
    · subst h9; rfl
    · subst h9; rfl
    · subst h9; rfl
    · subst h9; rfl
    · subst h9; rfl
    · subst h9; rfl
    · subst h9; rfl
    · subst h9; rfl
    · subst h9; rfl
    · subst h9; rfl
    · obtain ⟨j9, rfl⟩ : ∃ j9, d = 11 + j9 := ⟨d - 11, by omega⟩
      rw [cC_Acc (show j9 < 6 by omega), cC_Acc (show j9 < 6 by omega)]
      rfl
    · obtain ⟨j9, rfl⟩ : ∃ j9, d = 17 + j9 := ⟨d - 17, by omega⟩
      rw [cC_Ord (show j9 < 12 by omega), cC_Ord (show j9 < 12 by omega)]
      rfl
    · obtain ⟨j9, rfl⟩ : ∃ j9, d = 29 + j9 := ⟨d - 29, by omega⟩
      rw [cC_iOrd (show j9 < 12 by omega), cC_iOrd (show j9 < 12 by omega)]
      have e8 : (fun j8 => up X 31 i v (1000 + j8) j9) = (fun j8 => X (1000 + j8) j9) := funext fun j8 => congrFun (up_off (by omega)) j9
      rw [e8]
    · obtain ⟨j9, rfl⟩ : ∃ j9, d = 41 + j9 := ⟨d - 41, by omega⟩
      have hj : j9 ≠ i := fun q => hne (by rw [q])
      rw [cC_Aut (show j9 < 24 by omega), cC_Aut (show j9 < 24 by omega)]
      simp [up, hj]
    · obtain ⟨j9, rfl⟩ : ∃ j9, d = 65 + j9 := ⟨d - 65, by omega⟩
      rw [cC_Cha (show j9 < 48 by omega), cC_Cha (show j9 < 48 by omega)]
      rfl
    · obtain ⟨j9, rfl⟩ : ∃ j9, d = 113 + j9 := ⟨d - 113, by omega⟩
      rw [cC_Cer (show j9 < 12 by omega), cC_Cer (show j9 < 12 by omega)]
      rfl
theorem stC_Aut_2 {cA : Nat → ClassId} {ad : Nat → Nat} {X : ST} {i : Nat} {v : Int32} (h : i < 24) : (wdC cA ad X).set (41 + i) (ad (41 + i), .inr (6, ([.int (X 30 i), .int (X 31 i), .int (X 32 i), .int (X 33 i)] : List Value).set 2 (.int v))) = wdC cA ad (up X 32 i v) := by
  refine zwC_set (show 41 + i < 125 by omega) ?_ ?_
  · rw [cC_Aut h]; simp [up]
  · intro d hd hne
    rcases (show d = 0 ∨ d = 1 ∨ d = 2 ∨ d = 3 ∨ d = 4 ∨ d = 5 ∨ d = 6 ∨ d = 7 ∨ d = 8 ∨ d = 9 ∨ d = 10 ∨ (11 ≤ d ∧ d < 17) ∨ (17 ≤ d ∧ d < 29) ∨ (29 ≤ d ∧ d < 41) ∨ (41 ≤ d ∧ d < 65) ∨ (65 ≤ d ∧ d < 113) ∨ (113 ≤ d ∧ d < 125) by omega) with h9 | h9 | h9 | h9 | h9 | h9 | h9 | h9 | h9 | h9 | h9 | ⟨h9, h8⟩ | ⟨h9, h8⟩ | ⟨h9, h8⟩ | ⟨h9, h8⟩ | ⟨h9, h8⟩ | ⟨h9, h8⟩
    · subst h9; rfl
    · subst h9; rfl
    · subst h9; rfl
    · subst h9; rfl
    · subst h9; rfl
    · subst h9; rfl
    · subst h9; rfl
    · subst h9; rfl
    · subst h9; rfl
    · subst h9; rfl
    · subst h9; rfl
    · obtain ⟨j9, rfl⟩ : ∃ j9, d = 11 + j9 := ⟨d - 11, by omega⟩
      rw [cC_Acc (show j9 < 6 by omega), cC_Acc (show j9 < 6 by omega)]
      rfl
    · obtain ⟨j9, rfl⟩ : ∃ j9, d = 17 + j9 := ⟨d - 17, by omega⟩
      rw [cC_Ord (show j9 < 12 by omega), cC_Ord (show j9 < 12 by omega)]
      rfl
    · obtain ⟨j9, rfl⟩ : ∃ j9, d = 29 + j9 := ⟨d - 29, by omega⟩
      rw [cC_iOrd (show j9 < 12 by omega), cC_iOrd (show j9 < 12 by omega)]
      have e8 : (fun j8 => up X 32 i v (1000 + j8) j9) = (fun j8 => X (1000 + j8) j9) := funext fun j8 => congrFun (up_off (by omega)) j9
      rw [e8]
    · obtain ⟨j9, rfl⟩ : ∃ j9, d = 41 + j9 := ⟨d - 41, by omega⟩
      have hj : j9 ≠ i := fun q => hne (by rw [q])
      rw [cC_Aut (show j9 < 24 by omega), cC_Aut (show j9 < 24 by omega)]
      simp [up, hj]
    · obtain ⟨j9, rfl⟩ : ∃ j9, d = 65 + j9 := ⟨d - 65, by omega⟩
      rw [cC_Cha (show j9 < 48 by omega), cC_Cha (show j9 < 48 by omega)]
      rfl
    · obtain ⟨j9, rfl⟩ : ∃ j9, d = 113 + j9 := ⟨d - 113, by omega⟩
      rw [cC_Cer (show j9 < 12 by omega), cC_Cer (show j9 < 12 by omega)]
      rfl
theorem stC_Aut_3 {cA : Nat → ClassId} {ad : Nat → Nat} {X : ST} {i : Nat} {v : Int32} (h : i < 24) : (wdC cA ad X).set (41 + i) (ad (41 + i), .inr (6, ([.int (X 30 i), .int (X 31 i), .int (X 32 i), .int (X 33 i)] : List Value).set 3 (.int v))) = wdC cA ad (up X 33 i v) := by
  refine zwC_set (show 41 + i < 125 by omega) ?_ ?_
  · rw [cC_Aut h]; simp [up]
  · intro d hd hne
    rcases (show d = 0 ∨ d = 1 ∨ d = 2 ∨ d = 3 ∨ d = 4 ∨ d = 5 ∨ d = 6 ∨ d = 7 ∨ d = 8 ∨ d = 9 ∨ d = 10 ∨ (11 ≤ d ∧ d < 17) ∨ (17 ≤ d ∧ d < 29) ∨ (29 ≤ d ∧ d < 41) ∨ (41 ≤ d ∧ d < 65) ∨ (65 ≤ d ∧ d < 113) ∨ (113 ≤ d ∧ d < 125) by omega) with h9 | h9 | h9 | h9 | h9 | h9 | h9 | h9 | h9 | h9 | h9 | ⟨h9, h8⟩ | ⟨h9, h8⟩ | ⟨h9, h8⟩ | ⟨h9, h8⟩ | ⟨h9, h8⟩ | ⟨h9, h8⟩
    · subst h9; rfl
    · subst h9; rfl
    · subst h9; rfl
    · subst h9; rfl
    · subst h9; rfl
    · subst h9; rfl
    · subst h9; rfl
    · subst h9; rfl
    · subst h9; rfl
    · subst h9; rfl
    · subst h9; rfl
    · obtain ⟨j9, rfl⟩ : ∃ j9, d = 11 + j9 := ⟨d - 11, by omega⟩
      rw [cC_Acc (show j9 < 6 by omega), cC_Acc (show j9 < 6 by omega)]
      rfl
    · obtain ⟨j9, rfl⟩ : ∃ j9, d = 17 + j9 := ⟨d - 17, by omega⟩
      rw [cC_Ord (show j9 < 12 by omega), cC_Ord (show j9 < 12 by omega)]
      rfl
    · obtain ⟨j9, rfl⟩ : ∃ j9, d = 29 + j9 := ⟨d - 29, by omega⟩
      rw [cC_iOrd (show j9 < 12 by omega), cC_iOrd (show j9 < 12 by omega)]
      have e8 : (fun j8 => up X 33 i v (1000 + j8) j9) = (fun j8 => X (1000 + j8) j9) := funext fun j8 => congrFun (up_off (by omega)) j9
      rw [e8]
    · obtain ⟨j9, rfl⟩ : ∃ j9, d = 41 + j9 := ⟨d - 41, by omega⟩
      have hj : j9 ≠ i := fun q => hne (by rw [q])
      rw [cC_Aut (show j9 < 24 by omega), cC_Aut (show j9 < 24 by omega)]
      simp [up, hj]
    · obtain ⟨j9, rfl⟩ : ∃ j9, d = 65 + j9 := ⟨d - 65, by omega⟩
      rw [cC_Cha (show j9 < 48 by omega), cC_Cha (show j9 < 48 by omega)]
      rfl
    · obtain ⟨j9, rfl⟩ : ∃ j9, d = 113 + j9 := ⟨d - 113, by omega⟩
      rw [cC_Cer (show j9 < 12 by omega), cC_Cer (show j9 < 12 by omega)]
      rfl
theorem stC_Cha_0 {cA : Nat → ClassId} {ad : Nat → Nat} {X : ST} {i : Nat} {v : Int32} (h : i < 48) : (wdC cA ad X).set (65 + i) (ad (65 + i), .inr (7, ([.int (X 40 i), .int (X 41 i), .int (X 42 i)] : List Value).set 0 (.int v))) = wdC cA ad (up X 40 i v) := by
  refine zwC_set (show 65 + i < 125 by omega) ?_ ?_
  · rw [cC_Cha h]; simp [up]
  · intro d hd hne
    rcases (show d = 0 ∨ d = 1 ∨ d = 2 ∨ d = 3 ∨ d = 4 ∨ d = 5 ∨ d = 6 ∨ d = 7 ∨ d = 8 ∨ d = 9 ∨ d = 10 ∨ (11 ≤ d ∧ d < 17) ∨ (17 ≤ d ∧ d < 29) ∨ (29 ≤ d ∧ d < 41) ∨ (41 ≤ d ∧ d < 65) ∨ (65 ≤ d ∧ d < 113) ∨ (113 ≤ d ∧ d < 125) by omega) with h9 | h9 | h9 | h9 | h9 | h9 | h9 | h9 | h9 | h9 | h9 | ⟨h9, h8⟩ | ⟨h9, h8⟩ | ⟨h9, h8⟩ | ⟨h9, h8⟩ | ⟨h9, h8⟩ | ⟨h9, h8⟩
    · subst h9; rfl
    · subst h9; rfl
    · subst h9; rfl
    · subst h9; rfl
    · subst h9; rfl
    · subst h9; rfl
    · subst h9; rfl
    · subst h9; rfl
    · subst h9; rfl
    · subst h9; rfl
    · subst h9; rfl
    · obtain ⟨j9, rfl⟩ : ∃ j9, d = 11 + j9 := ⟨d - 11, by omega⟩
      rw [cC_Acc (show j9 < 6 by omega), cC_Acc (show j9 < 6 by omega)]
      rfl
    · obtain ⟨j9, rfl⟩ : ∃ j9, d = 17 + j9 := ⟨d - 17, by omega⟩
      rw [cC_Ord (show j9 < 12 by omega), cC_Ord (show j9 < 12 by omega)]
      rfl
    · obtain ⟨j9, rfl⟩ : ∃ j9, d = 29 + j9 := ⟨d - 29, by omega⟩
      rw [cC_iOrd (show j9 < 12 by omega), cC_iOrd (show j9 < 12 by omega)]
      have e8 : (fun j8 => up X 40 i v (1000 + j8) j9) = (fun j8 => X (1000 + j8) j9) := funext fun j8 => congrFun (up_off (by omega)) j9
      rw [e8]
    · obtain ⟨j9, rfl⟩ : ∃ j9, d = 41 + j9 := ⟨d - 41, by omega⟩
      rw [cC_Aut (show j9 < 24 by omega), cC_Aut (show j9 < 24 by omega)]
      rfl
    · obtain ⟨j9, rfl⟩ : ∃ j9, d = 65 + j9 := ⟨d - 65, by omega⟩
      have hj : j9 ≠ i := fun q => hne (by rw [q])
      rw [cC_Cha (show j9 < 48 by omega), cC_Cha (show j9 < 48 by omega)]
      simp [up, hj]
    · obtain ⟨j9, rfl⟩ : ∃ j9, d = 113 + j9 := ⟨d - 113, by omega⟩
      rw [cC_Cer (show j9 < 12 by omega), cC_Cer (show j9 < 12 by omega)]
      rfl
theorem stC_Cha_1 {cA : Nat → ClassId} {ad : Nat → Nat} {X : ST} {i : Nat} {v : Int32} (h : i < 48) : (wdC cA ad X).set (65 + i) (ad (65 + i), .inr (7, ([.int (X 40 i), .int (X 41 i), .int (X 42 i)] : List Value).set 1 (.int v))) = wdC cA ad (up X 41 i v) := by
  refine zwC_set (show 65 + i < 125 by omega) ?_ ?_
  · rw [cC_Cha h]; simp [up]
  · intro d hd hne
    rcases (show d = 0 ∨ d = 1 ∨ d = 2 ∨ d = 3 ∨ d = 4 ∨ d = 5 ∨ d = 6 ∨ d = 7 ∨ d = 8 ∨ d = 9 ∨ d = 10 ∨ (11 ≤ d ∧ d < 17) ∨ (17 ≤ d ∧ d < 29) ∨ (29 ≤ d ∧ d < 41) ∨ (41 ≤ d ∧ d < 65) ∨ (65 ≤ d ∧ d < 113) ∨ (113 ≤ d ∧ d < 125) by omega) with h9 | h9 | h9 | h9 | h9 | h9 | h9 | h9 | h9 | h9 | h9 | ⟨h9, h8⟩ | ⟨h9, h8⟩ | ⟨h9, h8⟩ | ⟨h9, h8⟩ | ⟨h9, h8⟩ | ⟨h9, h8⟩
    · subst h9; rfl
    · subst h9; rfl
    · subst h9; rfl
    · subst h9; rfl
    · subst h9; rfl
    · subst h9; rfl
    · subst h9; rfl
    · subst h9; rfl
    · subst h9; rfl
    · subst h9; rfl
    · subst h9; rfl
    · obtain ⟨j9, rfl⟩ : ∃ j9, d = 11 + j9 := ⟨d - 11, by omega⟩
      rw [cC_Acc (show j9 < 6 by omega), cC_Acc (show j9 < 6 by omega)]
      rfl
    · obtain ⟨j9, rfl⟩ : ∃ j9, d = 17 + j9 := ⟨d - 17, by omega⟩
      rw [cC_Ord (show j9 < 12 by omega), cC_Ord (show j9 < 12 by omega)]
      rfl
    · obtain ⟨j9, rfl⟩ : ∃ j9, d = 29 + j9 := ⟨d - 29, by omega⟩
      rw [cC_iOrd (show j9 < 12 by omega), cC_iOrd (show j9 < 12 by omega)]
      have e8 : (fun j8 => up X 41 i v (1000 + j8) j9) = (fun j8 => X (1000 + j8) j9) := funext fun j8 => congrFun (up_off (by omega)) j9
      rw [e8]
    · obtain ⟨j9, rfl⟩ : ∃ j9, d = 41 + j9 := ⟨d - 41, by omega⟩
      rw [cC_Aut (show j9 < 24 by omega), cC_Aut (show j9 < 24 by omega)]
      rfl
    · obtain ⟨j9, rfl⟩ : ∃ j9, d = 65 + j9 := ⟨d - 65, by omega⟩
      have hj : j9 ≠ i := fun q => hne (by rw [q])
      rw [cC_Cha (show j9 < 48 by omega), cC_Cha (show j9 < 48 by omega)]
      simp [up, hj]
    · obtain ⟨j9, rfl⟩ : ∃ j9, d = 113 + j9 := ⟨d - 113, by omega⟩
      rw [cC_Cer (show j9 < 12 by omega), cC_Cer (show j9 < 12 by omega)]
      rfl
theorem stC_Cha_2 {cA : Nat → ClassId} {ad : Nat → Nat} {X : ST} {i : Nat} {v : Int32} (h : i < 48) : (wdC cA ad X).set (65 + i) (ad (65 + i), .inr (7, ([.int (X 40 i), .int (X 41 i), .int (X 42 i)] : List Value).set 2 (.int v))) = wdC cA ad (up X 42 i v) := by
  refine zwC_set (show 65 + i < 125 by omega) ?_ ?_
  · rw [cC_Cha h]; simp [up]
  · intro d hd hne
    rcases (show d = 0 ∨ d = 1 ∨ d = 2 ∨ d = 3 ∨ d = 4 ∨ d = 5 ∨ d = 6 ∨ d = 7 ∨ d = 8 ∨ d = 9 ∨ d = 10 ∨ (11 ≤ d ∧ d < 17) ∨ (17 ≤ d ∧ d < 29) ∨ (29 ≤ d ∧ d < 41) ∨ (41 ≤ d ∧ d < 65) ∨ (65 ≤ d ∧ d < 113) ∨ (113 ≤ d ∧ d < 125) by omega) with h9 | h9 | h9 | h9 | h9 | h9 | h9 | h9 | h9 | h9 | h9 | ⟨h9, h8⟩ | ⟨h9, h8⟩ | ⟨h9, h8⟩ | ⟨h9, h8⟩ | ⟨h9, h8⟩ | ⟨h9, h8⟩
    · subst h9; rfl
    · subst h9; rfl
    · subst h9; rfl
    · subst h9; rfl
    · subst h9; rfl
    · subst h9; rfl
    · subst h9; rfl
    · subst h9; rfl
    · subst h9; rfl
    · subst h9; rfl
    · subst h9; rfl
    · obtain ⟨j9, rfl⟩ : ∃ j9, d = 11 + j9 := ⟨d - 11, by omega⟩
      rw [cC_Acc (show j9 < 6 by omega), cC_Acc (show j9 < 6 by omega)]
      rfl
    · obtain ⟨j9, rfl⟩ : ∃ j9, d = 17 + j9 := ⟨d - 17, by omega⟩
      rw [cC_Ord (show j9 < 12 by omega), cC_Ord (show j9 < 12 by omega)]
      rfl
    · obtain ⟨j9, rfl⟩ : ∃ j9, d = 29 + j9 := ⟨d - 29, by omega⟩
      rw [cC_iOrd (show j9 < 12 by omega), cC_iOrd (show j9 < 12 by omega)]
      have e8 : (fun j8 => up X 42 i v (1000 + j8) j9) = (fun j8 => X (1000 + j8) j9) := funext fun j8 => congrFun (up_off (by omega)) j9
      rw [e8]
    · obtain ⟨j9, rfl⟩ : ∃ j9, d = 41 + j9 := ⟨d - 41, by omega⟩
      rw [cC_Aut (show j9 < 24 by omega), cC_Aut (show j9 < 24 by omega)]
      rfl
    · obtain ⟨j9, rfl⟩ : ∃ j9, d = 65 + j9 := ⟨d - 65, by omega⟩
      have hj : j9 ≠ i := fun q => hne (by rw [q])
      rw [cC_Cha (show j9 < 48 by omega), cC_Cha (show j9 < 48 by omega)]
      simp [up, hj]
    · obtain ⟨j9, rfl⟩ : ∃ j9, d = 113 + j9 := ⟨d - 113, by omega⟩
      rw [cC_Cer (show j9 < 12 by omega), cC_Cer (show j9 < 12 by omega)]
      rfl
theorem stC_Cer_0 {cA : Nat → ClassId} {ad : Nat → Nat} {X : ST} {i : Nat} {v : Int32} (h : i < 12) : (wdC cA ad X).set (113 + i) (ad (113 + i), .inr (8, ([.int (X 50 i), .int (X 51 i), .int (X 52 i), .int (X 53 i), .int (X 54 i), .int (X 55 i)] : List Value).set 0 (.int v))) = wdC cA ad (up X 50 i v) := by
  refine zwC_set (show 113 + i < 125 by omega) ?_ ?_
  · rw [cC_Cer h]; simp [up]
  · intro d hd hne
    rcases (show d = 0 ∨ d = 1 ∨ d = 2 ∨ d = 3 ∨ d = 4 ∨ d = 5 ∨ d = 6 ∨ d = 7 ∨ d = 8 ∨ d = 9 ∨ d = 10 ∨ (11 ≤ d ∧ d < 17) ∨ (17 ≤ d ∧ d < 29) ∨ (29 ≤ d ∧ d < 41) ∨ (41 ≤ d ∧ d < 65) ∨ (65 ≤ d ∧ d < 113) ∨ (113 ≤ d ∧ d < 125) by omega) with h9 | h9 | h9 | h9 | h9 | h9 | h9 | h9 | h9 | h9 | h9 | ⟨h9, h8⟩ | ⟨h9, h8⟩ | ⟨h9, h8⟩ | ⟨h9, h8⟩ | ⟨h9, h8⟩ | ⟨h9, h8⟩
    · subst h9; rfl
    · subst h9; rfl
    · subst h9; rfl
    · subst h9; rfl
    · subst h9; rfl
    · subst h9; rfl
    · subst h9; rfl
    · subst h9; rfl
    · subst h9; rfl
    · subst h9; rfl
    · subst h9; rfl
    · obtain ⟨j9, rfl⟩ : ∃ j9, d = 11 + j9 := ⟨d - 11, by omega⟩
      rw [cC_Acc (show j9 < 6 by omega), cC_Acc (show j9 < 6 by omega)]
      rfl
    · obtain ⟨j9, rfl⟩ : ∃ j9, d = 17 + j9 := ⟨d - 17, by omega⟩
      rw [cC_Ord (show j9 < 12 by omega), cC_Ord (show j9 < 12 by omega)]
      rfl
    · obtain ⟨j9, rfl⟩ : ∃ j9, d = 29 + j9 := ⟨d - 29, by omega⟩
      rw [cC_iOrd (show j9 < 12 by omega), cC_iOrd (show j9 < 12 by omega)]
      have e8 : (fun j8 => up X 50 i v (1000 + j8) j9) = (fun j8 => X (1000 + j8) j9) := funext fun j8 => congrFun (up_off (by omega)) j9
      rw [e8]
    · obtain ⟨j9, rfl⟩ : ∃ j9, d = 41 + j9 := ⟨d - 41, by omega⟩
      rw [cC_Aut (show j9 < 24 by omega), cC_Aut (show j9 < 24 by omega)]
      rfl
    · obtain ⟨j9, rfl⟩ : ∃ j9, d = 65 + j9 := ⟨d - 65, by omega⟩
      rw [cC_Cha (show j9 < 48 by omega), cC_Cha (show j9 < 48 by omega)]
      rfl
    · obtain ⟨j9, rfl⟩ : ∃ j9, d = 113 + j9 := ⟨d - 113, by omega⟩
      have hj : j9 ≠ i := fun q => hne (by rw [q])
      rw [cC_Cer (show j9 < 12 by omega), cC_Cer (show j9 < 12 by omega)]
      simp [up, hj]
theorem stC_Cer_1 {cA : Nat → ClassId} {ad : Nat → Nat} {X : ST} {i : Nat} {v : Int32} (h : i < 12) : (wdC cA ad X).set (113 + i) (ad (113 + i), .inr (8, ([.int (X 50 i), .int (X 51 i), .int (X 52 i), .int (X 53 i), .int (X 54 i), .int (X 55 i)] : List Value).set 1 (.int v))) = wdC cA ad (up X 51 i v) := by
  refine zwC_set (show 113 + i < 125 by omega) ?_ ?_
  · rw [cC_Cer h]; simp [up]
  · intro d hd hne
    rcases (show d = 0 ∨ d = 1 ∨ d = 2 ∨ d = 3 ∨ d = 4 ∨ d = 5 ∨ d = 6 ∨ d = 7 ∨ d = 8 ∨ d = 9 ∨ d = 10 ∨ (11 ≤ d ∧ d < 17) ∨ (17 ≤ d ∧ d < 29) ∨ (29 ≤ d ∧ d < 41) ∨ (41 ≤ d ∧ d < 65) ∨ (65 ≤ d ∧ d < 113) ∨ (113 ≤ d ∧ d < 125) by omega) with h9 | h9 | h9 | h9 | h9 | h9 | h9 | h9 | h9 | h9 | h9 | ⟨h9, h8⟩ | ⟨h9, h8⟩ | ⟨h9, h8⟩ | ⟨h9, h8⟩ | ⟨h9, h8⟩ | ⟨h9, h8⟩
    · subst h9; rfl
    · subst h9; rfl
    · subst h9; rfl
    · subst h9; rfl
    · subst h9; rfl
    · subst h9; rfl
    · subst h9; rfl
    · subst h9; rfl
    · subst h9; rfl
    · subst h9; rfl
    · subst h9; rfl
    · obtain ⟨j9, rfl⟩ : ∃ j9, d = 11 + j9 := ⟨d - 11, by omega⟩
      rw [cC_Acc (show j9 < 6 by omega), cC_Acc (show j9 < 6 by omega)]
      rfl
    · obtain ⟨j9, rfl⟩ : ∃ j9, d = 17 + j9 := ⟨d - 17, by omega⟩
      rw [cC_Ord (show j9 < 12 by omega), cC_Ord (show j9 < 12 by omega)]
      rfl
    · obtain ⟨j9, rfl⟩ : ∃ j9, d = 29 + j9 := ⟨d - 29, by omega⟩
      rw [cC_iOrd (show j9 < 12 by omega), cC_iOrd (show j9 < 12 by omega)]
      have e8 : (fun j8 => up X 51 i v (1000 + j8) j9) = (fun j8 => X (1000 + j8) j9) := funext fun j8 => congrFun (up_off (by omega)) j9
      rw [e8]
    · obtain ⟨j9, rfl⟩ : ∃ j9, d = 41 + j9 := ⟨d - 41, by omega⟩
      rw [cC_Aut (show j9 < 24 by omega), cC_Aut (show j9 < 24 by omega)]
      rfl
    · obtain ⟨j9, rfl⟩ : ∃ j9, d = 65 + j9 := ⟨d - 65, by omega⟩
      rw [cC_Cha (show j9 < 48 by omega), cC_Cha (show j9 < 48 by omega)]
      rfl
    · obtain ⟨j9, rfl⟩ : ∃ j9, d = 113 + j9 := ⟨d - 113, by omega⟩
      have hj : j9 ≠ i := fun q => hne (by rw [q])
      rw [cC_Cer (show j9 < 12 by omega), cC_Cer (show j9 < 12 by omega)]
      simp [up, hj]
theorem stC_Cer_2 {cA : Nat → ClassId} {ad : Nat → Nat} {X : ST} {i : Nat} {v : Int32} (h : i < 12) : (wdC cA ad X).set (113 + i) (ad (113 + i), .inr (8, ([.int (X 50 i), .int (X 51 i), .int (X 52 i), .int (X 53 i), .int (X 54 i), .int (X 55 i)] : List Value).set 2 (.int v))) = wdC cA ad (up X 52 i v) := by
  refine zwC_set (show 113 + i < 125 by omega) ?_ ?_
  · rw [cC_Cer h]; simp [up]
  · intro d hd hne
    rcases (show d = 0 ∨ d = 1 ∨ d = 2 ∨ d = 3 ∨ d = 4 ∨ d = 5 ∨ d = 6 ∨ d = 7 ∨ d = 8 ∨ d = 9 ∨ d = 10 ∨ (11 ≤ d ∧ d < 17) ∨ (17 ≤ d ∧ d < 29) ∨ (29 ≤ d ∧ d < 41) ∨ (41 ≤ d ∧ d < 65) ∨ (65 ≤ d ∧ d < 113) ∨ (113 ≤ d ∧ d < 125) by omega) with h9 | h9 | h9 | h9 | h9 | h9 | h9 | h9 | h9 | h9 | h9 | ⟨h9, h8⟩ | ⟨h9, h8⟩ | ⟨h9, h8⟩ | ⟨h9, h8⟩ | ⟨h9, h8⟩ | ⟨h9, h8⟩
    · subst h9; rfl
    · subst h9; rfl
    · subst h9; rfl
    · subst h9; rfl
    · subst h9; rfl
    · subst h9; rfl
    · subst h9; rfl
    · subst h9; rfl
    · subst h9; rfl
    · subst h9; rfl
    · subst h9; rfl
    · obtain ⟨j9, rfl⟩ : ∃ j9, d = 11 + j9 := ⟨d - 11, by omega⟩
      rw [cC_Acc (show j9 < 6 by omega), cC_Acc (show j9 < 6 by omega)]
      rfl
    · obtain ⟨j9, rfl⟩ : ∃ j9, d = 17 + j9 := ⟨d - 17, by omega⟩
      rw [cC_Ord (show j9 < 12 by omega), cC_Ord (show j9 < 12 by omega)]
      rfl
    · obtain ⟨j9, rfl⟩ : ∃ j9, d = 29 + j9 := ⟨d - 29, by omega⟩
      rw [cC_iOrd (show j9 < 12 by omega), cC_iOrd (show j9 < 12 by omega)]
      have e8 : (fun j8 => up X 52 i v (1000 + j8) j9) = (fun j8 => X (1000 + j8) j9) := funext fun j8 => congrFun (up_off (by omega)) j9
      rw [e8]
    · obtain ⟨j9, rfl⟩ : ∃ j9, d = 41 + j9 := ⟨d - 41, by omega⟩
      rw [cC_Aut (show j9 < 24 by omega), cC_Aut (show j9 < 24 by omega)]
      rfl
    · obtain ⟨j9, rfl⟩ : ∃ j9, d = 65 + j9 := ⟨d - 65, by omega⟩
      rw [cC_Cha (show j9 < 48 by omega), cC_Cha (show j9 < 48 by omega)]
      rfl
    · obtain ⟨j9, rfl⟩ : ∃ j9, d = 113 + j9 := ⟨d - 113, by omega⟩
      have hj : j9 ≠ i := fun q => hne (by rw [q])
      rw [cC_Cer (show j9 < 12 by omega), cC_Cer (show j9 < 12 by omega)]
      simp [up, hj]
theorem stC_Cer_3 {cA : Nat → ClassId} {ad : Nat → Nat} {X : ST} {i : Nat} {v : Int32} (h : i < 12) : (wdC cA ad X).set (113 + i) (ad (113 + i), .inr (8, ([.int (X 50 i), .int (X 51 i), .int (X 52 i), .int (X 53 i), .int (X 54 i), .int (X 55 i)] : List Value).set 3 (.int v))) = wdC cA ad (up X 53 i v) := by
  refine zwC_set (show 113 + i < 125 by omega) ?_ ?_
  · rw [cC_Cer h]; simp [up]
  · intro d hd hne
    rcases (show d = 0 ∨ d = 1 ∨ d = 2 ∨ d = 3 ∨ d = 4 ∨ d = 5 ∨ d = 6 ∨ d = 7 ∨ d = 8 ∨ d = 9 ∨ d = 10 ∨ (11 ≤ d ∧ d < 17) ∨ (17 ≤ d ∧ d < 29) ∨ (29 ≤ d ∧ d < 41) ∨ (41 ≤ d ∧ d < 65) ∨ (65 ≤ d ∧ d < 113) ∨ (113 ≤ d ∧ d < 125) by omega) with h9 | h9 | h9 | h9 | h9 | h9 | h9 | h9 | h9 | h9 | h9 | ⟨h9, h8⟩ | ⟨h9, h8⟩ | ⟨h9, h8⟩ | ⟨h9, h8⟩ | ⟨h9, h8⟩ | ⟨h9, h8⟩
    · subst h9; rfl
    · subst h9; rfl
    · subst h9; rfl
    · subst h9; rfl
    · subst h9; rfl
    · subst h9; rfl
    · subst h9; rfl
    · subst h9; rfl
    · subst h9; rfl
    · subst h9; rfl
    · subst h9; rfl
    · obtain ⟨j9, rfl⟩ : ∃ j9, d = 11 + j9 := ⟨d - 11, by omega⟩
      rw [cC_Acc (show j9 < 6 by omega), cC_Acc (show j9 < 6 by omega)]
      rfl
    · obtain ⟨j9, rfl⟩ : ∃ j9, d = 17 + j9 := ⟨d - 17, by omega⟩
      rw [cC_Ord (show j9 < 12 by omega), cC_Ord (show j9 < 12 by omega)]
      rfl
    · obtain ⟨j9, rfl⟩ : ∃ j9, d = 29 + j9 := ⟨d - 29, by omega⟩
      rw [cC_iOrd (show j9 < 12 by omega), cC_iOrd (show j9 < 12 by omega)]
      have e8 : (fun j8 => up X 53 i v (1000 + j8) j9) = (fun j8 => X (1000 + j8) j9) := funext fun j8 => congrFun (up_off (by omega)) j9
      rw [e8]
    · obtain ⟨j9, rfl⟩ : ∃ j9, d = 41 + j9 := ⟨d - 41, by omega⟩
      rw [cC_Aut (show j9 < 24 by omega), cC_Aut (show j9 < 24 by omega)]
      rfl
    · obtain ⟨j9, rfl⟩ : ∃ j9, d = 65 + j9 := ⟨d - 65, by omega⟩
      rw [cC_Cha (show j9 < 48 by omega), cC_Cha (show j9 < 48 by omega)]
      rfl
    · obtain ⟨j9, rfl⟩ : ∃ j9, d = 113 + j9 := ⟨d - 113, by omega⟩
      have hj : j9 ≠ i := fun q => hne (by rw [q])
      rw [cC_Cer (show j9 < 12 by omega), cC_Cer (show j9 < 12 by omega)]
      simp [up, hj]
theorem stC_Cer_4 {cA : Nat → ClassId} {ad : Nat → Nat} {X : ST} {i : Nat} {v : Int32} (h : i < 12) : (wdC cA ad X).set (113 + i) (ad (113 + i), .inr (8, ([.int (X 50 i), .int (X 51 i), .int (X 52 i), .int (X 53 i), .int (X 54 i), .int (X 55 i)] : List Value).set 4 (.int v))) = wdC cA ad (up X 54 i v) := by
  refine zwC_set (show 113 + i < 125 by omega) ?_ ?_
  · rw [cC_Cer h]; simp [up]
  · intro d hd hne
    rcases (show d = 0 ∨ d = 1 ∨ d = 2 ∨ d = 3 ∨ d = 4 ∨ d = 5 ∨ d = 6 ∨ d = 7 ∨ d = 8 ∨ d = 9 ∨ d = 10 ∨ (11 ≤ d ∧ d < 17) ∨ (17 ≤ d ∧ d < 29) ∨ (29 ≤ d ∧ d < 41) ∨ (41 ≤ d ∧ d < 65) ∨ (65 ≤ d ∧ d < 113) ∨ (113 ≤ d ∧ d < 125) by omega) with h9 | h9 | h9 | h9 | h9 | h9 | h9 | h9 | h9 | h9 | h9 | ⟨h9, h8⟩ | ⟨h9, h8⟩ | ⟨h9, h8⟩ | ⟨h9, h8⟩ | ⟨h9, h8⟩ | ⟨h9, h8⟩
    · subst h9; rfl
    · subst h9; rfl
    · subst h9; rfl
    · subst h9; rfl
    · subst h9; rfl
    · subst h9; rfl
    · subst h9; rfl
    · subst h9; rfl
    · subst h9; rfl
    · subst h9; rfl
    · subst h9; rfl
    · obtain ⟨j9, rfl⟩ : ∃ j9, d = 11 + j9 := ⟨d - 11, by omega⟩
      rw [cC_Acc (show j9 < 6 by omega), cC_Acc (show j9 < 6 by omega)]
      rfl
    · obtain ⟨j9, rfl⟩ : ∃ j9, d = 17 + j9 := ⟨d - 17, by omega⟩
      rw [cC_Ord (show j9 < 12 by omega), cC_Ord (show j9 < 12 by omega)]
      rfl
    · obtain ⟨j9, rfl⟩ : ∃ j9, d = 29 + j9 := ⟨d - 29, by omega⟩
      rw [cC_iOrd (show j9 < 12 by omega), cC_iOrd (show j9 < 12 by omega)]
      have e8 : (fun j8 => up X 54 i v (1000 + j8) j9) = (fun j8 => X (1000 + j8) j9) := funext fun j8 => congrFun (up_off (by omega)) j9
      rw [e8]
    · obtain ⟨j9, rfl⟩ : ∃ j9, d = 41 + j9 := ⟨d - 41, by omega⟩
      rw [cC_Aut (show j9 < 24 by omega), cC_Aut (show j9 < 24 by omega)]
      rfl
    · obtain ⟨j9, rfl⟩ : ∃ j9, d = 65 + j9 := ⟨d - 65, by omega⟩
      rw [cC_Cha (show j9 < 48 by omega), cC_Cha (show j9 < 48 by omega)]
      rfl
    · obtain ⟨j9, rfl⟩ : ∃ j9, d = 113 + j9 := ⟨d - 113, by omega⟩
      have hj : j9 ≠ i := fun q => hne (by rw [q])
      rw [cC_Cer (show j9 < 12 by omega), cC_Cer (show j9 < 12 by omega)]
      simp [up, hj]
theorem stC_Cer_5 {cA : Nat → ClassId} {ad : Nat → Nat} {X : ST} {i : Nat} {v : Int32} (h : i < 12) : (wdC cA ad X).set (113 + i) (ad (113 + i), .inr (8, ([.int (X 50 i), .int (X 51 i), .int (X 52 i), .int (X 53 i), .int (X 54 i), .int (X 55 i)] : List Value).set 5 (.int v))) = wdC cA ad (up X 55 i v) := by
  refine zwC_set (show 113 + i < 125 by omega) ?_ ?_
  · rw [cC_Cer h]; simp [up]
  · intro d hd hne
    rcases (show d = 0 ∨ d = 1 ∨ d = 2 ∨ d = 3 ∨ d = 4 ∨ d = 5 ∨ d = 6 ∨ d = 7 ∨ d = 8 ∨ d = 9 ∨ d = 10 ∨ (11 ≤ d ∧ d < 17) ∨ (17 ≤ d ∧ d < 29) ∨ (29 ≤ d ∧ d < 41) ∨ (41 ≤ d ∧ d < 65) ∨ (65 ≤ d ∧ d < 113) ∨ (113 ≤ d ∧ d < 125) by omega) with h9 | h9 | h9 | h9 | h9 | h9 | h9 | h9 | h9 | h9 | h9 | ⟨h9, h8⟩ | ⟨h9, h8⟩ | ⟨h9, h8⟩ | ⟨h9, h8⟩ | ⟨h9, h8⟩ | ⟨h9, h8⟩
    · subst h9; rfl
    · subst h9; rfl
    · subst h9; rfl
    · subst h9; rfl
    · subst h9; rfl
    · subst h9; rfl
    · subst h9; rfl
    · subst h9; rfl
    · subst h9; rfl
    · subst h9; rfl
    · subst h9; rfl
    · obtain ⟨j9, rfl⟩ : ∃ j9, d = 11 + j9 := ⟨d - 11, by omega⟩
      rw [cC_Acc (show j9 < 6 by omega), cC_Acc (show j9 < 6 by omega)]
      rfl
    · obtain ⟨j9, rfl⟩ : ∃ j9, d = 17 + j9 := ⟨d - 17, by omega⟩
      rw [cC_Ord (show j9 < 12 by omega), cC_Ord (show j9 < 12 by omega)]
      rfl
    · obtain ⟨j9, rfl⟩ : ∃ j9, d = 29 + j9 := ⟨d - 29, by omega⟩
      rw [cC_iOrd (show j9 < 12 by omega), cC_iOrd (show j9 < 12 by omega)]
      have e8 : (fun j8 => up X 55 i v (1000 + j8) j9) = (fun j8 => X (1000 + j8) j9) := funext fun j8 => congrFun (up_off (by omega)) j9
      rw [e8]
    · obtain ⟨j9, rfl⟩ : ∃ j9, d = 41 + j9 := ⟨d - 41, by omega⟩
      rw [cC_Aut (show j9 < 24 by omega), cC_Aut (show j9 < 24 by omega)]
      rfl
    · obtain ⟨j9, rfl⟩ : ∃ j9, d = 65 + j9 := ⟨d - 65, by omega⟩
      rw [cC_Cha (show j9 < 48 by omega), cC_Cha (show j9 < 48 by omega)]
      rfl
    · obtain ⟨j9, rfl⟩ : ∃ j9, d = 113 + j9 := ⟨d - 113, by omega⟩
      have hj : j9 ≠ i := fun q => hne (by rw [q])
      rw [cC_Cer (show j9 < 12 by omega), cC_Cer (show j9 < 12 by omega)]
      simp [up, hj]
def wdM (cA : Nat → ClassId) (ad : Nat → Nat) (X : ST) (Y : Int64) : va_W := [(ad 0, .inr (9, [.int (X 90 0), .int (X 0 0), .int (X 1 0), .int (X 2 0), .ref (ad 1), .ref (ad 2), .int (X 3 0), .ref (ad 3), .ref (ad 4), .ref (ad 5), .ref (ad 6), .ref (ad 7), .ref (ad 8), .ref (ad 9), .int (X 4 0), .ref (ad 10), .ref (ad 11), .ref (ad 12), .ref (ad 13), .ref (ad 14), .ref (ad 15), .ref (ad 16), .int (X 5 0), .ref (ad 17), .ref (ad 18), .ref (ad 19), .ref (ad 20), .int (X 6 0), .ref (ad 21), .ref (ad 22), .int (X 7 0), .int (X 66 0), .int (X 67 0), .int (X 64 0), .int (X 65 0), .long Y])), (ad 1, .inl (cA 0, 6, .inl (X 11))), (ad 2, .inl (cA 1, 6, .inl (X 10))), (ad 3, .inl (cA 2, 12, .inl (X 21))), (ad 4, .inl (cA 3, 12, .inl (X 22))), (ad 5, .inl (cA 4, 12, .inl (X 23))), (ad 6, .inl (cA 5, 12, .inl (X 20))), (ad 7, .inl (cA 6, 12, .inl (X 24))), (ad 8, .inl (cA 7, 12, .inl (X 25))), (ad 9, .inl (cA 8, 48, .inl (X 26))), (ad 10, .inl (cA 9, 24, .inl (X 31))), (ad 11, .inl (cA 10, 24, .inl (X 32))), (ad 12, .inl (cA 11, 24, .inl (X 33))), (ad 13, .inl (cA 12, 24, .inl (X 30))), (ad 14, .inl (cA 13, 48, .inl (X 41))), (ad 15, .inl (cA 14, 48, .inl (X 40))), (ad 16, .inl (cA 15, 48, .inl (X 42))), (ad 17, .inl (cA 16, 12, .inl (X 51))), (ad 18, .inl (cA 17, 12, .inl (X 53))), (ad 19, .inl (cA 18, 12, .inl (X 54))), (ad 20, .inl (cA 19, 12, .inl (X 55))), (ad 21, .inl (cA 20, 9, .inl (X 61))), (ad 22, .inl (cA 21, 96, .inl (X 63)))]
theorem zwM_D {cA : Nat → ClassId} {ad : Nat → Nat} {X : ST} {Y : Int64} {sz : Nat} (hI : INJ ad 23) : va_D (CA ad 23 sz) (wdM cA ad X Y) := by
  have hm : (wdM cA ad X Y).map (fun q => q.1) = (List.range 23).map ad := rfl
  have hg : ∀ (k : Nat) (q : Nat × va_E), (wdM cA ad X Y)[k]? = some q → k < 23 ∧ q.1 = ad k := by
    intro k q hk
    have h1 : ((wdM cA ad X Y).map (fun q => q.1))[k]? = some q.1 := by rw [List.getElem?_map, hk]; rfl
    rw [hm, List.getElem?_map] at h1
    rcases Nat.lt_or_ge k 23 with h | h
    · rw [List.getElem?_range h] at h1
      exact ⟨h, (Option.some.inj h1).symm⟩
    · rw [List.getElem?_eq_none (by rw [List.length_range]; exact h)] at h1
      cases h1
  refine ⟨fun i j p q hp hq he => ?_, fun k q hk => ?_⟩
  · obtain ⟨h1, h2⟩ := hg i p hp
    obtain ⟨h3, h4⟩ := hg j q hq
    exact hI i j h1 h3 (by rw [← h2, ← h4]; exact he)
  · obtain ⟨h1, h2⟩ := hg k q hk
    exact Or.inl ⟨k, h1, h2⟩
theorem atM_MO {cA : Nat → ClassId} {ad : Nat → Nat} {X : ST} {Y : Int64} : (wdM cA ad X Y)[0]? = some (ad 0, .inr (9, [.int (X 90 0), .int (X 0 0), .int (X 1 0), .int (X 2 0), .ref (ad 1), .ref (ad 2), .int (X 3 0), .ref (ad 3), .ref (ad 4), .ref (ad 5), .ref (ad 6), .ref (ad 7), .ref (ad 8), .ref (ad 9), .int (X 4 0), .ref (ad 10), .ref (ad 11), .ref (ad 12), .ref (ad 13), .ref (ad 14), .ref (ad 15), .ref (ad 16), .int (X 5 0), .ref (ad 17), .ref (ad 18), .ref (ad 19), .ref (ad 20), .int (X 6 0), .ref (ad 21), .ref (ad 22), .int (X 7 0), .int (X 66 0), .int (X 67 0), .int (X 64 0), .int (X 65 0), .long Y])) := rfl
theorem atM_keys {cA : Nat → ClassId} {ad : Nat → Nat} {X : ST} {Y : Int64} : (wdM cA ad X Y)[1]? = some (ad 1, .inl (cA 0, 6, .inl (X 11))) := rfl
theorem atM_closed {cA : Nat → ClassId} {ad : Nat → Nat} {X : ST} {Y : Int64} : (wdM cA ad X Y)[2]? = some (ad 2, .inl (cA 1, 6, .inl (X 10))) := rfl
theorem atM_orderAccount {cA : Nat → ClassId} {ad : Nat → Nat} {X : ST} {Y : Int64} : (wdM cA ad X Y)[3]? = some (ad 3, .inl (cA 2, 12, .inl (X 21))) := rfl
theorem atM_orderNames {cA : Nat → ClassId} {ad : Nat → Nat} {X : ST} {Y : Int64} : (wdM cA ad X Y)[4]? = some (ad 4, .inl (cA 3, 12, .inl (X 22))) := rfl
theorem atM_orderEnds {cA : Nat → ClassId} {ad : Nat → Nat} {X : ST} {Y : Int64} : (wdM cA ad X Y)[5]? = some (ad 5, .inl (cA 4, 12, .inl (X 23))) := rfl
theorem atM_orderState {cA : Nat → ClassId} {ad : Nat → Nat} {X : ST} {Y : Int64} : (wdM cA ad X Y)[6]? = some (ad 6, .inl (cA 5, 12, .inl (X 20))) := rfl
theorem atM_orderPaper {cA : Nat → ClassId} {ad : Nat → Nat} {X : ST} {Y : Int64} : (wdM cA ad X Y)[7]? = some (ad 7, .inl (cA 6, 12, .inl (X 24))) := rfl
theorem atM_orderMany {cA : Nat → ClassId} {ad : Nat → Nat} {X : ST} {Y : Int64} : (wdM cA ad X Y)[8]? = some (ad 8, .inl (cA 7, 12, .inl (X 25))) := rfl
theorem atM_orderAuths {cA : Nat → ClassId} {ad : Nat → Nat} {X : ST} {Y : Int64} : (wdM cA ad X Y)[9]? = some (ad 9, .inl (cA 8, 48, .inl (X 26))) := rfl
theorem atM_authAccount {cA : Nat → ClassId} {ad : Nat → Nat} {X : ST} {Y : Int64} : (wdM cA ad X Y)[10]? = some (ad 10, .inl (cA 9, 24, .inl (X 31))) := rfl
theorem atM_authName {cA : Nat → ClassId} {ad : Nat → Nat} {X : ST} {Y : Int64} : (wdM cA ad X Y)[11]? = some (ad 11, .inl (cA 10, 24, .inl (X 32))) := rfl
theorem atM_authEnds {cA : Nat → ClassId} {ad : Nat → Nat} {X : ST} {Y : Int64} : (wdM cA ad X Y)[12]? = some (ad 12, .inl (cA 11, 24, .inl (X 33))) := rfl
theorem atM_authState {cA : Nat → ClassId} {ad : Nat → Nat} {X : ST} {Y : Int64} : (wdM cA ad X Y)[13]? = some (ad 13, .inl (cA 12, 24, .inl (X 30))) := rfl
theorem atM_token {cA : Nat → ClassId} {ad : Nat → Nat} {X : ST} {Y : Int64} : (wdM cA ad X Y)[14]? = some (ad 14, .inl (cA 13, 48, .inl (X 41))) := rfl
theorem atM_stage {cA : Nat → ClassId} {ad : Nat → Nat} {X : ST} {Y : Int64} : (wdM cA ad X Y)[15]? = some (ad 15, .inl (cA 14, 48, .inl (X 40))) := rfl
theorem atM_wrong {cA : Nat → ClassId} {ad : Nat → Nat} {X : ST} {Y : Int64} : (wdM cA ad X Y)[16]? = some (ad 16, .inl (cA 15, 48, .inl (X 42))) := rfl
theorem atM_paperOrder {cA : Nat → ClassId} {ad : Nat → Nat} {X : ST} {Y : Int64} : (wdM cA ad X Y)[17]? = some (ad 17, .inl (cA 16, 12, .inl (X 51))) := rfl
theorem atM_paperKey {cA : Nat → ClassId} {ad : Nat → Nat} {X : ST} {Y : Int64} : (wdM cA ad X Y)[18]? = some (ad 18, .inl (cA 17, 12, .inl (X 53))) := rfl
theorem atM_paperTime {cA : Nat → ClassId} {ad : Nat → Nat} {X : ST} {Y : Int64} : (wdM cA ad X Y)[19]? = some (ad 19, .inl (cA 18, 12, .inl (X 54))) := rfl
theorem atM_paperReason {cA : Nat → ClassId} {ad : Nat → Nat} {X : ST} {Y : Int64} : (wdM cA ad X Y)[20]? = some (ad 20, .inl (cA 19, 12, .inl (X 55))) := rfl
theorem atM_nonces {cA : Nat → ClassId} {ad : Nat → Nat} {X : ST} {Y : Int64} : (wdM cA ad X Y)[21]? = some (ad 21, .inl (cA 20, 9, .inl (X 61))) := rfl
theorem atM_text {cA : Nat → ClassId} {ad : Nat → Nat} {X : ST} {Y : Int64} : (wdM cA ad X Y)[22]? = some (ad 22, .inl (cA 21, 96, .inl (X 63))) := rfl
theorem stM_MO_0 {cA : Nat → ClassId} {ad : Nat → Nat} {X : ST} {Y : Int64} {v : Int32} : (wdM cA ad X Y).set 0 (ad 0, .inr (9, ([.int (X 90 0), .int (X 0 0), .int (X 1 0), .int (X 2 0), .ref (ad 1), .ref (ad 2), .int (X 3 0), .ref (ad 3), .ref (ad 4), .ref (ad 5), .ref (ad 6), .ref (ad 7), .ref (ad 8), .ref (ad 9), .int (X 4 0), .ref (ad 10), .ref (ad 11), .ref (ad 12), .ref (ad 13), .ref (ad 14), .ref (ad 15), .ref (ad 16), .int (X 5 0), .ref (ad 17), .ref (ad 18), .ref (ad 19), .ref (ad 20), .int (X 6 0), .ref (ad 21), .ref (ad 22), .int (X 7 0), .int (X 66 0), .int (X 67 0), .int (X 64 0), .int (X 65 0), .long Y] : List Value).set 0 (.int v))) = wdM cA ad (up X 90 0 v) Y := rfl
theorem stM_MO_1 {cA : Nat → ClassId} {ad : Nat → Nat} {X : ST} {Y : Int64} {v : Int32} : (wdM cA ad X Y).set 0 (ad 0, .inr (9, ([.int (X 90 0), .int (X 0 0), .int (X 1 0), .int (X 2 0), .ref (ad 1), .ref (ad 2), .int (X 3 0), .ref (ad 3), .ref (ad 4), .ref (ad 5), .ref (ad 6), .ref (ad 7), .ref (ad 8), .ref (ad 9), .int (X 4 0), .ref (ad 10), .ref (ad 11), .ref (ad 12), .ref (ad 13), .ref (ad 14), .ref (ad 15), .ref (ad 16), .int (X 5 0), .ref (ad 17), .ref (ad 18), .ref (ad 19), .ref (ad 20), .int (X 6 0), .ref (ad 21), .ref (ad 22), .int (X 7 0), .int (X 66 0), .int (X 67 0), .int (X 64 0), .int (X 65 0), .long Y] : List Value).set 1 (.int v))) = wdM cA ad (up X 0 0 v) Y := rfl
theorem stM_MO_2 {cA : Nat → ClassId} {ad : Nat → Nat} {X : ST} {Y : Int64} {v : Int32} : (wdM cA ad X Y).set 0 (ad 0, .inr (9, ([.int (X 90 0), .int (X 0 0), .int (X 1 0), .int (X 2 0), .ref (ad 1), .ref (ad 2), .int (X 3 0), .ref (ad 3), .ref (ad 4), .ref (ad 5), .ref (ad 6), .ref (ad 7), .ref (ad 8), .ref (ad 9), .int (X 4 0), .ref (ad 10), .ref (ad 11), .ref (ad 12), .ref (ad 13), .ref (ad 14), .ref (ad 15), .ref (ad 16), .int (X 5 0), .ref (ad 17), .ref (ad 18), .ref (ad 19), .ref (ad 20), .int (X 6 0), .ref (ad 21), .ref (ad 22), .int (X 7 0), .int (X 66 0), .int (X 67 0), .int (X 64 0), .int (X 65 0), .long Y] : List Value).set 2 (.int v))) = wdM cA ad (up X 1 0 v) Y := rfl
theorem stM_MO_3 {cA : Nat → ClassId} {ad : Nat → Nat} {X : ST} {Y : Int64} {v : Int32} : (wdM cA ad X Y).set 0 (ad 0, .inr (9, ([.int (X 90 0), .int (X 0 0), .int (X 1 0), .int (X 2 0), .ref (ad 1), .ref (ad 2), .int (X 3 0), .ref (ad 3), .ref (ad 4), .ref (ad 5), .ref (ad 6), .ref (ad 7), .ref (ad 8), .ref (ad 9), .int (X 4 0), .ref (ad 10), .ref (ad 11), .ref (ad 12), .ref (ad 13), .ref (ad 14), .ref (ad 15), .ref (ad 16), .int (X 5 0), .ref (ad 17), .ref (ad 18), .ref (ad 19), .ref (ad 20), .int (X 6 0), .ref (ad 21), .ref (ad 22), .int (X 7 0), .int (X 66 0), .int (X 67 0), .int (X 64 0), .int (X 65 0), .long Y] : List Value).set 3 (.int v))) = wdM cA ad (up X 2 0 v) Y := rfl
theorem stM_MO_6 {cA : Nat → ClassId} {ad : Nat → Nat} {X : ST} {Y : Int64} {v : Int32} : (wdM cA ad X Y).set 0 (ad 0, .inr (9, ([.int (X 90 0), .int (X 0 0), .int (X 1 0), .int (X 2 0), .ref (ad 1), .ref (ad 2), .int (X 3 0), .ref (ad 3), .ref (ad 4), .ref (ad 5), .ref (ad 6), .ref (ad 7), .ref (ad 8), .ref (ad 9), .int (X 4 0), .ref (ad 10), .ref (ad 11), .ref (ad 12), .ref (ad 13), .ref (ad 14), .ref (ad 15), .ref (ad 16), .int (X 5 0), .ref (ad 17), .ref (ad 18), .ref (ad 19), .ref (ad 20), .int (X 6 0), .ref (ad 21), .ref (ad 22), .int (X 7 0), .int (X 66 0), .int (X 67 0), .int (X 64 0), .int (X 65 0), .long Y] : List Value).set 6 (.int v))) = wdM cA ad (up X 3 0 v) Y := rfl
theorem stM_MO_14 {cA : Nat → ClassId} {ad : Nat → Nat} {X : ST} {Y : Int64} {v : Int32} : (wdM cA ad X Y).set 0 (ad 0, .inr (9, ([.int (X 90 0), .int (X 0 0), .int (X 1 0), .int (X 2 0), .ref (ad 1), .ref (ad 2), .int (X 3 0), .ref (ad 3), .ref (ad 4), .ref (ad 5), .ref (ad 6), .ref (ad 7), .ref (ad 8), .ref (ad 9), .int (X 4 0), .ref (ad 10), .ref (ad 11), .ref (ad 12), .ref (ad 13), .ref (ad 14), .ref (ad 15), .ref (ad 16), .int (X 5 0), .ref (ad 17), .ref (ad 18), .ref (ad 19), .ref (ad 20), .int (X 6 0), .ref (ad 21), .ref (ad 22), .int (X 7 0), .int (X 66 0), .int (X 67 0), .int (X 64 0), .int (X 65 0), .long Y] : List Value).set 14 (.int v))) = wdM cA ad (up X 4 0 v) Y := rfl
theorem stM_MO_22 {cA : Nat → ClassId} {ad : Nat → Nat} {X : ST} {Y : Int64} {v : Int32} : (wdM cA ad X Y).set 0 (ad 0, .inr (9, ([.int (X 90 0), .int (X 0 0), .int (X 1 0), .int (X 2 0), .ref (ad 1), .ref (ad 2), .int (X 3 0), .ref (ad 3), .ref (ad 4), .ref (ad 5), .ref (ad 6), .ref (ad 7), .ref (ad 8), .ref (ad 9), .int (X 4 0), .ref (ad 10), .ref (ad 11), .ref (ad 12), .ref (ad 13), .ref (ad 14), .ref (ad 15), .ref (ad 16), .int (X 5 0), .ref (ad 17), .ref (ad 18), .ref (ad 19), .ref (ad 20), .int (X 6 0), .ref (ad 21), .ref (ad 22), .int (X 7 0), .int (X 66 0), .int (X 67 0), .int (X 64 0), .int (X 65 0), .long Y] : List Value).set 22 (.int v))) = wdM cA ad (up X 5 0 v) Y := rfl
theorem stM_MO_27 {cA : Nat → ClassId} {ad : Nat → Nat} {X : ST} {Y : Int64} {v : Int32} : (wdM cA ad X Y).set 0 (ad 0, .inr (9, ([.int (X 90 0), .int (X 0 0), .int (X 1 0), .int (X 2 0), .ref (ad 1), .ref (ad 2), .int (X 3 0), .ref (ad 3), .ref (ad 4), .ref (ad 5), .ref (ad 6), .ref (ad 7), .ref (ad 8), .ref (ad 9), .int (X 4 0), .ref (ad 10), .ref (ad 11), .ref (ad 12), .ref (ad 13), .ref (ad 14), .ref (ad 15), .ref (ad 16), .int (X 5 0), .ref (ad 17), .ref (ad 18), .ref (ad 19), .ref (ad 20), .int (X 6 0), .ref (ad 21), .ref (ad 22), .int (X 7 0), .int (X 66 0), .int (X 67 0), .int (X 64 0), .int (X 65 0), .long Y] : List Value).set 27 (.int v))) = wdM cA ad (up X 6 0 v) Y := rfl
theorem stM_MO_30 {cA : Nat → ClassId} {ad : Nat → Nat} {X : ST} {Y : Int64} {v : Int32} : (wdM cA ad X Y).set 0 (ad 0, .inr (9, ([.int (X 90 0), .int (X 0 0), .int (X 1 0), .int (X 2 0), .ref (ad 1), .ref (ad 2), .int (X 3 0), .ref (ad 3), .ref (ad 4), .ref (ad 5), .ref (ad 6), .ref (ad 7), .ref (ad 8), .ref (ad 9), .int (X 4 0), .ref (ad 10), .ref (ad 11), .ref (ad 12), .ref (ad 13), .ref (ad 14), .ref (ad 15), .ref (ad 16), .int (X 5 0), .ref (ad 17), .ref (ad 18), .ref (ad 19), .ref (ad 20), .int (X 6 0), .ref (ad 21), .ref (ad 22), .int (X 7 0), .int (X 66 0), .int (X 67 0), .int (X 64 0), .int (X 65 0), .long Y] : List Value).set 30 (.int v))) = wdM cA ad (up X 7 0 v) Y := rfl
theorem stM_MO_31 {cA : Nat → ClassId} {ad : Nat → Nat} {X : ST} {Y : Int64} {v : Int32} : (wdM cA ad X Y).set 0 (ad 0, .inr (9, ([.int (X 90 0), .int (X 0 0), .int (X 1 0), .int (X 2 0), .ref (ad 1), .ref (ad 2), .int (X 3 0), .ref (ad 3), .ref (ad 4), .ref (ad 5), .ref (ad 6), .ref (ad 7), .ref (ad 8), .ref (ad 9), .int (X 4 0), .ref (ad 10), .ref (ad 11), .ref (ad 12), .ref (ad 13), .ref (ad 14), .ref (ad 15), .ref (ad 16), .int (X 5 0), .ref (ad 17), .ref (ad 18), .ref (ad 19), .ref (ad 20), .int (X 6 0), .ref (ad 21), .ref (ad 22), .int (X 7 0), .int (X 66 0), .int (X 67 0), .int (X 64 0), .int (X 65 0), .long Y] : List Value).set 31 (.int v))) = wdM cA ad (up X 66 0 v) Y := rfl
theorem stM_MO_32 {cA : Nat → ClassId} {ad : Nat → Nat} {X : ST} {Y : Int64} {v : Int32} : (wdM cA ad X Y).set 0 (ad 0, .inr (9, ([.int (X 90 0), .int (X 0 0), .int (X 1 0), .int (X 2 0), .ref (ad 1), .ref (ad 2), .int (X 3 0), .ref (ad 3), .ref (ad 4), .ref (ad 5), .ref (ad 6), .ref (ad 7), .ref (ad 8), .ref (ad 9), .int (X 4 0), .ref (ad 10), .ref (ad 11), .ref (ad 12), .ref (ad 13), .ref (ad 14), .ref (ad 15), .ref (ad 16), .int (X 5 0), .ref (ad 17), .ref (ad 18), .ref (ad 19), .ref (ad 20), .int (X 6 0), .ref (ad 21), .ref (ad 22), .int (X 7 0), .int (X 66 0), .int (X 67 0), .int (X 64 0), .int (X 65 0), .long Y] : List Value).set 32 (.int v))) = wdM cA ad (up X 67 0 v) Y := rfl
theorem stM_MO_33 {cA : Nat → ClassId} {ad : Nat → Nat} {X : ST} {Y : Int64} {v : Int32} : (wdM cA ad X Y).set 0 (ad 0, .inr (9, ([.int (X 90 0), .int (X 0 0), .int (X 1 0), .int (X 2 0), .ref (ad 1), .ref (ad 2), .int (X 3 0), .ref (ad 3), .ref (ad 4), .ref (ad 5), .ref (ad 6), .ref (ad 7), .ref (ad 8), .ref (ad 9), .int (X 4 0), .ref (ad 10), .ref (ad 11), .ref (ad 12), .ref (ad 13), .ref (ad 14), .ref (ad 15), .ref (ad 16), .int (X 5 0), .ref (ad 17), .ref (ad 18), .ref (ad 19), .ref (ad 20), .int (X 6 0), .ref (ad 21), .ref (ad 22), .int (X 7 0), .int (X 66 0), .int (X 67 0), .int (X 64 0), .int (X 65 0), .long Y] : List Value).set 33 (.int v))) = wdM cA ad (up X 64 0 v) Y := rfl
theorem stM_MO_34 {cA : Nat → ClassId} {ad : Nat → Nat} {X : ST} {Y : Int64} {v : Int32} : (wdM cA ad X Y).set 0 (ad 0, .inr (9, ([.int (X 90 0), .int (X 0 0), .int (X 1 0), .int (X 2 0), .ref (ad 1), .ref (ad 2), .int (X 3 0), .ref (ad 3), .ref (ad 4), .ref (ad 5), .ref (ad 6), .ref (ad 7), .ref (ad 8), .ref (ad 9), .int (X 4 0), .ref (ad 10), .ref (ad 11), .ref (ad 12), .ref (ad 13), .ref (ad 14), .ref (ad 15), .ref (ad 16), .int (X 5 0), .ref (ad 17), .ref (ad 18), .ref (ad 19), .ref (ad 20), .int (X 6 0), .ref (ad 21), .ref (ad 22), .int (X 7 0), .int (X 66 0), .int (X 67 0), .int (X 64 0), .int (X 65 0), .long Y] : List Value).set 34 (.int v))) = wdM cA ad (up X 65 0 v) Y := rfl
theorem stM_MO_35 {cA : Nat → ClassId} {ad : Nat → Nat} {X : ST} {Y : Int64} {v : Int64} : (wdM cA ad X Y).set 0 (ad 0, .inr (9, ([.int (X 90 0), .int (X 0 0), .int (X 1 0), .int (X 2 0), .ref (ad 1), .ref (ad 2), .int (X 3 0), .ref (ad 3), .ref (ad 4), .ref (ad 5), .ref (ad 6), .ref (ad 7), .ref (ad 8), .ref (ad 9), .int (X 4 0), .ref (ad 10), .ref (ad 11), .ref (ad 12), .ref (ad 13), .ref (ad 14), .ref (ad 15), .ref (ad 16), .int (X 5 0), .ref (ad 17), .ref (ad 18), .ref (ad 19), .ref (ad 20), .int (X 6 0), .ref (ad 21), .ref (ad 22), .int (X 7 0), .int (X 66 0), .int (X 67 0), .int (X 64 0), .int (X 65 0), .long Y] : List Value).set 35 (.long v))) = wdM cA ad X v := rfl
theorem stM_keys {cA : Nat → ClassId} {ad : Nat → Nat} {X : ST} {Y : Int64} {j : Nat} {v : Int32} : (wdM cA ad X Y).set 1 (ad 1, .inl (cA 0, 6, .inl (upd (X 11) j v))) = wdM cA ad (up X 11 j v) Y := by
  rw [← up_upd]
  rfl
theorem stM_closed {cA : Nat → ClassId} {ad : Nat → Nat} {X : ST} {Y : Int64} {j : Nat} {v : Int32} : (wdM cA ad X Y).set 2 (ad 2, .inl (cA 1, 6, .inl (upd (X 10) j v))) = wdM cA ad (up X 10 j v) Y := by
  rw [← up_upd]
  rfl
theorem stM_orderAccount {cA : Nat → ClassId} {ad : Nat → Nat} {X : ST} {Y : Int64} {j : Nat} {v : Int32} : (wdM cA ad X Y).set 3 (ad 3, .inl (cA 2, 12, .inl (upd (X 21) j v))) = wdM cA ad (up X 21 j v) Y := by
  rw [← up_upd]
  rfl
theorem stM_orderNames {cA : Nat → ClassId} {ad : Nat → Nat} {X : ST} {Y : Int64} {j : Nat} {v : Int32} : (wdM cA ad X Y).set 4 (ad 4, .inl (cA 3, 12, .inl (upd (X 22) j v))) = wdM cA ad (up X 22 j v) Y := by
  rw [← up_upd]
  rfl
theorem stM_orderEnds {cA : Nat → ClassId} {ad : Nat → Nat} {X : ST} {Y : Int64} {j : Nat} {v : Int32} : (wdM cA ad X Y).set 5 (ad 5, .inl (cA 4, 12, .inl (upd (X 23) j v))) = wdM cA ad (up X 23 j v) Y := by
  rw [← up_upd]
  rfl
theorem stM_orderState {cA : Nat → ClassId} {ad : Nat → Nat} {X : ST} {Y : Int64} {j : Nat} {v : Int32} : (wdM cA ad X Y).set 6 (ad 6, .inl (cA 5, 12, .inl (upd (X 20) j v))) = wdM cA ad (up X 20 j v) Y := by
  rw [← up_upd]
  rfl
theorem stM_orderPaper {cA : Nat → ClassId} {ad : Nat → Nat} {X : ST} {Y : Int64} {j : Nat} {v : Int32} : (wdM cA ad X Y).set 7 (ad 7, .inl (cA 6, 12, .inl (upd (X 24) j v))) = wdM cA ad (up X 24 j v) Y := by
  rw [← up_upd]
  rfl
theorem stM_orderMany {cA : Nat → ClassId} {ad : Nat → Nat} {X : ST} {Y : Int64} {j : Nat} {v : Int32} : (wdM cA ad X Y).set 8 (ad 8, .inl (cA 7, 12, .inl (upd (X 25) j v))) = wdM cA ad (up X 25 j v) Y := by
  rw [← up_upd]
  rfl
theorem stM_orderAuths {cA : Nat → ClassId} {ad : Nat → Nat} {X : ST} {Y : Int64} {j : Nat} {v : Int32} : (wdM cA ad X Y).set 9 (ad 9, .inl (cA 8, 48, .inl (upd (X 26) j v))) = wdM cA ad (up X 26 j v) Y := by
  rw [← up_upd]
  rfl
theorem stM_authAccount {cA : Nat → ClassId} {ad : Nat → Nat} {X : ST} {Y : Int64} {j : Nat} {v : Int32} : (wdM cA ad X Y).set 10 (ad 10, .inl (cA 9, 24, .inl (upd (X 31) j v))) = wdM cA ad (up X 31 j v) Y := by
  rw [← up_upd]
  rfl
theorem stM_authName {cA : Nat → ClassId} {ad : Nat → Nat} {X : ST} {Y : Int64} {j : Nat} {v : Int32} : (wdM cA ad X Y).set 11 (ad 11, .inl (cA 10, 24, .inl (upd (X 32) j v))) = wdM cA ad (up X 32 j v) Y := by
  rw [← up_upd]
  rfl
theorem stM_authEnds {cA : Nat → ClassId} {ad : Nat → Nat} {X : ST} {Y : Int64} {j : Nat} {v : Int32} : (wdM cA ad X Y).set 12 (ad 12, .inl (cA 11, 24, .inl (upd (X 33) j v))) = wdM cA ad (up X 33 j v) Y := by
  rw [← up_upd]
  rfl
theorem stM_authState {cA : Nat → ClassId} {ad : Nat → Nat} {X : ST} {Y : Int64} {j : Nat} {v : Int32} : (wdM cA ad X Y).set 13 (ad 13, .inl (cA 12, 24, .inl (upd (X 30) j v))) = wdM cA ad (up X 30 j v) Y := by
  rw [← up_upd]
  rfl
theorem stM_token {cA : Nat → ClassId} {ad : Nat → Nat} {X : ST} {Y : Int64} {j : Nat} {v : Int32} : (wdM cA ad X Y).set 14 (ad 14, .inl (cA 13, 48, .inl (upd (X 41) j v))) = wdM cA ad (up X 41 j v) Y := by
  rw [← up_upd]
  rfl
theorem stM_stage {cA : Nat → ClassId} {ad : Nat → Nat} {X : ST} {Y : Int64} {j : Nat} {v : Int32} : (wdM cA ad X Y).set 15 (ad 15, .inl (cA 14, 48, .inl (upd (X 40) j v))) = wdM cA ad (up X 40 j v) Y := by
  rw [← up_upd]
  rfl
theorem stM_wrong {cA : Nat → ClassId} {ad : Nat → Nat} {X : ST} {Y : Int64} {j : Nat} {v : Int32} : (wdM cA ad X Y).set 16 (ad 16, .inl (cA 15, 48, .inl (upd (X 42) j v))) = wdM cA ad (up X 42 j v) Y := by
  rw [← up_upd]
  rfl
theorem stM_paperOrder {cA : Nat → ClassId} {ad : Nat → Nat} {X : ST} {Y : Int64} {j : Nat} {v : Int32} : (wdM cA ad X Y).set 17 (ad 17, .inl (cA 16, 12, .inl (upd (X 51) j v))) = wdM cA ad (up X 51 j v) Y := by
  rw [← up_upd]
  rfl
theorem stM_paperKey {cA : Nat → ClassId} {ad : Nat → Nat} {X : ST} {Y : Int64} {j : Nat} {v : Int32} : (wdM cA ad X Y).set 18 (ad 18, .inl (cA 17, 12, .inl (upd (X 53) j v))) = wdM cA ad (up X 53 j v) Y := by
  rw [← up_upd]
  rfl
theorem stM_paperTime {cA : Nat → ClassId} {ad : Nat → Nat} {X : ST} {Y : Int64} {j : Nat} {v : Int32} : (wdM cA ad X Y).set 19 (ad 19, .inl (cA 18, 12, .inl (upd (X 54) j v))) = wdM cA ad (up X 54 j v) Y := by
  rw [← up_upd]
  rfl
theorem stM_paperReason {cA : Nat → ClassId} {ad : Nat → Nat} {X : ST} {Y : Int64} {j : Nat} {v : Int32} : (wdM cA ad X Y).set 20 (ad 20, .inl (cA 19, 12, .inl (upd (X 55) j v))) = wdM cA ad (up X 55 j v) Y := by
  rw [← up_upd]
  rfl
theorem stM_nonces {cA : Nat → ClassId} {ad : Nat → Nat} {X : ST} {Y : Int64} {j : Nat} {v : Int32} : (wdM cA ad X Y).set 21 (ad 21, .inl (cA 20, 9, .inl (upd (X 61) j v))) = wdM cA ad (up X 61 j v) Y := by
  rw [← up_upd]
  rfl
theorem stM_text {cA : Nat → ClassId} {ad : Nat → Nat} {X : ST} {Y : Int64} {j : Nat} {v : Int32} : (wdM cA ad X Y).set 22 (ad 22, .inl (cA 21, 96, .inl (upd (X 63) j v))) = wdM cA ad (up X 63 j v) Y := by
  rw [← up_upd]
  rfl
