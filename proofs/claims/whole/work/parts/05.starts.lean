def ngk : Cond → Bool
  | .methodLinkNest .. => true
  | .castable .. => true
  | .declares _ => true
  | _ => false
theorem ng_k : ∀ w ∈ NGL, ngk w = true := by decide +kernel
theorem ngk_on {w : Cond} (h : ngk w = true) : w.onTables = true := by
  cases w <;> first | rfl | (simp [ngk] at h)
theorem ngk_warm {w : Cond} {s U : State} (h : ngk w = true) (hW : s.WarmedH U.vm) (hZ : va_Nw w s) : va_Nw w U := by
  cases w with
  | methodLinkNest a i x h9 => exact va_Nw.warmM hW hZ
  | castable a b => exact va_tabs rfl (rfl : (s.setVm U.vm).vm = U.vm) (by rw [Cond.castable_setVm hW.alike]; exact hZ)
  | declares x => exact va_Nw.warmD hW hZ
  | _ => simp [ngk] at h
def XZ (ad : Nat → Nat) (n : Nat) (nm d : String) (U : State) : Prop := ∃ (c : ClassId) (k : Class) (i : Nat) (f : Field) (a : Nat) (cell : Cell) (v : Value), U.vm.findClass Bundle.tN = some c ∧ U.fieldFound? Bundle.tN nm d = some (c, k, i, f) ∧ f.isStatic = true ∧ k.statics = some a ∧ U.heap[a]? = some cell ∧ cell.vm.isStatics = true ∧ cell.cls = c ∧ f.slot < cell.slots.size ∧ k.staticTypes[f.slot]? = some f.type ∧ cell.slots[f.slot]? = some v ∧ v.isRef = true ∧ ∀ j : Nat, j < n → a ≠ ad j
theorem XZ.lays {ad : Nat → Nat} {n : Nat} {nm d : String} {U : State} {args : Array Value} (h : XZ ad n nm d U) : (Cond.laysStatic Bundle.tN nm d).before args U = true := by
  obtain ⟨c, k, i, f, a, cell, v, h1, h2, h3, h4, h5, h6, h7, h8, h9, h10, h11, h12⟩ := h
  simp [Cond.before, Cond.holds, Cond.value, h1, h2, h3, h4, h5, h6, h7, h8, h9]
theorem XZ.isRef {ad : Nat → Nat} {n : Nat} {nm d : String} {U : State} {args : Array Value} (h : XZ ad n nm d U) : (Cond.isRef (.static Bundle.tN nm d)).before args U = true := by
  obtain ⟨c, k, i, f, a, cell, v, h1, h2, h3, h4, h5, h6, h7, h8, h9, h10, h11, h12⟩ := h
  have ev : (Term.static Bundle.tN nm d).eval args U none [] U = some v := by
    simp [Term.eval, State.fieldNamed?, h2, h3, h4, h5, h6, h10]
  cases v <;> first | (simp [Cond.before, Cond.holds, Cond.value, ev]; done) | (simp [Value.isRef] at h11)
theorem XZ.moved {ad : Nat → Nat} {n : Nat} {nm d : String} {s U : State} (h : XZ ad n nm d s) (hvm : s.vm.Alike U.vm) (hk : ∀ q : Nat, q < s.heap.size → (∀ j : Nat, j < n → q ≠ ad j) → U.heap[q]? = s.heap[q]?) : XZ ad n nm d U := by
  obtain ⟨c, k, i, f, a, cell, v, h1, h2, h3, h4, h5, h6, h7, h8, h9, h10, h11, h12⟩ := h
  obtain ⟨k', hi', he⟩ := State.fieldFound?_setVm hvm h2
  exact ⟨c, k', i, f, a, cell, v, by rw [hvm.findClass]; exact h1, hi', h3, by rw [he]; exact h4, by rw [hk a (Array.getElem?_eq_some_iff.mp h5).1 h12]; exact h5, h6, h7, h8, by rw [he]; exact h9, h10, h11, h12⟩
def GC (dC : Nat → ClassId) (dI : Nat → Nat → Nat) (cA : Nat → ClassId) (ad : Nat → Nat) (U : State) : Prop := va_K (dC, dI) vwCl (tyC cA) U ∧ (∀ w ∈ NGL, va_Nw w U) ∧ XZ ad 125 "UNASSIGNED_STACK" Bundle.steD U ∧ XZ ad 125 "SUPPRESSED_SENTINEL" Bundle.listD U
def GM (dC : Nat → ClassId) (dI : Nat → Nat → Nat) (cA : Nat → ClassId) (U : State) : Prop := va_K (dC, dI) vwCl (tyM cA) U ∧ (∀ w ∈ NGL, va_Nw w U)
def PC (dC : Nat → ClassId) (dI : Nat → Nat → Nat) (cA : Nat → ClassId) (ad : Nat → Nat) (sz : Nat) (X : ST) (U : State) : Prop := U.heap.size = sz ∧ va_P (dC, dI) vwCl (wdC cA ad X) U.heap ∧ GC dC dI cA ad U
def PM (dC : Nat → ClassId) (dI : Nat → Nat → Nat) (cA : Nat → ClassId) (ad : Nat → Nat) (sz : Nat) (X : ST) (Y : Int64) (U : State) : Prop := U.heap.size = sz ∧ va_P (dC, dI) vwCl (wdM cA ad X Y) U.heap ∧ GM dC dI cA U
theorem GC.moved {dC : Nat → ClassId} {dI : Nat → Nat → Nat} {cA : Nat → ClassId} {ad : Nat → Nat} {s U : State} (h : GC dC dI cA ad s) (hW : s.WarmedH U.vm) (hk : ∀ q : Nat, q < s.heap.size → (∀ j : Nat, j < 125 → q ≠ ad j) → U.heap[q]? = s.heap[q]?) : GC dC dI cA ad U :=
  ⟨va_K.moved hW.alike h.1, fun w hw => ngk_warm (ng_k w hw) hW (h.2.1 w hw), h.2.2.1.moved hW.alike hk, h.2.2.2.moved hW.alike hk⟩
theorem GM.moved {dC : Nat → ClassId} {dI : Nat → Nat → Nat} {cA : Nat → ClassId} {s U : State} (h : GM dC dI cA s) (hW : s.WarmedH U.vm) : GM dC dI cA U :=
  ⟨va_K.moved hW.alike h.1, fun w hw => ngk_warm (ng_k w hw) hW (h.2 w hw)⟩
theorem zwC_blind {av : List Value} {dC : Nat → ClassId} {dI : Nat → Nat → Nat} {cA : Nat → ClassId} {ad : Nat → Nat} {sz : Nat} {X : ST} : FrameBlind (va_Pc av (fun U => PC dC dI cA ad sz X U)) := by
  intro a U g mk h
  obtain ⟨h0, h1, h2, h3⟩ := h
  exact ⟨h0, h1, h2, GC.moved (U := U.calling g mk a) h3 (State.WarmedH.refl U) (fun _ _ _ => rfl)⟩
theorem zwM_blind {av : List Value} {dC : Nat → ClassId} {dI : Nat → Nat → Nat} {cA : Nat → ClassId} {ad : Nat → Nat} {sz : Nat} {X : ST} {Y : Int64} : FrameBlind (va_Pc av (fun U => PM dC dI cA ad sz X Y U)) := by
  intro a U g mk h
  obtain ⟨h0, h1, h2, h3⟩ := h
  exact ⟨h0, h1, h2, GM.moved (U := U.calling g mk a) h3 (State.WarmedH.refl U)⟩
theorem zwC_pre {av : List Value} {dC : Nat → ClassId} {dI : Nat → Nat → Nat} {cA : Nat → ClassId} {ad : Nat → Nat} {X : ST} {s : State} {H : Heap} {locs : List Loc} (hP : va_P (dC, dI) vwCl (wdC cA ad X) H) (hS : va_S (CA ad 125 s.heap.size) s.heap H locs) (hG : GC dC dI cA ad s) :
    ∀ U : State, U.heap = H → s.WarmedH U.vm → va_Pc av (fun U => PC dC dI cA ad H.size X U) av.toArray U := by
  intro U hU hW
  refine ⟨rfl, by rw [hU], by rw [hU]; exact hP, hG.moved hW (fun q h1 h2 => ?_)⟩
  rw [hU]
  refine hS.2.1 q h1 (fun hz => ?_)
  rcases hz with ⟨k, hk, e⟩ | hz
  · exact h2 k hk e
  · exact absurd h1 (Nat.not_lt.mpr hz)
theorem zwM_pre {av : List Value} {dC : Nat → ClassId} {dI : Nat → Nat → Nat} {cA : Nat → ClassId} {ad : Nat → Nat} {X : ST} {Y : Int64} {s : State} {H : Heap} {locs : List Loc} (hP : va_P (dC, dI) vwCl (wdM cA ad X Y) H) (_hS : va_S (CA ad 23 s.heap.size) s.heap H locs) (hG : GM dC dI cA s) :
    ∀ U : State, U.heap = H → s.WarmedH U.vm → va_Pc av (fun U => PM dC dI cA ad H.size X Y U) av.toArray U := by
  intro U hU hW
  exact ⟨rfl, by rw [hU], by rw [hU]; exact hP, hG.moved hW⟩
