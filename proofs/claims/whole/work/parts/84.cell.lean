
abbrev c_LW_cell : ByteArray := method_2_code
def y_LW_cell : MethodName := ⟨"ChallengeAuthorityLaw", "cell", "([II)I"⟩
def ws_LW_cell : List Cond := Cond.code y_LW_cell c_LW_cell 2 (Option.some Jvm.ClassFile.FieldType.int) :: GW
theorem d_LW_cell_0 : decode c_LW_cell 0 = .ok (.iload_n 1, 1) := by decide +kernel
theorem d_LW_cell_1 : decode c_LW_cell 1 = .ok (.aload_n 0, 1) := by decide +kernel
theorem d_LW_cell_2 : decode c_LW_cell 2 = .ok (.arraylength, 1) := by decide +kernel
theorem d_LW_cell_3 : decode c_LW_cell 3 = .ok (.if_icmp .ge 9, 3) := by decide +kernel
theorem d_LW_cell_6 : decode c_LW_cell 6 = .ok (.aload_n 0, 1) := by decide +kernel
theorem d_LW_cell_7 : decode c_LW_cell 7 = .ok (.iload_n 1, 1) := by decide +kernel
theorem d_LW_cell_8 : decode c_LW_cell 8 = .ok (.iaload, 1) := by decide +kernel
theorem d_LW_cell_9 : decode c_LW_cell 9 = .ok (.goto 4, 3) := by decide +kernel
theorem d_LW_cell_12 : decode c_LW_cell 12 = .ok (.iconst 0, 1) := by decide +kernel
theorem d_LW_cell_13 : decode c_LW_cell 13 = .ok (.ireturn, 1) := by decide +kernel
set_option maxHeartbeats 4000000 in
set_option maxRecDepth 100000 in
theorem mt_LW_cell (l : Launch) (b L sz : Nat) (xs : Nat → Int32) (hLs : L ≤ 3073) : Met l y_LW_cell ws_LW_cell ({ frames := 0, cells := 0, slots := 0, locals := 0 } : Room) (va_Pc [.ref b, .int (0 : Int32)] (fun U => U.heap.size = sz ∧ va_X b L xs U U.heap ∧ b < U.heap.size)) (va_Qi (fun r (_ : Unit) => r = if 0 < L then xs 0 else 0) (fun (_ : Unit) _ => True) (fun _ => False)) 0 0 (fun _ => False) := by
  refine Met.ofW (cc := c_LW_cell) (maxL := 2) (ret := (some .int)) (by decide) rfl ?_
  intro p e s m args below meth c s₁ B hml hv
  obtain ⟨rfl, hsz, hX, hbl⟩ := hv
  have hx := B.exec
  have hb := B.bytes
  have hr := B.returns
  have hlocks := B.notSynchronized
  have hS : va_S (fun _ => False) s.heap s.heap [] := va_S.rf
  have hl := lv_entry ([.ref b, .int (0 : Int32)]) (n := 2) (Nat.le_of_ble_eq_true rfl)
  rw [lg_entry_eq]
  generalize (lg_sl ([.ref b, .int (0 : Int32)]) ++ List.replicate (2 - (lg_sl ([.ref b, .int (0 : Int32)])).length) Slot.unset).toArray = ls at hl ⊢
  have hl : lv_has ls 2 [(0, .ref b), (1, .int (0 : Int32))] := hl
  refine lv_iload_n hx hb d_LW_cell_0 rfl (lv_at hl 1 rfl) ?_
  refine lv_aload_n hx hb d_LW_cell_1 rfl (lv_at hl 0 rfl) ?_
  refine va_slen hx hb hX hbl (fun h => h) hS d_LW_cell_2 ?_
  refine lv_icmp_ge (tgt := 12) hx hb d_LW_cell_3 (by decide) (fun h => ?_) (fun h => ?_)
  · have h0 : ¬ 0 < L := fun h9 => nI_ge (a := 0) (b := L) h9 (by omega) h
    refine lv_iconst (v := (0 : Int32)) hx hb d_LW_cell_12 (by decide) ?_
    exact W.iret (v := (0 : Int32)) hx hb hr (fun t ht _ => ⟨⟨0, (), rfl, by rw [if_neg h0], trivial⟩, hS.F ht⟩) hS.2.2 d_LW_cell_13
  · have h0 : 0 < L := by
      rcases Nat.eq_zero_or_pos L with h9 | h9
      · subst h9
        exact absurd (show Int32.ofNat 0 ≤ 0 by decide) h
      · exact h9
    refine lv_aload_n hx hb d_LW_cell_6 rfl (lv_at hl 0 rfl) ?_
    refine lv_iload_n hx hb d_LW_cell_7 rfl (lv_at hl 1 rfl) ?_
    refine va_sld hx hb hX hbl (fun h => h) hS (vp_in_nI (n := 0) h0 (by omega)) d_LW_cell_8 ?_
    refine lv_goto (tgt := 13) hx hb d_LW_cell_9 (by decide) ?_
    exact W.iret (v := xs 0) hx hb hr (fun t ht _ => ⟨⟨xs 0, (), rfl, by rw [if_pos h0], trivial⟩, hS.F ht⟩) hS.2.2 d_LW_cell_13
theorem NGL_in : ∀ w ∈ NGL, w ∈ tables_1 := List.forall_mem_cons.mpr ⟨tb_1 (List.mem_of_getElem? (i := 39) rfl), List.forall_mem_cons.mpr ⟨tb_1 (List.mem_of_getElem? (i := 54) rfl), List.forall_mem_cons.mpr ⟨tb_1 (List.mem_of_getElem? (i := 71) rfl), List.forall_mem_cons.mpr ⟨tb_1 (List.mem_of_getElem? (i := 91) rfl), List.forall_mem_cons.mpr ⟨tb_1 (List.mem_of_getElem? (i := 103) rfl), List.forall_mem_cons.mpr ⟨tb_1 (List.mem_of_getElem? (i := 137) rfl), List.forall_mem_cons.mpr ⟨tb_1 (List.mem_of_getElem? (i := 159) rfl), List.forall_mem_cons.mpr ⟨tb_1 (List.mem_of_getElem? (i := 176) rfl), List.forall_mem_cons.mpr ⟨tb_2 (List.mem_of_getElem? (i := 84) rfl), List.forall_mem_cons.mpr ⟨tb_2 (List.mem_of_getElem? (i := 85) rfl), List.forall_mem_cons.mpr ⟨tb_2 (List.mem_of_getElem? (i := 86) rfl), List.forall_mem_cons.mpr ⟨tb_2 (List.mem_of_getElem? (i := 87) rfl), List.forall_mem_cons.mpr ⟨tb_2 (List.mem_of_getElem? (i := 88) rfl), List.forall_mem_cons.mpr ⟨tb_2 (List.mem_of_getElem? (i := 89) rfl), List.forall_mem_cons.mpr ⟨tb_2 (List.mem_of_getElem? (i := 90) rfl), List.forall_mem_cons.mpr ⟨tb_2 (List.mem_of_getElem? (i := 152) rfl), List.forall_mem_cons.mpr ⟨tb_2 (List.mem_of_getElem? (i := 175) rfl), List.forall_mem_cons.mpr ⟨tb_2 (List.mem_of_getElem? (i := 206) rfl), List.forall_mem_cons.mpr ⟨tb_3 (List.mem_of_getElem? (i := 85) rfl), List.forall_mem_cons.mpr ⟨tb_3 (List.mem_of_getElem? (i := 90) rfl), List.forall_mem_cons.mpr ⟨tb_3 (List.mem_of_getElem? (i := 91) rfl), List.forall_mem_cons.mpr ⟨tb_3 (List.mem_of_getElem? (i := 92) rfl), fun _ h => absurd h List.not_mem_nil⟩⟩⟩⟩⟩⟩⟩⟩⟩⟩⟩⟩⟩⟩⟩⟩⟩⟩⟩⟩⟩⟩
theorem XZ.start {ad : Nat → Nat} {n : Nat} {nm d : String} {s : State} {args : Array Value} (hl : (Cond.laysStatic Bundle.tN nm d).before args s = true) (hr : (Cond.isRef (.static Bundle.tN nm d)).before args s = true) (hn : ∀ j : Nat, j < n → s.heap.size ≤ ad j) : XZ ad n nm d s := by
  obtain ⟨c, k, i, f, a, cell, hc, hi, hst, ha, hcell, hs, hcls, hlt, hty⟩ := Cond.laysStatic_spec hl
  obtain ⟨v, hv, hvr⟩ := Cond.isRef_spec hr
  obtain ⟨-, a', cell', ha', hcell', -, hslot⟩ := Term.static_spec hi hv
  cases ha.symm.trans ha'
  cases hcell.symm.trans hcell'
  refine ⟨c, k, i, f, a, cell, v, hc, hi, hst, ha, hcell, hs, hcls, hlt, hty, hslot, hvr, fun j hj e => ?_⟩
  have h1 := (Array.getElem?_eq_some_iff.mp hcell).1
  have h2 := hn j hj
  omega
theorem GK_blind {av : List Value} {dC : Nat → ClassId} {dI : Nat → Nat → Nat} {cA : Nat → ClassId} {ws : va_W} {sz : Nat} : FrameBlind (va_Pc av (fun U => U.heap.size = sz ∧ va_P (dC, dI) vwCl ws U.heap ∧ GK dC dI cA U)) := by
  intro a U g mk h
  obtain ⟨h0, h1, h2, h3, h4, h5, h6, h7, h8, h9⟩ := h
  exact ⟨h0, h1, h2, va_K.moved (u := U) (U := U.calling g mk a) (Vm.Alike.refl U.vm) h3, fun w hw => ngk_warm (U := U.calling g mk a) (ng_k w hw) (State.WarmedH.refl U) (h4 w hw), h5.moved (U := U.calling g mk a) (Vm.Alike.refl U.vm), h6.moved (U := U.calling g mk a) (Vm.Alike.refl U.vm), h7.moved (U := U.calling g mk a) (Vm.Alike.refl U.vm), h8.moved (U := U.calling g mk a) (Vm.Alike.refl U.vm), h9.moved (U := U.calling g mk a) (Vm.Alike.refl U.vm)⟩
theorem GK_pre {av : List Value} {dC : Nat → ClassId} {dI : Nat → Nat → Nat} {cA : Nat → ClassId} {ws : va_W} {s : State} {H : Heap} (hP : va_P (dC, dI) vwCl ws H) (hG : GK dC dI cA s) : ∀ U : State, U.heap = H → s.WarmedH U.vm → va_Pc av (fun U => U.heap.size = H.size ∧ va_P (dC, dI) vwCl ws U.heap ∧ GK dC dI cA U) av.toArray U := by
  intro U hU hW
  obtain ⟨h3, h4, h5, h6, h7, h8, h9⟩ := hG
  exact ⟨rfl, by rw [hU], by rw [hU]; exact hP, va_K.moved hW.alike h3, fun w hw => ngk_warm (ng_k w hw) hW (h4 w hw), h5.moved hW.alike, h6.moved hW.alike, h7.moved hW.alike, h8.moved hW.alike, h9.moved hW.alike⟩
theorem zX_blind {av : List Value} {b L sz : Nat} {xs : Nat → Int32} : FrameBlind (va_Pc av (fun U => U.heap.size = sz ∧ va_X b L xs U U.heap ∧ b < U.heap.size)) := by
  intro a U g mk h
  obtain ⟨h0, h1, h2, h3⟩ := h
  exact ⟨h0, h1, va_X.moved (u := U) (U := U.calling g mk a) (Vm.Alike.refl U.vm) h2, h3⟩
theorem zX_pre {av : List Value} {b L : Nat} {xs : Nat → Int32} {s : State} {H : Heap} {locs : List Loc} (hX : va_X b L xs s s.heap) (hbl : b < s.heap.size) (hS : va_S (AN s) s.heap H locs) : ∀ U : State, U.heap = H → s.WarmedH U.vm → va_Pc av (fun U => U.heap.size = H.size ∧ va_X b L xs U U.heap ∧ b < U.heap.size) av.toArray U := by
  intro U hU hW
  refine ⟨rfl, by show U.heap.size = H.size; rw [hU], ?_, by rw [hU]; exact Nat.lt_of_lt_of_le hbl hS.1⟩
  rw [hU]
  exact va_X.moved hW.alike (hX.kept (hS.2.1 b hbl (fun h => absurd hbl (Nat.not_lt.mpr h))))
theorem arr_prim {s : State} {args : Array Value} {ty : FieldType} (h : (Cond.arrayClass ty).before args s = true) : ∃ cA : ClassId, ArrOfT s cA ty ∧ s.vm.findClass ("[" ++ ty.toString) = some cA := by
  obtain ⟨c, k, comp, h1, h2, h3⟩ := Cond.arrayClass_spec h
  exact ⟨c, fun n z => ⟨fun k9 h9 => (by cases h9), k, h2, comp, h3⟩, h1⟩
theorem arr_obj {s : State} {args : Array Value} {C : String} (h : (Cond.arrayOver (.object C)).before args s = true) : ∃ cA : ClassId, ArrOfT s cA (.object C) ∧ va_RA s cA (.object C) := by
  obtain ⟨comp, c, k, h1, -, h2, h3, h4⟩ := Cond.arrayOver_spec h
  exact ⟨c, fun n z => ⟨fun k9 h9 => (by cases h9), k, h2, comp, h3⟩, k, comp, h2, h3, h1, h4⟩
