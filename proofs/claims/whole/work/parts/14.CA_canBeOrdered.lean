def ws_CA_canBeOrdered : List Cond := Cond.code y_CA_canBeOrdered c_CA_canBeOrdered 1 (Option.some Jvm.ClassFile.FieldType.boolean) :: GW
theorem d_CA_canBeOrdered_0 : decode c_CA_canBeOrdered 0 = .ok (.iload_n 0, 1) := by decide +kernel
theorem d_CA_canBeOrdered_1 : decode c_CA_canBeOrdered 1 = .ok (.ifCond .le 21, 3) := by decide +kernel
theorem d_CA_canBeOrdered_4 : decode c_CA_canBeOrdered 4 = .ok (.iload_n 0, 1) := by decide +kernel
theorem d_CA_canBeOrdered_5 : decode c_CA_canBeOrdered 5 = .ok (.ldc 250, 2) := by decide +kernel
theorem d_CA_canBeOrdered_7 : decode c_CA_canBeOrdered 7 = .ok (.if_icmp .ge 15, 3) := by decide +kernel
theorem d_CA_canBeOrdered_10 : decode c_CA_canBeOrdered 10 = .ok (.iload_n 0, 1) := by decide +kernel
theorem d_CA_canBeOrdered_11 : decode c_CA_canBeOrdered 11 = .ok (.invokestatic 251, 3) := by decide +kernel
theorem d_CA_canBeOrdered_14 : decode c_CA_canBeOrdered 14 = .ok (.iconst 4, 1) := by decide +kernel
theorem d_CA_canBeOrdered_15 : decode c_CA_canBeOrdered 15 = .ok (.if_icmp .gt 7, 3) := by decide +kernel
theorem d_CA_canBeOrdered_18 : decode c_CA_canBeOrdered 18 = .ok (.iconst 1, 1) := by decide +kernel
theorem d_CA_canBeOrdered_19 : decode c_CA_canBeOrdered 19 = .ok (.goto 4, 3) := by decide +kernel
theorem d_CA_canBeOrdered_22 : decode c_CA_canBeOrdered 22 = .ok (.iconst 0, 1) := by decide +kernel
theorem d_CA_canBeOrdered_23 : decode c_CA_canBeOrdered 23 = .ok (.ireturn, 1) := by decide +kernel
def wp_CA_canBeOrdered (post : Int32 → ST → Prop) (X : ST) (a1 : Int32) : Prop := ((a1 ≤ 0 → post (0 : Int32) X) ∧ (¬ a1 ≤ 0 → (((65536 : Int32) ≤ a1 → post (0 : Int32) X) ∧ (¬ (65536 : Int32) ≤ a1 → wp_Int_bitCount (fun (r4 : Int32) (X3 : ST) => (((4 : Int32) < r4 → post (0 : Int32) X3) ∧ (¬ (4 : Int32) < r4 → post (1 : Int32) X3))) X a1))))
set_option maxHeartbeats 4000000 in
set_option maxRecDepth 100000 in
theorem mt_CA_canBeOrdered (l : Launch) (hl9 : l.stackTraces = false) (dC : Nat → ClassId) (dI : Nat → Nat → Nat) (cA : Nat → ClassId) (ad : Nat → Nat) (hI : INJ ad 125) (sz : Nat) {X : ST} {a1 : Int32} {post : Int32 → ST → Prop} (hw : wp_CA_canBeOrdered post X a1) : Met l y_CA_canBeOrdered ws_CA_canBeOrdered ({ frames := 1, cells := 0, slots := 0, locals := 20 } : Room) (va_Pc [.int a1] (fun U => PC dC dI cA ad sz X U)) (va_Qi (fun r (u : ST) => post r u) (fun (u : ST) t => va_P (dC, dI) vwCl (wdC cA ad u) t.heap) (CA ad 125 sz)) 0 0 (CA ad 125 sz) := by
  refine Met.ofW (cc := c_CA_canBeOrdered) (maxL := 1) (ret := (some .boolean)) (by decide) rfl ?_
  intro p e s m args below meth c s₁ B hml hv
  obtain ⟨rfl, hsz, hP, hG⟩ := hv
  have hx := B.exec
  have hb := B.bytes
  have hr := B.returns
  have hts : ∀ w ∈ GW, w.before (([.int a1] : List Value).toArray) s = true := fun w h => atoms_spec (ws := ws_CA_canBeOrdered) B.pre w (List.mem_cons_of_mem _ h)
  have hown : s.vm.findClass R_CA = some m.cls := findClass_of_methodNamed B.named
  have hlocks := B.notSynchronized
  subst hsz
  have hK := hG.1
  have hG9 := hG
  have hNW := hG.2.1
  have hD0 : ∀ (X : ST), va_D (CA ad 125 s.heap.size) (wdC cA ad X) := fun _ => zwC_D hI
  have hS : va_S (CA ad 125 s.heap.size) s.heap s.heap [] := va_S.rf
  have hl := lv_entry ([.int a1]) (n := 1) (Nat.le_of_ble_eq_true rfl)
  rw [lg_entry_eq]
  generalize (lg_sl ([.int a1]) ++ List.replicate (1 - (lg_sl ([.int a1])).length) Slot.unset).toArray = ls at hl ⊢
  have hl : lv_has ls 1 [(0, .int a1)] := hl
  unfold wp_CA_canBeOrdered at hw
  refine lv_iload_n hx hb d_CA_canBeOrdered_0 rfl (lv_at hl 0 rfl) ?_
  refine lv_if_le (tgt := 22) hx hb d_CA_canBeOrdered_1 (by decide) (fun c1 => ?_) (fun c1 => ?_)
  · have hw := hw.1 c1
    refine lv_iconst (v := (0 : Int32)) hx hb d_CA_canBeOrdered_22 (by decide) ?_
    exact W.zret (v := (0 : Int32)) hx hb hr (by decide) (fun t ht _ => ⟨⟨(0 : Int32), X, rfl, hw, by show va_P _ _ _ t.heap; rw [ht]; exact hP⟩, hS.F ht⟩) hS.2.2 d_CA_canBeOrdered_23
  · have hw := hw.2 c1
    refine lv_iload_n hx hb d_CA_canBeOrdered_4 rfl (lv_at hl 0 rfl) ?_
    refine lv_ldc (v := (65536 : Int32)) hx hb hown (hts _ gw_70) d_CA_canBeOrdered_5 ?_
    refine lv_icmp_ge (tgt := 22) hx hb d_CA_canBeOrdered_7 (by decide) (fun c2 => ?_) (fun c2 => ?_)
    · have hw := hw.1 c2
      refine lv_iconst (v := (0 : Int32)) hx hb d_CA_canBeOrdered_22 (by decide) ?_
      exact W.zret (v := (0 : Int32)) hx hb hr (by decide) (fun t ht _ => ⟨⟨(0 : Int32), X, rfl, hw, by show va_P _ _ _ t.heap; rw [ht]; exact hP⟩, hS.F ht⟩) hS.2.2 d_CA_canBeOrdered_23
    · have hw := hw.2 c2
      refine lv_iload_n hx hb d_CA_canBeOrdered_10 rfl (lv_at hl 0 rfl) ?_
      refine va_calli (va_runS (As := [.int a1]) (rest := []) ⟨hx, hb, hml, hown, hts⟩ (mt_Int_bitCount l hl9 dC dI cA ad hI _ hw) (va_cwS 1 hts (gS gw_72 gw_73 gw_74 gw_71) rfl rfl rfl (by decide +kernel) ⟨Nat.le_of_ble_eq_true rfl, Nat.le_of_ble_eq_true rfl⟩) ⟨zwC_blind, zwC_pre hP hS hG9⟩ rfl rfl hl.1 rfl (lv_room (Nat.le_of_ble_eq_true rfl)) d_CA_canBeOrdered_11 ⟨Nat.le_of_ble_eq_true rfl, Nat.le_of_ble_eq_true rfl⟩) hS (fun q _ h => CA_le hS.1 q h) (fun q h => CA_le hS.1 q h) (fun r4 X3 t H locs ht hvm hw hP hz1 hk1 hS => ?_)
      have hP : va_P (dC, dI) vwCl (wdC cA ad X3) H := by rw [← ht]; exact hP
      try dsimp only at hw
      refine lv_iconst (v := (4 : Int32)) hx hb d_CA_canBeOrdered_14 (by decide) ?_
      refine lv_icmp_gt (tgt := 22) hx hb d_CA_canBeOrdered_15 (by decide) (fun c5 => ?_) (fun c5 => ?_)
      · have hw := hw.1 c5
        refine lv_iconst (v := (0 : Int32)) hx hb d_CA_canBeOrdered_22 (by decide) ?_
        exact W.zret (v := (0 : Int32)) hx hb hr (by decide) (fun t ht _ => ⟨⟨(0 : Int32), X3, rfl, hw, by show va_P _ _ _ t.heap; rw [ht]; exact hP⟩, hS.F ht⟩) hS.2.2 d_CA_canBeOrdered_23
      · have hw := hw.2 c5
        refine lv_iconst (v := (1 : Int32)) hx hb d_CA_canBeOrdered_18 (by decide) ?_
        refine lv_goto (tgt := 23) hx hb d_CA_canBeOrdered_19 (by decide) ?_
        exact W.zret (v := (1 : Int32)) hx hb hr (by decide) (fun t ht _ => ⟨⟨(1 : Int32), X3, rfl, hw, by show va_P _ _ _ t.heap; rw [ht]; exact hP⟩, hS.F ht⟩) hS.2.2 d_CA_canBeOrdered_23
def ws_CA_hasName : List Cond := Cond.code y_CA_hasName c_CA_hasName 2 (Option.some Jvm.ClassFile.FieldType.boolean) :: GW
theorem d_CA_hasName_0 : decode c_CA_hasName 0 = .ok (.iload_n 0, 1) := by decide +kernel
theorem d_CA_hasName_1 : decode c_CA_hasName 1 = .ok (.iload_n 1, 1) := by decide +kernel
theorem d_CA_hasName_2 : decode c_CA_hasName 2 = .ok (.ishr, 1) := by decide +kernel
theorem d_CA_hasName_3 : decode c_CA_hasName 3 = .ok (.iconst 1, 1) := by decide +kernel
theorem d_CA_hasName_4 : decode c_CA_hasName 4 = .ok (.iand, 1) := by decide +kernel
theorem d_CA_hasName_5 : decode c_CA_hasName 5 = .ok (.iconst 1, 1) := by decide +kernel
theorem d_CA_hasName_6 : decode c_CA_hasName 6 = .ok (.if_icmp .ne 7, 3) := by decide +kernel
theorem d_CA_hasName_9 : decode c_CA_hasName 9 = .ok (.iconst 1, 1) := by decide +kernel
theorem d_CA_hasName_10 : decode c_CA_hasName 10 = .ok (.goto 4, 3) := by decide +kernel
theorem d_CA_hasName_13 : decode c_CA_hasName 13 = .ok (.iconst 0, 1) := by decide +kernel
theorem d_CA_hasName_14 : decode c_CA_hasName 14 = .ok (.ireturn, 1) := by decide +kernel
def wp_CA_hasName (post : Int32 → ST → Prop) (X : ST) (a1 : Int32) (a2 : Int32) : Prop := ((((a1 >>> (a2 &&& 31)) &&& (1 : Int32)) = (1 : Int32) → post (1 : Int32) X) ∧ (¬ ((a1 >>> (a2 &&& 31)) &&& (1 : Int32)) = (1 : Int32) → post (0 : Int32) X))
set_option maxHeartbeats 4000000 in
set_option maxRecDepth 100000 in
theorem mt_CA_hasName (l : Launch) (hl9 : l.stackTraces = false) (dC : Nat → ClassId) (dI : Nat → Nat → Nat) (cA : Nat → ClassId) (ad : Nat → Nat) (hI : INJ ad 125) (sz : Nat) {X : ST} {a1 : Int32} {a2 : Int32} {post : Int32 → ST → Prop} (hw : wp_CA_hasName post X a1 a2) : Met l y_CA_hasName ws_CA_hasName ({ frames := 0, cells := 0, slots := 0, locals := 0 } : Room) (va_Pc [.int a1, .int a2] (fun U => PC dC dI cA ad sz X U)) (va_Qi (fun r (u : ST) => post r u) (fun (u : ST) t => va_P (dC, dI) vwCl (wdC cA ad u) t.heap) (CA ad 125 sz)) 0 0 (CA ad 125 sz) := by
  refine Met.ofW (cc := c_CA_hasName) (maxL := 2) (ret := (some .boolean)) (by decide) rfl ?_
  intro p e s m args below meth c s₁ B hml hv
  obtain ⟨rfl, hsz, hP, hG⟩ := hv
  have hx := B.exec
  have hb := B.bytes
  have hr := B.returns
  have hts : ∀ w ∈ GW, w.before (([.int a1, .int a2] : List Value).toArray) s = true := fun w h => atoms_spec (ws := ws_CA_hasName) B.pre w (List.mem_cons_of_mem _ h)
  have hown : s.vm.findClass R_CA = some m.cls := findClass_of_methodNamed B.named
  have hlocks := B.notSynchronized
  subst hsz
  have hK := hG.1
  have hG9 := hG
  have hNW := hG.2.1
  have hD0 : ∀ (X : ST), va_D (CA ad 125 s.heap.size) (wdC cA ad X) := fun _ => zwC_D hI
  have hS : va_S (CA ad 125 s.heap.size) s.heap s.heap [] := va_S.rf
  have hl := lv_entry ([.int a1, .int a2]) (n := 2) (Nat.le_of_ble_eq_true rfl)
  rw [lg_entry_eq]
  generalize (lg_sl ([.int a1, .int a2]) ++ List.replicate (2 - (lg_sl ([.int a1, .int a2])).length) Slot.unset).toArray = ls at hl ⊢
  have hl : lv_has ls 2 [(0, .int a1), (1, .int a2)] := hl
  unfold wp_CA_hasName at hw
  refine lv_iload_n hx hb d_CA_hasName_0 rfl (lv_at hl 0 rfl) ?_
  refine lv_iload_n hx hb d_CA_hasName_1 rfl (lv_at hl 1 rfl) ?_
  refine lv_ishr hx hb d_CA_hasName_2 ?_
  refine lv_iconst (v := (1 : Int32)) hx hb d_CA_hasName_3 (by decide) ?_
  refine lv_iand hx hb d_CA_hasName_4 ?_
  refine lv_iconst (v := (1 : Int32)) hx hb d_CA_hasName_5 (by decide) ?_
  refine lv_icmp_ne (tgt := 13) hx hb d_CA_hasName_6 (by decide) (fun c1 => ?_) (fun c1 => ?_)
  · have hw := hw.2 c1
    refine lv_iconst (v := (0 : Int32)) hx hb d_CA_hasName_13 (by decide) ?_
    exact W.zret (v := (0 : Int32)) hx hb hr (by decide) (fun t ht _ => ⟨⟨(0 : Int32), X, rfl, hw, by show va_P _ _ _ t.heap; rw [ht]; exact hP⟩, hS.F ht⟩) hS.2.2 d_CA_hasName_14
  · have hw := hw.1 c1
    refine lv_iconst (v := (1 : Int32)) hx hb d_CA_hasName_9 (by decide) ?_
    refine lv_goto (tgt := 14) hx hb d_CA_hasName_10 (by decide) ?_
    exact W.zret (v := (1 : Int32)) hx hb hr (by decide) (fun t ht _ => ⟨⟨(1 : Int32), X, rfl, hw, by show va_P _ _ _ t.heap; rw [ht]; exact hP⟩, hS.F ht⟩) hS.2.2 d_CA_hasName_14
def ws_CA_newestValid : List Cond := Cond.code y_CA_newestValid c_CA_newestValid 5 (Option.some Jvm.ClassFile.FieldType.int) :: GW
theorem d_CA_newestValid_0 : decode c_CA_newestValid 0 = .ok (.aload_n 0, 1) := by decide +kernel
theorem d_CA_newestValid_1 : decode c_CA_newestValid 1 = .ok (.getfield 136, 3) := by decide +kernel
theorem d_CA_newestValid_4 : decode c_CA_newestValid 4 = .ok (.iconst 1, 1) := by decide +kernel
theorem d_CA_newestValid_5 : decode c_CA_newestValid 5 = .ok (.isub, 1) := by decide +kernel
theorem d_CA_newestValid_6 : decode c_CA_newestValid 6 = .ok (.istore_n 3, 1) := by decide +kernel
theorem d_CA_newestValid_7 : decode c_CA_newestValid 7 = .ok (.iload_n 3, 1) := by decide +kernel
theorem d_CA_newestValid_8 : decode c_CA_newestValid 8 = .ok (.ifCond .lt 46, 3) := by decide +kernel
theorem d_CA_newestValid_11 : decode c_CA_newestValid 11 = .ok (.aload_n 0, 1) := by decide +kernel
theorem d_CA_newestValid_12 : decode c_CA_newestValid 12 = .ok (.getfield 23, 3) := by decide +kernel
theorem d_CA_newestValid_15 : decode c_CA_newestValid 15 = .ok (.iload_n 3, 1) := by decide +kernel
theorem d_CA_newestValid_16 : decode c_CA_newestValid 16 = .ok (.aaload, 1) := by decide +kernel
theorem d_CA_newestValid_17 : decode c_CA_newestValid 17 = .ok (.astore 4, 2) := by decide +kernel
theorem d_CA_newestValid_19 : decode c_CA_newestValid 19 = .ok (.aload 4, 2) := by decide +kernel
theorem d_CA_newestValid_21 : decode c_CA_newestValid 21 = .ok (.getfield 156, 3) := by decide +kernel
theorem d_CA_newestValid_24 : decode c_CA_newestValid 24 = .ok (.iload_n 1, 1) := by decide +kernel
theorem d_CA_newestValid_25 : decode c_CA_newestValid 25 = .ok (.if_icmp .ne 23, 3) := by decide +kernel
theorem d_CA_newestValid_28 : decode c_CA_newestValid 28 = .ok (.aload 4, 2) := by decide +kernel
theorem d_CA_newestValid_30 : decode c_CA_newestValid 30 = .ok (.getfield 257, 3) := by decide +kernel
theorem d_CA_newestValid_33 : decode c_CA_newestValid 33 = .ok (.iload_n 2, 1) := by decide +kernel
theorem d_CA_newestValid_34 : decode c_CA_newestValid 34 = .ok (.if_icmp .ne 14, 3) := by decide +kernel
theorem d_CA_newestValid_37 : decode c_CA_newestValid 37 = .ok (.aload 4, 2) := by decide +kernel
theorem d_CA_newestValid_39 : decode c_CA_newestValid 39 = .ok (.getfield 159, 3) := by decide +kernel
theorem d_CA_newestValid_42 : decode c_CA_newestValid 42 = .ok (.iconst 1, 1) := by decide +kernel
theorem d_CA_newestValid_43 : decode c_CA_newestValid 43 = .ok (.if_icmp .ne 5, 3) := by decide +kernel
theorem d_CA_newestValid_46 : decode c_CA_newestValid 46 = .ok (.iload_n 3, 1) := by decide +kernel
theorem d_CA_newestValid_47 : decode c_CA_newestValid 47 = .ok (.ireturn, 1) := by decide +kernel
theorem d_CA_newestValid_48 : decode c_CA_newestValid 48 = .ok (.iinc 3 (-1), 3) := by decide +kernel
theorem d_CA_newestValid_51 : decode c_CA_newestValid 51 = .ok (.goto (-44), 3) := by decide +kernel
theorem d_CA_newestValid_54 : decode c_CA_newestValid 54 = .ok (.iconst (-1), 1) := by decide +kernel
theorem d_CA_newestValid_55 : decode c_CA_newestValid 55 = .ok (.ireturn, 1) := by decide +kernel
def wq_CA_newestValid_7 (post : Int32 → ST → Prop) (v1 : Int32) (v2 : Int32) : Nat → Int32 → ST → Prop
  | 0 => fun _ _ => False
  | n + 1 => fun v3 X => ((v3 < 0 → post (-1 : Int32) X) ∧ (¬ v3 < 0 → (vp_in v3 24 ∧ (((X 31 v3.toNatClampNeg) = v1 → (((X 32 v3.toNatClampNeg) = v2 → (((X 30 v3.toNatClampNeg) = (1 : Int32) → post v3 X) ∧ (¬ (X 30 v3.toNatClampNeg) = (1 : Int32) → wq_CA_newestValid_7 post v1 v2 n (v3 + (-1 : Int32)) X))) ∧ (¬ (X 32 v3.toNatClampNeg) = v2 → wq_CA_newestValid_7 post v1 v2 n (v3 + (-1 : Int32)) X))) ∧ (¬ (X 31 v3.toNatClampNeg) = v1 → wq_CA_newestValid_7 post v1 v2 n (v3 + (-1 : Int32)) X)))))
def wp_CA_newestValid (post : Int32 → ST → Prop) (X : ST) (a1 : Int32) (a2 : Int32) : Prop := (∃ n9, wq_CA_newestValid_7 post a1 a2 n9 ((X 4 0) - (1 : Int32)) X)
set_option maxHeartbeats 4000000 in
set_option maxRecDepth 100000 in
theorem mt_CA_newestValid (l : Launch) (hl9 : l.stackTraces = false) (dC : Nat → ClassId) (dI : Nat → Nat → Nat) (cA : Nat → ClassId) (ad : Nat → Nat) (hI : INJ ad 125) (sz : Nat) {X : ST} {a1 : Int32} {a2 : Int32} {post : Int32 → ST → Prop} (hw : wp_CA_newestValid post X a1 a2) : Met l y_CA_newestValid ws_CA_newestValid ({ frames := 0, cells := 0, slots := 0, locals := 0 } : Room) (va_Pc [.ref (ad 0), .int a1, .int a2] (fun U => PC dC dI cA ad sz X U)) (va_Qi (fun r (u : ST) => post r u) (fun (u : ST) t => va_P (dC, dI) vwCl (wdC cA ad u) t.heap) (CA ad 125 sz)) 0 0 (CA ad 125 sz) := by
  refine Met.ofW (cc := c_CA_newestValid) (maxL := 5) (ret := (some .int)) (by decide) rfl ?_
  intro p e s m args below meth c s₁ B hml hv
  obtain ⟨rfl, hsz, hP, hG⟩ := hv
  have hx := B.exec
  have hb := B.bytes
  have hr := B.returns
  have hts : ∀ w ∈ GW, w.before (([.ref (ad 0), .int a1, .int a2] : List Value).toArray) s = true := fun w h => atoms_spec (ws := ws_CA_newestValid) B.pre w (List.mem_cons_of_mem _ h)
  have hown : s.vm.findClass R_CA = some m.cls := findClass_of_methodNamed B.named
  have hlocks := B.notSynchronized
  subst hsz
  have hK := hG.1
  have hG9 := hG
  have hNW := hG.2.1
  have hD0 : ∀ (X : ST), va_D (CA ad 125 s.heap.size) (wdC cA ad X) := fun _ => zwC_D hI
  have hS : va_S (CA ad 125 s.heap.size) s.heap s.heap [] := va_S.rf
  have hl := lv_entry ([.ref (ad 0), .int a1, .int a2]) (n := 5) (Nat.le_of_ble_eq_true rfl)
  rw [lg_entry_eq]
  generalize (lg_sl ([.ref (ad 0), .int a1, .int a2]) ++ List.replicate (5 - (lg_sl ([.ref (ad 0), .int a1, .int a2])).length) Slot.unset).toArray = ls at hl ⊢
  have hl : lv_has ls 5 [(0, .ref (ad 0)), (1, .int a1), (2, .int a2)] := hl
  have L7 : ∀ (v1 : Int32) (v2 : Int32), ∀ (n : Nat), ∀ (v3 : Int32) (X : ST) (H : Heap) (locs : List Loc) (ls : Array Slot), wq_CA_newestValid_7 post v1 v2 n v3 X → va_P (dC, dI) vwCl (wdC cA ad X) H → va_S (CA ad 125 s.heap.size) s.heap H locs → lv_has ls 5 [(0, .ref (ad 0)), (1, .int v1), (2, .int v2), (3, .int v3)] → W p l e (headSpec ws_CA_newestValid ({ frames := 0, cells := 0, slots := 0, locals := 0 } : Room)).room s m (([.ref (ad 0), .int a1, .int a2] : List Value).toArray) below meth c H locs 0 0 (MQ below (va_Qi (fun r (u : ST) => post r u) (fun (u : ST) t => va_P (dC, dI) vwCl (wdC cA ad u) t.heap) (CA ad 125 s.heap.size)) (([.ref (ad 0), .int a1, .int a2] : List Value).toArray) s 0 0 (CA ad 125 s.heap.size)) (F0 m 7 ls []) := by
    intro v1 v2 n
    induction n with
    | zero => intro v3 X H locs ls hw hP hS hl; exact False.elim hw
    | succ n ih =>
      intro v3 X H locs ls hw hP hS hl
      dsimp only [wq_CA_newestValid_7] at hw
      refine lv_iload_n hx hb d_CA_newestValid_7 rfl (lv_at hl 3 rfl) ?_
      refine lv_if_lt (tgt := 54) hx hb d_CA_newestValid_8 (by decide) (fun c1 => ?_) (fun c1 => ?_)
      · have hw := hw.1 c1
        refine lv_iconst (v := (-1 : Int32)) hx hb d_CA_newestValid_54 (by decide) ?_
        exact W.iret (v := (-1 : Int32)) hx hb hr (fun t ht _ => ⟨⟨(-1 : Int32), X, rfl, hw, by show va_P _ _ _ t.heap; rw [ht]; exact hP⟩, hS.F ht⟩) hS.2.2 d_CA_newestValid_55
      · have hw := hw.2 c1
        refine lv_aload_n hx hb d_CA_newestValid_11 rfl (lv_at hl 0 rfl) ?_
        refine va_get (D := (dC, dI)) (ci := 0) (v := .ref (ad 3)) (C := R_CA) (T := T_CA) (N := 14) hx hb hts in_CA hown hK hP (0) atC_CA rfl 8 (by decide) (hts _ gw_75) (fun _ h9 => h9) rfl d_CA_newestValid_12 ?_
        refine lv_iload_n hx hb d_CA_newestValid_15 rfl (lv_at hl 3 rfl) ?_
        obtain ⟨h2, hw⟩ := hw
        refine va_aldq hx hb hK hP (3) 2 atC_aAut rfl h2 d_CA_newestValid_16 ?_
        refine W.eq (g2 := F0 m 17 ls [.ref (ad (41 + v3.toNatClampNeg))]) rfl ?_
        refine lv_astore (lv' := [(4, .ref (ad (41 + v3.toNatClampNeg))), (0, .ref (ad 0)), (1, .int v1), (2, .int v2), (3, .int v3)]) hx hb d_CA_newestValid_17 hl (by decide) rfl (fun ls hl => ?_)
        refine lv_aload hx hb d_CA_newestValid_19 (lv_at hl 0 rfl) ?_
        refine va_get (D := (dC, dI)) (ci := 6) (v := .int (X 31 v3.toNatClampNeg)) (C := R_Aut) (T := T_Aut) (N := 4) hx hb hts in_Aut hown hK hP (41 + v3.toNatClampNeg) (atC_Aut (zw_lt h2)) rfl 1 (by decide) (hts _ gw_76) (fun _ h9 => h9) rfl d_CA_newestValid_21 ?_
        refine lv_iload_n hx hb d_CA_newestValid_24 rfl (lv_at hl 2 rfl) ?_
        refine lv_icmp_ne (tgt := 48) hx hb d_CA_newestValid_25 (by decide) (fun c3 => ?_) (fun c3 => ?_)
        · have hw := hw.2 c3
          refine lv_iinc (k := 4) (v := v3 + (-1 : Int32)) (lv' := [(3, .int (v3 + (-1 : Int32))), (4, .ref (ad (41 + v3.toNatClampNeg))), (0, .ref (ad 0)), (1, .int v1), (2, .int v2)]) hx hb d_CA_newestValid_48 hl rfl rfl (by decide) rfl (fun ls hl => ?_)
          refine lv_goto (tgt := 7) hx hb d_CA_newestValid_51 (by decide) ?_
          have hl := lv_sub hl (l' := [(0, .ref (ad 0)), (1, .int v1), (2, .int v2), (3, .int (v3 + (-1 : Int32)))]) [2, 3, 4, 0] rfl
          exact ih _ _ _ _ _ hw hP hS hl
        · have hw := hw.1 c3
          refine lv_aload hx hb d_CA_newestValid_28 (lv_at hl 0 rfl) ?_
          refine va_get (D := (dC, dI)) (ci := 6) (v := .int (X 32 v3.toNatClampNeg)) (C := R_Aut) (T := T_Aut) (N := 4) hx hb hts in_Aut hown hK hP (41 + v3.toNatClampNeg) (atC_Aut (zw_lt h2)) rfl 2 (by decide) (hts _ gw_77) (fun _ h9 => h9) rfl d_CA_newestValid_30 ?_
          refine lv_iload_n hx hb d_CA_newestValid_33 rfl (lv_at hl 3 rfl) ?_
          refine lv_icmp_ne (tgt := 48) hx hb d_CA_newestValid_34 (by decide) (fun c4 => ?_) (fun c4 => ?_)
          · have hw := hw.2 c4
            refine lv_iinc (k := 4) (v := v3 + (-1 : Int32)) (lv' := [(3, .int (v3 + (-1 : Int32))), (4, .ref (ad (41 + v3.toNatClampNeg))), (0, .ref (ad 0)), (1, .int v1), (2, .int v2)]) hx hb d_CA_newestValid_48 hl rfl rfl (by decide) rfl (fun ls hl => ?_)
            refine lv_goto (tgt := 7) hx hb d_CA_newestValid_51 (by decide) ?_
            have hl := lv_sub hl (l' := [(0, .ref (ad 0)), (1, .int v1), (2, .int v2), (3, .int (v3 + (-1 : Int32)))]) [2, 3, 4, 0] rfl
            exact ih _ _ _ _ _ hw hP hS hl
          · have hw := hw.1 c4
            refine lv_aload hx hb d_CA_newestValid_37 (lv_at hl 0 rfl) ?_
            refine va_get (D := (dC, dI)) (ci := 6) (v := .int (X 30 v3.toNatClampNeg)) (C := R_Aut) (T := T_Aut) (N := 4) hx hb hts in_Aut hown hK hP (41 + v3.toNatClampNeg) (atC_Aut (zw_lt h2)) rfl 0 (by decide) (hts _ gw_78) (fun _ h9 => h9) rfl d_CA_newestValid_39 ?_
            refine lv_iconst (v := (1 : Int32)) hx hb d_CA_newestValid_42 (by decide) ?_
            refine lv_icmp_ne (tgt := 48) hx hb d_CA_newestValid_43 (by decide) (fun c5 => ?_) (fun c5 => ?_)
            · have hw := hw.2 c5
              refine lv_iinc (k := 4) (v := v3 + (-1 : Int32)) (lv' := [(3, .int (v3 + (-1 : Int32))), (4, .ref (ad (41 + v3.toNatClampNeg))), (0, .ref (ad 0)), (1, .int v1), (2, .int v2)]) hx hb d_CA_newestValid_48 hl rfl rfl (by decide) rfl (fun ls hl => ?_)
              refine lv_goto (tgt := 7) hx hb d_CA_newestValid_51 (by decide) ?_
              have hl := lv_sub hl (l' := [(0, .ref (ad 0)), (1, .int v1), (2, .int v2), (3, .int (v3 + (-1 : Int32)))]) [2, 3, 4, 0] rfl
              exact ih _ _ _ _ _ hw hP hS hl
            · have hw := hw.1 c5
              refine lv_iload_n hx hb d_CA_newestValid_46 rfl (lv_at hl 4 rfl) ?_
              exact W.iret (v := v3) hx hb hr (fun t ht _ => ⟨⟨v3, X, rfl, hw, by show va_P _ _ _ t.heap; rw [ht]; exact hP⟩, hS.F ht⟩) hS.2.2 d_CA_newestValid_47
  unfold wp_CA_newestValid at hw
  refine lv_aload_n hx hb d_CA_newestValid_0 rfl (lv_at hl 0 rfl) ?_
  refine va_get (D := (dC, dI)) (ci := 0) (v := .int (X 4 0)) (C := R_CA) (T := T_CA) (N := 14) hx hb hts in_CA hown hK hP (0) atC_CA rfl 4 (by decide) (hts _ gw_79) (fun _ h9 => h9) rfl d_CA_newestValid_1 ?_
  refine lv_iconst (v := (1 : Int32)) hx hb d_CA_newestValid_4 (by decide) ?_
  refine lv_isub hx hb d_CA_newestValid_5 ?_
  refine lv_istore_n (lv' := [(3, .int ((X 4 0) - (1 : Int32))), (0, .ref (ad 0)), (1, .int a1), (2, .int a2)]) hx hb d_CA_newestValid_6 rfl hl (by decide) rfl (fun ls hl => ?_)
  have hl := lv_sub hl (l' := [(0, .ref (ad 0)), (1, .int a1), (2, .int a2), (3, .int ((X 4 0) - (1 : Int32)))]) [1, 2, 3, 0] rfl
  obtain ⟨n9, hw⟩ := hw
  exact L7 _ _ n9 _ _ _ _ _ hw hP hS hl
def ws_CA_missingAuthorizations : List Cond := Cond.code y_CA_missingAuthorizations c_CA_missingAuthorizations 5 (Option.some Jvm.ClassFile.FieldType.int) :: GW
theorem d_CA_missingAuthorizations_0 : decode c_CA_missingAuthorizations 0 = .ok (.iconst 0, 1) := by decide +kernel
theorem d_CA_missingAuthorizations_1 : decode c_CA_missingAuthorizations 1 = .ok (.istore_n 3, 1) := by decide +kernel
theorem d_CA_missingAuthorizations_2 : decode c_CA_missingAuthorizations 2 = .ok (.iconst 0, 1) := by decide +kernel
theorem d_CA_missingAuthorizations_3 : decode c_CA_missingAuthorizations 3 = .ok (.istore 4, 2) := by decide +kernel
theorem d_CA_missingAuthorizations_5 : decode c_CA_missingAuthorizations 5 = .ok (.iload 4, 2) := by decide +kernel
theorem d_CA_missingAuthorizations_7 : decode c_CA_missingAuthorizations 7 = .ok (.bipush 16, 2) := by decide +kernel
theorem d_CA_missingAuthorizations_9 : decode c_CA_missingAuthorizations 9 = .ok (.if_icmp .ge 32, 3) := by decide +kernel
theorem d_CA_missingAuthorizations_12 : decode c_CA_missingAuthorizations 12 = .ok (.iload_n 2, 1) := by decide +kernel
theorem d_CA_missingAuthorizations_13 : decode c_CA_missingAuthorizations 13 = .ok (.iload 4, 2) := by decide +kernel
theorem d_CA_missingAuthorizations_15 : decode c_CA_missingAuthorizations 15 = .ok (.invokestatic 260, 3) := by decide +kernel
theorem d_CA_missingAuthorizations_18 : decode c_CA_missingAuthorizations 18 = .ok (.ifCond .eq 17, 3) := by decide +kernel
theorem d_CA_missingAuthorizations_21 : decode c_CA_missingAuthorizations 21 = .ok (.aload_n 0, 1) := by decide +kernel
theorem d_CA_missingAuthorizations_22 : decode c_CA_missingAuthorizations 22 = .ok (.iload_n 1, 1) := by decide +kernel
theorem d_CA_missingAuthorizations_23 : decode c_CA_missingAuthorizations 23 = .ok (.iload 4, 2) := by decide +kernel
theorem d_CA_missingAuthorizations_25 : decode c_CA_missingAuthorizations 25 = .ok (.invokevirtual 264, 3) := by decide +kernel
theorem d_CA_missingAuthorizations_28 : decode c_CA_missingAuthorizations 28 = .ok (.iconst (-1), 1) := by decide +kernel
theorem d_CA_missingAuthorizations_29 : decode c_CA_missingAuthorizations 29 = .ok (.if_icmp .ne 6, 3) := by decide +kernel
theorem d_CA_missingAuthorizations_32 : decode c_CA_missingAuthorizations 32 = .ok (.iinc 3 1, 3) := by decide +kernel
theorem d_CA_missingAuthorizations_35 : decode c_CA_missingAuthorizations 35 = .ok (.iinc 4 1, 3) := by decide +kernel
theorem d_CA_missingAuthorizations_38 : decode c_CA_missingAuthorizations 38 = .ok (.goto (-33), 3) := by decide +kernel
theorem d_CA_missingAuthorizations_41 : decode c_CA_missingAuthorizations 41 = .ok (.iload_n 3, 1) := by decide +kernel
theorem d_CA_missingAuthorizations_42 : decode c_CA_missingAuthorizations 42 = .ok (.ireturn, 1) := by decide +kernel
def wq_CA_missingAuthorizations_5 (post : Int32 → ST → Prop) (v1 : Int32) (v2 : Int32) : Nat → Int32 → Int32 → ST → Prop
  | 0 => fun _ _ _ => False
  | n + 1 => fun v3 v4 X => (((16 : Int32) ≤ v4 → post v3 X) ∧ (¬ (16 : Int32) ≤ v4 → wp_CA_hasName (fun (r3 : Int32) (X2 : ST) => ((r3 = 0 → wq_CA_missingAuthorizations_5 post v1 v2 n v3 (v4 + (1 : Int32)) X2) ∧ (¬ r3 = 0 → wp_CA_newestValid (fun (r6 : Int32) (X5 : ST) => ((r6 = (-1 : Int32) → wq_CA_missingAuthorizations_5 post v1 v2 n (v3 + (1 : Int32)) (v4 + (1 : Int32)) X5) ∧ (¬ r6 = (-1 : Int32) → wq_CA_missingAuthorizations_5 post v1 v2 n v3 (v4 + (1 : Int32)) X5))) X2 v1 v4))) X v2 v4))
def wp_CA_missingAuthorizations (post : Int32 → ST → Prop) (X : ST) (a1 : Int32) (a2 : Int32) : Prop := (∃ n9, wq_CA_missingAuthorizations_5 post a1 a2 n9 (0 : Int32) (0 : Int32) X)
set_option maxHeartbeats 4000000 in
set_option maxRecDepth 100000 in
theorem mt_CA_missingAuthorizations (l : Launch) (hl9 : l.stackTraces = false) (dC : Nat → ClassId) (dI : Nat → Nat → Nat) (cA : Nat → ClassId) (ad : Nat → Nat) (hI : INJ ad 125) (sz : Nat) {X : ST} {a1 : Int32} {a2 : Int32} {post : Int32 → ST → Prop} (hw : wp_CA_missingAuthorizations post X a1 a2) : Met l y_CA_missingAuthorizations ws_CA_missingAuthorizations ({ frames := 1, cells := 0, slots := 0, locals := 24 } : Room) (va_Pc [.ref (ad 0), .int a1, .int a2] (fun U => PC dC dI cA ad sz X U)) (va_Qi (fun r (u : ST) => post r u) (fun (u : ST) t => va_P (dC, dI) vwCl (wdC cA ad u) t.heap) (CA ad 125 sz)) 0 0 (CA ad 125 sz) := by
  refine Met.ofW (cc := c_CA_missingAuthorizations) (maxL := 5) (ret := (some .int)) (by decide) rfl ?_
  intro p e s m args below meth c s₁ B hml hv
  obtain ⟨rfl, hsz, hP, hG⟩ := hv
  have hx := B.exec
  have hb := B.bytes
  have hr := B.returns
  have hts : ∀ w ∈ GW, w.before (([.ref (ad 0), .int a1, .int a2] : List Value).toArray) s = true := fun w h => atoms_spec (ws := ws_CA_missingAuthorizations) B.pre w (List.mem_cons_of_mem _ h)
  have hown : s.vm.findClass R_CA = some m.cls := findClass_of_methodNamed B.named
  have hlocks := B.notSynchronized
  subst hsz
  have hK := hG.1
  have hG9 := hG
  have hNW := hG.2.1
  have hD0 : ∀ (X : ST), va_D (CA ad 125 s.heap.size) (wdC cA ad X) := fun _ => zwC_D hI
  have hS : va_S (CA ad 125 s.heap.size) s.heap s.heap [] := va_S.rf
  have hl := lv_entry ([.ref (ad 0), .int a1, .int a2]) (n := 5) (Nat.le_of_ble_eq_true rfl)
  rw [lg_entry_eq]
  generalize (lg_sl ([.ref (ad 0), .int a1, .int a2]) ++ List.replicate (5 - (lg_sl ([.ref (ad 0), .int a1, .int a2])).length) Slot.unset).toArray = ls at hl ⊢
  have hl : lv_has ls 5 [(0, .ref (ad 0)), (1, .int a1), (2, .int a2)] := hl
  have L5 : ∀ (v1 : Int32) (v2 : Int32), ∀ (n : Nat), ∀ (v3 : Int32) (v4 : Int32) (X : ST) (H : Heap) (locs : List Loc) (ls : Array Slot), wq_CA_missingAuthorizations_5 post v1 v2 n v3 v4 X → va_P (dC, dI) vwCl (wdC cA ad X) H → va_S (CA ad 125 s.heap.size) s.heap H locs → lv_has ls 5 [(0, .ref (ad 0)), (1, .int v1), (2, .int v2), (3, .int v3), (4, .int v4)] → W p l e (headSpec ws_CA_missingAuthorizations ({ frames := 1, cells := 0, slots := 0, locals := 24 } : Room)).room s m (([.ref (ad 0), .int a1, .int a2] : List Value).toArray) below meth c H locs 0 0 (MQ below (va_Qi (fun r (u : ST) => post r u) (fun (u : ST) t => va_P (dC, dI) vwCl (wdC cA ad u) t.heap) (CA ad 125 s.heap.size)) (([.ref (ad 0), .int a1, .int a2] : List Value).toArray) s 0 0 (CA ad 125 s.heap.size)) (F0 m 5 ls []) := by
    intro v1 v2 n
    induction n with
    | zero => intro v3 v4 X H locs ls hw hP hS hl; exact False.elim hw
    | succ n ih =>
      intro v3 v4 X H locs ls hw hP hS hl
      dsimp only [wq_CA_missingAuthorizations_5] at hw
      refine lv_iload hx hb d_CA_missingAuthorizations_5 (lv_at hl 4 rfl) ?_
      refine lv_bipush (v := (16 : Int32)) hx hb d_CA_missingAuthorizations_7 (by decide) ?_
      refine lv_icmp_ge (tgt := 41) hx hb d_CA_missingAuthorizations_9 (by decide) (fun c1 => ?_) (fun c1 => ?_)
      · have hw := hw.1 c1
        refine lv_iload_n hx hb d_CA_missingAuthorizations_41 rfl (lv_at hl 3 rfl) ?_
        exact W.iret (v := v3) hx hb hr (fun t ht _ => ⟨⟨v3, X, rfl, hw, by show va_P _ _ _ t.heap; rw [ht]; exact hP⟩, hS.F ht⟩) hS.2.2 d_CA_missingAuthorizations_42
      · have hw := hw.2 c1
        refine lv_iload_n hx hb d_CA_missingAuthorizations_12 rfl (lv_at hl 2 rfl) ?_
        refine lv_iload hx hb d_CA_missingAuthorizations_13 (lv_at hl 4 rfl) ?_
        refine va_calli (va_runS (As := [.int v2, .int v4]) (rest := []) ⟨hx, hb, hml, hown, hts⟩ (mt_CA_hasName l hl9 dC dI cA ad hI _ hw) (va_cwS 2 hts (gS gw_81 gw_82 gw_13 gw_80) rfl rfl rfl (by decide +kernel) ⟨Nat.le_of_ble_eq_true rfl, Nat.le_of_ble_eq_true rfl⟩) ⟨zwC_blind, zwC_pre hP hS hG9⟩ rfl rfl hl.1 rfl (lv_room (Nat.le_of_ble_eq_true rfl)) d_CA_missingAuthorizations_15 ⟨Nat.le_of_ble_eq_true rfl, Nat.le_of_ble_eq_true rfl⟩) hS (fun q _ h => CA_le hS.1 q h) (fun q h => CA_le hS.1 q h) (fun r3 X2 t H locs ht hvm hw hP hz1 hk1 hS => ?_)
        have hP : va_P (dC, dI) vwCl (wdC cA ad X2) H := by rw [← ht]; exact hP
        try dsimp only at hw
        refine lv_if_eq (tgt := 35) hx hb d_CA_missingAuthorizations_18 (by decide) (fun c4 => ?_) (fun c4 => ?_)
        · have hw := hw.1 c4
          refine lv_iinc (k := 4) (v := v4 + (1 : Int32)) (lv' := [(4, .int (v4 + (1 : Int32))), (0, .ref (ad 0)), (1, .int v1), (2, .int v2), (3, .int v3)]) hx hb d_CA_missingAuthorizations_35 hl rfl rfl (by decide) rfl (fun ls hl => ?_)
          refine lv_goto (tgt := 5) hx hb d_CA_missingAuthorizations_38 (by decide) ?_
          have hl := lv_sub hl (l' := [(0, .ref (ad 0)), (1, .int v1), (2, .int v2), (3, .int v3), (4, .int (v4 + (1 : Int32)))]) [1, 2, 3, 4, 0] rfl
          exact ih _ _ _ _ _ _ hw hP hS hl
        · have hw := hw.2 c4
          refine lv_aload_n hx hb d_CA_missingAuthorizations_21 rfl (lv_at hl 0 rfl) ?_
          refine lv_iload_n hx hb d_CA_missingAuthorizations_22 rfl (lv_at hl 1 rfl) ?_
          refine lv_iload hx hb d_CA_missingAuthorizations_23 (lv_at hl 4 rfl) ?_
          refine va_calli (va_runV (As := [.int v1, .int v4]) (rest := []) ⟨hx, hb, hml, hown, hts⟩ (mt_CA_newestValid l hl9 dC dI cA ad hI _ hw) (cwV 2 hts (gV gw_84 gw_85 gw_86 gw_13 gw_83) rfl rfl rfl (by decide +kernel) ⟨Nat.le_of_ble_eq_true rfl, Nat.le_of_ble_eq_true rfl⟩) ⟨zwC_blind, va_recv hK hP (ci := 0) (q0 := 0) rfl atC_CA, zwC_pre hP hS hG9⟩ rfl rfl hl.1 rfl (lv_room (Nat.le_of_ble_eq_true rfl)) d_CA_missingAuthorizations_25 ⟨Nat.le_of_ble_eq_true rfl, Nat.le_of_ble_eq_true rfl⟩) hS (fun q _ h => CA_le hS.1 q h) (fun q h => CA_le hS.1 q h) (fun r6 X5 t H locs ht hvm hw hP hz1 hk1 hS => ?_)
          have hP : va_P (dC, dI) vwCl (wdC cA ad X5) H := by rw [← ht]; exact hP
          try dsimp only at hw
          refine lv_iconst (v := (-1 : Int32)) hx hb d_CA_missingAuthorizations_28 (by decide) ?_
          refine lv_icmp_ne (tgt := 35) hx hb d_CA_missingAuthorizations_29 (by decide) (fun c7 => ?_) (fun c7 => ?_)
          · have hw := hw.2 c7
            refine lv_iinc (k := 4) (v := v4 + (1 : Int32)) (lv' := [(4, .int (v4 + (1 : Int32))), (0, .ref (ad 0)), (1, .int v1), (2, .int v2), (3, .int v3)]) hx hb d_CA_missingAuthorizations_35 hl rfl rfl (by decide) rfl (fun ls hl => ?_)
            refine lv_goto (tgt := 5) hx hb d_CA_missingAuthorizations_38 (by decide) ?_
            have hl := lv_sub hl (l' := [(0, .ref (ad 0)), (1, .int v1), (2, .int v2), (3, .int v3), (4, .int (v4 + (1 : Int32)))]) [1, 2, 3, 4, 0] rfl
            exact ih _ _ _ _ _ _ hw hP hS hl
          · have hw := hw.1 c7
            refine lv_iinc (k := 3) (v := v3 + (1 : Int32)) (lv' := [(3, .int (v3 + (1 : Int32))), (0, .ref (ad 0)), (1, .int v1), (2, .int v2), (4, .int v4)]) hx hb d_CA_missingAuthorizations_32 hl rfl rfl (by decide) rfl (fun ls hl => ?_)
            refine lv_iinc (k := 4) (v := v4 + (1 : Int32)) (lv' := [(4, .int (v4 + (1 : Int32))), (3, .int (v3 + (1 : Int32))), (0, .ref (ad 0)), (1, .int v1), (2, .int v2)]) hx hb d_CA_missingAuthorizations_35 hl rfl rfl (by decide) rfl (fun ls hl => ?_)
            refine lv_goto (tgt := 5) hx hb d_CA_missingAuthorizations_38 (by decide) ?_
            have hl := lv_sub hl (l' := [(0, .ref (ad 0)), (1, .int v1), (2, .int v2), (3, .int (v3 + (1 : Int32))), (4, .int (v4 + (1 : Int32)))]) [2, 3, 4, 1, 0] rfl
            exact ih _ _ _ _ _ _ hw hP hS hl
  unfold wp_CA_missingAuthorizations at hw
  refine lv_iconst (v := (0 : Int32)) hx hb d_CA_missingAuthorizations_0 (by decide) ?_
  refine lv_istore_n (lv' := [(3, .int (0 : Int32)), (0, .ref (ad 0)), (1, .int a1), (2, .int a2)]) hx hb d_CA_missingAuthorizations_1 rfl hl (by decide) rfl (fun ls hl => ?_)
  refine lv_iconst (v := (0 : Int32)) hx hb d_CA_missingAuthorizations_2 (by decide) ?_
  refine lv_istore (lv' := [(4, .int (0 : Int32)), (3, .int (0 : Int32)), (0, .ref (ad 0)), (1, .int a1), (2, .int a2)]) hx hb d_CA_missingAuthorizations_3 hl (by decide) rfl (fun ls hl => ?_)
  have hl := lv_sub hl (l' := [(0, .ref (ad 0)), (1, .int a1), (2, .int a2), (3, .int (0 : Int32)), (4, .int (0 : Int32))]) [2, 3, 4, 1, 0] rfl
  obtain ⟨n9, hw⟩ := hw
  exact L5 _ _ n9 _ _ _ _ _ _ hw hP hS hl
