def ws_Aut_expireAt : List Cond := Cond.code y_Aut_expireAt c_Aut_expireAt 2 (Option.none : Option Jvm.ClassFile.FieldType) :: GW
theorem d_Aut_expireAt_0 : decode c_Aut_expireAt 0 = .ok (.aload_n 0, 1) := by decide +kernel
theorem d_Aut_expireAt_1 : decode c_Aut_expireAt 1 = .ok (.invokevirtual 13, 3) := by decide +kernel
theorem d_Aut_expireAt_4 : decode c_Aut_expireAt 4 = .ok (.ifCond .eq 27, 3) := by decide +kernel
theorem d_Aut_expireAt_7 : decode c_Aut_expireAt 7 = .ok (.aload_n 0, 1) := by decide +kernel
theorem d_Aut_expireAt_8 : decode c_Aut_expireAt 8 = .ok (.getfield 17, 3) := by decide +kernel
theorem d_Aut_expireAt_11 : decode c_Aut_expireAt 11 = .ok (.iload_n 1, 1) := by decide +kernel
theorem d_Aut_expireAt_12 : decode c_Aut_expireAt 12 = .ok (.if_icmp .gt 19, 3) := by decide +kernel
theorem d_Aut_expireAt_15 : decode c_Aut_expireAt 15 = .ok (.aload_n 0, 1) := by decide +kernel
theorem d_Aut_expireAt_16 : decode c_Aut_expireAt 16 = .ok (.aload_n 0, 1) := by decide +kernel
theorem d_Aut_expireAt_17 : decode c_Aut_expireAt 17 = .ok (.getfield 7, 3) := by decide +kernel
theorem d_Aut_expireAt_20 : decode c_Aut_expireAt 20 = .ok (.ifCond .ne 7, 3) := by decide +kernel
theorem d_Aut_expireAt_23 : decode c_Aut_expireAt 23 = .ok (.iconst 2, 1) := by decide +kernel
theorem d_Aut_expireAt_24 : decode c_Aut_expireAt 24 = .ok (.goto 4, 3) := by decide +kernel
theorem d_Aut_expireAt_27 : decode c_Aut_expireAt 27 = .ok (.iconst 4, 1) := by decide +kernel
theorem d_Aut_expireAt_28 : decode c_Aut_expireAt 28 = .ok (.putfield 7, 3) := by decide +kernel
theorem d_Aut_expireAt_31 : decode c_Aut_expireAt 31 = .ok (.return_, 1) := by decide +kernel
def wq_Aut_expireAt_28 (post : ST → Prop) (s0 : Int32) (s1 : Nat) (X : ST) : Prop := (s1 < 24 ∧ post (up X 30 s1 s0))
def wp_Aut_expireAt (post : ST → Prop) (X : ST) (i0 : Nat) (a1 : Int32) : Prop := (i0 < 24 ∧ wp_Aut_isLive (fun (r4 : Int32) (X3 : ST) => ((r4 = 0 → post X3) ∧ (¬ r4 = 0 → ((a1 < (X3 33 i0) → post X3) ∧ (¬ a1 < (X3 33 i0) → (((X3 30 i0) = 0 → wq_Aut_expireAt_28 post (2 : Int32) i0 X3) ∧ (¬ (X3 30 i0) = 0 → wq_Aut_expireAt_28 post (4 : Int32) i0 X3))))))) X i0)
set_option maxHeartbeats 4000000 in
set_option maxRecDepth 100000 in
theorem mt_Aut_expireAt (l : Launch) (hl9 : l.stackTraces = false) (dC : Nat → ClassId) (dI : Nat → Nat → Nat) (cA : Nat → ClassId) (ad : Nat → Nat) (hI : INJ ad 125) (sz : Nat) {X : ST} {i0 : Nat} {a1 : Int32} {post : ST → Prop} (hw : wp_Aut_expireAt post X i0 a1) : Met l y_Aut_expireAt ws_Aut_expireAt ({ frames := 1, cells := 0, slots := 0, locals := 20 } : Room) (va_Pc [.ref (ad (41 + i0)), .int a1] (fun U => PC dC dI cA ad sz X U)) (va_Qv (fun (u : ST) => post u) (fun (u : ST) t => va_P (dC, dI) vwCl (wdC cA ad u) t.heap) (CA ad 125 sz)) 0 0 (CA ad 125 sz) := by
  refine Met.ofW (cc := c_Aut_expireAt) (maxL := 2) (ret := none) (by decide) rfl ?_
  intro p e s m args below meth c s₁ B hml hv
  obtain ⟨rfl, hsz, hP, hG⟩ := hv
  have hx := B.exec
  have hb := B.bytes
  have hr := B.returns
  have hts : ∀ w ∈ GW, w.before (([.ref (ad (41 + i0)), .int a1] : List Value).toArray) s = true := fun w h => atoms_spec (ws := ws_Aut_expireAt) B.pre w (List.mem_cons_of_mem _ h)
  have hown : s.vm.findClass R_Aut = some m.cls := findClass_of_methodNamed B.named
  have hlocks := B.notSynchronized
  subst hsz
  have hK := hG.1
  have hG9 := hG
  have hNW := hG.2.1
  have hD0 : ∀ (X : ST), va_D (CA ad 125 s.heap.size) (wdC cA ad X) := fun _ => zwC_D hI
  have hS : va_S (CA ad 125 s.heap.size) s.heap s.heap [] := va_S.rf
  have hl := lv_entry ([.ref (ad (41 + i0)), .int a1]) (n := 2) (Nat.le_of_ble_eq_true rfl)
  rw [lg_entry_eq]
  generalize (lg_sl ([.ref (ad (41 + i0)), .int a1]) ++ List.replicate (2 - (lg_sl ([.ref (ad (41 + i0)), .int a1])).length) Slot.unset).toArray = ls at hl ⊢
  have hl : lv_has ls 2 [(0, .ref (ad (41 + i0))), (1, .int a1)] := hl
  have L28 : ∀ (s0 : Int32) (s1 : Nat) (X : ST) (H : Heap) (locs : List Loc) (ls : Array Slot), wq_Aut_expireAt_28 post s0 s1 X → va_P (dC, dI) vwCl (wdC cA ad X) H → va_S (CA ad 125 s.heap.size) s.heap H locs → lv_has ls 2 [] → W p l e (headSpec ws_Aut_expireAt ({ frames := 1, cells := 0, slots := 0, locals := 20 } : Room)).room s m (([.ref (ad (41 + i0)), .int a1] : List Value).toArray) below meth c H locs 0 0 (MQ below (va_Qv (fun (u : ST) => post u) (fun (u : ST) t => va_P (dC, dI) vwCl (wdC cA ad u) t.heap) (CA ad 125 s.heap.size)) (([.ref (ad (41 + i0)), .int a1] : List Value).toArray) s 0 0 (CA ad 125 s.heap.size)) (F0 m 28 ls [.int s0, .ref (ad (41 + s1))]) := by
    intro s0 s1 X H locs ls hw hP hS hl
    unfold wq_Aut_expireAt_28 at hw
    obtain ⟨h1, hw⟩ := hw
    refine va_put (D := (dC, dI)) (ci := 6) (v := .int s0) (ty := .int) (C := R_Aut) (T := T_Aut) (N := 4) hx hb hts in_Aut ty_Aut ty_Aut_ok nm_Aut hown hK hP (hD0 _) hS (41 + s1) (atC_Aut h1) rfl 0 (by decide) (hts _ gw_107) (fun _ h9 => h9) rfl (by decide +kernel) rfl rfl (Nat.le_of_ble_eq_true rfl) d_Aut_expireAt_28 (fun H locs hP _ hS => ?_)
    have hP : va_P (dC, dI) vwCl (wdC cA ad (up X 30 s1 s0)) H := by rw [← stC_Aut_0 h1]; exact hP
    exact W.vret hx hb hr (fun t ht _ => ⟨⟨up X 30 s1 s0, rfl, hw, by show va_P _ _ _ t.heap; rw [ht]; exact hP⟩, hS.F ht⟩) hS.2.2 d_Aut_expireAt_31
  unfold wp_Aut_expireAt at hw
  refine lv_aload_n hx hb d_Aut_expireAt_0 rfl (lv_at hl 0 rfl) ?_
  obtain ⟨h2, hw⟩ := hw
  refine va_calli (va_runV (As := []) (rest := []) ⟨hx, hb, hml, hown, hts⟩ (mt_Aut_isLive l hl9 dC dI cA ad hI _ hw) (cwV 0 hts (gV gw_234 gw_113 gw_114 gw_115 gw_111) rfl rfl rfl (by decide +kernel) ⟨Nat.le_of_ble_eq_true rfl, Nat.le_of_ble_eq_true rfl⟩) ⟨zwC_blind, va_recv hK hP (ci := 6) (q0 := 41 + i0) rfl (atC_Aut h2), zwC_pre hP hS hG9⟩ rfl rfl hl.1 rfl (lv_room (Nat.le_of_ble_eq_true rfl)) d_Aut_expireAt_1 ⟨Nat.le_of_ble_eq_true rfl, Nat.le_of_ble_eq_true rfl⟩) hS (fun q _ h => CA_le hS.1 q h) (fun q h => CA_le hS.1 q h) (fun r4 X3 t H locs ht hvm hw hP hz1 hk1 hS => ?_)
  have hP : va_P (dC, dI) vwCl (wdC cA ad X3) H := by rw [← ht]; exact hP
  try dsimp only at hw
  refine lv_if_eq (tgt := 31) hx hb d_Aut_expireAt_4 (by decide) (fun c5 => ?_) (fun c5 => ?_)
  · have hw := hw.1 c5
    exact W.vret hx hb hr (fun t ht _ => ⟨⟨X3, rfl, hw, by show va_P _ _ _ t.heap; rw [ht]; exact hP⟩, hS.F ht⟩) hS.2.2 d_Aut_expireAt_31
  · have hw := hw.2 c5
    refine lv_aload_n hx hb d_Aut_expireAt_7 rfl (lv_at hl 0 rfl) ?_
    refine va_get (D := (dC, dI)) (ci := 6) (v := .int (X3 33 i0)) (C := R_Aut) (T := T_Aut) (N := 4) hx hb hts in_Aut hown hK hP (41 + i0) (atC_Aut h2) rfl 3 (by decide) (hts _ gw_235) (fun _ h9 => h9) rfl d_Aut_expireAt_8 ?_
    refine lv_iload_n hx hb d_Aut_expireAt_11 rfl (lv_at hl 1 rfl) ?_
    refine lv_icmp_gt (tgt := 31) hx hb d_Aut_expireAt_12 (by decide) (fun c6 => ?_) (fun c6 => ?_)
    · have hw := hw.1 c6
      exact W.vret hx hb hr (fun t ht _ => ⟨⟨X3, rfl, hw, by show va_P _ _ _ t.heap; rw [ht]; exact hP⟩, hS.F ht⟩) hS.2.2 d_Aut_expireAt_31
    · have hw := hw.2 c6
      refine lv_aload_n hx hb d_Aut_expireAt_15 rfl (lv_at hl 0 rfl) ?_
      refine lv_aload_n hx hb d_Aut_expireAt_16 rfl (lv_at hl 0 rfl) ?_
      refine va_get (D := (dC, dI)) (ci := 6) (v := .int (X3 30 i0)) (C := R_Aut) (T := T_Aut) (N := 4) hx hb hts in_Aut hown hK hP (41 + i0) (atC_Aut h2) rfl 0 (by decide) (hts _ gw_107) (fun _ h9 => h9) rfl d_Aut_expireAt_17 ?_
      refine lv_if_ne (tgt := 27) hx hb d_Aut_expireAt_20 (by decide) (fun c7 => ?_) (fun c7 => ?_)
      · have hw := hw.2 c7
        refine lv_iconst (v := (4 : Int32)) hx hb d_Aut_expireAt_27 (by decide) ?_
        have hl := lv_sub hl (l' := []) [] rfl
        exact L28 _ _ _ _ _ _ hw hP hS hl
      · have hw := hw.1 c7
        refine lv_iconst (v := (2 : Int32)) hx hb d_Aut_expireAt_23 (by decide) ?_
        refine lv_goto (tgt := 28) hx hb d_Aut_expireAt_24 (by decide) ?_
        have hl := lv_sub hl (l' := []) [] rfl
        exact L28 _ _ _ _ _ _ hw hP hS hl
def ws_Ord_expireAt : List Cond := Cond.code y_Ord_expireAt c_Ord_expireAt 2 (Option.none : Option Jvm.ClassFile.FieldType) :: GW
theorem d_Ord_expireAt_0 : decode c_Ord_expireAt 0 = .ok (.aload_n 0, 1) := by decide +kernel
theorem d_Ord_expireAt_1 : decode c_Ord_expireAt 1 = .ok (.invokevirtual 25, 3) := by decide +kernel
theorem d_Ord_expireAt_4 : decode c_Ord_expireAt 4 = .ok (.ifCond .eq 16, 3) := by decide +kernel
theorem d_Ord_expireAt_7 : decode c_Ord_expireAt 7 = .ok (.aload_n 0, 1) := by decide +kernel
theorem d_Ord_expireAt_8 : decode c_Ord_expireAt 8 = .ok (.getfield 29, 3) := by decide +kernel
theorem d_Ord_expireAt_11 : decode c_Ord_expireAt 11 = .ok (.iload_n 1, 1) := by decide +kernel
theorem d_Ord_expireAt_12 : decode c_Ord_expireAt 12 = .ok (.if_icmp .gt 8, 3) := by decide +kernel
theorem d_Ord_expireAt_15 : decode c_Ord_expireAt 15 = .ok (.aload_n 0, 1) := by decide +kernel
theorem d_Ord_expireAt_16 : decode c_Ord_expireAt 16 = .ok (.iconst 4, 1) := by decide +kernel
theorem d_Ord_expireAt_17 : decode c_Ord_expireAt 17 = .ok (.putfield 19, 3) := by decide +kernel
theorem d_Ord_expireAt_20 : decode c_Ord_expireAt 20 = .ok (.return_, 1) := by decide +kernel
def wp_Ord_expireAt (post : ST → Prop) (X : ST) (i0 : Nat) (a1 : Int32) : Prop := (i0 < 12 ∧ wp_Ord_isOpen (fun (r3 : Int32) (X2 : ST) => ((r3 = 0 → post X2) ∧ (¬ r3 = 0 → ((a1 < (X2 23 i0) → post X2) ∧ (¬ a1 < (X2 23 i0) → post (up X2 20 i0 (4 : Int32))))))) X i0)
set_option maxHeartbeats 4000000 in
set_option maxRecDepth 100000 in
theorem mt_Ord_expireAt (l : Launch) (hl9 : l.stackTraces = false) (dC : Nat → ClassId) (dI : Nat → Nat → Nat) (cA : Nat → ClassId) (ad : Nat → Nat) (hI : INJ ad 125) (sz : Nat) {X : ST} {i0 : Nat} {a1 : Int32} {post : ST → Prop} (hw : wp_Ord_expireAt post X i0 a1) : Met l y_Ord_expireAt ws_Ord_expireAt ({ frames := 1, cells := 0, slots := 0, locals := 20 } : Room) (va_Pc [.ref (ad (17 + i0)), .int a1] (fun U => PC dC dI cA ad sz X U)) (va_Qv (fun (u : ST) => post u) (fun (u : ST) t => va_P (dC, dI) vwCl (wdC cA ad u) t.heap) (CA ad 125 sz)) 0 0 (CA ad 125 sz) := by
  refine Met.ofW (cc := c_Ord_expireAt) (maxL := 2) (ret := none) (by decide) rfl ?_
  intro p e s m args below meth c s₁ B hml hv
  obtain ⟨rfl, hsz, hP, hG⟩ := hv
  have hx := B.exec
  have hb := B.bytes
  have hr := B.returns
  have hts : ∀ w ∈ GW, w.before (([.ref (ad (17 + i0)), .int a1] : List Value).toArray) s = true := fun w h => atoms_spec (ws := ws_Ord_expireAt) B.pre w (List.mem_cons_of_mem _ h)
  have hown : s.vm.findClass R_Ord = some m.cls := findClass_of_methodNamed B.named
  have hlocks := B.notSynchronized
  subst hsz
  have hK := hG.1
  have hG9 := hG
  have hNW := hG.2.1
  have hD0 : ∀ (X : ST), va_D (CA ad 125 s.heap.size) (wdC cA ad X) := fun _ => zwC_D hI
  have hS : va_S (CA ad 125 s.heap.size) s.heap s.heap [] := va_S.rf
  have hl := lv_entry ([.ref (ad (17 + i0)), .int a1]) (n := 2) (Nat.le_of_ble_eq_true rfl)
  rw [lg_entry_eq]
  generalize (lg_sl ([.ref (ad (17 + i0)), .int a1]) ++ List.replicate (2 - (lg_sl ([.ref (ad (17 + i0)), .int a1])).length) Slot.unset).toArray = ls at hl ⊢
  have hl : lv_has ls 2 [(0, .ref (ad (17 + i0))), (1, .int a1)] := hl
  unfold wp_Ord_expireAt at hw
  refine lv_aload_n hx hb d_Ord_expireAt_0 rfl (lv_at hl 0 rfl) ?_
  obtain ⟨h1, hw⟩ := hw
  refine va_calli (va_runV (As := []) (rest := []) ⟨hx, hb, hml, hown, hts⟩ (mt_Ord_isOpen l hl9 dC dI cA ad hI _ hw) (cwV 0 hts (gV gw_236 gw_118 gw_119 gw_96 gw_116) rfl rfl rfl (by decide +kernel) ⟨Nat.le_of_ble_eq_true rfl, Nat.le_of_ble_eq_true rfl⟩) ⟨zwC_blind, va_recv hK hP (ci := 5) (q0 := 17 + i0) rfl (atC_Ord h1), zwC_pre hP hS hG9⟩ rfl rfl hl.1 rfl (lv_room (Nat.le_of_ble_eq_true rfl)) d_Ord_expireAt_1 ⟨Nat.le_of_ble_eq_true rfl, Nat.le_of_ble_eq_true rfl⟩) hS (fun q _ h => CA_le hS.1 q h) (fun q h => CA_le hS.1 q h) (fun r3 X2 t H locs ht hvm hw hP hz1 hk1 hS => ?_)
  have hP : va_P (dC, dI) vwCl (wdC cA ad X2) H := by rw [← ht]; exact hP
  try dsimp only at hw
  refine lv_if_eq (tgt := 20) hx hb d_Ord_expireAt_4 (by decide) (fun c4 => ?_) (fun c4 => ?_)
  · have hw := hw.1 c4
    exact W.vret hx hb hr (fun t ht _ => ⟨⟨X2, rfl, hw, by show va_P _ _ _ t.heap; rw [ht]; exact hP⟩, hS.F ht⟩) hS.2.2 d_Ord_expireAt_20
  · have hw := hw.2 c4
    refine lv_aload_n hx hb d_Ord_expireAt_7 rfl (lv_at hl 0 rfl) ?_
    refine va_get (D := (dC, dI)) (ci := 5) (v := .int (X2 23 i0)) (C := R_Ord) (T := T_Ord) (N := 7) hx hb hts in_Ord hown hK hP (17 + i0) (atC_Ord h1) rfl 3 (by decide) (hts _ gw_237) (fun _ h9 => h9) rfl d_Ord_expireAt_8 ?_
    refine lv_iload_n hx hb d_Ord_expireAt_11 rfl (lv_at hl 1 rfl) ?_
    refine lv_icmp_gt (tgt := 20) hx hb d_Ord_expireAt_12 (by decide) (fun c5 => ?_) (fun c5 => ?_)
    · have hw := hw.1 c5
      exact W.vret hx hb hr (fun t ht _ => ⟨⟨X2, rfl, hw, by show va_P _ _ _ t.heap; rw [ht]; exact hP⟩, hS.F ht⟩) hS.2.2 d_Ord_expireAt_20
    · have hw := hw.2 c5
      refine lv_aload_n hx hb d_Ord_expireAt_15 rfl (lv_at hl 0 rfl) ?_
      refine lv_iconst (v := (4 : Int32)) hx hb d_Ord_expireAt_16 (by decide) ?_
      refine va_put (D := (dC, dI)) (ci := 5) (v := .int (4 : Int32)) (ty := .int) (C := R_Ord) (T := T_Ord) (N := 7) hx hb hts in_Ord ty_Ord ty_Ord_ok nm_Ord hown hK hP (hD0 _) hS (17 + i0) (atC_Ord h1) rfl 0 (by decide) (hts _ gw_106) (fun _ h9 => h9) rfl (by decide +kernel) rfl rfl (Nat.le_of_ble_eq_true rfl) d_Ord_expireAt_17 (fun H locs hP _ hS => ?_)
      have hP : va_P (dC, dI) vwCl (wdC cA ad (up X2 20 i0 (4 : Int32))) H := by rw [← stC_Ord_0 h1]; exact hP
      exact W.vret hx hb hr (fun t ht _ => ⟨⟨up X2 20 i0 (4 : Int32), rfl, hw, by show va_P _ _ _ t.heap; rw [ht]; exact hP⟩, hS.F ht⟩) hS.2.2 d_Ord_expireAt_20
def ws_CA_tick : List Cond := Cond.code y_CA_tick c_CA_tick 3 (Option.some Jvm.ClassFile.FieldType.int) :: GW
theorem d_CA_tick_0 : decode c_CA_tick 0 = .ok (.iload_n 1, 1) := by decide +kernel
theorem d_CA_tick_1 : decode c_CA_tick 1 = .ok (.ifCond .lt 10, 3) := by decide +kernel
theorem d_CA_tick_4 : decode c_CA_tick 4 = .ok (.iload_n 1, 1) := by decide +kernel
theorem d_CA_tick_5 : decode c_CA_tick 5 = .ok (.sipush 1000, 3) := by decide +kernel
theorem d_CA_tick_8 : decode c_CA_tick 8 = .ok (.if_icmp .le 11, 3) := by decide +kernel
theorem d_CA_tick_11 : decode c_CA_tick 11 = .ok (.new 93, 3) := by decide +kernel
theorem d_CA_tick_14 : decode c_CA_tick 14 = .ok (.dup, 1) := by decide +kernel
theorem d_CA_tick_15 : decode c_CA_tick 15 = .ok (.invokespecial 95, 3) := by decide +kernel
theorem d_CA_tick_18 : decode c_CA_tick 18 = .ok (.athrow, 1) := by decide +kernel
theorem d_CA_tick_19 : decode c_CA_tick 19 = .ok (.aload_n 0, 1) := by decide +kernel
theorem d_CA_tick_20 : decode c_CA_tick 20 = .ok (.dup, 1) := by decide +kernel
theorem d_CA_tick_21 : decode c_CA_tick 21 = .ok (.getfield 143, 3) := by decide +kernel
theorem d_CA_tick_24 : decode c_CA_tick 24 = .ok (.iload_n 1, 1) := by decide +kernel
theorem d_CA_tick_25 : decode c_CA_tick 25 = .ok (.iadd, 1) := by decide +kernel
theorem d_CA_tick_26 : decode c_CA_tick 26 = .ok (.putfield 143, 3) := by decide +kernel
theorem d_CA_tick_29 : decode c_CA_tick 29 = .ok (.iconst 0, 1) := by decide +kernel
theorem d_CA_tick_30 : decode c_CA_tick 30 = .ok (.istore_n 2, 1) := by decide +kernel
theorem d_CA_tick_31 : decode c_CA_tick 31 = .ok (.iload_n 2, 1) := by decide +kernel
theorem d_CA_tick_32 : decode c_CA_tick 32 = .ok (.aload_n 0, 1) := by decide +kernel
theorem d_CA_tick_33 : decode c_CA_tick 33 = .ok (.getfield 136, 3) := by decide +kernel
theorem d_CA_tick_36 : decode c_CA_tick 36 = .ok (.if_icmp .ge 22, 3) := by decide +kernel
theorem d_CA_tick_39 : decode c_CA_tick 39 = .ok (.aload_n 0, 1) := by decide +kernel
theorem d_CA_tick_40 : decode c_CA_tick 40 = .ok (.getfield 23, 3) := by decide +kernel
theorem d_CA_tick_43 : decode c_CA_tick 43 = .ok (.iload_n 2, 1) := by decide +kernel
theorem d_CA_tick_44 : decode c_CA_tick 44 = .ok (.aaload, 1) := by decide +kernel
theorem d_CA_tick_45 : decode c_CA_tick 45 = .ok (.aload_n 0, 1) := by decide +kernel
theorem d_CA_tick_46 : decode c_CA_tick 46 = .ok (.getfield 143, 3) := by decide +kernel
theorem d_CA_tick_49 : decode c_CA_tick 49 = .ok (.invokevirtual 228, 3) := by decide +kernel
theorem d_CA_tick_52 : decode c_CA_tick 52 = .ok (.iinc 2 1, 3) := by decide +kernel
theorem d_CA_tick_55 : decode c_CA_tick 55 = .ok (.goto (-24), 3) := by decide +kernel
theorem d_CA_tick_58 : decode c_CA_tick 58 = .ok (.iconst 0, 1) := by decide +kernel
theorem d_CA_tick_59 : decode c_CA_tick 59 = .ok (.istore_n 2, 1) := by decide +kernel
theorem d_CA_tick_60 : decode c_CA_tick 60 = .ok (.iload_n 2, 1) := by decide +kernel
theorem d_CA_tick_61 : decode c_CA_tick 61 = .ok (.aload_n 0, 1) := by decide +kernel
theorem d_CA_tick_62 : decode c_CA_tick 62 = .ok (.getfield 133, 3) := by decide +kernel
theorem d_CA_tick_65 : decode c_CA_tick 65 = .ok (.if_icmp .ge 22, 3) := by decide +kernel
theorem d_CA_tick_68 : decode c_CA_tick 68 = .ok (.aload_n 0, 1) := by decide +kernel
theorem d_CA_tick_69 : decode c_CA_tick 69 = .ok (.getfield 17, 3) := by decide +kernel
theorem d_CA_tick_72 : decode c_CA_tick 72 = .ok (.iload_n 2, 1) := by decide +kernel
theorem d_CA_tick_73 : decode c_CA_tick 73 = .ok (.aaload, 1) := by decide +kernel
theorem d_CA_tick_74 : decode c_CA_tick 74 = .ok (.aload_n 0, 1) := by decide +kernel
theorem d_CA_tick_75 : decode c_CA_tick 75 = .ok (.getfield 143, 3) := by decide +kernel
theorem d_CA_tick_78 : decode c_CA_tick 78 = .ok (.invokevirtual 231, 3) := by decide +kernel
theorem d_CA_tick_81 : decode c_CA_tick 81 = .ok (.iinc 2 1, 3) := by decide +kernel
theorem d_CA_tick_84 : decode c_CA_tick 84 = .ok (.goto (-24), 3) := by decide +kernel
theorem d_CA_tick_87 : decode c_CA_tick 87 = .ok (.aload_n 0, 1) := by decide +kernel
theorem d_CA_tick_88 : decode c_CA_tick 88 = .ok (.invokevirtual 149, 3) := by decide +kernel
theorem d_CA_tick_91 : decode c_CA_tick 91 = .ok (.aload_n 0, 1) := by decide +kernel
theorem d_CA_tick_92 : decode c_CA_tick 92 = .ok (.getfield 143, 3) := by decide +kernel
theorem d_CA_tick_95 : decode c_CA_tick 95 = .ok (.ireturn, 1) := by decide +kernel
def wq_CA_tick_60 (post : Int32 → ST → Prop) (px : String → ST → Prop) : Nat → Int32 → ST → Prop
  | 0 => fun _ _ => False
  | n + 1 => fun v2 X => (((X 3 0) ≤ v2 → wp_CA_settleOrders (fun (X2 : ST) => post (X2 1 0) X2) X) ∧ (¬ (X 3 0) ≤ v2 → (vp_in v2 12 ∧ wp_Ord_expireAt (fun (X5 : ST) => wq_CA_tick_60 post px n (v2 + (1 : Int32)) X5) X v2.toNatClampNeg (X 1 0))))
def wq_CA_tick_31 (post : Int32 → ST → Prop) (px : String → ST → Prop) : Nat → Int32 → ST → Prop
  | 0 => fun _ _ => False
  | n + 1 => fun v2 X => (((X 4 0) ≤ v2 → (∃ n9, wq_CA_tick_60 post px n9 (0 : Int32) X)) ∧ (¬ (X 4 0) ≤ v2 → (vp_in v2 24 ∧ wp_Aut_expireAt (fun (X9 : ST) => wq_CA_tick_31 post px n (v2 + (1 : Int32)) X9) X v2.toNatClampNeg (X 1 0))))
def wp_CA_tick (post : Int32 → ST → Prop) (px : String → ST → Prop) (X : ST) (a1 : Int32) : Prop := ((a1 < 0 → px "java/lang/IllegalArgumentException" X) ∧ (¬ a1 < 0 → ((a1 ≤ (1000 : Int32) → (∃ n9, wq_CA_tick_31 post px n9 (0 : Int32) (up X 1 0 ((X 1 0) + a1)))) ∧ (¬ a1 ≤ (1000 : Int32) → px "java/lang/IllegalArgumentException" X))))
set_option maxHeartbeats 4000000 in
set_option maxRecDepth 100000 in
theorem mt_CA_tick (l : Launch) (hl9 : l.stackTraces = false) (dC : Nat → ClassId) (dI : Nat → Nat → Nat) (cA : Nat → ClassId) (ad : Nat → Nat) (hI : INJ ad 125) (sz : Nat) {X : ST} {a1 : Int32} {post : Int32 → ST → Prop} {px : String → ST → Prop} (hw : wp_CA_tick post px X a1) : xt_Met l y_CA_tick ws_CA_tick ({ frames := 6, cells := 1, slots := 6, locals := 90 } : Room) (va_Pc [.ref (ad 0), .int a1] (fun U => PC dC dI cA ad sz X U)) (va_Qi (fun r (u : ST) => post r u) (fun (u : ST) t => va_P (dC, dI) vwCl (wdC cA ad u) t.heap) (CA ad 125 sz)) (xt_X (fun (u : String × ST) => px u.1 u.2) (fun E (u : String × ST) t => u.1 = E ∧ va_P (dC, dI) vwCl (wdC cA ad u.2) t.heap) (CA ad 125 sz)) 1 6 (CA ad 125 sz) := by
  refine xt_ofW (cc := c_CA_tick) (maxL := 3) (ret := (some .int)) (by decide) rfl ?_
  intro p e s m args below meth c s₁ B hml hEx hv
  obtain ⟨rfl, hsz, hP, hG⟩ := hv
  have hx := B.exec
  have hb := B.bytes
  have hr := B.returns
  have hts : ∀ w ∈ GW, w.before (([.ref (ad 0), .int a1] : List Value).toArray) s = true := fun w h => atoms_spec (ws := ws_CA_tick) B.pre w (List.mem_cons_of_mem _ h)
  have hown : s.vm.findClass R_CA = some m.cls := findClass_of_methodNamed B.named
  have hlocks := B.notSynchronized
  subst hsz
  have hK := hG.1
  have hG9 := hG
  have hNW := hG.2.1
  have hD0 : ∀ (X : ST), va_D (CA ad 125 s.heap.size) (wdC cA ad X) := fun _ => zwC_D hI
  have hS : va_S (CA ad 125 s.heap.size) s.heap s.heap [] := va_S.rf
  have hl := lv_entry ([.ref (ad 0), .int a1]) (n := 3) (Nat.le_of_ble_eq_true rfl)
  rw [lg_entry_eq]
  generalize (lg_sl ([.ref (ad 0), .int a1]) ++ List.replicate (3 - (lg_sl ([.ref (ad 0), .int a1])).length) Slot.unset).toArray = ls at hl ⊢
  have hl : lv_has ls 3 [(0, .ref (ad 0)), (1, .int a1)] := hl
  have L60 : ∀ (n : Nat), ∀ (v2 : Int32) (X : ST) (H : Heap) (locs : List Loc) (ls : Array Slot), wq_CA_tick_60 post px n v2 X → va_P (dC, dI) vwCl (wdC cA ad X) H → va_S (CA ad 125 s.heap.size) s.heap H locs → lv_has ls 3 [(0, .ref (ad 0)), (2, .int v2)] → W p l e (headSpec ws_CA_tick ({ frames := 6, cells := 1, slots := 6, locals := 90 } : Room)).room s m (([.ref (ad 0), .int a1] : List Value).toArray) below meth c H locs 0 0 (xt_Q below (va_Qi (fun r (u : ST) => post r u) (fun (u : ST) t => va_P (dC, dI) vwCl (wdC cA ad u) t.heap) (CA ad 125 s.heap.size)) (xt_X (fun (u : String × ST) => px u.1 u.2) (fun E (u : String × ST) t => u.1 = E ∧ va_P (dC, dI) vwCl (wdC cA ad u.2) t.heap) (CA ad 125 s.heap.size)) (([.ref (ad 0), .int a1] : List Value).toArray) s 1 6 (CA ad 125 s.heap.size)) (F0 m 60 ls []) := by
    intro n
    induction n with
    | zero => intro v2 X H locs ls hw hP hS hl; exact False.elim hw
    | succ n ih =>
      intro v2 X H locs ls hw hP hS hl
      dsimp only [wq_CA_tick_60] at hw
      refine lv_iload_n hx hb d_CA_tick_60 rfl (lv_at hl 1 rfl) ?_
      refine lv_aload_n hx hb d_CA_tick_61 rfl (lv_at hl 0 rfl) ?_
      refine va_get (D := (dC, dI)) (ci := 0) (v := .int (X 3 0)) (C := R_CA) (T := T_CA) (N := 14) hx hb hts in_CA hown hK hP (0) atC_CA rfl 3 (by decide) (hts _ gw_97) (fun _ h9 => h9) rfl d_CA_tick_62 ?_
      refine lv_icmp_ge (tgt := 87) hx hb d_CA_tick_65 (by decide) (fun c1 => ?_) (fun c1 => ?_)
      · have hw := hw.1 c1
        refine lv_aload_n hx hb d_CA_tick_87 rfl (lv_at hl 0 rfl) ?_
        refine va_callv (va_runV (As := []) (rest := []) ⟨hx, hb, hml, hown, hts⟩ (mt_CA_settleOrders l hl9 dC dI cA ad hI _ hw) (cwV 0 hts (gV gw_141 gw_142 gw_143 gw_13 gw_140) rfl rfl rfl (by decide +kernel) ⟨Nat.le_of_ble_eq_true rfl, Nat.le_of_ble_eq_true rfl⟩) ⟨zwC_blind, va_recv hK hP (ci := 0) (q0 := 0) rfl atC_CA, zwC_pre hP hS hG9⟩ rfl rfl hl.1 rfl (lv_room (Nat.le_of_ble_eq_true rfl)) d_CA_tick_88 ⟨Nat.le_of_ble_eq_true rfl, Nat.le_of_ble_eq_true rfl⟩) hS (fun q _ h => CA_le hS.1 q h) (fun q h => CA_le hS.1 q h) (fun X2 t H locs ht hvm hw hP hz1 hk1 hS => ?_)
        have hP : va_P (dC, dI) vwCl (wdC cA ad X2) H := by rw [← ht]; exact hP
        try dsimp only at hw
        refine lv_aload_n hx hb d_CA_tick_91 rfl (lv_at hl 0 rfl) ?_
        refine va_get (D := (dC, dI)) (ci := 0) (v := .int (X2 1 0)) (C := R_CA) (T := T_CA) (N := 14) hx hb hts in_CA hown hK hP (0) atC_CA rfl 1 (by decide) (hts _ gw_135) (fun _ h9 => h9) rfl d_CA_tick_92 ?_
        refine xt_ret ?_
        refine W.widen (k := 1) (n := 6) (Nat.le_of_ble_eq_true rfl) (Nat.le_of_ble_eq_true rfl) ?_
        exact W.iret (v := X2 1 0) hx hb hr (fun t ht _ => ⟨⟨X2 1 0, X2, rfl, hw, by show va_P _ _ _ t.heap; rw [ht]; exact hP⟩, hS.F ht⟩) hS.2.2 d_CA_tick_95
      · have hw := hw.2 c1
        refine lv_aload_n hx hb d_CA_tick_68 rfl (lv_at hl 0 rfl) ?_
        refine va_get (D := (dC, dI)) (ci := 0) (v := .ref (ad 2)) (C := R_CA) (T := T_CA) (N := 14) hx hb hts in_CA hown hK hP (0) atC_CA rfl 7 (by decide) (hts _ gw_102) (fun _ h9 => h9) rfl d_CA_tick_69 ?_
        refine lv_iload_n hx hb d_CA_tick_72 rfl (lv_at hl 1 rfl) ?_
        obtain ⟨h4, hw⟩ := hw
        refine va_aldq hx hb hK hP (2) 1 atC_aOrd rfl h4 d_CA_tick_73 ?_
        refine W.eq (g2 := F0 m 74 ls [.ref (ad (17 + v2.toNatClampNeg))]) rfl ?_
        refine lv_aload_n hx hb d_CA_tick_74 rfl (lv_at hl 0 rfl) ?_
        refine va_get (D := (dC, dI)) (ci := 0) (v := .int (X 1 0)) (C := R_CA) (T := T_CA) (N := 14) hx hb hts in_CA hown hK hP (0) atC_CA rfl 1 (by decide) (hts _ gw_135) (fun _ h9 => h9) rfl d_CA_tick_75 ?_
        refine va_callv (va_runV (As := [.int (X 1 0)]) (rest := []) ⟨hx, hb, hml, hown, hts⟩ (mt_Ord_expireAt l hl9 dC dI cA ad hI _ hw) (cwV 1 hts (gV gw_239 gw_240 gw_241 gw_96 gw_238) rfl rfl rfl (by decide +kernel) ⟨Nat.le_of_ble_eq_true rfl, Nat.le_of_ble_eq_true rfl⟩) ⟨zwC_blind, va_recv hK hP (ci := 5) (q0 := 17 + v2.toNatClampNeg) rfl (atC_Ord (zw_lt h4)), zwC_pre hP hS hG9⟩ rfl rfl hl.1 rfl (lv_room (Nat.le_of_ble_eq_true rfl)) d_CA_tick_78 ⟨Nat.le_of_ble_eq_true rfl, Nat.le_of_ble_eq_true rfl⟩) hS (fun q _ h => CA_le hS.1 q h) (fun q h => CA_le hS.1 q h) (fun X5 t H locs ht hvm hw hP hz1 hk1 hS => ?_)
        have hP : va_P (dC, dI) vwCl (wdC cA ad X5) H := by rw [← ht]; exact hP
        try dsimp only at hw
        refine lv_iinc (k := 1) (v := v2 + (1 : Int32)) (lv' := [(2, .int (v2 + (1 : Int32))), (0, .ref (ad 0))]) hx hb d_CA_tick_81 hl rfl rfl (by decide) rfl (fun ls hl => ?_)
        refine lv_goto (tgt := 60) hx hb d_CA_tick_84 (by decide) ?_
        have hl := lv_sub hl (l' := [(0, .ref (ad 0)), (2, .int (v2 + (1 : Int32)))]) [1, 0] rfl
        exact ih _ _ _ _ _ hw hP hS hl
  have L31 : ∀ (n : Nat), ∀ (v2 : Int32) (X : ST) (H : Heap) (locs : List Loc) (ls : Array Slot), wq_CA_tick_31 post px n v2 X → va_P (dC, dI) vwCl (wdC cA ad X) H → va_S (CA ad 125 s.heap.size) s.heap H locs → lv_has ls 3 [(0, .ref (ad 0)), (2, .int v2)] → W p l e (headSpec ws_CA_tick ({ frames := 6, cells := 1, slots := 6, locals := 90 } : Room)).room s m (([.ref (ad 0), .int a1] : List Value).toArray) below meth c H locs 0 0 (xt_Q below (va_Qi (fun r (u : ST) => post r u) (fun (u : ST) t => va_P (dC, dI) vwCl (wdC cA ad u) t.heap) (CA ad 125 s.heap.size)) (xt_X (fun (u : String × ST) => px u.1 u.2) (fun E (u : String × ST) t => u.1 = E ∧ va_P (dC, dI) vwCl (wdC cA ad u.2) t.heap) (CA ad 125 s.heap.size)) (([.ref (ad 0), .int a1] : List Value).toArray) s 1 6 (CA ad 125 s.heap.size)) (F0 m 31 ls []) := by
    intro n
    induction n with
    | zero => intro v2 X H locs ls hw hP hS hl; exact False.elim hw
    | succ n ih =>
      intro v2 X H locs ls hw hP hS hl
      dsimp only [wq_CA_tick_31] at hw
      refine lv_iload_n hx hb d_CA_tick_31 rfl (lv_at hl 1 rfl) ?_
      refine lv_aload_n hx hb d_CA_tick_32 rfl (lv_at hl 0 rfl) ?_
      refine va_get (D := (dC, dI)) (ci := 0) (v := .int (X 4 0)) (C := R_CA) (T := T_CA) (N := 14) hx hb hts in_CA hown hK hP (0) atC_CA rfl 4 (by decide) (hts _ gw_79) (fun _ h9 => h9) rfl d_CA_tick_33 ?_
      refine lv_icmp_ge (tgt := 58) hx hb d_CA_tick_36 (by decide) (fun c7 => ?_) (fun c7 => ?_)
      · have hw := hw.1 c7
        refine lv_iconst (v := (0 : Int32)) hx hb d_CA_tick_58 (by decide) ?_
        refine lv_istore_n (lv' := [(2, .int (0 : Int32)), (0, .ref (ad 0))]) hx hb d_CA_tick_59 rfl hl (by decide) rfl (fun ls hl => ?_)
        have hl := lv_sub hl (l' := [(0, .ref (ad 0)), (2, .int (0 : Int32))]) [1, 0] rfl
        obtain ⟨n9, hw⟩ := hw
        exact L60 n9 _ _ _ _ _ hw hP hS hl
      · have hw := hw.2 c7
        refine lv_aload_n hx hb d_CA_tick_39 rfl (lv_at hl 0 rfl) ?_
        refine va_get (D := (dC, dI)) (ci := 0) (v := .ref (ad 3)) (C := R_CA) (T := T_CA) (N := 14) hx hb hts in_CA hown hK hP (0) atC_CA rfl 8 (by decide) (hts _ gw_75) (fun _ h9 => h9) rfl d_CA_tick_40 ?_
        refine lv_iload_n hx hb d_CA_tick_43 rfl (lv_at hl 1 rfl) ?_
        obtain ⟨h8, hw⟩ := hw
        refine va_aldq hx hb hK hP (3) 2 atC_aAut rfl h8 d_CA_tick_44 ?_
        refine W.eq (g2 := F0 m 45 ls [.ref (ad (41 + v2.toNatClampNeg))]) rfl ?_
        refine lv_aload_n hx hb d_CA_tick_45 rfl (lv_at hl 0 rfl) ?_
        refine va_get (D := (dC, dI)) (ci := 0) (v := .int (X 1 0)) (C := R_CA) (T := T_CA) (N := 14) hx hb hts in_CA hown hK hP (0) atC_CA rfl 1 (by decide) (hts _ gw_135) (fun _ h9 => h9) rfl d_CA_tick_46 ?_
        refine va_callv (va_runV (As := [.int (X 1 0)]) (rest := []) ⟨hx, hb, hml, hown, hts⟩ (mt_Aut_expireAt l hl9 dC dI cA ad hI _ hw) (cwV 1 hts (gV gw_243 gw_244 gw_245 gw_115 gw_242) rfl rfl rfl (by decide +kernel) ⟨Nat.le_of_ble_eq_true rfl, Nat.le_of_ble_eq_true rfl⟩) ⟨zwC_blind, va_recv hK hP (ci := 6) (q0 := 41 + v2.toNatClampNeg) rfl (atC_Aut (zw_lt h8)), zwC_pre hP hS hG9⟩ rfl rfl hl.1 rfl (lv_room (Nat.le_of_ble_eq_true rfl)) d_CA_tick_49 ⟨Nat.le_of_ble_eq_true rfl, Nat.le_of_ble_eq_true rfl⟩) hS (fun q _ h => CA_le hS.1 q h) (fun q h => CA_le hS.1 q h) (fun X9 t H locs ht hvm hw hP hz1 hk1 hS => ?_)
        have hP : va_P (dC, dI) vwCl (wdC cA ad X9) H := by rw [← ht]; exact hP
        try dsimp only at hw
        refine lv_iinc (k := 1) (v := v2 + (1 : Int32)) (lv' := [(2, .int (v2 + (1 : Int32))), (0, .ref (ad 0))]) hx hb d_CA_tick_52 hl rfl rfl (by decide) rfl (fun ls hl => ?_)
        refine lv_goto (tgt := 31) hx hb d_CA_tick_55 (by decide) ?_
        have hl := lv_sub hl (l' := [(0, .ref (ad 0)), (2, .int (v2 + (1 : Int32)))]) [1, 0] rfl
        exact ih _ _ _ _ _ hw hP hS hl
  unfold wp_CA_tick at hw
  refine lv_iload_n hx hb d_CA_tick_0 rfl (lv_at hl 1 rfl) ?_
  refine lv_if_lt (tgt := 11) hx hb d_CA_tick_1 (by decide) (fun c11 => ?_) (fun c11 => ?_)
  · have hw := hw.1 c11
    exact xt_throw0 (cls := "java/lang/IllegalArgumentException") (names := ["java/lang/RuntimeException", "java/lang/Exception"]) (ic := 95) hx hb hl9 hown (by decide +kernel) (by decide +kernel) (hts _ gw_39) (hts _ gw_40) (hts _ gw_41) (xc_hat xa_0 hts hG9 hP hS) (hl.1.trans hml.symm) d_CA_tick_11 d_CA_tick_14 d_CA_tick_15 d_CA_tick_18 (fun x hx => (hEx x hx).elim) hlocks (fun t ha hz hk => ⟨("java/lang/IllegalArgumentException", X), hw, ⟨rfl, zw_keep hP hk⟩, zw_F hS hz hk⟩) hS.2.2 (Nat.le_of_ble_eq_true rfl) (Nat.le_of_ble_eq_true rfl) (Nat.le_of_ble_eq_true rfl) (Nat.le_of_ble_eq_true rfl) (Nat.le_of_ble_eq_true rfl) (Nat.le_of_ble_eq_true rfl)
  · have hw := hw.2 c11
    refine lv_iload_n hx hb d_CA_tick_4 rfl (lv_at hl 1 rfl) ?_
    refine lv_sipush (v := (1000 : Int32)) hx hb d_CA_tick_5 (by decide) ?_
    refine lv_icmp_le (tgt := 19) hx hb d_CA_tick_8 (by decide) (fun c12 => ?_) (fun c12 => ?_)
    · have hw := hw.1 c12
      refine lv_aload_n hx hb d_CA_tick_19 rfl (lv_at hl 0 rfl) ?_
      refine lv_dup hx hb d_CA_tick_20 rfl ?_
      refine va_get (D := (dC, dI)) (ci := 0) (v := .int (X 1 0)) (C := R_CA) (T := T_CA) (N := 14) hx hb hts in_CA hown hK hP (0) atC_CA rfl 1 (by decide) (hts _ gw_135) (fun _ h9 => h9) rfl d_CA_tick_21 ?_
      refine lv_iload_n hx hb d_CA_tick_24 rfl (lv_at hl 1 rfl) ?_
      refine lv_iadd hx hb d_CA_tick_25 ?_
      refine va_put (D := (dC, dI)) (ci := 0) (v := .int ((X 1 0) + a1)) (ty := .int) (C := R_CA) (T := T_CA) (N := 14) hx hb hts in_CA ty_CA ty_CA_ok nm_CA hown hK hP (hD0 _) hS (0) atC_CA rfl 1 (by decide) (hts _ gw_135) (fun _ h9 => h9) rfl (by decide +kernel) rfl rfl (Nat.le_of_ble_eq_true rfl) d_CA_tick_26 (fun H locs hP _ hS => ?_)
      have hP : va_P (dC, dI) vwCl (wdC cA ad (up X 1 0 ((X 1 0) + a1))) H := by rw [← stC_CA_1]; exact hP
      refine lv_iconst (v := (0 : Int32)) hx hb d_CA_tick_29 (by decide) ?_
      refine lv_istore_n (lv' := [(2, .int (0 : Int32)), (0, .ref (ad 0)), (1, .int a1)]) hx hb d_CA_tick_30 rfl hl (by decide) rfl (fun ls hl => ?_)
      have hl := lv_sub hl (l' := [(0, .ref (ad 0)), (2, .int (0 : Int32))]) [1, 0] rfl
      obtain ⟨n9, hw⟩ := hw
      exact L31 n9 _ _ _ _ _ hw hP hS hl
    · have hw := hw.2 c12
      exact xt_throw0 (cls := "java/lang/IllegalArgumentException") (names := ["java/lang/RuntimeException", "java/lang/Exception"]) (ic := 95) hx hb hl9 hown (by decide +kernel) (by decide +kernel) (hts _ gw_39) (hts _ gw_40) (hts _ gw_41) (xc_hat xa_0 hts hG9 hP hS) (hl.1.trans hml.symm) d_CA_tick_11 d_CA_tick_14 d_CA_tick_15 d_CA_tick_18 (fun x hx => (hEx x hx).elim) hlocks (fun t ha hz hk => ⟨("java/lang/IllegalArgumentException", X), hw, ⟨rfl, zw_keep hP hk⟩, zw_F hS hz hk⟩) hS.2.2 (Nat.le_of_ble_eq_true rfl) (Nat.le_of_ble_eq_true rfl) (Nat.le_of_ble_eq_true rfl) (Nat.le_of_ble_eq_true rfl) (Nat.le_of_ble_eq_true rfl) (Nat.le_of_ble_eq_true rfl)
def ws_CA_there : List Cond := Cond.code y_CA_there c_CA_there 2 (Option.some Jvm.ClassFile.FieldType.int) :: GW
theorem d_CA_there_0 : decode c_CA_there 0 = .ok (.iload_n 1, 1) := by decide +kernel
theorem d_CA_there_1 : decode c_CA_there 1 = .ok (.tableswitch 63 0 4 #[35, 40, 45, 50, 58], 35) := by decide +kernel
theorem d_CA_there_36 : decode c_CA_there 36 = .ok (.aload_n 0, 1) := by decide +kernel
theorem d_CA_there_37 : decode c_CA_there 37 = .ok (.getfield 114, 3) := by decide +kernel
theorem d_CA_there_40 : decode c_CA_there 40 = .ok (.ireturn, 1) := by decide +kernel
theorem d_CA_there_41 : decode c_CA_there 41 = .ok (.aload_n 0, 1) := by decide +kernel
theorem d_CA_there_42 : decode c_CA_there 42 = .ok (.getfield 133, 3) := by decide +kernel
theorem d_CA_there_45 : decode c_CA_there 45 = .ok (.ireturn, 1) := by decide +kernel
theorem d_CA_there_46 : decode c_CA_there 46 = .ok (.aload_n 0, 1) := by decide +kernel
theorem d_CA_there_47 : decode c_CA_there 47 = .ok (.getfield 136, 3) := by decide +kernel
theorem d_CA_there_50 : decode c_CA_there 50 = .ok (.ireturn, 1) := by decide +kernel
theorem d_CA_there_51 : decode c_CA_there 51 = .ok (.aload_n 0, 1) := by decide +kernel
theorem d_CA_there_52 : decode c_CA_there 52 = .ok (.getfield 42, 3) := by decide +kernel
theorem d_CA_there_55 : decode c_CA_there 55 = .ok (.getfield 232, 3) := by decide +kernel
theorem d_CA_there_58 : decode c_CA_there 58 = .ok (.ireturn, 1) := by decide +kernel
theorem d_CA_there_59 : decode c_CA_there 59 = .ok (.aload_n 0, 1) := by decide +kernel
theorem d_CA_there_60 : decode c_CA_there 60 = .ok (.getfield 182, 3) := by decide +kernel
theorem d_CA_there_63 : decode c_CA_there 63 = .ok (.ireturn, 1) := by decide +kernel
theorem d_CA_there_64 : decode c_CA_there 64 = .ok (.iconst 0, 1) := by decide +kernel
theorem d_CA_there_65 : decode c_CA_there 65 = .ok (.ireturn, 1) := by decide +kernel
def wp_CA_there (post : Int32 → ST → Prop) (X : ST) (a1 : Int32) : Prop := ((a1 < (0 : Int32) → post (0 : Int32) X) ∧ (¬ a1 < (0 : Int32) → (((4 : Int32) < a1 → post (0 : Int32) X) ∧ (¬ (4 : Int32) < a1 → ((a1 = (0 : Int32) → post (X 2 0) X) ∧ (¬ a1 = (0 : Int32) → ((a1 = (1 : Int32) → post (X 3 0) X) ∧ (¬ a1 = (1 : Int32) → ((a1 = (2 : Int32) → post (X 4 0) X) ∧ (¬ a1 = (2 : Int32) → ((a1 = (3 : Int32) → post (X 6 0) X) ∧ (¬ a1 = (3 : Int32) → ((a1 = (4 : Int32) → post (X 5 0) X) ∧ (¬ a1 = (4 : Int32) → False))))))))))))))
set_option maxHeartbeats 4000000 in
set_option maxRecDepth 100000 in
theorem mt_CA_there (l : Launch) (hl9 : l.stackTraces = false) (dC : Nat → ClassId) (dI : Nat → Nat → Nat) (cA : Nat → ClassId) (ad : Nat → Nat) (hI : INJ ad 125) (sz : Nat) {X : ST} {a1 : Int32} {post : Int32 → ST → Prop} (hw : wp_CA_there post X a1) : Met l y_CA_there ws_CA_there ({ frames := 0, cells := 0, slots := 0, locals := 0 } : Room) (va_Pc [.ref (ad 0), .int a1] (fun U => PC dC dI cA ad sz X U)) (va_Qi (fun r (u : ST) => post r u) (fun (u : ST) t => va_P (dC, dI) vwCl (wdC cA ad u) t.heap) (CA ad 125 sz)) 0 0 (CA ad 125 sz) := by
  refine Met.ofW (cc := c_CA_there) (maxL := 2) (ret := (some .int)) (by decide) rfl ?_
  intro p e s m args below meth c s₁ B hml hv
  obtain ⟨rfl, hsz, hP, hG⟩ := hv
  have hx := B.exec
  have hb := B.bytes
  have hr := B.returns
  have hts : ∀ w ∈ GW, w.before (([.ref (ad 0), .int a1] : List Value).toArray) s = true := fun w h => atoms_spec (ws := ws_CA_there) B.pre w (List.mem_cons_of_mem _ h)
  have hown : s.vm.findClass R_CA = some m.cls := findClass_of_methodNamed B.named
  have hlocks := B.notSynchronized
  subst hsz
  have hK := hG.1
  have hG9 := hG
  have hNW := hG.2.1
  have hD0 : ∀ (X : ST), va_D (CA ad 125 s.heap.size) (wdC cA ad X) := fun _ => zwC_D hI
  have hS : va_S (CA ad 125 s.heap.size) s.heap s.heap [] := va_S.rf
  have hl := lv_entry ([.ref (ad 0), .int a1]) (n := 2) (Nat.le_of_ble_eq_true rfl)
  rw [lg_entry_eq]
  generalize (lg_sl ([.ref (ad 0), .int a1]) ++ List.replicate (2 - (lg_sl ([.ref (ad 0), .int a1])).length) Slot.unset).toArray = ls at hl ⊢
  have hl : lv_has ls 2 [(0, .ref (ad 0)), (1, .int a1)] := hl
  unfold wp_CA_there at hw
  refine lv_iload_n hx hb d_CA_there_0 rfl (lv_at hl 1 rfl) ?_
  by_cases c1 : a1 < (0 : Int32)
  · have hw := hw.1 c1
    refine lv_tableOut (tgt := 64) hx hb d_CA_there_1 (Or.inl (by have q := Int32.lt_iff_toInt_lt.mp c1; exact q)) (by decide) ?_
    refine lv_iconst (v := (0 : Int32)) hx hb d_CA_there_64 (by decide) ?_
    exact W.iret (v := (0 : Int32)) hx hb hr (fun t ht _ => ⟨⟨(0 : Int32), X, rfl, hw, by show va_P _ _ _ t.heap; rw [ht]; exact hP⟩, hS.F ht⟩) hS.2.2 d_CA_there_65
  have hw := hw.2 c1
  by_cases c2 : (4 : Int32) < a1
  · have hw := hw.1 c2
    refine lv_tableOut (tgt := 64) hx hb d_CA_there_1 (Or.inr (by have q := Int32.lt_iff_toInt_lt.mp c2; exact q)) (by decide) ?_
    refine lv_iconst (v := (0 : Int32)) hx hb d_CA_there_64 (by decide) ?_
    exact W.iret (v := (0 : Int32)) hx hb hr (fun t ht _ => ⟨⟨(0 : Int32), X, rfl, hw, by show va_P _ _ _ t.heap; rw [ht]; exact hP⟩, hS.F ht⟩) hS.2.2 d_CA_there_65
  have hw := hw.2 c2
  by_cases c3 : a1 = (0 : Int32)
  · have hw := hw.1 c3
    refine lv_tableIn (off := 35) (tgt := 36) hx hb d_CA_there_1 (by rw [c3]; decide) (by rw [c3]; decide) (by rw [c3]; decide) (by decide) ?_
    refine lv_aload_n hx hb d_CA_there_36 rfl (lv_at hl 0 rfl) ?_
    refine va_get (D := (dC, dI)) (ci := 0) (v := .int (X 2 0)) (C := R_CA) (T := T_CA) (N := 14) hx hb hts in_CA hown hK hP (0) atC_CA rfl 2 (by decide) (hts _ gw_32) (fun _ h9 => h9) rfl d_CA_there_37 ?_
    exact W.iret (v := X 2 0) hx hb hr (fun t ht _ => ⟨⟨X 2 0, X, rfl, hw, by show va_P _ _ _ t.heap; rw [ht]; exact hP⟩, hS.F ht⟩) hS.2.2 d_CA_there_40
  have hw := hw.2 c3
  by_cases c4 : a1 = (1 : Int32)
  · have hw := hw.1 c4
    refine lv_tableIn (off := 40) (tgt := 41) hx hb d_CA_there_1 (by rw [c4]; decide) (by rw [c4]; decide) (by rw [c4]; decide) (by decide) ?_
    refine lv_aload_n hx hb d_CA_there_41 rfl (lv_at hl 0 rfl) ?_
    refine va_get (D := (dC, dI)) (ci := 0) (v := .int (X 3 0)) (C := R_CA) (T := T_CA) (N := 14) hx hb hts in_CA hown hK hP (0) atC_CA rfl 3 (by decide) (hts _ gw_97) (fun _ h9 => h9) rfl d_CA_there_42 ?_
    exact W.iret (v := X 3 0) hx hb hr (fun t ht _ => ⟨⟨X 3 0, X, rfl, hw, by show va_P _ _ _ t.heap; rw [ht]; exact hP⟩, hS.F ht⟩) hS.2.2 d_CA_there_45
  have hw := hw.2 c4
  by_cases c5 : a1 = (2 : Int32)
  · have hw := hw.1 c5
    refine lv_tableIn (off := 45) (tgt := 46) hx hb d_CA_there_1 (by rw [c5]; decide) (by rw [c5]; decide) (by rw [c5]; decide) (by decide) ?_
    refine lv_aload_n hx hb d_CA_there_46 rfl (lv_at hl 0 rfl) ?_
    refine va_get (D := (dC, dI)) (ci := 0) (v := .int (X 4 0)) (C := R_CA) (T := T_CA) (N := 14) hx hb hts in_CA hown hK hP (0) atC_CA rfl 4 (by decide) (hts _ gw_79) (fun _ h9 => h9) rfl d_CA_there_47 ?_
    exact W.iret (v := X 4 0) hx hb hr (fun t ht _ => ⟨⟨X 4 0, X, rfl, hw, by show va_P _ _ _ t.heap; rw [ht]; exact hP⟩, hS.F ht⟩) hS.2.2 d_CA_there_50
  have hw := hw.2 c5
  by_cases c6 : a1 = (3 : Int32)
  · have hw := hw.1 c6
    refine lv_tableIn (off := 50) (tgt := 51) hx hb d_CA_there_1 (by rw [c6]; decide) (by rw [c6]; decide) (by rw [c6]; decide) (by decide) ?_
    refine lv_aload_n hx hb d_CA_there_51 rfl (lv_at hl 0 rfl) ?_
    refine va_get (D := (dC, dI)) (ci := 0) (v := .ref (ad 6)) (C := R_CA) (T := T_CA) (N := 14) hx hb hts in_CA hown hK hP (0) atC_CA rfl 11 (by decide) (hts _ gw_14) (fun _ h9 => h9) rfl d_CA_there_52 ?_
    refine va_get (D := (dC, dI)) (ci := 1) (v := .int (X 6 0)) (C := R_Non) (T := T_Non) (N := 2) hx hb hts in_Non hown hK hP (6) atC_Non rfl 0 (by decide) (hts _ gw_246) (fun _ h9 => h9) rfl d_CA_there_55 ?_
    exact W.iret (v := X 6 0) hx hb hr (fun t ht _ => ⟨⟨X 6 0, X, rfl, hw, by show va_P _ _ _ t.heap; rw [ht]; exact hP⟩, hS.F ht⟩) hS.2.2 d_CA_there_58
  have hw := hw.2 c6
  by_cases c7 : a1 = (4 : Int32)
  · have hw := hw.1 c7
    refine lv_tableIn (off := 58) (tgt := 59) hx hb d_CA_there_1 (by rw [c7]; decide) (by rw [c7]; decide) (by rw [c7]; decide) (by decide) ?_
    refine lv_aload_n hx hb d_CA_there_59 rfl (lv_at hl 0 rfl) ?_
    refine va_get (D := (dC, dI)) (ci := 0) (v := .int (X 5 0)) (C := R_CA) (T := T_CA) (N := 14) hx hb hts in_CA hown hK hP (0) atC_CA rfl 5 (by decide) (hts _ gw_192) (fun _ h9 => h9) rfl d_CA_there_60 ?_
    exact W.iret (v := X 5 0) hx hb hr (fun t ht _ => ⟨⟨X 5 0, X, rfl, hw, by show va_P _ _ _ t.heap; rw [ht]; exact hP⟩, hS.F ht⟩) hS.2.2 d_CA_there_63
  have hw := hw.2 c7
  exact hw.elim
