def ws_MO_must : List Cond := Cond.code y_MO_must c_MO_must 3 (Option.none : Option Jvm.ClassFile.FieldType) :: GW
theorem d_MO_must_0 : decode c_MO_must 0 = .ok (.aload_n 0, 1) := by decide +kernel
theorem d_MO_must_1 : decode c_MO_must 1 = .ok (.invokevirtual 185, 3) := by decide +kernel
theorem d_MO_must_4 : decode c_MO_must 4 = .ok (.iload_n 1, 1) := by decide +kernel
theorem d_MO_must_5 : decode c_MO_must 5 = .ok (.if_icmp .ne 7, 3) := by decide +kernel
theorem d_MO_must_8 : decode c_MO_must 8 = .ok (.iconst 1, 1) := by decide +kernel
theorem d_MO_must_9 : decode c_MO_must 9 = .ok (.goto 4, 3) := by decide +kernel
theorem d_MO_must_12 : decode c_MO_must 12 = .ok (.iconst 0, 1) := by decide +kernel
theorem d_MO_must_13 : decode c_MO_must 13 = .ok (.istore_n 2, 1) := by decide +kernel
theorem d_MO_must_14 : decode c_MO_must 14 = .ok (.aload_n 0, 1) := by decide +kernel
theorem d_MO_must_15 : decode c_MO_must 15 = .ok (.aload_n 0, 1) := by decide +kernel
theorem d_MO_must_16 : decode c_MO_must 16 = .ok (.getfield 175, 3) := by decide +kernel
theorem d_MO_must_19 : decode c_MO_must 19 = .ok (.ifCond .eq 11, 3) := by decide +kernel
theorem d_MO_must_22 : decode c_MO_must 22 = .ok (.iload_n 2, 1) := by decide +kernel
theorem d_MO_must_23 : decode c_MO_must 23 = .ok (.ifCond .eq 7, 3) := by decide +kernel
theorem d_MO_must_26 : decode c_MO_must 26 = .ok (.iconst 1, 1) := by decide +kernel
theorem d_MO_must_27 : decode c_MO_must 27 = .ok (.goto 4, 3) := by decide +kernel
theorem d_MO_must_30 : decode c_MO_must 30 = .ok (.iconst 0, 1) := by decide +kernel
theorem d_MO_must_31 : decode c_MO_must 31 = .ok (.putfield 175, 3) := by decide +kernel
theorem d_MO_must_34 : decode c_MO_must 34 = .ok (.return_, 1) := by decide +kernel
def wq_MO_must_31 (post : ST → Int64 → Prop) (s0 : Int32) (X : ST) (Y : Int64) : Prop := ((s0 = 0 ∨ s0 = 1) ∧ post (up X 67 0 s0) Y)
def wq_MO_must_13 (post : ST → Int64 → Prop) (s0 : Int32) (X : ST) (Y : Int64) : Prop := (((X 67 0) = 0 → wq_MO_must_31 post (0 : Int32) X Y) ∧ (¬ (X 67 0) = 0 → ((s0 = 0 → wq_MO_must_31 post (0 : Int32) X Y) ∧ (¬ s0 = 0 → wq_MO_must_31 post (1 : Int32) X Y))))
def wp_MO_must (post : ST → Int64 → Prop) (X : ST) (Y : Int64) (a1 : Int32) : Prop := wp_MO_next (fun (r6 : Int32) (X4 : ST) (Y5 : Int64) => ((r6 = a1 → wq_MO_must_13 post (1 : Int32) X4 Y5) ∧ (¬ r6 = a1 → wq_MO_must_13 post (0 : Int32) X4 Y5))) X Y
set_option maxHeartbeats 4000000 in
set_option maxRecDepth 100000 in
theorem mt_MO_must (l : Launch) (hl9 : l.stackTraces = false) (dC : Nat → ClassId) (dI : Nat → Nat → Nat) (cA : Nat → ClassId) (ad : Nat → Nat) (hI : INJ ad 23) (sz : Nat) {X : ST} {Y : Int64} {a1 : Int32} {post : ST → Int64 → Prop} (hw : wp_MO_must post X Y a1) : Met l y_MO_must ws_MO_must ({ frames := 1, cells := 0, slots := 0, locals := 21 } : Room) (va_Pc [.ref (ad 0), .int a1] (fun U => PM dC dI cA ad sz X Y U)) (va_Qv (fun (u : ST × Int64) => post u.1 u.2) (fun (u : ST × Int64) t => va_P (dC, dI) vwCl (wdM cA ad u.1 u.2) t.heap) (CA ad 23 sz)) 0 0 (CA ad 23 sz) := by
  refine Met.ofW (cc := c_MO_must) (maxL := 3) (ret := none) (by decide) rfl ?_
  intro p e s m args below meth c s₁ B hml hv
  obtain ⟨rfl, hsz, hP, hG⟩ := hv
  have hx := B.exec
  have hb := B.bytes
  have hr := B.returns
  have hts : ∀ w ∈ GW, w.before (([.ref (ad 0), .int a1] : List Value).toArray) s = true := fun w h => atoms_spec (ws := ws_MO_must) B.pre w (List.mem_cons_of_mem _ h)
  have hown : s.vm.findClass R_MO = some m.cls := findClass_of_methodNamed B.named
  have hlocks := B.notSynchronized
  subst hsz
  have hK := hG.1
  have hG9 := hG
  have hNW := hG.2
  have hD0 : ∀ (X : ST) (Y : Int64), va_D (CA ad 23 s.heap.size) (wdM cA ad X Y) := fun _ _ => zwM_D hI
  have hS : va_S (CA ad 23 s.heap.size) s.heap s.heap [] := va_S.rf
  have hl := lv_entry ([.ref (ad 0), .int a1]) (n := 3) (Nat.le_of_ble_eq_true rfl)
  rw [lg_entry_eq]
  generalize (lg_sl ([.ref (ad 0), .int a1]) ++ List.replicate (3 - (lg_sl ([.ref (ad 0), .int a1])).length) Slot.unset).toArray = ls at hl ⊢
  have hl : lv_has ls 3 [(0, .ref (ad 0)), (1, .int a1)] := hl
  have L31 : ∀ (s0 : Int32) (X : ST) (Y : Int64) (H : Heap) (locs : List Loc) (ls : Array Slot), wq_MO_must_31 post s0 X Y → va_P (dC, dI) vwCl (wdM cA ad X Y) H → va_S (CA ad 23 s.heap.size) s.heap H locs → lv_has ls 3 [] → W p l e (headSpec ws_MO_must ({ frames := 1, cells := 0, slots := 0, locals := 21 } : Room)).room s m (([.ref (ad 0), .int a1] : List Value).toArray) below meth c H locs 0 0 (MQ below (va_Qv (fun (u : ST × Int64) => post u.1 u.2) (fun (u : ST × Int64) t => va_P (dC, dI) vwCl (wdM cA ad u.1 u.2) t.heap) (CA ad 23 s.heap.size)) (([.ref (ad 0), .int a1] : List Value).toArray) s 0 0 (CA ad 23 s.heap.size)) (F0 m 31 ls [.int s0, .ref (ad 0)]) := by
    intro s0 X Y H locs ls hw hP hS hl
    unfold wq_MO_must_31 at hw
    obtain ⟨h1, hw⟩ := hw
    refine va_put (D := (dC, dI)) (ci := 9) (v := .int s0) (ty := .boolean) (C := R_MO) (T := T_MO) (N := 36) hx hb hts in_MO ty_MO ty_MO_ok nm_MO hown hK hP (hD0 _ _) hS (0) atM_MO rfl 32 (by decide) (hts _ gw_397) (fun _ h9 => h9) rfl (by decide +kernel) (zw_bn h1) (zw_bf h1) (Nat.le_of_ble_eq_true rfl) d_MO_must_31 (fun H locs hP _ hS => ?_)
    have hP : va_P (dC, dI) vwCl (wdM cA ad (up X 67 0 s0) Y) H := by rw [← stM_MO_32]; exact hP
    exact W.vret hx hb hr (fun t ht _ => ⟨⟨(up X 67 0 s0, Y), rfl, hw, by show va_P _ _ _ t.heap; rw [ht]; exact hP⟩, hS.F ht⟩) hS.2.2 d_MO_must_34
  have L13 : ∀ (s0 : Int32) (X : ST) (Y : Int64) (H : Heap) (locs : List Loc) (ls : Array Slot), wq_MO_must_13 post s0 X Y → va_P (dC, dI) vwCl (wdM cA ad X Y) H → va_S (CA ad 23 s.heap.size) s.heap H locs → lv_has ls 3 [(0, .ref (ad 0))] → W p l e (headSpec ws_MO_must ({ frames := 1, cells := 0, slots := 0, locals := 21 } : Room)).room s m (([.ref (ad 0), .int a1] : List Value).toArray) below meth c H locs 0 0 (MQ below (va_Qv (fun (u : ST × Int64) => post u.1 u.2) (fun (u : ST × Int64) t => va_P (dC, dI) vwCl (wdM cA ad u.1 u.2) t.heap) (CA ad 23 s.heap.size)) (([.ref (ad 0), .int a1] : List Value).toArray) s 0 0 (CA ad 23 s.heap.size)) (F0 m 13 ls [.int s0]) := by
    intro s0 X Y H locs ls hw hP hS hl
    unfold wq_MO_must_13 at hw
    refine lv_istore_n (lv' := [(2, .int s0), (0, .ref (ad 0))]) hx hb d_MO_must_13 rfl hl (by decide) rfl (fun ls hl => ?_)
    refine lv_aload_n hx hb d_MO_must_14 rfl (lv_at hl 1 rfl) ?_
    refine lv_aload_n hx hb d_MO_must_15 rfl (lv_at hl 1 rfl) ?_
    refine va_get (D := (dC, dI)) (ci := 9) (v := .int (X 67 0)) (C := R_MO) (T := T_MO) (N := 36) hx hb hts in_MO hown hK hP (0) atM_MO rfl 32 (by decide) (hts _ gw_397) (fun _ h9 => h9) rfl d_MO_must_16 ?_
    refine lv_if_eq (tgt := 30) hx hb d_MO_must_19 (by decide) (fun c2 => ?_) (fun c2 => ?_)
    · have hw := hw.1 c2
      refine lv_iconst (v := (0 : Int32)) hx hb d_MO_must_30 (by decide) ?_
      have hl := lv_sub hl (l' := []) [] rfl
      exact L31 _ _ _ _ _ _ hw hP hS hl
    · have hw := hw.2 c2
      refine lv_iload_n hx hb d_MO_must_22 rfl (lv_at hl 0 rfl) ?_
      refine lv_if_eq (tgt := 30) hx hb d_MO_must_23 (by decide) (fun c3 => ?_) (fun c3 => ?_)
      · have hw := hw.1 c3
        refine lv_iconst (v := (0 : Int32)) hx hb d_MO_must_30 (by decide) ?_
        have hl := lv_sub hl (l' := []) [] rfl
        exact L31 _ _ _ _ _ _ hw hP hS hl
      · have hw := hw.2 c3
        refine lv_iconst (v := (1 : Int32)) hx hb d_MO_must_26 (by decide) ?_
        refine lv_goto (tgt := 31) hx hb d_MO_must_27 (by decide) ?_
        have hl := lv_sub hl (l' := []) [] rfl
        exact L31 _ _ _ _ _ _ hw hP hS hl
  unfold wp_MO_must at hw
  refine lv_aload_n hx hb d_MO_must_0 rfl (lv_at hl 0 rfl) ?_
  refine va_calli (va_runV (As := []) (rest := []) ⟨hx, hb, hml, hown, hts⟩ (mt_MO_next l hl9 dC dI cA ad hI _ hw) (cwV 0 hts (gV gw_401 gw_402 gw_403 gw_306 gw_400) rfl rfl rfl (by decide +kernel) ⟨Nat.le_of_ble_eq_true rfl, Nat.le_of_ble_eq_true rfl⟩) ⟨zwM_blind, va_recv hK hP (ci := 9) (q0 := 0) rfl atM_MO, zwM_pre hP hS hG9⟩ rfl rfl hl.1 rfl (lv_room (Nat.le_of_ble_eq_true rfl)) d_MO_must_1 ⟨Nat.le_of_ble_eq_true rfl, Nat.le_of_ble_eq_true rfl⟩) hS (fun q _ h => CA_le hS.1 q h) (fun q h => CA_le hS.1 q h) (fun r6 u9 t H locs ht hvm hw hP hz1 hk1 hS => ?_)
  obtain ⟨X4, Y5⟩ := u9
  have hP : va_P (dC, dI) vwCl (wdM cA ad X4 Y5) H := by rw [← ht]; exact hP
  try dsimp only at hw
  refine lv_iload_n hx hb d_MO_must_4 rfl (lv_at hl 1 rfl) ?_
  refine lv_icmp_ne (tgt := 12) hx hb d_MO_must_5 (by decide) (fun c7 => ?_) (fun c7 => ?_)
  · have hw := hw.2 c7
    refine lv_iconst (v := (0 : Int32)) hx hb d_MO_must_12 (by decide) ?_
    have hl := lv_sub hl (l' := [(0, .ref (ad 0))]) [0] rfl
    exact L13 _ _ _ _ _ _ hw hP hS hl
  · have hw := hw.1 c7
    refine lv_iconst (v := (1 : Int32)) hx hb d_MO_must_8 (by decide) ?_
    refine lv_goto (tgt := 13) hx hb d_MO_must_9 (by decide) ?_
    have hl := lv_sub hl (l' := [(0, .ref (ad 0))]) [0] rfl
    exact L13 _ _ _ _ _ _ hw hP hS hl
def ws_MO_takeLength : List Cond := Cond.code y_MO_takeLength c_MO_takeLength 2 (Option.some Jvm.ClassFile.FieldType.int) :: GW
theorem d_MO_takeLength_0 : decode c_MO_takeLength 0 = .ok (.aload_n 0, 1) := by decide +kernel
theorem d_MO_takeLength_1 : decode c_MO_takeLength 1 = .ok (.invokevirtual 185, 3) := by decide +kernel
theorem d_MO_takeLength_4 : decode c_MO_takeLength 4 = .ok (.istore_n 1, 1) := by decide +kernel
theorem d_MO_takeLength_5 : decode c_MO_takeLength 5 = .ok (.aload_n 0, 1) := by decide +kernel
theorem d_MO_takeLength_6 : decode c_MO_takeLength 6 = .ok (.aload_n 0, 1) := by decide +kernel
theorem d_MO_takeLength_7 : decode c_MO_takeLength 7 = .ok (.getfield 175, 3) := by decide +kernel
theorem d_MO_takeLength_10 : decode c_MO_takeLength 10 = .ok (.ifCond .eq 14, 3) := by decide +kernel
theorem d_MO_takeLength_13 : decode c_MO_takeLength 13 = .ok (.iload_n 1, 1) := by decide +kernel
theorem d_MO_takeLength_14 : decode c_MO_takeLength 14 = .ok (.sipush 128, 3) := by decide +kernel
theorem d_MO_takeLength_17 : decode c_MO_takeLength 17 = .ok (.if_icmp .ge 7, 3) := by decide +kernel
theorem d_MO_takeLength_20 : decode c_MO_takeLength 20 = .ok (.iconst 1, 1) := by decide +kernel
theorem d_MO_takeLength_21 : decode c_MO_takeLength 21 = .ok (.goto 4, 3) := by decide +kernel
theorem d_MO_takeLength_24 : decode c_MO_takeLength 24 = .ok (.iconst 0, 1) := by decide +kernel
theorem d_MO_takeLength_25 : decode c_MO_takeLength 25 = .ok (.putfield 175, 3) := by decide +kernel
theorem d_MO_takeLength_28 : decode c_MO_takeLength 28 = .ok (.iload_n 1, 1) := by decide +kernel
theorem d_MO_takeLength_29 : decode c_MO_takeLength 29 = .ok (.ireturn, 1) := by decide +kernel
def wq_MO_takeLength_25 (post : Int32 → ST → Int64 → Prop) (s0 : Int32) (v1 : Int32) (X : ST) (Y : Int64) : Prop := ((s0 = 0 ∨ s0 = 1) ∧ post v1 (up X 67 0 s0) Y)
def wp_MO_takeLength (post : Int32 → ST → Int64 → Prop) (X : ST) (Y : Int64) : Prop := wp_MO_next (fun (r4 : Int32) (X2 : ST) (Y3 : Int64) => (((X2 67 0) = 0 → wq_MO_takeLength_25 post (0 : Int32) r4 X2 Y3) ∧ (¬ (X2 67 0) = 0 → (((128 : Int32) ≤ r4 → wq_MO_takeLength_25 post (0 : Int32) r4 X2 Y3) ∧ (¬ (128 : Int32) ≤ r4 → wq_MO_takeLength_25 post (1 : Int32) r4 X2 Y3))))) X Y
set_option maxHeartbeats 4000000 in
set_option maxRecDepth 100000 in
theorem mt_MO_takeLength (l : Launch) (hl9 : l.stackTraces = false) (dC : Nat → ClassId) (dI : Nat → Nat → Nat) (cA : Nat → ClassId) (ad : Nat → Nat) (hI : INJ ad 23) (sz : Nat) {X : ST} {Y : Int64} {post : Int32 → ST → Int64 → Prop} (hw : wp_MO_takeLength post X Y) : Met l y_MO_takeLength ws_MO_takeLength ({ frames := 1, cells := 0, slots := 0, locals := 21 } : Room) (va_Pc [.ref (ad 0)] (fun U => PM dC dI cA ad sz X Y U)) (va_Qi (fun r (u : ST × Int64) => post r u.1 u.2) (fun (u : ST × Int64) t => va_P (dC, dI) vwCl (wdM cA ad u.1 u.2) t.heap) (CA ad 23 sz)) 0 0 (CA ad 23 sz) := by
  refine Met.ofW (cc := c_MO_takeLength) (maxL := 2) (ret := (some .int)) (by decide) rfl ?_
  intro p e s m args below meth c s₁ B hml hv
  obtain ⟨rfl, hsz, hP, hG⟩ := hv
  have hx := B.exec
  have hb := B.bytes
  have hr := B.returns
  have hts : ∀ w ∈ GW, w.before (([.ref (ad 0)] : List Value).toArray) s = true := fun w h => atoms_spec (ws := ws_MO_takeLength) B.pre w (List.mem_cons_of_mem _ h)
  have hown : s.vm.findClass R_MO = some m.cls := findClass_of_methodNamed B.named
  have hlocks := B.notSynchronized
  subst hsz
  have hK := hG.1
  have hG9 := hG
  have hNW := hG.2
  have hD0 : ∀ (X : ST) (Y : Int64), va_D (CA ad 23 s.heap.size) (wdM cA ad X Y) := fun _ _ => zwM_D hI
  have hS : va_S (CA ad 23 s.heap.size) s.heap s.heap [] := va_S.rf
  have hl := lv_entry ([.ref (ad 0)]) (n := 2) (Nat.le_of_ble_eq_true rfl)
  rw [lg_entry_eq]
  generalize (lg_sl ([.ref (ad 0)]) ++ List.replicate (2 - (lg_sl ([.ref (ad 0)])).length) Slot.unset).toArray = ls at hl ⊢
  have hl : lv_has ls 2 [(0, .ref (ad 0))] := hl
  have L25 : ∀ (s0 : Int32) (v1 : Int32) (X : ST) (Y : Int64) (H : Heap) (locs : List Loc) (ls : Array Slot), wq_MO_takeLength_25 post s0 v1 X Y → va_P (dC, dI) vwCl (wdM cA ad X Y) H → va_S (CA ad 23 s.heap.size) s.heap H locs → lv_has ls 2 [(1, .int v1)] → W p l e (headSpec ws_MO_takeLength ({ frames := 1, cells := 0, slots := 0, locals := 21 } : Room)).room s m (([.ref (ad 0)] : List Value).toArray) below meth c H locs 0 0 (MQ below (va_Qi (fun r (u : ST × Int64) => post r u.1 u.2) (fun (u : ST × Int64) t => va_P (dC, dI) vwCl (wdM cA ad u.1 u.2) t.heap) (CA ad 23 s.heap.size)) (([.ref (ad 0)] : List Value).toArray) s 0 0 (CA ad 23 s.heap.size)) (F0 m 25 ls [.int s0, .ref (ad 0)]) := by
    intro s0 v1 X Y H locs ls hw hP hS hl
    unfold wq_MO_takeLength_25 at hw
    obtain ⟨h1, hw⟩ := hw
    refine va_put (D := (dC, dI)) (ci := 9) (v := .int s0) (ty := .boolean) (C := R_MO) (T := T_MO) (N := 36) hx hb hts in_MO ty_MO ty_MO_ok nm_MO hown hK hP (hD0 _ _) hS (0) atM_MO rfl 32 (by decide) (hts _ gw_397) (fun _ h9 => h9) rfl (by decide +kernel) (zw_bn h1) (zw_bf h1) (Nat.le_of_ble_eq_true rfl) d_MO_takeLength_25 (fun H locs hP _ hS => ?_)
    have hP : va_P (dC, dI) vwCl (wdM cA ad (up X 67 0 s0) Y) H := by rw [← stM_MO_32]; exact hP
    refine lv_iload_n hx hb d_MO_takeLength_28 rfl (lv_at hl 0 rfl) ?_
    exact W.iret (v := v1) hx hb hr (fun t ht _ => ⟨⟨v1, (up X 67 0 s0, Y), rfl, hw, by show va_P _ _ _ t.heap; rw [ht]; exact hP⟩, hS.F ht⟩) hS.2.2 d_MO_takeLength_29
  unfold wp_MO_takeLength at hw
  refine lv_aload_n hx hb d_MO_takeLength_0 rfl (lv_at hl 0 rfl) ?_
  refine va_calli (va_runV (As := []) (rest := []) ⟨hx, hb, hml, hown, hts⟩ (mt_MO_next l hl9 dC dI cA ad hI _ hw) (cwV 0 hts (gV gw_401 gw_402 gw_403 gw_306 gw_400) rfl rfl rfl (by decide +kernel) ⟨Nat.le_of_ble_eq_true rfl, Nat.le_of_ble_eq_true rfl⟩) ⟨zwM_blind, va_recv hK hP (ci := 9) (q0 := 0) rfl atM_MO, zwM_pre hP hS hG9⟩ rfl rfl hl.1 rfl (lv_room (Nat.le_of_ble_eq_true rfl)) d_MO_takeLength_1 ⟨Nat.le_of_ble_eq_true rfl, Nat.le_of_ble_eq_true rfl⟩) hS (fun q _ h => CA_le hS.1 q h) (fun q h => CA_le hS.1 q h) (fun r4 u9 t H locs ht hvm hw hP hz1 hk1 hS => ?_)
  obtain ⟨X2, Y3⟩ := u9
  have hP : va_P (dC, dI) vwCl (wdM cA ad X2 Y3) H := by rw [← ht]; exact hP
  try dsimp only at hw
  refine lv_istore_n (lv' := [(1, .int r4), (0, .ref (ad 0))]) hx hb d_MO_takeLength_4 rfl hl (by decide) rfl (fun ls hl => ?_)
  refine lv_aload_n hx hb d_MO_takeLength_5 rfl (lv_at hl 1 rfl) ?_
  refine lv_aload_n hx hb d_MO_takeLength_6 rfl (lv_at hl 1 rfl) ?_
  refine va_get (D := (dC, dI)) (ci := 9) (v := .int (X2 67 0)) (C := R_MO) (T := T_MO) (N := 36) hx hb hts in_MO hown hK hP (0) atM_MO rfl 32 (by decide) (hts _ gw_397) (fun _ h9 => h9) rfl d_MO_takeLength_7 ?_
  refine lv_if_eq (tgt := 24) hx hb d_MO_takeLength_10 (by decide) (fun c5 => ?_) (fun c5 => ?_)
  · have hw := hw.1 c5
    refine lv_iconst (v := (0 : Int32)) hx hb d_MO_takeLength_24 (by decide) ?_
    have hl := lv_sub hl (l' := [(1, .int r4)]) [0] rfl
    exact L25 _ _ _ _ _ _ _ hw hP hS hl
  · have hw := hw.2 c5
    refine lv_iload_n hx hb d_MO_takeLength_13 rfl (lv_at hl 0 rfl) ?_
    refine lv_sipush (v := (128 : Int32)) hx hb d_MO_takeLength_14 (by decide) ?_
    refine lv_icmp_ge (tgt := 24) hx hb d_MO_takeLength_17 (by decide) (fun c6 => ?_) (fun c6 => ?_)
    · have hw := hw.1 c6
      refine lv_iconst (v := (0 : Int32)) hx hb d_MO_takeLength_24 (by decide) ?_
      have hl := lv_sub hl (l' := [(1, .int r4)]) [0] rfl
      exact L25 _ _ _ _ _ _ _ hw hP hS hl
    · have hw := hw.2 c6
      refine lv_iconst (v := (1 : Int32)) hx hb d_MO_takeLength_20 (by decide) ?_
      refine lv_goto (tgt := 25) hx hb d_MO_takeLength_21 (by decide) ?_
      have hl := lv_sub hl (l' := [(1, .int r4)]) [0] rfl
      exact L25 _ _ _ _ _ _ _ hw hP hS hl
