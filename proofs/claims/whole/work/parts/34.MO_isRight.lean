def ws_MO_isRight : List Cond := Cond.code y_MO_isRight c_MO_isRight 3 (Option.some Jvm.ClassFile.FieldType.boolean) :: GW
theorem d_MO_isRight_0 : decode c_MO_isRight 0 = .ok (.iload_n 0, 1) := by decide +kernel
theorem d_MO_isRight_1 : decode c_MO_isRight 1 = .ok (.ifCond .lt 28, 3) := by decide +kernel
theorem d_MO_isRight_4 : decode c_MO_isRight 4 = .ok (.iload_n 0, 1) := by decide +kernel
theorem d_MO_isRight_5 : decode c_MO_isRight 5 = .ok (.iload_n 2, 1) := by decide +kernel
theorem d_MO_isRight_6 : decode c_MO_isRight 6 = .ok (.if_icmp .ge 23, 3) := by decide +kernel
theorem d_MO_isRight_9 : decode c_MO_isRight 9 = .ok (.iload_n 0, 1) := by decide +kernel
theorem d_MO_isRight_10 : decode c_MO_isRight 10 = .ok (.i2l, 1) := by decide +kernel
theorem d_MO_isRight_11 : decode c_MO_isRight 11 = .ok (.bipush 17, 2) := by decide +kernel
theorem d_MO_isRight_13 : decode c_MO_isRight 13 = .ok (.iload_n 2, 1) := by decide +kernel
theorem d_MO_isRight_14 : decode c_MO_isRight 14 = .ok (.invokestatic 99, 3) := by decide +kernel
theorem d_MO_isRight_17 : decode c_MO_isRight 17 = .ok (.iload_n 1, 1) := by decide +kernel
theorem d_MO_isRight_18 : decode c_MO_isRight 18 = .ok (.iload_n 2, 1) := by decide +kernel
theorem d_MO_isRight_19 : decode c_MO_isRight 19 = .ok (.irem, 1) := by decide +kernel
theorem d_MO_isRight_20 : decode c_MO_isRight 20 = .ok (.i2l, 1) := by decide +kernel
theorem d_MO_isRight_21 : decode c_MO_isRight 21 = .ok (.lcmp, 1) := by decide +kernel
theorem d_MO_isRight_22 : decode c_MO_isRight 22 = .ok (.ifCond .ne 7, 3) := by decide +kernel
theorem d_MO_isRight_25 : decode c_MO_isRight 25 = .ok (.iconst 1, 1) := by decide +kernel
theorem d_MO_isRight_26 : decode c_MO_isRight 26 = .ok (.goto 4, 3) := by decide +kernel
theorem d_MO_isRight_29 : decode c_MO_isRight 29 = .ok (.iconst 0, 1) := by decide +kernel
theorem d_MO_isRight_30 : decode c_MO_isRight 30 = .ok (.ireturn, 1) := by decide +kernel
def wp_MO_isRight (post : Int32 → ST → Int64 → Prop) (X : ST) (Y : Int64) (a1 : Int32) (a2 : Int32) (a3 : Int32) : Prop := ((a1 < 0 → post (0 : Int32) X Y) ∧ (¬ a1 < 0 → ((a3 ≤ a1 → post (0 : Int32) X Y) ∧ (¬ a3 ≤ a1 → wp_MO_raised (fun (r5 : Int64) (X3 : ST) (Y4 : Int64) => (¬ a3 = 0 ∧ ((r5 = ((a2 - a2 / a3 * a3).toInt64) → post (1 : Int32) X3 Y4) ∧ (¬ r5 = ((a2 - a2 / a3 * a3).toInt64) → post (0 : Int32) X3 Y4)))) X Y a1.toInt64 (17 : Int32) a3))))
set_option maxHeartbeats 4000000 in
set_option maxRecDepth 100000 in
theorem mt_MO_isRight (l : Launch) (hl9 : l.stackTraces = false) (dC : Nat → ClassId) (dI : Nat → Nat → Nat) (cA : Nat → ClassId) (ad : Nat → Nat) (hI : INJ ad 23) (sz : Nat) {X : ST} {Y : Int64} {a1 : Int32} {a2 : Int32} {a3 : Int32} {post : Int32 → ST → Int64 → Prop} (hw : wp_MO_isRight post X Y a1 a2 a3) : Met l y_MO_isRight ws_MO_isRight ({ frames := 1, cells := 0, slots := 0, locals := 26 } : Room) (va_Pc [.int a1, .int a2, .int a3] (fun U => PM dC dI cA ad sz X Y U)) (va_Qi (fun r (u : ST × Int64) => post r u.1 u.2) (fun (u : ST × Int64) t => va_P (dC, dI) vwCl (wdM cA ad u.1 u.2) t.heap) (CA ad 23 sz)) 0 0 (CA ad 23 sz) := by
  refine Met.ofW (cc := c_MO_isRight) (maxL := 3) (ret := (some .boolean)) (by decide) rfl ?_
  intro p e s m args below meth c s₁ B hml hv
  obtain ⟨rfl, hsz, hP, hG⟩ := hv
  have hx := B.exec
  have hb := B.bytes
  have hr := B.returns
  have hts : ∀ w ∈ GW, w.before (([.int a1, .int a2, .int a3] : List Value).toArray) s = true := fun w h => atoms_spec (ws := ws_MO_isRight) B.pre w (List.mem_cons_of_mem _ h)
  have hown : s.vm.findClass R_MO = some m.cls := findClass_of_methodNamed B.named
  have hlocks := B.notSynchronized
  subst hsz
  have hK := hG.1
  have hG9 := hG
  have hNW := hG.2
  have hD0 : ∀ (X : ST) (Y : Int64), va_D (CA ad 23 s.heap.size) (wdM cA ad X Y) := fun _ _ => zwM_D hI
  have hS : va_S (CA ad 23 s.heap.size) s.heap s.heap [] := va_S.rf
  have hl := lv_entry ([.int a1, .int a2, .int a3]) (n := 3) (Nat.le_of_ble_eq_true rfl)
  rw [lg_entry_eq]
  generalize (lg_sl ([.int a1, .int a2, .int a3]) ++ List.replicate (3 - (lg_sl ([.int a1, .int a2, .int a3])).length) Slot.unset).toArray = ls at hl ⊢
  have hl : lv_has ls 3 [(0, .int a1), (1, .int a2), (2, .int a3)] := hl
  unfold wp_MO_isRight at hw
  refine lv_iload_n hx hb d_MO_isRight_0 rfl (lv_at hl 0 rfl) ?_
  refine lv_if_lt (tgt := 29) hx hb d_MO_isRight_1 (by decide) (fun c1 => ?_) (fun c1 => ?_)
  · have hw := hw.1 c1
    refine lv_iconst (v := (0 : Int32)) hx hb d_MO_isRight_29 (by decide) ?_
    exact W.zret (v := (0 : Int32)) hx hb hr (by decide) (fun t ht _ => ⟨⟨(0 : Int32), (X, Y), rfl, hw, by show va_P _ _ _ t.heap; rw [ht]; exact hP⟩, hS.F ht⟩) hS.2.2 d_MO_isRight_30
  · have hw := hw.2 c1
    refine lv_iload_n hx hb d_MO_isRight_4 rfl (lv_at hl 0 rfl) ?_
    refine lv_iload_n hx hb d_MO_isRight_5 rfl (lv_at hl 2 rfl) ?_
    refine lv_icmp_ge (tgt := 29) hx hb d_MO_isRight_6 (by decide) (fun c2 => ?_) (fun c2 => ?_)
    · have hw := hw.1 c2
      refine lv_iconst (v := (0 : Int32)) hx hb d_MO_isRight_29 (by decide) ?_
      exact W.zret (v := (0 : Int32)) hx hb hr (by decide) (fun t ht _ => ⟨⟨(0 : Int32), (X, Y), rfl, hw, by show va_P _ _ _ t.heap; rw [ht]; exact hP⟩, hS.F ht⟩) hS.2.2 d_MO_isRight_30
    · have hw := hw.2 c2
      refine lv_iload_n hx hb d_MO_isRight_9 rfl (lv_at hl 0 rfl) ?_
      refine lv_i2l hx hb d_MO_isRight_10 rfl ?_
      refine lv_bipush (v := (17 : Int32)) hx hb d_MO_isRight_11 (by decide) ?_
      refine lv_iload_n hx hb d_MO_isRight_13 rfl (lv_at hl 2 rfl) ?_
      refine va_calll (va_runS (As := [.long a1.toInt64, .int (17 : Int32), .int a3]) (rest := []) ⟨hx, hb, hml, hown, hts⟩ (mt_MO_raised l hl9 dC dI cA ad hI _ hw) (va_cwS 3 hts (gS gw_312 gw_313 gw_306 gw_311) rfl rfl rfl (by decide +kernel) ⟨Nat.le_of_ble_eq_true rfl, Nat.le_of_ble_eq_true rfl⟩) ⟨zwM_blind, zwM_pre hP hS hG9⟩ rfl rfl hl.1 rfl (lv_room (Nat.le_of_ble_eq_true rfl)) d_MO_isRight_14 ⟨Nat.le_of_ble_eq_true rfl, Nat.le_of_ble_eq_true rfl⟩) hS (fun q _ h => CA_le hS.1 q h) (fun q h => CA_le hS.1 q h) (fun r5 u9 t H locs ht hvm hw hP hz1 hk1 hS => ?_)
      obtain ⟨X3, Y4⟩ := u9
      have hP : va_P (dC, dI) vwCl (wdM cA ad X3 Y4) H := by rw [← ht]; exact hP
      try dsimp only at hw
      refine lv_iload_n hx hb d_MO_isRight_17 rfl (lv_at hl 1 rfl) ?_
      refine lv_iload_n hx hb d_MO_isRight_18 rfl (lv_at hl 2 rfl) ?_
      obtain ⟨h6, hw⟩ := hw
      refine lv_irem hx hb d_MO_isRight_19 h6 ?_
      refine lv_i2l hx hb d_MO_isRight_20 rfl ?_
      refine W.lcmp hx hb d_MO_isRight_21 ?_
      refine lv_if_ne (tgt := 29) hx hb d_MO_isRight_22 (by decide) (fun c7 => ?_) (fun c7 => ?_)
      · have hw := hw.2 (fun q => c7 ((lg_cmp_eq _ _).mpr q))
        refine lv_iconst (v := (0 : Int32)) hx hb d_MO_isRight_29 (by decide) ?_
        exact W.zret (v := (0 : Int32)) hx hb hr (by decide) (fun t ht _ => ⟨⟨(0 : Int32), (X3, Y4), rfl, hw, by show va_P _ _ _ t.heap; rw [ht]; exact hP⟩, hS.F ht⟩) hS.2.2 d_MO_isRight_30
      · have hw := hw.1 ((lg_cmp_eq _ _).mp c7)
        refine lv_iconst (v := (1 : Int32)) hx hb d_MO_isRight_25 (by decide) ?_
        refine lv_goto (tgt := 30) hx hb d_MO_isRight_26 (by decide) ?_
        exact W.zret (v := (1 : Int32)) hx hb hr (by decide) (fun t ht _ => ⟨⟨(1 : Int32), (X3, Y4), rfl, hw, by show va_P _ _ _ t.heap; rw [ht]; exact hP⟩, hS.F ht⟩) hS.2.2 d_MO_isRight_30
def ws_MO_take : List Cond := Cond.code y_MO_take c_MO_take 3 (Option.none : Option Jvm.ClassFile.FieldType) :: GW
theorem d_MO_take_0 : decode c_MO_take 0 = .ok (.iload_n 1, 1) := by decide +kernel
theorem d_MO_take_1 : decode c_MO_take 1 = .ok (.istore_n 2, 1) := by decide +kernel
theorem d_MO_take_2 : decode c_MO_take 2 = .ok (.iload_n 2, 1) := by decide +kernel
theorem d_MO_take_3 : decode c_MO_take 3 = .ok (.iconst 1, 1) := by decide +kernel
theorem d_MO_take_4 : decode c_MO_take 4 = .ok (.iadd, 1) := by decide +kernel
theorem d_MO_take_5 : decode c_MO_take 5 = .ok (.aload_n 0, 1) := by decide +kernel
theorem d_MO_take_6 : decode c_MO_take 6 = .ok (.getfield 103, 3) := by decide +kernel
theorem d_MO_take_9 : decode c_MO_take 9 = .ok (.if_icmp .ge 23, 3) := by decide +kernel
theorem d_MO_take_12 : decode c_MO_take 12 = .ok (.aload_n 0, 1) := by decide +kernel
theorem d_MO_take_13 : decode c_MO_take 13 = .ok (.getfield 71, 3) := by decide +kernel
theorem d_MO_take_16 : decode c_MO_take 16 = .ok (.iload_n 2, 1) := by decide +kernel
theorem d_MO_take_17 : decode c_MO_take 17 = .ok (.aload_n 0, 1) := by decide +kernel
theorem d_MO_take_18 : decode c_MO_take 18 = .ok (.getfield 71, 3) := by decide +kernel
theorem d_MO_take_21 : decode c_MO_take 21 = .ok (.iload_n 2, 1) := by decide +kernel
theorem d_MO_take_22 : decode c_MO_take 22 = .ok (.iconst 1, 1) := by decide +kernel
theorem d_MO_take_23 : decode c_MO_take 23 = .ok (.iadd, 1) := by decide +kernel
theorem d_MO_take_24 : decode c_MO_take 24 = .ok (.iaload, 1) := by decide +kernel
theorem d_MO_take_25 : decode c_MO_take 25 = .ok (.iastore, 1) := by decide +kernel
theorem d_MO_take_26 : decode c_MO_take 26 = .ok (.iinc 2 1, 3) := by decide +kernel
theorem d_MO_take_29 : decode c_MO_take 29 = .ok (.goto (-27), 3) := by decide +kernel
theorem d_MO_take_32 : decode c_MO_take 32 = .ok (.aload_n 0, 1) := by decide +kernel
theorem d_MO_take_33 : decode c_MO_take 33 = .ok (.dup, 1) := by decide +kernel
theorem d_MO_take_34 : decode c_MO_take 34 = .ok (.getfield 103, 3) := by decide +kernel
theorem d_MO_take_37 : decode c_MO_take 37 = .ok (.iconst 1, 1) := by decide +kernel
theorem d_MO_take_38 : decode c_MO_take 38 = .ok (.isub, 1) := by decide +kernel
theorem d_MO_take_39 : decode c_MO_take 39 = .ok (.putfield 103, 3) := by decide +kernel
theorem d_MO_take_42 : decode c_MO_take 42 = .ok (.return_, 1) := by decide +kernel
def wq_MO_take_2 (post : ST → Int64 → Prop) : Nat → Int32 → ST → Int64 → Prop
  | 0 => fun _ _ _ => False
  | n + 1 => fun v2 X Y => (((X 6 0) ≤ (v2 + (1 : Int32)) → post (up X 6 0 ((X 6 0) - (1 : Int32))) Y) ∧ (¬ (X 6 0) ≤ (v2 + (1 : Int32)) → (vp_in (v2 + (1 : Int32)) 9 ∧ (vp_in v2 9 ∧ wq_MO_take_2 post n (v2 + (1 : Int32)) (up X 61 v2.toNatClampNeg (X 61 (v2 + (1 : Int32)).toNatClampNeg)) Y))))
def wp_MO_take (post : ST → Int64 → Prop) (X : ST) (Y : Int64) (a1 : Int32) : Prop := (∃ n9, wq_MO_take_2 post n9 a1 X Y)
set_option maxHeartbeats 4000000 in
set_option maxRecDepth 100000 in
theorem mt_MO_take (l : Launch) (hl9 : l.stackTraces = false) (dC : Nat → ClassId) (dI : Nat → Nat → Nat) (cA : Nat → ClassId) (ad : Nat → Nat) (hI : INJ ad 23) (sz : Nat) {X : ST} {Y : Int64} {a1 : Int32} {post : ST → Int64 → Prop} (hw : wp_MO_take post X Y a1) : Met l y_MO_take ws_MO_take ({ frames := 0, cells := 0, slots := 0, locals := 0 } : Room) (va_Pc [.ref (ad 0), .int a1] (fun U => PM dC dI cA ad sz X Y U)) (va_Qv (fun (u : ST × Int64) => post u.1 u.2) (fun (u : ST × Int64) t => va_P (dC, dI) vwCl (wdM cA ad u.1 u.2) t.heap) (CA ad 23 sz)) 0 0 (CA ad 23 sz) := by
  refine Met.ofW (cc := c_MO_take) (maxL := 3) (ret := none) (by decide) rfl ?_
  intro p e s m args below meth c s₁ B hml hv
  obtain ⟨rfl, hsz, hP, hG⟩ := hv
  have hx := B.exec
  have hb := B.bytes
  have hr := B.returns
  have hts : ∀ w ∈ GW, w.before (([.ref (ad 0), .int a1] : List Value).toArray) s = true := fun w h => atoms_spec (ws := ws_MO_take) B.pre w (List.mem_cons_of_mem _ h)
  have hown : s.vm.findClass R_MO = some m.cls := findClass_of_methodNamed B.named
  have hlocks := B.notSynchronized
  subst hsz
  have hK := hG.1
  have hG9 := hG
  have hNW := hG.2
  have hD0 : ∀ (X : ST) (Y : Int64), va_D (CA ad 23 s.heap.size) (wdM cA ad X Y) := fun _ _ => zwM_D hI
  have hS : va_S (CA ad 23 s.heap.size) s.heap s.heap [] := va_S.rf
  have hl := lv_entry ([.ref (ad 0), .int a1]) (n := 3) (Nat.le_of_ble_eq_true rfl)
  rw [lg_entry_eq]
  generalize (lg_sl ([.ref (ad 0), .int a1]) ++ List.replicate (3 - (lg_sl ([.ref (ad 0), .int a1])).length) Slot.unset).toArray = ls at hl ⊢
  have hl : lv_has ls 3 [(0, .ref (ad 0)), (1, .int a1)] := hl
  have L2 : ∀ (n : Nat), ∀ (v2 : Int32) (X : ST) (Y : Int64) (H : Heap) (locs : List Loc) (ls : Array Slot), wq_MO_take_2 post n v2 X Y → va_P (dC, dI) vwCl (wdM cA ad X Y) H → va_S (CA ad 23 s.heap.size) s.heap H locs → lv_has ls 3 [(0, .ref (ad 0)), (2, .int v2)] → W p l e (headSpec ws_MO_take ({ frames := 0, cells := 0, slots := 0, locals := 0 } : Room)).room s m (([.ref (ad 0), .int a1] : List Value).toArray) below meth c H locs 0 0 (MQ below (va_Qv (fun (u : ST × Int64) => post u.1 u.2) (fun (u : ST × Int64) t => va_P (dC, dI) vwCl (wdM cA ad u.1 u.2) t.heap) (CA ad 23 s.heap.size)) (([.ref (ad 0), .int a1] : List Value).toArray) s 0 0 (CA ad 23 s.heap.size)) (F0 m 2 ls []) := by
    intro n
    induction n with
    | zero => intro v2 X Y H locs ls hw hP hS hl; exact False.elim hw
    | succ n ih =>
      intro v2 X Y H locs ls hw hP hS hl
      dsimp only [wq_MO_take_2] at hw
      refine lv_iload_n hx hb d_MO_take_2 rfl (lv_at hl 1 rfl) ?_
      refine lv_iconst (v := (1 : Int32)) hx hb d_MO_take_3 (by decide) ?_
      refine lv_iadd hx hb d_MO_take_4 ?_
      refine lv_aload_n hx hb d_MO_take_5 rfl (lv_at hl 0 rfl) ?_
      refine va_get (D := (dC, dI)) (ci := 9) (v := .int (X 6 0)) (C := R_MO) (T := T_MO) (N := 36) hx hb hts in_MO hown hK hP (0) atM_MO rfl 27 (by decide) (hts _ gw_314) (fun _ h9 => h9) rfl d_MO_take_6 ?_
      refine lv_icmp_ge (tgt := 32) hx hb d_MO_take_9 (by decide) (fun c1 => ?_) (fun c1 => ?_)
      · have hw := hw.1 c1
        refine lv_aload_n hx hb d_MO_take_32 rfl (lv_at hl 0 rfl) ?_
        refine lv_dup hx hb d_MO_take_33 rfl ?_
        refine va_get (D := (dC, dI)) (ci := 9) (v := .int (X 6 0)) (C := R_MO) (T := T_MO) (N := 36) hx hb hts in_MO hown hK hP (0) atM_MO rfl 27 (by decide) (hts _ gw_314) (fun _ h9 => h9) rfl d_MO_take_34 ?_
        refine lv_iconst (v := (1 : Int32)) hx hb d_MO_take_37 (by decide) ?_
        refine lv_isub hx hb d_MO_take_38 ?_
        refine va_put (D := (dC, dI)) (ci := 9) (v := .int ((X 6 0) - (1 : Int32))) (ty := .int) (C := R_MO) (T := T_MO) (N := 36) hx hb hts in_MO ty_MO ty_MO_ok nm_MO hown hK hP (hD0 _ _) hS (0) atM_MO rfl 27 (by decide) (hts _ gw_314) (fun _ h9 => h9) rfl (by decide +kernel) rfl rfl (Nat.le_of_ble_eq_true rfl) d_MO_take_39 (fun H locs hP _ hS => ?_)
        have hP : va_P (dC, dI) vwCl (wdM cA ad (up X 6 0 ((X 6 0) - (1 : Int32))) Y) H := by rw [← stM_MO_27]; exact hP
        exact W.vret hx hb hr (fun t ht _ => ⟨⟨(up X 6 0 ((X 6 0) - (1 : Int32)), Y), rfl, hw, by show va_P _ _ _ t.heap; rw [ht]; exact hP⟩, hS.F ht⟩) hS.2.2 d_MO_take_42
      · have hw := hw.2 c1
        refine lv_aload_n hx hb d_MO_take_12 rfl (lv_at hl 0 rfl) ?_
        refine va_get (D := (dC, dI)) (ci := 9) (v := .ref (ad 21)) (C := R_MO) (T := T_MO) (N := 36) hx hb hts in_MO hown hK hP (0) atM_MO rfl 28 (by decide) (hts _ gw_315) (fun _ h9 => h9) rfl d_MO_take_13 ?_
        refine lv_iload_n hx hb d_MO_take_16 rfl (lv_at hl 1 rfl) ?_
        refine lv_aload_n hx hb d_MO_take_17 rfl (lv_at hl 0 rfl) ?_
        refine va_get (D := (dC, dI)) (ci := 9) (v := .ref (ad 21)) (C := R_MO) (T := T_MO) (N := 36) hx hb hts in_MO hown hK hP (0) atM_MO rfl 28 (by decide) (hts _ gw_315) (fun _ h9 => h9) rfl d_MO_take_18 ?_
        refine lv_iload_n hx hb d_MO_take_21 rfl (lv_at hl 1 rfl) ?_
        refine lv_iconst (v := (1 : Int32)) hx hb d_MO_take_22 (by decide) ?_
        refine lv_iadd hx hb d_MO_take_23 ?_
        obtain ⟨h2, hw⟩ := hw
        refine va_iald hx hb hK hP (21) 20 atM_nonces rfl h2 d_MO_take_24 ?_
        obtain ⟨h3, hw⟩ := hw
        refine va_iast hx hb hK hP (hD0 _ _) hS (21) 20 atM_nonces rfl h3 d_MO_take_25 (fun H locs hP _ hS => ?_)
        have hP : va_P (dC, dI) vwCl (wdM cA ad (up X 61 v2.toNatClampNeg (X 61 (v2 + (1 : Int32)).toNatClampNeg)) Y) H := by rw [← stM_nonces]; exact hP
        refine lv_iinc (k := 1) (v := v2 + (1 : Int32)) (lv' := [(2, .int (v2 + (1 : Int32))), (0, .ref (ad 0))]) hx hb d_MO_take_26 hl rfl rfl (by decide) rfl (fun ls hl => ?_)
        refine lv_goto (tgt := 2) hx hb d_MO_take_29 (by decide) ?_
        have hl := lv_sub hl (l' := [(0, .ref (ad 0)), (2, .int (v2 + (1 : Int32)))]) [1, 0] rfl
        exact ih _ _ _ _ _ _ hw hP hS hl
  unfold wp_MO_take at hw
  refine lv_iload_n hx hb d_MO_take_0 rfl (lv_at hl 1 rfl) ?_
  refine lv_istore_n (lv' := [(2, .int a1), (0, .ref (ad 0)), (1, .int a1)]) hx hb d_MO_take_1 rfl hl (by decide) rfl (fun ls hl => ?_)
  have hl := lv_sub hl (l' := [(0, .ref (ad 0)), (2, .int a1)]) [1, 0] rfl
  obtain ⟨n9, hw⟩ := hw
  exact L2 n9 _ _ _ _ _ _ hw hP hS hl
def ws_MO_nonce : List Cond := Cond.code y_MO_nonce c_MO_nonce 1 (Option.some Jvm.ClassFile.FieldType.int) :: GW
theorem d_MO_nonce_0 : decode c_MO_nonce 0 = .ok (.aload_n 0, 1) := by decide +kernel
theorem d_MO_nonce_1 : decode c_MO_nonce 1 = .ok (.iconst 0, 1) := by decide +kernel
theorem d_MO_nonce_2 : decode c_MO_nonce 2 = .ok (.putfield 81, 3) := by decide +kernel
theorem d_MO_nonce_5 : decode c_MO_nonce 5 = .ok (.aload_n 0, 1) := by decide +kernel
theorem d_MO_nonce_6 : decode c_MO_nonce 6 = .ok (.getfield 71, 3) := by decide +kernel
theorem d_MO_nonce_9 : decode c_MO_nonce 9 = .ok (.aload_n 0, 1) := by decide +kernel
theorem d_MO_nonce_10 : decode c_MO_nonce 10 = .ok (.getfield 103, 3) := by decide +kernel
theorem d_MO_nonce_13 : decode c_MO_nonce 13 = .ok (.aload_n 0, 1) := by decide +kernel
theorem d_MO_nonce_14 : decode c_MO_nonce 14 = .ok (.invokevirtual 106, 3) := by decide +kernel
theorem d_MO_nonce_17 : decode c_MO_nonce 17 = .ok (.iastore, 1) := by decide +kernel
theorem d_MO_nonce_18 : decode c_MO_nonce 18 = .ok (.aload_n 0, 1) := by decide +kernel
theorem d_MO_nonce_19 : decode c_MO_nonce 19 = .ok (.dup, 1) := by decide +kernel
theorem d_MO_nonce_20 : decode c_MO_nonce 20 = .ok (.getfield 103, 3) := by decide +kernel
theorem d_MO_nonce_23 : decode c_MO_nonce 23 = .ok (.iconst 1, 1) := by decide +kernel
theorem d_MO_nonce_24 : decode c_MO_nonce 24 = .ok (.iadd, 1) := by decide +kernel
theorem d_MO_nonce_25 : decode c_MO_nonce 25 = .ok (.putfield 103, 3) := by decide +kernel
theorem d_MO_nonce_28 : decode c_MO_nonce 28 = .ok (.aload_n 0, 1) := by decide +kernel
theorem d_MO_nonce_29 : decode c_MO_nonce 29 = .ok (.getfield 103, 3) := by decide +kernel
theorem d_MO_nonce_32 : decode c_MO_nonce 32 = .ok (.bipush 9, 2) := by decide +kernel
theorem d_MO_nonce_34 : decode c_MO_nonce 34 = .ok (.if_icmp .ne 8, 3) := by decide +kernel
theorem d_MO_nonce_37 : decode c_MO_nonce 37 = .ok (.aload_n 0, 1) := by decide +kernel
theorem d_MO_nonce_38 : decode c_MO_nonce 38 = .ok (.iconst 0, 1) := by decide +kernel
theorem d_MO_nonce_39 : decode c_MO_nonce 39 = .ok (.invokevirtual 109, 3) := by decide +kernel
theorem d_MO_nonce_42 : decode c_MO_nonce 42 = .ok (.aload_n 0, 1) := by decide +kernel
theorem d_MO_nonce_43 : decode c_MO_nonce 43 = .ok (.getfield 71, 3) := by decide +kernel
theorem d_MO_nonce_46 : decode c_MO_nonce 46 = .ok (.aload_n 0, 1) := by decide +kernel
theorem d_MO_nonce_47 : decode c_MO_nonce 47 = .ok (.getfield 103, 3) := by decide +kernel
theorem d_MO_nonce_50 : decode c_MO_nonce 50 = .ok (.iconst 1, 1) := by decide +kernel
theorem d_MO_nonce_51 : decode c_MO_nonce 51 = .ok (.isub, 1) := by decide +kernel
theorem d_MO_nonce_52 : decode c_MO_nonce 52 = .ok (.iaload, 1) := by decide +kernel
theorem d_MO_nonce_53 : decode c_MO_nonce 53 = .ok (.ireturn, 1) := by decide +kernel
def wq_MO_nonce_42 (post : Int32 → ST → Int64 → Prop) (X : ST) (Y : Int64) : Prop := (vp_in ((X 6 0) - (1 : Int32)) 9 ∧ post (X 61 ((X 6 0) - (1 : Int32)).toNatClampNeg) X Y)
def wp_MO_nonce (post : Int32 → ST → Int64 → Prop) (X : ST) (Y : Int64) : Prop := wp_MO_draw (fun (r4 : Int32) (X2 : ST) (Y3 : Int64) => (vp_in (X 6 0) 9 ∧ ((((X2 6 0) + (1 : Int32)) = (9 : Int32) → wp_MO_take (fun (X7 : ST) (Y8 : Int64) => wq_MO_nonce_42 post X7 Y8) (up (up X2 61 ((X 6 0).toNatClampNeg) r4) 6 0 ((X2 6 0) + (1 : Int32))) Y3 (0 : Int32)) ∧ (¬ ((X2 6 0) + (1 : Int32)) = (9 : Int32) → wq_MO_nonce_42 post (up (up X2 61 ((X 6 0).toNatClampNeg) r4) 6 0 ((X2 6 0) + (1 : Int32))) Y3)))) (up X 90 0 (0 : Int32)) Y
set_option maxHeartbeats 4000000 in
set_option maxRecDepth 100000 in
theorem mt_MO_nonce (l : Launch) (hl9 : l.stackTraces = false) (dC : Nat → ClassId) (dI : Nat → Nat → Nat) (cA : Nat → ClassId) (ad : Nat → Nat) (hI : INJ ad 23) (sz : Nat) {X : ST} {Y : Int64} {post : Int32 → ST → Int64 → Prop} (hw : wp_MO_nonce post X Y) : Met l y_MO_nonce ws_MO_nonce ({ frames := 1, cells := 0, slots := 0, locals := 22 } : Room) (va_Pc [.ref (ad 0)] (fun U => PM dC dI cA ad sz X Y U)) (va_Qi (fun r (u : ST × Int64) => post r u.1 u.2) (fun (u : ST × Int64) t => va_P (dC, dI) vwCl (wdM cA ad u.1 u.2) t.heap) (CA ad 23 sz)) 0 0 (CA ad 23 sz) := by
  refine Met.ofW (cc := c_MO_nonce) (maxL := 1) (ret := (some .int)) (by decide) rfl ?_
  intro p e s m args below meth c s₁ B hml hv
  obtain ⟨rfl, hsz, hP, hG⟩ := hv
  have hx := B.exec
  have hb := B.bytes
  have hr := B.returns
  have hts : ∀ w ∈ GW, w.before (([.ref (ad 0)] : List Value).toArray) s = true := fun w h => atoms_spec (ws := ws_MO_nonce) B.pre w (List.mem_cons_of_mem _ h)
  have hown : s.vm.findClass R_MO = some m.cls := findClass_of_methodNamed B.named
  have hlocks := B.notSynchronized
  subst hsz
  have hK := hG.1
  have hG9 := hG
  have hNW := hG.2
  have hD0 : ∀ (X : ST) (Y : Int64), va_D (CA ad 23 s.heap.size) (wdM cA ad X Y) := fun _ _ => zwM_D hI
  have hS : va_S (CA ad 23 s.heap.size) s.heap s.heap [] := va_S.rf
  have hl := lv_entry ([.ref (ad 0)]) (n := 1) (Nat.le_of_ble_eq_true rfl)
  rw [lg_entry_eq]
  generalize (lg_sl ([.ref (ad 0)]) ++ List.replicate (1 - (lg_sl ([.ref (ad 0)])).length) Slot.unset).toArray = ls at hl ⊢
  have hl : lv_has ls 1 [(0, .ref (ad 0))] := hl
  have L42 : ∀ (X : ST) (Y : Int64) (H : Heap) (locs : List Loc) (ls : Array Slot), wq_MO_nonce_42 post X Y → va_P (dC, dI) vwCl (wdM cA ad X Y) H → va_S (CA ad 23 s.heap.size) s.heap H locs → lv_has ls 1 [(0, .ref (ad 0))] → W p l e (headSpec ws_MO_nonce ({ frames := 1, cells := 0, slots := 0, locals := 22 } : Room)).room s m (([.ref (ad 0)] : List Value).toArray) below meth c H locs 0 0 (MQ below (va_Qi (fun r (u : ST × Int64) => post r u.1 u.2) (fun (u : ST × Int64) t => va_P (dC, dI) vwCl (wdM cA ad u.1 u.2) t.heap) (CA ad 23 s.heap.size)) (([.ref (ad 0)] : List Value).toArray) s 0 0 (CA ad 23 s.heap.size)) (F0 m 42 ls []) := by
    intro X Y H locs ls hw hP hS hl
    unfold wq_MO_nonce_42 at hw
    refine lv_aload_n hx hb d_MO_nonce_42 rfl (lv_at hl 0 rfl) ?_
    refine va_get (D := (dC, dI)) (ci := 9) (v := .ref (ad 21)) (C := R_MO) (T := T_MO) (N := 36) hx hb hts in_MO hown hK hP (0) atM_MO rfl 28 (by decide) (hts _ gw_315) (fun _ h9 => h9) rfl d_MO_nonce_43 ?_
    refine lv_aload_n hx hb d_MO_nonce_46 rfl (lv_at hl 0 rfl) ?_
    refine va_get (D := (dC, dI)) (ci := 9) (v := .int (X 6 0)) (C := R_MO) (T := T_MO) (N := 36) hx hb hts in_MO hown hK hP (0) atM_MO rfl 27 (by decide) (hts _ gw_314) (fun _ h9 => h9) rfl d_MO_nonce_47 ?_
    refine lv_iconst (v := (1 : Int32)) hx hb d_MO_nonce_50 (by decide) ?_
    refine lv_isub hx hb d_MO_nonce_51 ?_
    obtain ⟨h1, hw⟩ := hw
    refine va_iald hx hb hK hP (21) 20 atM_nonces rfl h1 d_MO_nonce_52 ?_
    exact W.iret (v := X 61 ((X 6 0) - (1 : Int32)).toNatClampNeg) hx hb hr (fun t ht _ => ⟨⟨X 61 ((X 6 0) - (1 : Int32)).toNatClampNeg, (X, Y), rfl, hw, by show va_P _ _ _ t.heap; rw [ht]; exact hP⟩, hS.F ht⟩) hS.2.2 d_MO_nonce_53
  unfold wp_MO_nonce at hw
  refine lv_aload_n hx hb d_MO_nonce_0 rfl (lv_at hl 0 rfl) ?_
  refine lv_iconst (v := (0 : Int32)) hx hb d_MO_nonce_1 (by decide) ?_
  refine va_put (D := (dC, dI)) (ci := 9) (v := .int (0 : Int32)) (ty := .int) (C := R_MO) (T := T_MO) (N := 36) hx hb hts in_MO ty_MO ty_MO_ok nm_MO hown hK hP (hD0 _ _) hS (0) atM_MO rfl 0 (by decide) (hts _ gw_297) (fun _ h9 => h9) rfl (by decide +kernel) rfl rfl (Nat.le_of_ble_eq_true rfl) d_MO_nonce_2 (fun H locs hP _ hS => ?_)
  have hP : va_P (dC, dI) vwCl (wdM cA ad (up X 90 0 (0 : Int32)) Y) H := by rw [← stM_MO_0]; exact hP
  refine lv_aload_n hx hb d_MO_nonce_5 rfl (lv_at hl 0 rfl) ?_
  refine va_get (D := (dC, dI)) (ci := 9) (v := .ref (ad 21)) (C := R_MO) (T := T_MO) (N := 36) hx hb hts in_MO hown hK hP (0) atM_MO rfl 28 (by decide) (hts _ gw_315) (fun _ h9 => h9) rfl d_MO_nonce_6 ?_
  refine lv_aload_n hx hb d_MO_nonce_9 rfl (lv_at hl 0 rfl) ?_
  refine va_get (D := (dC, dI)) (ci := 9) (v := .int (X 6 0)) (C := R_MO) (T := T_MO) (N := 36) hx hb hts in_MO hown hK hP (0) atM_MO rfl 27 (by decide) (hts _ gw_314) (fun _ h9 => h9) rfl d_MO_nonce_10 ?_
  refine lv_aload_n hx hb d_MO_nonce_13 rfl (lv_at hl 0 rfl) ?_
  refine va_calli (va_runV (As := []) (rest := [.int (X 6 0), .ref (ad 21)]) ⟨hx, hb, hml, hown, hts⟩ (mt_MO_draw l hl9 dC dI cA ad hI _ hw) (cwV 0 hts (gV gw_317 gw_318 gw_319 gw_306 gw_316) rfl rfl rfl (by decide +kernel) ⟨Nat.le_of_ble_eq_true rfl, Nat.le_of_ble_eq_true rfl⟩) ⟨zwM_blind, va_recv hK hP (ci := 9) (q0 := 0) rfl atM_MO, zwM_pre hP hS hG9⟩ rfl rfl hl.1 rfl (lv_room (Nat.le_of_ble_eq_true rfl)) d_MO_nonce_14 ⟨Nat.le_of_ble_eq_true rfl, Nat.le_of_ble_eq_true rfl⟩) hS (fun q _ h => CA_le hS.1 q h) (fun q h => CA_le hS.1 q h) (fun r4 u9 t H locs ht hvm hw hP hz1 hk1 hS => ?_)
  obtain ⟨X2, Y3⟩ := u9
  have hP : va_P (dC, dI) vwCl (wdM cA ad X2 Y3) H := by rw [← ht]; exact hP
  try dsimp only at hw
  obtain ⟨h5, hw⟩ := hw
  refine va_iast hx hb hK hP (hD0 _ _) hS (21) 20 atM_nonces rfl h5 d_MO_nonce_17 (fun H locs hP _ hS => ?_)
  have hP : va_P (dC, dI) vwCl (wdM cA ad (up X2 61 ((X 6 0).toNatClampNeg) r4) Y3) H := by rw [← stM_nonces]; exact hP
  refine lv_aload_n hx hb d_MO_nonce_18 rfl (lv_at hl 0 rfl) ?_
  refine lv_dup hx hb d_MO_nonce_19 rfl ?_
  refine va_get (D := (dC, dI)) (ci := 9) (v := .int (X2 6 0)) (C := R_MO) (T := T_MO) (N := 36) hx hb hts in_MO hown hK hP (0) atM_MO rfl 27 (by decide) (hts _ gw_314) (fun _ h9 => h9) rfl d_MO_nonce_20 ?_
  refine lv_iconst (v := (1 : Int32)) hx hb d_MO_nonce_23 (by decide) ?_
  refine lv_iadd hx hb d_MO_nonce_24 ?_
  refine va_put (D := (dC, dI)) (ci := 9) (v := .int ((X2 6 0) + (1 : Int32))) (ty := .int) (C := R_MO) (T := T_MO) (N := 36) hx hb hts in_MO ty_MO ty_MO_ok nm_MO hown hK hP (hD0 _ _) hS (0) atM_MO rfl 27 (by decide) (hts _ gw_314) (fun _ h9 => h9) rfl (by decide +kernel) rfl rfl (Nat.le_of_ble_eq_true rfl) d_MO_nonce_25 (fun H locs hP _ hS => ?_)
  have hP : va_P (dC, dI) vwCl (wdM cA ad (up (up X2 61 ((X 6 0).toNatClampNeg) r4) 6 0 ((X2 6 0) + (1 : Int32))) Y3) H := by rw [← stM_MO_27]; exact hP
  refine lv_aload_n hx hb d_MO_nonce_28 rfl (lv_at hl 0 rfl) ?_
  refine va_get (D := (dC, dI)) (ci := 9) (v := .int ((X2 6 0) + (1 : Int32))) (C := R_MO) (T := T_MO) (N := 36) hx hb hts in_MO hown hK hP (0) atM_MO rfl 27 (by decide) (hts _ gw_314) (fun _ h9 => h9) rfl d_MO_nonce_29 ?_
  refine lv_bipush (v := (9 : Int32)) hx hb d_MO_nonce_32 (by decide) ?_
  refine lv_icmp_ne (tgt := 42) hx hb d_MO_nonce_34 (by decide) (fun c6 => ?_) (fun c6 => ?_)
  · have hw := hw.2 c6
    have hl := lv_sub hl (l' := [(0, .ref (ad 0))]) [0] rfl
    exact L42 _ _ _ _ _ hw hP hS hl
  · have hw := hw.1 c6
    refine lv_aload_n hx hb d_MO_nonce_37 rfl (lv_at hl 0 rfl) ?_
    refine lv_iconst (v := (0 : Int32)) hx hb d_MO_nonce_38 (by decide) ?_
    refine va_callv (va_runV (As := [.int (0 : Int32)]) (rest := []) ⟨hx, hb, hml, hown, hts⟩ (mt_MO_take l hl9 dC dI cA ad hI _ hw) (cwV 1 hts (gV gw_321 gw_322 gw_323 gw_306 gw_320) rfl rfl rfl (by decide +kernel) ⟨Nat.le_of_ble_eq_true rfl, Nat.le_of_ble_eq_true rfl⟩) ⟨zwM_blind, va_recv hK hP (ci := 9) (q0 := 0) rfl atM_MO, zwM_pre hP hS hG9⟩ rfl rfl hl.1 rfl (lv_room (Nat.le_of_ble_eq_true rfl)) d_MO_nonce_39 ⟨Nat.le_of_ble_eq_true rfl, Nat.le_of_ble_eq_true rfl⟩) hS (fun q _ h => CA_le hS.1 q h) (fun q h => CA_le hS.1 q h) (fun u9 t H locs ht hvm hw hP hz1 hk1 hS => ?_)
    obtain ⟨X7, Y8⟩ := u9
    have hP : va_P (dC, dI) vwCl (wdM cA ad X7 Y8) H := by rw [← ht]; exact hP
    try dsimp only at hw
    have hl := lv_sub hl (l' := [(0, .ref (ad 0))]) [0] rfl
    exact L42 _ _ _ _ _ hw hP hS hl
def ws_MO_find : List Cond := Cond.code y_MO_find c_MO_find 3 (Option.some Jvm.ClassFile.FieldType.int) :: GW
theorem d_MO_find_0 : decode c_MO_find 0 = .ok (.iconst 0, 1) := by decide +kernel
theorem d_MO_find_1 : decode c_MO_find 1 = .ok (.istore_n 2, 1) := by decide +kernel
theorem d_MO_find_2 : decode c_MO_find 2 = .ok (.iload_n 2, 1) := by decide +kernel
theorem d_MO_find_3 : decode c_MO_find 3 = .ok (.aload_n 0, 1) := by decide +kernel
theorem d_MO_find_4 : decode c_MO_find 4 = .ok (.getfield 103, 3) := by decide +kernel
theorem d_MO_find_7 : decode c_MO_find 7 = .ok (.if_icmp .ge 21, 3) := by decide +kernel
theorem d_MO_find_10 : decode c_MO_find 10 = .ok (.aload_n 0, 1) := by decide +kernel
theorem d_MO_find_11 : decode c_MO_find 11 = .ok (.getfield 71, 3) := by decide +kernel
theorem d_MO_find_14 : decode c_MO_find 14 = .ok (.iload_n 2, 1) := by decide +kernel
theorem d_MO_find_15 : decode c_MO_find 15 = .ok (.iaload, 1) := by decide +kernel
theorem d_MO_find_16 : decode c_MO_find 16 = .ok (.iload_n 1, 1) := by decide +kernel
theorem d_MO_find_17 : decode c_MO_find 17 = .ok (.if_icmp .ne 5, 3) := by decide +kernel
theorem d_MO_find_20 : decode c_MO_find 20 = .ok (.iload_n 2, 1) := by decide +kernel
theorem d_MO_find_21 : decode c_MO_find 21 = .ok (.ireturn, 1) := by decide +kernel
theorem d_MO_find_22 : decode c_MO_find 22 = .ok (.iinc 2 1, 3) := by decide +kernel
theorem d_MO_find_25 : decode c_MO_find 25 = .ok (.goto (-23), 3) := by decide +kernel
theorem d_MO_find_28 : decode c_MO_find 28 = .ok (.iconst (-1), 1) := by decide +kernel
theorem d_MO_find_29 : decode c_MO_find 29 = .ok (.ireturn, 1) := by decide +kernel
def wq_MO_find_2 (post : Int32 → ST → Int64 → Prop) (v1 : Int32) : Nat → Int32 → ST → Int64 → Prop
  | 0 => fun _ _ _ => False
  | n + 1 => fun v2 X Y => (((X 6 0) ≤ v2 → post (-1 : Int32) X Y) ∧ (¬ (X 6 0) ≤ v2 → (vp_in v2 9 ∧ (((X 61 v2.toNatClampNeg) = v1 → post v2 X Y) ∧ (¬ (X 61 v2.toNatClampNeg) = v1 → wq_MO_find_2 post v1 n (v2 + (1 : Int32)) X Y)))))
def wp_MO_find (post : Int32 → ST → Int64 → Prop) (X : ST) (Y : Int64) (a1 : Int32) : Prop := (∃ n9, wq_MO_find_2 post a1 n9 (0 : Int32) X Y)
set_option maxHeartbeats 4000000 in
set_option maxRecDepth 100000 in
theorem mt_MO_find (l : Launch) (hl9 : l.stackTraces = false) (dC : Nat → ClassId) (dI : Nat → Nat → Nat) (cA : Nat → ClassId) (ad : Nat → Nat) (hI : INJ ad 23) (sz : Nat) {X : ST} {Y : Int64} {a1 : Int32} {post : Int32 → ST → Int64 → Prop} (hw : wp_MO_find post X Y a1) : Met l y_MO_find ws_MO_find ({ frames := 0, cells := 0, slots := 0, locals := 0 } : Room) (va_Pc [.ref (ad 0), .int a1] (fun U => PM dC dI cA ad sz X Y U)) (va_Qi (fun r (u : ST × Int64) => post r u.1 u.2) (fun (u : ST × Int64) t => va_P (dC, dI) vwCl (wdM cA ad u.1 u.2) t.heap) (CA ad 23 sz)) 0 0 (CA ad 23 sz) := by
  refine Met.ofW (cc := c_MO_find) (maxL := 3) (ret := (some .int)) (by decide) rfl ?_
  intro p e s m args below meth c s₁ B hml hv
  obtain ⟨rfl, hsz, hP, hG⟩ := hv
  have hx := B.exec
  have hb := B.bytes
  have hr := B.returns
  have hts : ∀ w ∈ GW, w.before (([.ref (ad 0), .int a1] : List Value).toArray) s = true := fun w h => atoms_spec (ws := ws_MO_find) B.pre w (List.mem_cons_of_mem _ h)
  have hown : s.vm.findClass R_MO = some m.cls := findClass_of_methodNamed B.named
  have hlocks := B.notSynchronized
  subst hsz
  have hK := hG.1
  have hG9 := hG
  have hNW := hG.2
  have hD0 : ∀ (X : ST) (Y : Int64), va_D (CA ad 23 s.heap.size) (wdM cA ad X Y) := fun _ _ => zwM_D hI
  have hS : va_S (CA ad 23 s.heap.size) s.heap s.heap [] := va_S.rf
  have hl := lv_entry ([.ref (ad 0), .int a1]) (n := 3) (Nat.le_of_ble_eq_true rfl)
  rw [lg_entry_eq]
  generalize (lg_sl ([.ref (ad 0), .int a1]) ++ List.replicate (3 - (lg_sl ([.ref (ad 0), .int a1])).length) Slot.unset).toArray = ls at hl ⊢
  have hl : lv_has ls 3 [(0, .ref (ad 0)), (1, .int a1)] := hl
  have L2 : ∀ (v1 : Int32), ∀ (n : Nat), ∀ (v2 : Int32) (X : ST) (Y : Int64) (H : Heap) (locs : List Loc) (ls : Array Slot), wq_MO_find_2 post v1 n v2 X Y → va_P (dC, dI) vwCl (wdM cA ad X Y) H → va_S (CA ad 23 s.heap.size) s.heap H locs → lv_has ls 3 [(0, .ref (ad 0)), (1, .int v1), (2, .int v2)] → W p l e (headSpec ws_MO_find ({ frames := 0, cells := 0, slots := 0, locals := 0 } : Room)).room s m (([.ref (ad 0), .int a1] : List Value).toArray) below meth c H locs 0 0 (MQ below (va_Qi (fun r (u : ST × Int64) => post r u.1 u.2) (fun (u : ST × Int64) t => va_P (dC, dI) vwCl (wdM cA ad u.1 u.2) t.heap) (CA ad 23 s.heap.size)) (([.ref (ad 0), .int a1] : List Value).toArray) s 0 0 (CA ad 23 s.heap.size)) (F0 m 2 ls []) := by
    intro v1 n
    induction n with
    | zero => intro v2 X Y H locs ls hw hP hS hl; exact False.elim hw
    | succ n ih =>
      intro v2 X Y H locs ls hw hP hS hl
      dsimp only [wq_MO_find_2] at hw
      refine lv_iload_n hx hb d_MO_find_2 rfl (lv_at hl 2 rfl) ?_
      refine lv_aload_n hx hb d_MO_find_3 rfl (lv_at hl 0 rfl) ?_
      refine va_get (D := (dC, dI)) (ci := 9) (v := .int (X 6 0)) (C := R_MO) (T := T_MO) (N := 36) hx hb hts in_MO hown hK hP (0) atM_MO rfl 27 (by decide) (hts _ gw_314) (fun _ h9 => h9) rfl d_MO_find_4 ?_
      refine lv_icmp_ge (tgt := 28) hx hb d_MO_find_7 (by decide) (fun c1 => ?_) (fun c1 => ?_)
      · have hw := hw.1 c1
        refine lv_iconst (v := (-1 : Int32)) hx hb d_MO_find_28 (by decide) ?_
        exact W.iret (v := (-1 : Int32)) hx hb hr (fun t ht _ => ⟨⟨(-1 : Int32), (X, Y), rfl, hw, by show va_P _ _ _ t.heap; rw [ht]; exact hP⟩, hS.F ht⟩) hS.2.2 d_MO_find_29
      · have hw := hw.2 c1
        refine lv_aload_n hx hb d_MO_find_10 rfl (lv_at hl 0 rfl) ?_
        refine va_get (D := (dC, dI)) (ci := 9) (v := .ref (ad 21)) (C := R_MO) (T := T_MO) (N := 36) hx hb hts in_MO hown hK hP (0) atM_MO rfl 28 (by decide) (hts _ gw_315) (fun _ h9 => h9) rfl d_MO_find_11 ?_
        refine lv_iload_n hx hb d_MO_find_14 rfl (lv_at hl 2 rfl) ?_
        obtain ⟨h2, hw⟩ := hw
        refine va_iald hx hb hK hP (21) 20 atM_nonces rfl h2 d_MO_find_15 ?_
        refine lv_iload_n hx hb d_MO_find_16 rfl (lv_at hl 1 rfl) ?_
        refine lv_icmp_ne (tgt := 22) hx hb d_MO_find_17 (by decide) (fun c3 => ?_) (fun c3 => ?_)
        · have hw := hw.2 c3
          refine lv_iinc (k := 2) (v := v2 + (1 : Int32)) (lv' := [(2, .int (v2 + (1 : Int32))), (0, .ref (ad 0)), (1, .int v1)]) hx hb d_MO_find_22 hl rfl rfl (by decide) rfl (fun ls hl => ?_)
          refine lv_goto (tgt := 2) hx hb d_MO_find_25 (by decide) ?_
          have hl := lv_sub hl (l' := [(0, .ref (ad 0)), (1, .int v1), (2, .int (v2 + (1 : Int32)))]) [1, 2, 0] rfl
          exact ih _ _ _ _ _ _ hw hP hS hl
        · have hw := hw.1 c3
          refine lv_iload_n hx hb d_MO_find_20 rfl (lv_at hl 2 rfl) ?_
          exact W.iret (v := v2) hx hb hr (fun t ht _ => ⟨⟨v2, (X, Y), rfl, hw, by show va_P _ _ _ t.heap; rw [ht]; exact hP⟩, hS.F ht⟩) hS.2.2 d_MO_find_21
  unfold wp_MO_find at hw
  refine lv_iconst (v := (0 : Int32)) hx hb d_MO_find_0 (by decide) ?_
  refine lv_istore_n (lv' := [(2, .int (0 : Int32)), (0, .ref (ad 0)), (1, .int a1)]) hx hb d_MO_find_1 rfl hl (by decide) rfl (fun ls hl => ?_)
  have hl := lv_sub hl (l' := [(0, .ref (ad 0)), (1, .int a1), (2, .int (0 : Int32))]) [1, 2, 0] rfl
  obtain ⟨n9, hw⟩ := hw
  exact L2 _ n9 _ _ _ _ _ _ hw hP hS hl
def ws_MO_power : List Cond := Cond.code y_MO_power c_MO_power 4 (Option.some Jvm.ClassFile.FieldType.int) :: GW
theorem d_MO_power_0 : decode c_MO_power 0 = .ok (.aload_n 0, 1) := by decide +kernel
theorem d_MO_power_1 : decode c_MO_power 1 = .ok (.iconst 0, 1) := by decide +kernel
theorem d_MO_power_2 : decode c_MO_power 2 = .ok (.putfield 81, 3) := by decide +kernel
theorem d_MO_power_5 : decode c_MO_power 5 = .ok (.iload_n 1, 1) := by decide +kernel
theorem d_MO_power_6 : decode c_MO_power 6 = .ok (.ifCond .lt 14, 3) := by decide +kernel
theorem d_MO_power_9 : decode c_MO_power 9 = .ok (.iload_n 2, 1) := by decide +kernel
theorem d_MO_power_10 : decode c_MO_power 10 = .ok (.ifCond .lt 10, 3) := by decide +kernel
theorem d_MO_power_13 : decode c_MO_power 13 = .ok (.iload_n 3, 1) := by decide +kernel
theorem d_MO_power_14 : decode c_MO_power 14 = .ok (.invokestatic 112, 3) := by decide +kernel
theorem d_MO_power_17 : decode c_MO_power 17 = .ok (.ifCond .ne 7, 3) := by decide +kernel
theorem d_MO_power_20 : decode c_MO_power 20 = .ok (.iconst (-1), 1) := by decide +kernel
theorem d_MO_power_21 : decode c_MO_power 21 = .ok (.goto 11, 3) := by decide +kernel
theorem d_MO_power_24 : decode c_MO_power 24 = .ok (.iload_n 1, 1) := by decide +kernel
theorem d_MO_power_25 : decode c_MO_power 25 = .ok (.i2l, 1) := by decide +kernel
theorem d_MO_power_26 : decode c_MO_power 26 = .ok (.iload_n 2, 1) := by decide +kernel
theorem d_MO_power_27 : decode c_MO_power 27 = .ok (.iload_n 3, 1) := by decide +kernel
theorem d_MO_power_28 : decode c_MO_power 28 = .ok (.invokestatic 99, 3) := by decide +kernel
theorem d_MO_power_31 : decode c_MO_power 31 = .ok (.l2i, 1) := by decide +kernel
theorem d_MO_power_32 : decode c_MO_power 32 = .ok (.ireturn, 1) := by decide +kernel
def wp_MO_power (post : Int32 → ST → Int64 → Prop) (X : ST) (Y : Int64) (a1 : Int32) (a2 : Int32) (a3 : Int32) : Prop := ((a1 < 0 → post (-1 : Int32) (up X 90 0 (0 : Int32)) Y) ∧ (¬ a1 < 0 → ((a2 < 0 → post (-1 : Int32) (up X 90 0 (0 : Int32)) Y) ∧ (¬ a2 < 0 → wp_MO_isKey (fun (r5 : Int32) (X3 : ST) (Y4 : Int64) => ((r5 = 0 → post (-1 : Int32) X3 Y4) ∧ (¬ r5 = 0 → wp_MO_raised (fun (r9 : Int64) (X7 : ST) (Y8 : Int64) => post r9.toInt32 X7 Y8) X3 Y4 a1.toInt64 a2 a3))) (up X 90 0 (0 : Int32)) Y a3))))
set_option maxHeartbeats 4000000 in
set_option maxRecDepth 100000 in
theorem mt_MO_power (l : Launch) (hl9 : l.stackTraces = false) (dC : Nat → ClassId) (dI : Nat → Nat → Nat) (cA : Nat → ClassId) (ad : Nat → Nat) (hI : INJ ad 23) (sz : Nat) {X : ST} {Y : Int64} {a1 : Int32} {a2 : Int32} {a3 : Int32} {post : Int32 → ST → Int64 → Prop} (hw : wp_MO_power post X Y a1 a2 a3) : Met l y_MO_power ws_MO_power ({ frames := 1, cells := 0, slots := 0, locals := 26 } : Room) (va_Pc [.ref (ad 0), .int a1, .int a2, .int a3] (fun U => PM dC dI cA ad sz X Y U)) (va_Qi (fun r (u : ST × Int64) => post r u.1 u.2) (fun (u : ST × Int64) t => va_P (dC, dI) vwCl (wdM cA ad u.1 u.2) t.heap) (CA ad 23 sz)) 0 0 (CA ad 23 sz) := by
  refine Met.ofW (cc := c_MO_power) (maxL := 4) (ret := (some .int)) (by decide) rfl ?_
  intro p e s m args below meth c s₁ B hml hv
  obtain ⟨rfl, hsz, hP, hG⟩ := hv
  have hx := B.exec
  have hb := B.bytes
  have hr := B.returns
  have hts : ∀ w ∈ GW, w.before (([.ref (ad 0), .int a1, .int a2, .int a3] : List Value).toArray) s = true := fun w h => atoms_spec (ws := ws_MO_power) B.pre w (List.mem_cons_of_mem _ h)
  have hown : s.vm.findClass R_MO = some m.cls := findClass_of_methodNamed B.named
  have hlocks := B.notSynchronized
  subst hsz
  have hK := hG.1
  have hG9 := hG
  have hNW := hG.2
  have hD0 : ∀ (X : ST) (Y : Int64), va_D (CA ad 23 s.heap.size) (wdM cA ad X Y) := fun _ _ => zwM_D hI
  have hS : va_S (CA ad 23 s.heap.size) s.heap s.heap [] := va_S.rf
  have hl := lv_entry ([.ref (ad 0), .int a1, .int a2, .int a3]) (n := 4) (Nat.le_of_ble_eq_true rfl)
  rw [lg_entry_eq]
  generalize (lg_sl ([.ref (ad 0), .int a1, .int a2, .int a3]) ++ List.replicate (4 - (lg_sl ([.ref (ad 0), .int a1, .int a2, .int a3])).length) Slot.unset).toArray = ls at hl ⊢
  have hl : lv_has ls 4 [(0, .ref (ad 0)), (1, .int a1), (2, .int a2), (3, .int a3)] := hl
  unfold wp_MO_power at hw
  refine lv_aload_n hx hb d_MO_power_0 rfl (lv_at hl 0 rfl) ?_
  refine lv_iconst (v := (0 : Int32)) hx hb d_MO_power_1 (by decide) ?_
  refine va_put (D := (dC, dI)) (ci := 9) (v := .int (0 : Int32)) (ty := .int) (C := R_MO) (T := T_MO) (N := 36) hx hb hts in_MO ty_MO ty_MO_ok nm_MO hown hK hP (hD0 _ _) hS (0) atM_MO rfl 0 (by decide) (hts _ gw_297) (fun _ h9 => h9) rfl (by decide +kernel) rfl rfl (Nat.le_of_ble_eq_true rfl) d_MO_power_2 (fun H locs hP _ hS => ?_)
  have hP : va_P (dC, dI) vwCl (wdM cA ad (up X 90 0 (0 : Int32)) Y) H := by rw [← stM_MO_0]; exact hP
  refine lv_iload_n hx hb d_MO_power_5 rfl (lv_at hl 1 rfl) ?_
  refine lv_if_lt (tgt := 20) hx hb d_MO_power_6 (by decide) (fun c1 => ?_) (fun c1 => ?_)
  · have hw := hw.1 c1
    refine lv_iconst (v := (-1 : Int32)) hx hb d_MO_power_20 (by decide) ?_
    refine lv_goto (tgt := 32) hx hb d_MO_power_21 (by decide) ?_
    exact W.iret (v := (-1 : Int32)) hx hb hr (fun t ht _ => ⟨⟨(-1 : Int32), (up X 90 0 (0 : Int32), Y), rfl, hw, by show va_P _ _ _ t.heap; rw [ht]; exact hP⟩, hS.F ht⟩) hS.2.2 d_MO_power_32
  · have hw := hw.2 c1
    refine lv_iload_n hx hb d_MO_power_9 rfl (lv_at hl 2 rfl) ?_
    refine lv_if_lt (tgt := 20) hx hb d_MO_power_10 (by decide) (fun c2 => ?_) (fun c2 => ?_)
    · have hw := hw.1 c2
      refine lv_iconst (v := (-1 : Int32)) hx hb d_MO_power_20 (by decide) ?_
      refine lv_goto (tgt := 32) hx hb d_MO_power_21 (by decide) ?_
      exact W.iret (v := (-1 : Int32)) hx hb hr (fun t ht _ => ⟨⟨(-1 : Int32), (up X 90 0 (0 : Int32), Y), rfl, hw, by show va_P _ _ _ t.heap; rw [ht]; exact hP⟩, hS.F ht⟩) hS.2.2 d_MO_power_32
    · have hw := hw.2 c2
      refine lv_iload_n hx hb d_MO_power_13 rfl (lv_at hl 3 rfl) ?_
      refine va_calli (va_runS (As := [.int a3]) (rest := []) ⟨hx, hb, hml, hown, hts⟩ (mt_MO_isKey l hl9 dC dI cA ad hI _ hw) (va_cwS 1 hts (gS gw_325 gw_326 gw_306 gw_324) rfl rfl rfl (by decide +kernel) ⟨Nat.le_of_ble_eq_true rfl, Nat.le_of_ble_eq_true rfl⟩) ⟨zwM_blind, zwM_pre hP hS hG9⟩ rfl rfl hl.1 rfl (lv_room (Nat.le_of_ble_eq_true rfl)) d_MO_power_14 ⟨Nat.le_of_ble_eq_true rfl, Nat.le_of_ble_eq_true rfl⟩) hS (fun q _ h => CA_le hS.1 q h) (fun q h => CA_le hS.1 q h) (fun r5 u9 t H locs ht hvm hw hP hz1 hk1 hS => ?_)
      obtain ⟨X3, Y4⟩ := u9
      have hP : va_P (dC, dI) vwCl (wdM cA ad X3 Y4) H := by rw [← ht]; exact hP
      try dsimp only at hw
      refine lv_if_ne (tgt := 24) hx hb d_MO_power_17 (by decide) (fun c6 => ?_) (fun c6 => ?_)
      · have hw := hw.2 c6
        refine lv_iload_n hx hb d_MO_power_24 rfl (lv_at hl 1 rfl) ?_
        refine lv_i2l hx hb d_MO_power_25 rfl ?_
        refine lv_iload_n hx hb d_MO_power_26 rfl (lv_at hl 2 rfl) ?_
        refine lv_iload_n hx hb d_MO_power_27 rfl (lv_at hl 3 rfl) ?_
        refine va_calll (va_runS (As := [.long a1.toInt64, .int a2, .int a3]) (rest := []) ⟨hx, hb, hml, hown, hts⟩ (mt_MO_raised l hl9 dC dI cA ad hI _ hw) (va_cwS 3 hts (gS gw_312 gw_313 gw_306 gw_311) rfl rfl rfl (by decide +kernel) ⟨Nat.le_of_ble_eq_true rfl, Nat.le_of_ble_eq_true rfl⟩) ⟨zwM_blind, zwM_pre hP hS hG9⟩ rfl rfl hl.1 rfl (lv_room (Nat.le_of_ble_eq_true rfl)) d_MO_power_28 ⟨Nat.le_of_ble_eq_true rfl, Nat.le_of_ble_eq_true rfl⟩) hS (fun q _ h => CA_le hS.1 q h) (fun q h => CA_le hS.1 q h) (fun r9 u9 t H locs ht hvm hw hP hz1 hk1 hS => ?_)
        obtain ⟨X7, Y8⟩ := u9
        have hP : va_P (dC, dI) vwCl (wdM cA ad X7 Y8) H := by rw [← ht]; exact hP
        try dsimp only at hw
        refine lv_l2i hx hb d_MO_power_31 rfl ?_
        exact W.iret (v := r9.toInt32) hx hb hr (fun t ht _ => ⟨⟨r9.toInt32, (X7, Y8), rfl, hw, by show va_P _ _ _ t.heap; rw [ht]; exact hP⟩, hS.F ht⟩) hS.2.2 d_MO_power_32
      · have hw := hw.1 c6
        refine lv_iconst (v := (-1 : Int32)) hx hb d_MO_power_20 (by decide) ?_
        refine lv_goto (tgt := 32) hx hb d_MO_power_21 (by decide) ?_
        exact W.iret (v := (-1 : Int32)) hx hb hr (fun t ht _ => ⟨⟨(-1 : Int32), (X3, Y4), rfl, hw, by show va_P _ _ _ t.heap; rw [ht]; exact hP⟩, hS.F ht⟩) hS.2.2 d_MO_power_32
