def ws_MO_digest : List Cond := Cond.code y_MO_digest c_MO_digest 6 (Option.some Jvm.ClassFile.FieldType.int) :: GW
theorem d_MO_digest_0 : decode c_MO_digest 0 = .ok (.aload_n 0, 1) := by decide +kernel
theorem d_MO_digest_1 : decode c_MO_digest 1 = .ok (.iconst 0, 1) := by decide +kernel
theorem d_MO_digest_2 : decode c_MO_digest 2 = .ok (.putfield 81, 3) := by decide +kernel
theorem d_MO_digest_5 : decode c_MO_digest 5 = .ok (.aload_n 0, 1) := by decide +kernel
theorem d_MO_digest_6 : decode c_MO_digest 6 = .ok (.iload_n 1, 1) := by decide +kernel
theorem d_MO_digest_7 : decode c_MO_digest 7 = .ok (.iload_n 2, 1) := by decide +kernel
theorem d_MO_digest_8 : decode c_MO_digest 8 = .ok (.iload_n 3, 1) := by decide +kernel
theorem d_MO_digest_9 : decode c_MO_digest 9 = .ok (.iload 4, 2) := by decide +kernel
theorem d_MO_digest_11 : decode c_MO_digest 11 = .ok (.iload 5, 2) := by decide +kernel
theorem d_MO_digest_13 : decode c_MO_digest 13 = .ok (.invokevirtual 116, 3) := by decide +kernel
theorem d_MO_digest_16 : decode c_MO_digest 16 = .ok (.ireturn, 1) := by decide +kernel
def wp_MO_digest (post : Int32 → ST → Int64 → Prop) (X : ST) (Y : Int64) (a1 : Int32) (a2 : Int32) (a3 : Int32) (a4 : Int32) (a5 : Int32) : Prop := wp_MO_five (fun (r3 : Int32) (X1 : ST) (Y2 : Int64) => post r3 X1 Y2) (up X 90 0 (0 : Int32)) Y a1 a2 a3 a4 a5
set_option maxHeartbeats 4000000 in
set_option maxRecDepth 100000 in
theorem mt_MO_digest (l : Launch) (hl9 : l.stackTraces = false) (dC : Nat → ClassId) (dI : Nat → Nat → Nat) (cA : Nat → ClassId) (ad : Nat → Nat) (hI : INJ ad 23) (sz : Nat) {X : ST} {Y : Int64} {a1 : Int32} {a2 : Int32} {a3 : Int32} {a4 : Int32} {a5 : Int32} {post : Int32 → ST → Int64 → Prop} (hw : wp_MO_digest post X Y a1 a2 a3 a4 a5) : Met l y_MO_digest ws_MO_digest ({ frames := 2, cells := 0, slots := 0, locals := 48 } : Room) (va_Pc [.ref (ad 0), .int a1, .int a2, .int a3, .int a4, .int a5] (fun U => PM dC dI cA ad sz X Y U)) (va_Qi (fun r (u : ST × Int64) => post r u.1 u.2) (fun (u : ST × Int64) t => va_P (dC, dI) vwCl (wdM cA ad u.1 u.2) t.heap) (CA ad 23 sz)) 0 0 (CA ad 23 sz) := by
  refine Met.ofW (cc := c_MO_digest) (maxL := 6) (ret := (some .int)) (by decide) rfl ?_
  intro p e s m args below meth c s₁ B hml hv
  obtain ⟨rfl, hsz, hP, hG⟩ := hv
  have hx := B.exec
  have hb := B.bytes
  have hr := B.returns
  have hts : ∀ w ∈ GW, w.before (([.ref (ad 0), .int a1, .int a2, .int a3, .int a4, .int a5] : List Value).toArray) s = true := fun w h => atoms_spec (ws := ws_MO_digest) B.pre w (List.mem_cons_of_mem _ h)
  have hown : s.vm.findClass R_MO = some m.cls := findClass_of_methodNamed B.named
  have hlocks := B.notSynchronized
  subst hsz
  have hK := hG.1
  have hG9 := hG
  have hNW := hG.2
  have hD0 : ∀ (X : ST) (Y : Int64), va_D (CA ad 23 s.heap.size) (wdM cA ad X Y) := fun _ _ => zwM_D hI
  have hS : va_S (CA ad 23 s.heap.size) s.heap s.heap [] := va_S.rf
  have hl := lv_entry ([.ref (ad 0), .int a1, .int a2, .int a3, .int a4, .int a5]) (n := 6) (Nat.le_of_ble_eq_true rfl)
  rw [lg_entry_eq]
  generalize (lg_sl ([.ref (ad 0), .int a1, .int a2, .int a3, .int a4, .int a5]) ++ List.replicate (6 - (lg_sl ([.ref (ad 0), .int a1, .int a2, .int a3, .int a4, .int a5])).length) Slot.unset).toArray = ls at hl ⊢
  have hl : lv_has ls 6 [(0, .ref (ad 0)), (1, .int a1), (2, .int a2), (3, .int a3), (4, .int a4), (5, .int a5)] := hl
  unfold wp_MO_digest at hw
  refine lv_aload_n hx hb d_MO_digest_0 rfl (lv_at hl 0 rfl) ?_
  refine lv_iconst (v := (0 : Int32)) hx hb d_MO_digest_1 (by decide) ?_
  refine va_put (D := (dC, dI)) (ci := 9) (v := .int (0 : Int32)) (ty := .int) (C := R_MO) (T := T_MO) (N := 36) hx hb hts in_MO ty_MO ty_MO_ok nm_MO hown hK hP (hD0 _ _) hS (0) atM_MO rfl 0 (by decide) (hts _ gw_297) (fun _ h9 => h9) rfl (by decide +kernel) rfl rfl (Nat.le_of_ble_eq_true rfl) d_MO_digest_2 (fun H locs hP _ hS => ?_)
  have hP : va_P (dC, dI) vwCl (wdM cA ad (up X 90 0 (0 : Int32)) Y) H := by rw [← stM_MO_0]; exact hP
  refine lv_aload_n hx hb d_MO_digest_5 rfl (lv_at hl 0 rfl) ?_
  refine lv_iload_n hx hb d_MO_digest_6 rfl (lv_at hl 1 rfl) ?_
  refine lv_iload_n hx hb d_MO_digest_7 rfl (lv_at hl 2 rfl) ?_
  refine lv_iload_n hx hb d_MO_digest_8 rfl (lv_at hl 3 rfl) ?_
  refine lv_iload hx hb d_MO_digest_9 (lv_at hl 4 rfl) ?_
  refine lv_iload hx hb d_MO_digest_11 (lv_at hl 5 rfl) ?_
  refine va_calli (va_runV (As := [.int a1, .int a2, .int a3, .int a4, .int a5]) (rest := []) ⟨hx, hb, hml, hown, hts⟩ (mt_MO_five l hl9 dC dI cA ad hI _ hw) (cwV 5 hts (gV gw_328 gw_329 gw_330 gw_306 gw_327) rfl rfl rfl (by decide +kernel) ⟨Nat.le_of_ble_eq_true rfl, Nat.le_of_ble_eq_true rfl⟩) ⟨zwM_blind, va_recv hK hP (ci := 9) (q0 := 0) rfl atM_MO, zwM_pre hP hS hG9⟩ rfl rfl hl.1 rfl (lv_room (Nat.le_of_ble_eq_true rfl)) d_MO_digest_13 ⟨Nat.le_of_ble_eq_true rfl, Nat.le_of_ble_eq_true rfl⟩) hS (fun q _ h => CA_le hS.1 q h) (fun q h => CA_le hS.1 q h) (fun r3 u9 t H locs ht hvm hw hP hz1 hk1 hS => ?_)
  obtain ⟨X1, Y2⟩ := u9
  have hP : va_P (dC, dI) vwCl (wdM cA ad X1 Y2) H := by rw [← ht]; exact hP
  try dsimp only at hw
  exact W.iret (v := r3) hx hb hr (fun t ht _ => ⟨⟨r3, (X1, Y2), rfl, hw, by show va_P _ _ _ t.heap; rw [ht]; exact hP⟩, hS.F ht⟩) hS.2.2 d_MO_digest_16
def ws_MO_signed : List Cond := Cond.code y_MO_signed c_MO_signed 6 (Option.some Jvm.ClassFile.FieldType.int) :: GW
theorem d_MO_signed_0 : decode c_MO_signed 0 = .ok (.iload_n 1, 1) := by decide +kernel
theorem d_MO_signed_1 : decode c_MO_signed 1 = .ok (.ifCond .lt 11, 3) := by decide +kernel
theorem d_MO_signed_4 : decode c_MO_signed 4 = .ok (.iload_n 1, 1) := by decide +kernel
theorem d_MO_signed_5 : decode c_MO_signed 5 = .ok (.aload_n 0, 1) := by decide +kernel
theorem d_MO_signed_6 : decode c_MO_signed 6 = .ok (.getfield 120, 3) := by decide +kernel
theorem d_MO_signed_9 : decode c_MO_signed 9 = .ok (.if_icmp .lt 5, 3) := by decide +kernel
theorem d_MO_signed_12 : decode c_MO_signed 12 = .ok (.iconst 1, 1) := by decide +kernel
theorem d_MO_signed_13 : decode c_MO_signed 13 = .ok (.ireturn, 1) := by decide +kernel
theorem d_MO_signed_14 : decode c_MO_signed 14 = .ok (.aload_n 0, 1) := by decide +kernel
theorem d_MO_signed_15 : decode c_MO_signed 15 = .ok (.getfield 13, 3) := by decide +kernel
theorem d_MO_signed_18 : decode c_MO_signed 18 = .ok (.iload_n 1, 1) := by decide +kernel
theorem d_MO_signed_19 : decode c_MO_signed 19 = .ok (.baload, 1) := by decide +kernel
theorem d_MO_signed_20 : decode c_MO_signed 20 = .ok (.ifCond .ne 18, 3) := by decide +kernel
theorem d_MO_signed_23 : decode c_MO_signed 23 = .ok (.iload 4, 2) := by decide +kernel
theorem d_MO_signed_25 : decode c_MO_signed 25 = .ok (.iload_n 3, 1) := by decide +kernel
theorem d_MO_signed_26 : decode c_MO_signed 26 = .ok (.aload_n 0, 1) := by decide +kernel
theorem d_MO_signed_27 : decode c_MO_signed 27 = .ok (.getfield 7, 3) := by decide +kernel
theorem d_MO_signed_30 : decode c_MO_signed 30 = .ok (.iload_n 1, 1) := by decide +kernel
theorem d_MO_signed_31 : decode c_MO_signed 31 = .ok (.iaload, 1) := by decide +kernel
theorem d_MO_signed_32 : decode c_MO_signed 32 = .ok (.invokestatic 123, 3) := by decide +kernel
theorem d_MO_signed_35 : decode c_MO_signed 35 = .ok (.ifCond .ne 5, 3) := by decide +kernel
theorem d_MO_signed_38 : decode c_MO_signed 38 = .ok (.iconst 2, 1) := by decide +kernel
theorem d_MO_signed_39 : decode c_MO_signed 39 = .ok (.ireturn, 1) := by decide +kernel
theorem d_MO_signed_40 : decode c_MO_signed 40 = .ok (.aload_n 0, 1) := by decide +kernel
theorem d_MO_signed_41 : decode c_MO_signed 41 = .ok (.iload_n 2, 1) := by decide +kernel
theorem d_MO_signed_42 : decode c_MO_signed 42 = .ok (.invokevirtual 127, 3) := by decide +kernel
theorem d_MO_signed_45 : decode c_MO_signed 45 = .ok (.istore 5, 2) := by decide +kernel
theorem d_MO_signed_47 : decode c_MO_signed 47 = .ok (.iload 5, 2) := by decide +kernel
theorem d_MO_signed_49 : decode c_MO_signed 49 = .ok (.ifCond .ge 5, 3) := by decide +kernel
theorem d_MO_signed_52 : decode c_MO_signed 52 = .ok (.iconst 3, 1) := by decide +kernel
theorem d_MO_signed_53 : decode c_MO_signed 53 = .ok (.ireturn, 1) := by decide +kernel
theorem d_MO_signed_54 : decode c_MO_signed 54 = .ok (.aload_n 0, 1) := by decide +kernel
theorem d_MO_signed_55 : decode c_MO_signed 55 = .ok (.iload 5, 2) := by decide +kernel
theorem d_MO_signed_57 : decode c_MO_signed 57 = .ok (.invokevirtual 109, 3) := by decide +kernel
theorem d_MO_signed_60 : decode c_MO_signed 60 = .ok (.iconst 0, 1) := by decide +kernel
theorem d_MO_signed_61 : decode c_MO_signed 61 = .ok (.ireturn, 1) := by decide +kernel
def wp_MO_signed (post : Int32 → ST → Int64 → Prop) (X : ST) (Y : Int64) (a1 : Int32) (a2 : Int32) (a3 : Int32) (a4 : Int32) : Prop := ((a1 < 0 → post (1 : Int32) X Y) ∧ (¬ a1 < 0 → ((a1 < (X 2 0) → (vp_in a1 6 ∧ (((X 10 a1.toNatClampNeg) = 0 → wp_MO_isRight (fun (r7 : Int32) (X5 : ST) (Y6 : Int64) => ((r7 = 0 → post (2 : Int32) X5 Y6) ∧ (¬ r7 = 0 → wp_MO_find (fun (r11 : Int32) (X9 : ST) (Y10 : Int64) => ((0 ≤ r11 → wp_MO_take (fun (X13 : ST) (Y14 : Int64) => post (0 : Int32) X13 Y14) X9 Y10 r11) ∧ (¬ 0 ≤ r11 → post (3 : Int32) X9 Y10))) X5 Y6 a2))) X Y a4 a3 (X 11 a1.toNatClampNeg)) ∧ (¬ (X 10 a1.toNatClampNeg) = 0 → post (2 : Int32) X Y)))) ∧ (¬ a1 < (X 2 0) → post (1 : Int32) X Y))))
set_option maxHeartbeats 4000000 in
set_option maxRecDepth 100000 in
theorem mt_MO_signed (l : Launch) (hl9 : l.stackTraces = false) (dC : Nat → ClassId) (dI : Nat → Nat → Nat) (cA : Nat → ClassId) (ad : Nat → Nat) (hI : INJ ad 23) (sz : Nat) {X : ST} {Y : Int64} {a1 : Int32} {a2 : Int32} {a3 : Int32} {a4 : Int32} {post : Int32 → ST → Int64 → Prop} (hw : wp_MO_signed post X Y a1 a2 a3 a4) : Met l y_MO_signed ws_MO_signed ({ frames := 2, cells := 0, slots := 0, locals := 48 } : Room) (va_Pc [.ref (ad 0), .int a1, .int a2, .int a3, .int a4] (fun U => PM dC dI cA ad sz X Y U)) (va_Qi (fun r (u : ST × Int64) => post r u.1 u.2) (fun (u : ST × Int64) t => va_P (dC, dI) vwCl (wdM cA ad u.1 u.2) t.heap) (CA ad 23 sz)) 0 0 (CA ad 23 sz) := by
  refine Met.ofW (cc := c_MO_signed) (maxL := 6) (ret := (some .int)) (by decide) rfl ?_
  intro p e s m args below meth c s₁ B hml hv
  obtain ⟨rfl, hsz, hP, hG⟩ := hv
  have hx := B.exec
  have hb := B.bytes
  have hr := B.returns
  have hts : ∀ w ∈ GW, w.before (([.ref (ad 0), .int a1, .int a2, .int a3, .int a4] : List Value).toArray) s = true := fun w h => atoms_spec (ws := ws_MO_signed) B.pre w (List.mem_cons_of_mem _ h)
  have hown : s.vm.findClass R_MO = some m.cls := findClass_of_methodNamed B.named
  have hlocks := B.notSynchronized
  subst hsz
  have hK := hG.1
  have hG9 := hG
  have hNW := hG.2
  have hD0 : ∀ (X : ST) (Y : Int64), va_D (CA ad 23 s.heap.size) (wdM cA ad X Y) := fun _ _ => zwM_D hI
  have hS : va_S (CA ad 23 s.heap.size) s.heap s.heap [] := va_S.rf
  have hl := lv_entry ([.ref (ad 0), .int a1, .int a2, .int a3, .int a4]) (n := 6) (Nat.le_of_ble_eq_true rfl)
  rw [lg_entry_eq]
  generalize (lg_sl ([.ref (ad 0), .int a1, .int a2, .int a3, .int a4]) ++ List.replicate (6 - (lg_sl ([.ref (ad 0), .int a1, .int a2, .int a3, .int a4])).length) Slot.unset).toArray = ls at hl ⊢
  have hl : lv_has ls 6 [(0, .ref (ad 0)), (1, .int a1), (2, .int a2), (3, .int a3), (4, .int a4)] := hl
  unfold wp_MO_signed at hw
  refine lv_iload_n hx hb d_MO_signed_0 rfl (lv_at hl 1 rfl) ?_
  refine lv_if_lt (tgt := 12) hx hb d_MO_signed_1 (by decide) (fun c1 => ?_) (fun c1 => ?_)
  · have hw := hw.1 c1
    refine lv_iconst (v := (1 : Int32)) hx hb d_MO_signed_12 (by decide) ?_
    exact W.iret (v := (1 : Int32)) hx hb hr (fun t ht _ => ⟨⟨(1 : Int32), (X, Y), rfl, hw, by show va_P _ _ _ t.heap; rw [ht]; exact hP⟩, hS.F ht⟩) hS.2.2 d_MO_signed_13
  · have hw := hw.2 c1
    refine lv_iload_n hx hb d_MO_signed_4 rfl (lv_at hl 1 rfl) ?_
    refine lv_aload_n hx hb d_MO_signed_5 rfl (lv_at hl 0 rfl) ?_
    refine va_get (D := (dC, dI)) (ci := 9) (v := .int (X 2 0)) (C := R_MO) (T := T_MO) (N := 36) hx hb hts in_MO hown hK hP (0) atM_MO rfl 3 (by decide) (hts _ gw_331) (fun _ h9 => h9) rfl d_MO_signed_6 ?_
    refine lv_icmp_lt (tgt := 14) hx hb d_MO_signed_9 (by decide) (fun c2 => ?_) (fun c2 => ?_)
    · have hw := hw.1 c2
      refine lv_aload_n hx hb d_MO_signed_14 rfl (lv_at hl 0 rfl) ?_
      refine va_get (D := (dC, dI)) (ci := 9) (v := .ref (ad 2)) (C := R_MO) (T := T_MO) (N := 36) hx hb hts in_MO hown hK hP (0) atM_MO rfl 5 (by decide) (hts _ gw_332) (fun _ h9 => h9) rfl d_MO_signed_15 ?_
      refine lv_iload_n hx hb d_MO_signed_18 rfl (lv_at hl 1 rfl) ?_
      obtain ⟨h3, hw⟩ := hw
      refine va_zald hx hb hK hP (2) 1 atM_closed rfl h3 d_MO_signed_19 ?_
      refine lv_if_ne (tgt := 38) hx hb d_MO_signed_20 (by decide) (fun c4 => ?_) (fun c4 => ?_)
      · have hw := hw.2 c4
        refine lv_iconst (v := (2 : Int32)) hx hb d_MO_signed_38 (by decide) ?_
        exact W.iret (v := (2 : Int32)) hx hb hr (fun t ht _ => ⟨⟨(2 : Int32), (X, Y), rfl, hw, by show va_P _ _ _ t.heap; rw [ht]; exact hP⟩, hS.F ht⟩) hS.2.2 d_MO_signed_39
      · have hw := hw.1 c4
        refine lv_iload hx hb d_MO_signed_23 (lv_at hl 4 rfl) ?_
        refine lv_iload_n hx hb d_MO_signed_25 rfl (lv_at hl 3 rfl) ?_
        refine lv_aload_n hx hb d_MO_signed_26 rfl (lv_at hl 0 rfl) ?_
        refine va_get (D := (dC, dI)) (ci := 9) (v := .ref (ad 1)) (C := R_MO) (T := T_MO) (N := 36) hx hb hts in_MO hown hK hP (0) atM_MO rfl 4 (by decide) (hts _ gw_333) (fun _ h9 => h9) rfl d_MO_signed_27 ?_
        refine lv_iload_n hx hb d_MO_signed_30 rfl (lv_at hl 1 rfl) ?_
        refine va_iald hx hb hK hP (1) 0 atM_keys rfl h3 d_MO_signed_31 ?_
        refine va_calli (va_runS (As := [.int a4, .int a3, .int (X 11 a1.toNatClampNeg)]) (rest := []) ⟨hx, hb, hml, hown, hts⟩ (mt_MO_isRight l hl9 dC dI cA ad hI _ hw) (va_cwS 3 hts (gS gw_335 gw_336 gw_306 gw_334) rfl rfl rfl (by decide +kernel) ⟨Nat.le_of_ble_eq_true rfl, Nat.le_of_ble_eq_true rfl⟩) ⟨zwM_blind, zwM_pre hP hS hG9⟩ rfl rfl hl.1 rfl (lv_room (Nat.le_of_ble_eq_true rfl)) d_MO_signed_32 ⟨Nat.le_of_ble_eq_true rfl, Nat.le_of_ble_eq_true rfl⟩) hS (fun q _ h => CA_le hS.1 q h) (fun q h => CA_le hS.1 q h) (fun r7 u9 t H locs ht hvm hw hP hz1 hk1 hS => ?_)
        obtain ⟨X5, Y6⟩ := u9
        have hP : va_P (dC, dI) vwCl (wdM cA ad X5 Y6) H := by rw [← ht]; exact hP
        try dsimp only at hw
        refine lv_if_ne (tgt := 40) hx hb d_MO_signed_35 (by decide) (fun c8 => ?_) (fun c8 => ?_)
        · have hw := hw.2 c8
          refine lv_aload_n hx hb d_MO_signed_40 rfl (lv_at hl 0 rfl) ?_
          refine lv_iload_n hx hb d_MO_signed_41 rfl (lv_at hl 2 rfl) ?_
          refine va_calli (va_runV (As := [.int a2]) (rest := []) ⟨hx, hb, hml, hown, hts⟩ (mt_MO_find l hl9 dC dI cA ad hI _ hw) (cwV 1 hts (gV gw_338 gw_339 gw_340 gw_306 gw_337) rfl rfl rfl (by decide +kernel) ⟨Nat.le_of_ble_eq_true rfl, Nat.le_of_ble_eq_true rfl⟩) ⟨zwM_blind, va_recv hK hP (ci := 9) (q0 := 0) rfl atM_MO, zwM_pre hP hS hG9⟩ rfl rfl hl.1 rfl (lv_room (Nat.le_of_ble_eq_true rfl)) d_MO_signed_42 ⟨Nat.le_of_ble_eq_true rfl, Nat.le_of_ble_eq_true rfl⟩) hS (fun q _ h => CA_le hS.1 q h) (fun q h => CA_le hS.1 q h) (fun r11 u9 t H locs ht hvm hw hP hz1 hk1 hS => ?_)
          obtain ⟨X9, Y10⟩ := u9
          have hP : va_P (dC, dI) vwCl (wdM cA ad X9 Y10) H := by rw [← ht]; exact hP
          try dsimp only at hw
          refine lv_istore (lv' := [(5, .int r11), (0, .ref (ad 0)), (1, .int a1), (2, .int a2), (3, .int a3), (4, .int a4)]) hx hb d_MO_signed_45 hl (by decide) rfl (fun ls hl => ?_)
          refine lv_iload hx hb d_MO_signed_47 (lv_at hl 0 rfl) ?_
          refine lv_if_ge (tgt := 54) hx hb d_MO_signed_49 (by decide) (fun c12 => ?_) (fun c12 => ?_)
          · have hw := hw.1 c12
            refine lv_aload_n hx hb d_MO_signed_54 rfl (lv_at hl 1 rfl) ?_
            refine lv_iload hx hb d_MO_signed_55 (lv_at hl 0 rfl) ?_
            refine va_callv (va_runV (As := [.int r11]) (rest := []) ⟨hx, hb, hml, hown, hts⟩ (mt_MO_take l hl9 dC dI cA ad hI _ hw) (cwV 1 hts (gV gw_321 gw_322 gw_323 gw_306 gw_320) rfl rfl rfl (by decide +kernel) ⟨Nat.le_of_ble_eq_true rfl, Nat.le_of_ble_eq_true rfl⟩) ⟨zwM_blind, va_recv hK hP (ci := 9) (q0 := 0) rfl atM_MO, zwM_pre hP hS hG9⟩ rfl rfl hl.1 rfl (lv_room (Nat.le_of_ble_eq_true rfl)) d_MO_signed_57 ⟨Nat.le_of_ble_eq_true rfl, Nat.le_of_ble_eq_true rfl⟩) hS (fun q _ h => CA_le hS.1 q h) (fun q h => CA_le hS.1 q h) (fun u9 t H locs ht hvm hw hP hz1 hk1 hS => ?_)
            obtain ⟨X13, Y14⟩ := u9
            have hP : va_P (dC, dI) vwCl (wdM cA ad X13 Y14) H := by rw [← ht]; exact hP
            try dsimp only at hw
            refine lv_iconst (v := (0 : Int32)) hx hb d_MO_signed_60 (by decide) ?_
            exact W.iret (v := (0 : Int32)) hx hb hr (fun t ht _ => ⟨⟨(0 : Int32), (X13, Y14), rfl, hw, by show va_P _ _ _ t.heap; rw [ht]; exact hP⟩, hS.F ht⟩) hS.2.2 d_MO_signed_61
          · have hw := hw.2 c12
            refine lv_iconst (v := (3 : Int32)) hx hb d_MO_signed_52 (by decide) ?_
            exact W.iret (v := (3 : Int32)) hx hb hr (fun t ht _ => ⟨⟨(3 : Int32), (X9, Y10), rfl, hw, by show va_P _ _ _ t.heap; rw [ht]; exact hP⟩, hS.F ht⟩) hS.2.2 d_MO_signed_53
        · have hw := hw.1 c8
          refine lv_iconst (v := (2 : Int32)) hx hb d_MO_signed_38 (by decide) ?_
          exact W.iret (v := (2 : Int32)) hx hb hr (fun t ht _ => ⟨⟨(2 : Int32), (X5, Y6), rfl, hw, by show va_P _ _ _ t.heap; rw [ht]; exact hP⟩, hS.F ht⟩) hS.2.2 d_MO_signed_39
    · have hw := hw.2 c2
      refine lv_iconst (v := (1 : Int32)) hx hb d_MO_signed_12 (by decide) ?_
      exact W.iret (v := (1 : Int32)) hx hb hr (fun t ht _ => ⟨⟨(1 : Int32), (X, Y), rfl, hw, by show va_P _ _ _ t.heap; rw [ht]; exact hP⟩, hS.F ht⟩) hS.2.2 d_MO_signed_13
def ws_MO_holder : List Cond := Cond.code y_MO_holder c_MO_holder 3 (Option.some Jvm.ClassFile.FieldType.int) :: GW
theorem d_MO_holder_0 : decode c_MO_holder 0 = .ok (.iconst 0, 1) := by decide +kernel
theorem d_MO_holder_1 : decode c_MO_holder 1 = .ok (.istore_n 2, 1) := by decide +kernel
theorem d_MO_holder_2 : decode c_MO_holder 2 = .ok (.iload_n 2, 1) := by decide +kernel
theorem d_MO_holder_3 : decode c_MO_holder 3 = .ok (.aload_n 0, 1) := by decide +kernel
theorem d_MO_holder_4 : decode c_MO_holder 4 = .ok (.getfield 120, 3) := by decide +kernel
theorem d_MO_holder_7 : decode c_MO_holder 7 = .ok (.if_icmp .ge 21, 3) := by decide +kernel
theorem d_MO_holder_10 : decode c_MO_holder 10 = .ok (.aload_n 0, 1) := by decide +kernel
theorem d_MO_holder_11 : decode c_MO_holder 11 = .ok (.getfield 7, 3) := by decide +kernel
theorem d_MO_holder_14 : decode c_MO_holder 14 = .ok (.iload_n 2, 1) := by decide +kernel
theorem d_MO_holder_15 : decode c_MO_holder 15 = .ok (.iaload, 1) := by decide +kernel
theorem d_MO_holder_16 : decode c_MO_holder 16 = .ok (.iload_n 1, 1) := by decide +kernel
theorem d_MO_holder_17 : decode c_MO_holder 17 = .ok (.if_icmp .ne 5, 3) := by decide +kernel
theorem d_MO_holder_20 : decode c_MO_holder 20 = .ok (.iload_n 2, 1) := by decide +kernel
theorem d_MO_holder_21 : decode c_MO_holder 21 = .ok (.ireturn, 1) := by decide +kernel
theorem d_MO_holder_22 : decode c_MO_holder 22 = .ok (.iinc 2 1, 3) := by decide +kernel
theorem d_MO_holder_25 : decode c_MO_holder 25 = .ok (.goto (-23), 3) := by decide +kernel
theorem d_MO_holder_28 : decode c_MO_holder 28 = .ok (.iconst (-1), 1) := by decide +kernel
theorem d_MO_holder_29 : decode c_MO_holder 29 = .ok (.ireturn, 1) := by decide +kernel
def wq_MO_holder_2 (post : Int32 → ST → Int64 → Prop) (v1 : Int32) : Nat → Int32 → ST → Int64 → Prop
  | 0 => fun _ _ _ => False
  | n + 1 => fun v2 X Y => (((X 2 0) ≤ v2 → post (-1 : Int32) X Y) ∧ (¬ (X 2 0) ≤ v2 → (vp_in v2 6 ∧ (((X 11 v2.toNatClampNeg) = v1 → post v2 X Y) ∧ (¬ (X 11 v2.toNatClampNeg) = v1 → wq_MO_holder_2 post v1 n (v2 + (1 : Int32)) X Y)))))
def wp_MO_holder (post : Int32 → ST → Int64 → Prop) (X : ST) (Y : Int64) (a1 : Int32) : Prop := (∃ n9, wq_MO_holder_2 post a1 n9 (0 : Int32) X Y)
set_option maxHeartbeats 4000000 in
set_option maxRecDepth 100000 in
theorem mt_MO_holder (l : Launch) (hl9 : l.stackTraces = false) (dC : Nat → ClassId) (dI : Nat → Nat → Nat) (cA : Nat → ClassId) (ad : Nat → Nat) (hI : INJ ad 23) (sz : Nat) {X : ST} {Y : Int64} {a1 : Int32} {post : Int32 → ST → Int64 → Prop} (hw : wp_MO_holder post X Y a1) : Met l y_MO_holder ws_MO_holder ({ frames := 0, cells := 0, slots := 0, locals := 0 } : Room) (va_Pc [.ref (ad 0), .int a1] (fun U => PM dC dI cA ad sz X Y U)) (va_Qi (fun r (u : ST × Int64) => post r u.1 u.2) (fun (u : ST × Int64) t => va_P (dC, dI) vwCl (wdM cA ad u.1 u.2) t.heap) (CA ad 23 sz)) 0 0 (CA ad 23 sz) := by
  refine Met.ofW (cc := c_MO_holder) (maxL := 3) (ret := (some .int)) (by decide) rfl ?_
  intro p e s m args below meth c s₁ B hml hv
  obtain ⟨rfl, hsz, hP, hG⟩ := hv
  have hx := B.exec
  have hb := B.bytes
  have hr := B.returns
  have hts : ∀ w ∈ GW, w.before (([.ref (ad 0), .int a1] : List Value).toArray) s = true := fun w h => atoms_spec (ws := ws_MO_holder) B.pre w (List.mem_cons_of_mem _ h)
  have hown : s.vm.findClass R_MO = some m.cls := findClass_of_methodNamed B.named
  have hlocks := B.notSynchronized
  subst hsz
  have hK := hG.1
  have hG9 := hG
  have hNW := hG.2
  have hD0 : ∀ (X : ST) (Y : Int64), va_D (CA ad 23 s.heap.size) (wdM cA ad X Y) := fun _ _ => zwM_D hI
  have hS : va_S (CA ad 23 s.heap.size) s.heap s.heap [] := va_S.rf
  have hl := lv_entry ([.ref (ad 0), .int a1]) (n := 3) (Nat.le_of_ble_eq_true rfl)
  rw [lg_entry_eq]
  generalize (lg_sl ([.ref (ad 0), .int a1]) ++ List.replicate (3 - (lg_sl ([.ref (ad 0), .int a1])).length) Slot.unset).toArray = ls at hl ⊢
  have hl : lv_has ls 3 [(0, .ref (ad 0)), (1, .int a1)] := hl
  have L2 : ∀ (v1 : Int32), ∀ (n : Nat), ∀ (v2 : Int32) (X : ST) (Y : Int64) (H : Heap) (locs : List Loc) (ls : Array Slot), wq_MO_holder_2 post v1 n v2 X Y → va_P (dC, dI) vwCl (wdM cA ad X Y) H → va_S (CA ad 23 s.heap.size) s.heap H locs → lv_has ls 3 [(0, .ref (ad 0)), (1, .int v1), (2, .int v2)] → W p l e (headSpec ws_MO_holder ({ frames := 0, cells := 0, slots := 0, locals := 0 } : Room)).room s m (([.ref (ad 0), .int a1] : List Value).toArray) below meth c H locs 0 0 (MQ below (va_Qi (fun r (u : ST × Int64) => post r u.1 u.2) (fun (u : ST × Int64) t => va_P (dC, dI) vwCl (wdM cA ad u.1 u.2) t.heap) (CA ad 23 s.heap.size)) (([.ref (ad 0), .int a1] : List Value).toArray) s 0 0 (CA ad 23 s.heap.size)) (F0 m 2 ls []) := by
    intro v1 n
    induction n with
    | zero => intro v2 X Y H locs ls hw hP hS hl; exact False.elim hw
    | succ n ih =>
      intro v2 X Y H locs ls hw hP hS hl
      dsimp only [wq_MO_holder_2] at hw
      refine lv_iload_n hx hb d_MO_holder_2 rfl (lv_at hl 2 rfl) ?_
      refine lv_aload_n hx hb d_MO_holder_3 rfl (lv_at hl 0 rfl) ?_
      refine va_get (D := (dC, dI)) (ci := 9) (v := .int (X 2 0)) (C := R_MO) (T := T_MO) (N := 36) hx hb hts in_MO hown hK hP (0) atM_MO rfl 3 (by decide) (hts _ gw_331) (fun _ h9 => h9) rfl d_MO_holder_4 ?_
      refine lv_icmp_ge (tgt := 28) hx hb d_MO_holder_7 (by decide) (fun c1 => ?_) (fun c1 => ?_)
      · have hw := hw.1 c1
        refine lv_iconst (v := (-1 : Int32)) hx hb d_MO_holder_28 (by decide) ?_
        exact W.iret (v := (-1 : Int32)) hx hb hr (fun t ht _ => ⟨⟨(-1 : Int32), (X, Y), rfl, hw, by show va_P _ _ _ t.heap; rw [ht]; exact hP⟩, hS.F ht⟩) hS.2.2 d_MO_holder_29
      · have hw := hw.2 c1
        refine lv_aload_n hx hb d_MO_holder_10 rfl (lv_at hl 0 rfl) ?_
        refine va_get (D := (dC, dI)) (ci := 9) (v := .ref (ad 1)) (C := R_MO) (T := T_MO) (N := 36) hx hb hts in_MO hown hK hP (0) atM_MO rfl 4 (by decide) (hts _ gw_333) (fun _ h9 => h9) rfl d_MO_holder_11 ?_
        refine lv_iload_n hx hb d_MO_holder_14 rfl (lv_at hl 2 rfl) ?_
        obtain ⟨h2, hw⟩ := hw
        refine va_iald hx hb hK hP (1) 0 atM_keys rfl h2 d_MO_holder_15 ?_
        refine lv_iload_n hx hb d_MO_holder_16 rfl (lv_at hl 1 rfl) ?_
        refine lv_icmp_ne (tgt := 22) hx hb d_MO_holder_17 (by decide) (fun c3 => ?_) (fun c3 => ?_)
        · have hw := hw.2 c3
          refine lv_iinc (k := 2) (v := v2 + (1 : Int32)) (lv' := [(2, .int (v2 + (1 : Int32))), (0, .ref (ad 0)), (1, .int v1)]) hx hb d_MO_holder_22 hl rfl rfl (by decide) rfl (fun ls hl => ?_)
          refine lv_goto (tgt := 2) hx hb d_MO_holder_25 (by decide) ?_
          have hl := lv_sub hl (l' := [(0, .ref (ad 0)), (1, .int v1), (2, .int (v2 + (1 : Int32)))]) [1, 2, 0] rfl
          exact ih _ _ _ _ _ _ hw hP hS hl
        · have hw := hw.1 c3
          refine lv_iload_n hx hb d_MO_holder_20 rfl (lv_at hl 2 rfl) ?_
          exact W.iret (v := v2) hx hb hr (fun t ht _ => ⟨⟨v2, (X, Y), rfl, hw, by show va_P _ _ _ t.heap; rw [ht]; exact hP⟩, hS.F ht⟩) hS.2.2 d_MO_holder_21
  unfold wp_MO_holder at hw
  refine lv_iconst (v := (0 : Int32)) hx hb d_MO_holder_0 (by decide) ?_
  refine lv_istore_n (lv' := [(2, .int (0 : Int32)), (0, .ref (ad 0)), (1, .int a1)]) hx hb d_MO_holder_1 rfl hl (by decide) rfl (fun ls hl => ?_)
  have hl := lv_sub hl (l' := [(0, .ref (ad 0)), (1, .int a1), (2, .int (0 : Int32))]) [1, 2, 0] rfl
  obtain ⟨n9, hw⟩ := hw
  exact L2 _ n9 _ _ _ _ _ _ hw hP hS hl
