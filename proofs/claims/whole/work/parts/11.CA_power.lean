def ws_CA_power : List Cond := Cond.code y_CA_power c_CA_power 4 (Option.some Jvm.ClassFile.FieldType.int) :: GW
theorem d_CA_power_0 : decode c_CA_power 0 = .ok (.iload_n 1, 1) := by decide +kernel
theorem d_CA_power_1 : decode c_CA_power 1 = .ok (.ifCond .lt 14, 3) := by decide +kernel
theorem d_CA_power_4 : decode c_CA_power 4 = .ok (.iload_n 2, 1) := by decide +kernel
theorem d_CA_power_5 : decode c_CA_power 5 = .ok (.ifCond .lt 10, 3) := by decide +kernel
theorem d_CA_power_8 : decode c_CA_power 8 = .ok (.iload_n 3, 1) := by decide +kernel
theorem d_CA_power_9 : decode c_CA_power 9 = .ok (.invokestatic 77, 3) := by decide +kernel
theorem d_CA_power_12 : decode c_CA_power 12 = .ok (.ifCond .ne 7, 3) := by decide +kernel
theorem d_CA_power_15 : decode c_CA_power 15 = .ok (.iconst (-1), 1) := by decide +kernel
theorem d_CA_power_16 : decode c_CA_power 16 = .ok (.goto 9, 3) := by decide +kernel
theorem d_CA_power_19 : decode c_CA_power 19 = .ok (.iload_n 1, 1) := by decide +kernel
theorem d_CA_power_20 : decode c_CA_power 20 = .ok (.iload_n 2, 1) := by decide +kernel
theorem d_CA_power_21 : decode c_CA_power 21 = .ok (.iload_n 3, 1) := by decide +kernel
theorem d_CA_power_22 : decode c_CA_power 22 = .ok (.invokestatic 81, 3) := by decide +kernel
theorem d_CA_power_25 : decode c_CA_power 25 = .ok (.ireturn, 1) := by decide +kernel
def wp_CA_power (post : Int32 → ST → Prop) (X : ST) (a1 : Int32) (a2 : Int32) (a3 : Int32) : Prop := ((a1 < 0 → post (-1 : Int32) X) ∧ (¬ a1 < 0 → ((a2 < 0 → post (-1 : Int32) X) ∧ (¬ a2 < 0 → wp_CA_isKey (fun (r4 : Int32) (X3 : ST) => ((r4 = 0 → post (-1 : Int32) X3) ∧ (¬ r4 = 0 → wp_CA_powerModulo (fun (r7 : Int32) (X6 : ST) => post r7 X6) X3 a1 a2 a3))) X a3))))
set_option maxHeartbeats 4000000 in
set_option maxRecDepth 100000 in
theorem mt_CA_power (l : Launch) (hl9 : l.stackTraces = false) (dC : Nat → ClassId) (dI : Nat → Nat → Nat) (cA : Nat → ClassId) (ad : Nat → Nat) (hI : INJ ad 125) (sz : Nat) {X : ST} {a1 : Int32} {a2 : Int32} {a3 : Int32} {post : Int32 → ST → Prop} (hw : wp_CA_power post X a1 a2 a3) : Met l y_CA_power ws_CA_power ({ frames := 1, cells := 0, slots := 0, locals := 25 } : Room) (va_Pc [.ref (ad 0), .int a1, .int a2, .int a3] (fun U => PC dC dI cA ad sz X U)) (va_Qi (fun r (u : ST) => post r u) (fun (u : ST) t => va_P (dC, dI) vwCl (wdC cA ad u) t.heap) (CA ad 125 sz)) 0 0 (CA ad 125 sz) := by
  refine Met.ofW (cc := c_CA_power) (maxL := 4) (ret := (some .int)) (by decide) rfl ?_
  intro p e s m args below meth c s₁ B hml hv
  obtain ⟨rfl, hsz, hP, hG⟩ := hv
  have hx := B.exec
  have hb := B.bytes
  have hr := B.returns
  have hts : ∀ w ∈ GW, w.before (([.ref (ad 0), .int a1, .int a2, .int a3] : List Value).toArray) s = true := fun w h => atoms_spec (ws := ws_CA_power) B.pre w (List.mem_cons_of_mem _ h)
  have hown : s.vm.findClass R_CA = some m.cls := findClass_of_methodNamed B.named
  have hlocks := B.notSynchronized
  subst hsz
  have hK := hG.1
  have hG9 := hG
  have hNW := hG.2.1
  have hD0 : ∀ (X : ST), va_D (CA ad 125 s.heap.size) (wdC cA ad X) := fun _ => zwC_D hI
  have hS : va_S (CA ad 125 s.heap.size) s.heap s.heap [] := va_S.rf
  have hl := lv_entry ([.ref (ad 0), .int a1, .int a2, .int a3]) (n := 4) (Nat.le_of_ble_eq_true rfl)
  rw [lg_entry_eq]
  generalize (lg_sl ([.ref (ad 0), .int a1, .int a2, .int a3]) ++ List.replicate (4 - (lg_sl ([.ref (ad 0), .int a1, .int a2, .int a3])).length) Slot.unset).toArray = ls at hl ⊢
  have hl : lv_has ls 4 [(0, .ref (ad 0)), (1, .int a1), (2, .int a2), (3, .int a3)] := hl
  unfold wp_CA_power at hw
  refine lv_iload_n hx hb d_CA_power_0 rfl (lv_at hl 1 rfl) ?_
  refine lv_if_lt (tgt := 15) hx hb d_CA_power_1 (by decide) (fun c1 => ?_) (fun c1 => ?_)
  · have hw := hw.1 c1
    refine lv_iconst (v := (-1 : Int32)) hx hb d_CA_power_15 (by decide) ?_
    refine lv_goto (tgt := 25) hx hb d_CA_power_16 (by decide) ?_
    exact W.iret (v := (-1 : Int32)) hx hb hr (fun t ht _ => ⟨⟨(-1 : Int32), X, rfl, hw, by show va_P _ _ _ t.heap; rw [ht]; exact hP⟩, hS.F ht⟩) hS.2.2 d_CA_power_25
  · have hw := hw.2 c1
    refine lv_iload_n hx hb d_CA_power_4 rfl (lv_at hl 2 rfl) ?_
    refine lv_if_lt (tgt := 15) hx hb d_CA_power_5 (by decide) (fun c2 => ?_) (fun c2 => ?_)
    · have hw := hw.1 c2
      refine lv_iconst (v := (-1 : Int32)) hx hb d_CA_power_15 (by decide) ?_
      refine lv_goto (tgt := 25) hx hb d_CA_power_16 (by decide) ?_
      exact W.iret (v := (-1 : Int32)) hx hb hr (fun t ht _ => ⟨⟨(-1 : Int32), X, rfl, hw, by show va_P _ _ _ t.heap; rw [ht]; exact hP⟩, hS.F ht⟩) hS.2.2 d_CA_power_25
    · have hw := hw.2 c2
      refine lv_iload_n hx hb d_CA_power_8 rfl (lv_at hl 3 rfl) ?_
      refine va_calli (va_runS (As := [.int a3]) (rest := []) ⟨hx, hb, hml, hown, hts⟩ (mt_CA_isKey l hl9 dC dI cA ad hI _ hw) (va_cwS 1 hts (gS gw_20 gw_21 gw_13 gw_19) rfl rfl rfl (by decide +kernel) ⟨Nat.le_of_ble_eq_true rfl, Nat.le_of_ble_eq_true rfl⟩) ⟨zwC_blind, zwC_pre hP hS hG9⟩ rfl rfl hl.1 rfl (lv_room (Nat.le_of_ble_eq_true rfl)) d_CA_power_9 ⟨Nat.le_of_ble_eq_true rfl, Nat.le_of_ble_eq_true rfl⟩) hS (fun q _ h => CA_le hS.1 q h) (fun q h => CA_le hS.1 q h) (fun r4 X3 t H locs ht hvm hw hP hz1 hk1 hS => ?_)
      have hP : va_P (dC, dI) vwCl (wdC cA ad X3) H := by rw [← ht]; exact hP
      try dsimp only at hw
      refine lv_if_ne (tgt := 19) hx hb d_CA_power_12 (by decide) (fun c5 => ?_) (fun c5 => ?_)
      · have hw := hw.2 c5
        refine lv_iload_n hx hb d_CA_power_19 rfl (lv_at hl 1 rfl) ?_
        refine lv_iload_n hx hb d_CA_power_20 rfl (lv_at hl 2 rfl) ?_
        refine lv_iload_n hx hb d_CA_power_21 rfl (lv_at hl 3 rfl) ?_
        refine va_calli (va_runS (As := [.int a1, .int a2, .int a3]) (rest := []) ⟨hx, hb, hml, hown, hts⟩ (mt_CA_powerModulo l hl9 dC dI cA ad hI _ hw) (va_cwS 3 hts (gS gw_23 gw_24 gw_13 gw_22) rfl rfl rfl (by decide +kernel) ⟨Nat.le_of_ble_eq_true rfl, Nat.le_of_ble_eq_true rfl⟩) ⟨zwC_blind, zwC_pre hP hS hG9⟩ rfl rfl hl.1 rfl (lv_room (Nat.le_of_ble_eq_true rfl)) d_CA_power_22 ⟨Nat.le_of_ble_eq_true rfl, Nat.le_of_ble_eq_true rfl⟩) hS (fun q _ h => CA_le hS.1 q h) (fun q h => CA_le hS.1 q h) (fun r7 X6 t H locs ht hvm hw hP hz1 hk1 hS => ?_)
        have hP : va_P (dC, dI) vwCl (wdC cA ad X6) H := by rw [← ht]; exact hP
        try dsimp only at hw
        exact W.iret (v := r7) hx hb hr (fun t ht _ => ⟨⟨r7, X6, rfl, hw, by show va_P _ _ _ t.heap; rw [ht]; exact hP⟩, hS.F ht⟩) hS.2.2 d_CA_power_25
      · have hw := hw.1 c5
        refine lv_iconst (v := (-1 : Int32)) hx hb d_CA_power_15 (by decide) ?_
        refine lv_goto (tgt := 25) hx hb d_CA_power_16 (by decide) ?_
        exact W.iret (v := (-1 : Int32)) hx hb hr (fun t ht _ => ⟨⟨(-1 : Int32), X3, rfl, hw, by show va_P _ _ _ t.heap; rw [ht]; exact hP⟩, hS.F ht⟩) hS.2.2 d_CA_power_25
def ws_CA_mix : List Cond := Cond.code y_CA_mix c_CA_mix 5 (Option.some Jvm.ClassFile.FieldType.long) :: GW
theorem d_CA_mix_0 : decode c_CA_mix 0 = .ok (.lload_n 0, 1) := by decide +kernel
theorem d_CA_mix_1 : decode c_CA_mix 1 = .ok (.iload_n 2, 1) := by decide +kernel
theorem d_CA_mix_2 : decode c_CA_mix 2 = .ok (.i2l, 1) := by decide +kernel
theorem d_CA_mix_3 : decode c_CA_mix 3 = .ok (.lxor, 1) := by decide +kernel
theorem d_CA_mix_4 : decode c_CA_mix 4 = .ok (.ldc2_w 248, 3) := by decide +kernel
theorem d_CA_mix_7 : decode c_CA_mix 7 = .ok (.lmul, 1) := by decide +kernel
theorem d_CA_mix_8 : decode c_CA_mix 8 = .ok (.lstore_n 3, 1) := by decide +kernel
theorem d_CA_mix_9 : decode c_CA_mix 9 = .ok (.lload_n 3, 1) := by decide +kernel
theorem d_CA_mix_10 : decode c_CA_mix 10 = .ok (.lload_n 3, 1) := by decide +kernel
theorem d_CA_mix_11 : decode c_CA_mix 11 = .ok (.bipush 29, 2) := by decide +kernel
theorem d_CA_mix_13 : decode c_CA_mix 13 = .ok (.lushr, 1) := by decide +kernel
theorem d_CA_mix_14 : decode c_CA_mix 14 = .ok (.lxor, 1) := by decide +kernel
theorem d_CA_mix_15 : decode c_CA_mix 15 = .ok (.lreturn, 1) := by decide +kernel
def wp_CA_mix (post : Int64 → ST → Prop) (X : ST) (a1 : Int64) (a2 : Int32) : Prop := post (((a1 ^^^ a2.toInt64) * (-7046029254386353131 : Int64)) ^^^ ((((a1 ^^^ a2.toInt64) * (-7046029254386353131 : Int64)).toUInt64 >>> ((29 : Int32).toInt64.toUInt64 &&& Int64.toUInt64 63)).toInt64)) X
set_option maxHeartbeats 4000000 in
set_option maxRecDepth 100000 in
theorem mt_CA_mix (l : Launch) (hl9 : l.stackTraces = false) (dC : Nat → ClassId) (dI : Nat → Nat → Nat) (cA : Nat → ClassId) (ad : Nat → Nat) (hI : INJ ad 125) (sz : Nat) {X : ST} {a1 : Int64} {a2 : Int32} {post : Int64 → ST → Prop} (hw : wp_CA_mix post X a1 a2) : Met l y_CA_mix ws_CA_mix ({ frames := 0, cells := 0, slots := 0, locals := 0 } : Room) (va_Pc [.long a1, .int a2] (fun U => PC dC dI cA ad sz X U)) (va_Ql (fun r (u : ST) => post r u) (fun (u : ST) t => va_P (dC, dI) vwCl (wdC cA ad u) t.heap) (CA ad 125 sz)) 0 0 (CA ad 125 sz) := by
  refine Met.ofW (cc := c_CA_mix) (maxL := 5) (ret := (some .long)) (by decide) rfl ?_
  intro p e s m args below meth c s₁ B hml hv
  obtain ⟨rfl, hsz, hP, hG⟩ := hv
  have hx := B.exec
  have hb := B.bytes
  have hr := B.returns
  have hts : ∀ w ∈ GW, w.before (([.long a1, .int a2] : List Value).toArray) s = true := fun w h => atoms_spec (ws := ws_CA_mix) B.pre w (List.mem_cons_of_mem _ h)
  have hown : s.vm.findClass R_CA = some m.cls := findClass_of_methodNamed B.named
  have hlocks := B.notSynchronized
  subst hsz
  have hK := hG.1
  have hG9 := hG
  have hNW := hG.2.1
  have hD0 : ∀ (X : ST), va_D (CA ad 125 s.heap.size) (wdC cA ad X) := fun _ => zwC_D hI
  have hS : va_S (CA ad 125 s.heap.size) s.heap s.heap [] := va_S.rf
  have hl := lv_entry ([.long a1, .int a2]) (n := 5) (Nat.le_of_ble_eq_true rfl)
  rw [lg_entry_eq]
  generalize (lg_sl ([.long a1, .int a2]) ++ List.replicate (5 - (lg_sl ([.long a1, .int a2])).length) Slot.unset).toArray = ls at hl ⊢
  have hl : lv_has ls 5 [(0, .long a1), (2, .int a2)] := hl
  unfold wp_CA_mix at hw
  refine lv_lload_n hx hb d_CA_mix_0 rfl (lv_at hl 0 rfl) ?_
  refine lv_iload_n hx hb d_CA_mix_1 rfl (lv_at hl 1 rfl) ?_
  refine lv_i2l hx hb d_CA_mix_2 rfl ?_
  refine lv_lxor hx hb d_CA_mix_3 ?_
  refine lv_ldc2 (v := (-7046029254386353131 : Int64)) hx hb hown (hts _ gw_25) d_CA_mix_4 ?_
  refine lv_lmul hx hb d_CA_mix_7 ?_
  refine lv_lstore_n (lv' := [(3, .long ((a1 ^^^ a2.toInt64) * (-7046029254386353131 : Int64))), (0, .long a1), (2, .int a2)]) hx hb d_CA_mix_8 rfl hl (by decide) rfl (fun ls hl => ?_)
  refine lv_lload_n hx hb d_CA_mix_9 rfl (lv_at hl 0 rfl) ?_
  refine lv_lload_n hx hb d_CA_mix_10 rfl (lv_at hl 0 rfl) ?_
  refine lv_bipush (v := (29 : Int32)) hx hb d_CA_mix_11 (by decide) ?_
  refine lv_lushr hx hb d_CA_mix_13 rfl ?_
  refine lv_lxor hx hb d_CA_mix_14 ?_
  exact W.lret (v := ((a1 ^^^ a2.toInt64) * (-7046029254386353131 : Int64)) ^^^ ((((a1 ^^^ a2.toInt64) * (-7046029254386353131 : Int64)).toUInt64 >>> ((29 : Int32).toInt64.toUInt64 &&& Int64.toUInt64 63)).toInt64)) hx hb hr (fun t ht _ => ⟨⟨((a1 ^^^ a2.toInt64) * (-7046029254386353131 : Int64)) ^^^ ((((a1 ^^^ a2.toInt64) * (-7046029254386353131 : Int64)).toUInt64 >>> ((29 : Int32).toInt64.toUInt64 &&& Int64.toUInt64 63)).toInt64), X, rfl, hw, by show va_P _ _ _ t.heap; rw [ht]; exact hP⟩, hS.F ht⟩) hS.2.2 d_CA_mix_15
def ws_CA_digestEnd : List Cond := Cond.code y_CA_digestEnd c_CA_digestEnd 2 (Option.some Jvm.ClassFile.FieldType.int) :: GW
theorem d_CA_digestEnd_0 : decode c_CA_digestEnd 0 = .ok (.lload_n 0, 1) := by decide +kernel
theorem d_CA_digestEnd_1 : decode c_CA_digestEnd 1 = .ok (.bipush 33, 2) := by decide +kernel
theorem d_CA_digestEnd_3 : decode c_CA_digestEnd 3 = .ok (.lushr, 1) := by decide +kernel
theorem d_CA_digestEnd_4 : decode c_CA_digestEnd 4 = .ok (.l2i, 1) := by decide +kernel
theorem d_CA_digestEnd_5 : decode c_CA_digestEnd 5 = .ok (.ireturn, 1) := by decide +kernel
def wp_CA_digestEnd (post : Int32 → ST → Prop) (X : ST) (a1 : Int64) : Prop := post (((a1.toUInt64 >>> ((33 : Int32).toInt64.toUInt64 &&& Int64.toUInt64 63)).toInt64).toInt32) X
set_option maxHeartbeats 4000000 in
set_option maxRecDepth 100000 in
theorem mt_CA_digestEnd (l : Launch) (hl9 : l.stackTraces = false) (dC : Nat → ClassId) (dI : Nat → Nat → Nat) (cA : Nat → ClassId) (ad : Nat → Nat) (hI : INJ ad 125) (sz : Nat) {X : ST} {a1 : Int64} {post : Int32 → ST → Prop} (hw : wp_CA_digestEnd post X a1) : Met l y_CA_digestEnd ws_CA_digestEnd ({ frames := 0, cells := 0, slots := 0, locals := 0 } : Room) (va_Pc [.long a1] (fun U => PC dC dI cA ad sz X U)) (va_Qi (fun r (u : ST) => post r u) (fun (u : ST) t => va_P (dC, dI) vwCl (wdC cA ad u) t.heap) (CA ad 125 sz)) 0 0 (CA ad 125 sz) := by
  refine Met.ofW (cc := c_CA_digestEnd) (maxL := 2) (ret := (some .int)) (by decide) rfl ?_
  intro p e s m args below meth c s₁ B hml hv
  obtain ⟨rfl, hsz, hP, hG⟩ := hv
  have hx := B.exec
  have hb := B.bytes
  have hr := B.returns
  have hts : ∀ w ∈ GW, w.before (([.long a1] : List Value).toArray) s = true := fun w h => atoms_spec (ws := ws_CA_digestEnd) B.pre w (List.mem_cons_of_mem _ h)
  have hown : s.vm.findClass R_CA = some m.cls := findClass_of_methodNamed B.named
  have hlocks := B.notSynchronized
  subst hsz
  have hK := hG.1
  have hG9 := hG
  have hNW := hG.2.1
  have hD0 : ∀ (X : ST), va_D (CA ad 125 s.heap.size) (wdC cA ad X) := fun _ => zwC_D hI
  have hS : va_S (CA ad 125 s.heap.size) s.heap s.heap [] := va_S.rf
  have hl := lv_entry ([.long a1]) (n := 2) (Nat.le_of_ble_eq_true rfl)
  rw [lg_entry_eq]
  generalize (lg_sl ([.long a1]) ++ List.replicate (2 - (lg_sl ([.long a1])).length) Slot.unset).toArray = ls at hl ⊢
  have hl : lv_has ls 2 [(0, .long a1)] := hl
  unfold wp_CA_digestEnd at hw
  refine lv_lload_n hx hb d_CA_digestEnd_0 rfl (lv_at hl 0 rfl) ?_
  refine lv_bipush (v := (33 : Int32)) hx hb d_CA_digestEnd_1 (by decide) ?_
  refine lv_lushr hx hb d_CA_digestEnd_3 rfl ?_
  refine lv_l2i hx hb d_CA_digestEnd_4 rfl ?_
  exact W.iret (v := ((a1.toUInt64 >>> ((33 : Int32).toInt64.toUInt64 &&& Int64.toUInt64 63)).toInt64).toInt32) hx hb hr (fun t ht _ => ⟨⟨((a1.toUInt64 >>> ((33 : Int32).toInt64.toUInt64 &&& Int64.toUInt64 63)).toInt64).toInt32, X, rfl, hw, by show va_P _ _ _ t.heap; rw [ht]; exact hP⟩, hS.F ht⟩) hS.2.2 d_CA_digestEnd_5
def ws_CA_digest : List Cond := Cond.code y_CA_digest c_CA_digest 6 (Option.some Jvm.ClassFile.FieldType.int) :: GW
theorem d_CA_digest_0 : decode c_CA_digest 0 = .ok (.lconst 0, 1) := by decide +kernel
theorem d_CA_digest_1 : decode c_CA_digest 1 = .ok (.iload_n 1, 1) := by decide +kernel
theorem d_CA_digest_2 : decode c_CA_digest 2 = .ok (.invokestatic 85, 3) := by decide +kernel
theorem d_CA_digest_5 : decode c_CA_digest 5 = .ok (.iload_n 2, 1) := by decide +kernel
theorem d_CA_digest_6 : decode c_CA_digest 6 = .ok (.invokestatic 85, 3) := by decide +kernel
theorem d_CA_digest_9 : decode c_CA_digest 9 = .ok (.iload_n 3, 1) := by decide +kernel
theorem d_CA_digest_10 : decode c_CA_digest 10 = .ok (.invokestatic 85, 3) := by decide +kernel
theorem d_CA_digest_13 : decode c_CA_digest 13 = .ok (.iload 4, 2) := by decide +kernel
theorem d_CA_digest_15 : decode c_CA_digest 15 = .ok (.invokestatic 85, 3) := by decide +kernel
theorem d_CA_digest_18 : decode c_CA_digest 18 = .ok (.iload 5, 2) := by decide +kernel
theorem d_CA_digest_20 : decode c_CA_digest 20 = .ok (.invokestatic 85, 3) := by decide +kernel
theorem d_CA_digest_23 : decode c_CA_digest 23 = .ok (.invokestatic 89, 3) := by decide +kernel
theorem d_CA_digest_26 : decode c_CA_digest 26 = .ok (.ireturn, 1) := by decide +kernel
def wp_CA_digest (post : Int32 → ST → Prop) (X : ST) (a1 : Int32) (a2 : Int32) (a3 : Int32) (a4 : Int32) (a5 : Int32) : Prop := wp_CA_mix (fun (r2 : Int64) (X1 : ST) => wp_CA_mix (fun (r4 : Int64) (X3 : ST) => wp_CA_mix (fun (r6 : Int64) (X5 : ST) => wp_CA_mix (fun (r8 : Int64) (X7 : ST) => wp_CA_mix (fun (r10 : Int64) (X9 : ST) => wp_CA_digestEnd (fun (r12 : Int32) (X11 : ST) => post r12 X11) X9 r10) X7 r8 a5) X5 r6 a4) X3 r4 a3) X1 r2 a2) X (0 : Int64) a1
set_option maxHeartbeats 4000000 in
set_option maxRecDepth 100000 in
theorem mt_CA_digest (l : Launch) (hl9 : l.stackTraces = false) (dC : Nat → ClassId) (dI : Nat → Nat → Nat) (cA : Nat → ClassId) (ad : Nat → Nat) (hI : INJ ad 125) (sz : Nat) {X : ST} {a1 : Int32} {a2 : Int32} {a3 : Int32} {a4 : Int32} {a5 : Int32} {post : Int32 → ST → Prop} (hw : wp_CA_digest post X a1 a2 a3 a4 a5) : Met l y_CA_digest ws_CA_digest ({ frames := 1, cells := 0, slots := 0, locals := 24 } : Room) (va_Pc [.ref (ad 0), .int a1, .int a2, .int a3, .int a4, .int a5] (fun U => PC dC dI cA ad sz X U)) (va_Qi (fun r (u : ST) => post r u) (fun (u : ST) t => va_P (dC, dI) vwCl (wdC cA ad u) t.heap) (CA ad 125 sz)) 0 0 (CA ad 125 sz) := by
  refine Met.ofW (cc := c_CA_digest) (maxL := 6) (ret := (some .int)) (by decide) rfl ?_
  intro p e s m args below meth c s₁ B hml hv
  obtain ⟨rfl, hsz, hP, hG⟩ := hv
  have hx := B.exec
  have hb := B.bytes
  have hr := B.returns
  have hts : ∀ w ∈ GW, w.before (([.ref (ad 0), .int a1, .int a2, .int a3, .int a4, .int a5] : List Value).toArray) s = true := fun w h => atoms_spec (ws := ws_CA_digest) B.pre w (List.mem_cons_of_mem _ h)
  have hown : s.vm.findClass R_CA = some m.cls := findClass_of_methodNamed B.named
  have hlocks := B.notSynchronized
  subst hsz
  have hK := hG.1
  have hG9 := hG
  have hNW := hG.2.1
  have hD0 : ∀ (X : ST), va_D (CA ad 125 s.heap.size) (wdC cA ad X) := fun _ => zwC_D hI
  have hS : va_S (CA ad 125 s.heap.size) s.heap s.heap [] := va_S.rf
  have hl := lv_entry ([.ref (ad 0), .int a1, .int a2, .int a3, .int a4, .int a5]) (n := 6) (Nat.le_of_ble_eq_true rfl)
  rw [lg_entry_eq]
  generalize (lg_sl ([.ref (ad 0), .int a1, .int a2, .int a3, .int a4, .int a5]) ++ List.replicate (6 - (lg_sl ([.ref (ad 0), .int a1, .int a2, .int a3, .int a4, .int a5])).length) Slot.unset).toArray = ls at hl ⊢
  have hl : lv_has ls 6 [(0, .ref (ad 0)), (1, .int a1), (2, .int a2), (3, .int a3), (4, .int a4), (5, .int a5)] := hl
  unfold wp_CA_digest at hw
  refine lv_lconst (v := (0 : Int64)) hx hb d_CA_digest_0 (by decide) ?_
  refine lv_iload_n hx hb d_CA_digest_1 rfl (lv_at hl 1 rfl) ?_
  refine va_calll (va_runS (As := [.long (0 : Int64), .int a1]) (rest := []) ⟨hx, hb, hml, hown, hts⟩ (mt_CA_mix l hl9 dC dI cA ad hI _ hw) (va_cwS 2 hts (gS gw_27 gw_28 gw_13 gw_26) rfl rfl rfl (by decide +kernel) ⟨Nat.le_of_ble_eq_true rfl, Nat.le_of_ble_eq_true rfl⟩) ⟨zwC_blind, zwC_pre hP hS hG9⟩ rfl rfl hl.1 rfl (lv_room (Nat.le_of_ble_eq_true rfl)) d_CA_digest_2 ⟨Nat.le_of_ble_eq_true rfl, Nat.le_of_ble_eq_true rfl⟩) hS (fun q _ h => CA_le hS.1 q h) (fun q h => CA_le hS.1 q h) (fun r2 X1 t H locs ht hvm hw hP hz1 hk1 hS => ?_)
  have hP : va_P (dC, dI) vwCl (wdC cA ad X1) H := by rw [← ht]; exact hP
  try dsimp only at hw
  refine lv_iload_n hx hb d_CA_digest_5 rfl (lv_at hl 2 rfl) ?_
  refine va_calll (va_runS (As := [.long r2, .int a2]) (rest := []) ⟨hx, hb, hml, hown, hts⟩ (mt_CA_mix l hl9 dC dI cA ad hI _ hw) (va_cwS 2 hts (gS gw_27 gw_28 gw_13 gw_26) rfl rfl rfl (by decide +kernel) ⟨Nat.le_of_ble_eq_true rfl, Nat.le_of_ble_eq_true rfl⟩) ⟨zwC_blind, zwC_pre hP hS hG9⟩ rfl rfl hl.1 rfl (lv_room (Nat.le_of_ble_eq_true rfl)) d_CA_digest_6 ⟨Nat.le_of_ble_eq_true rfl, Nat.le_of_ble_eq_true rfl⟩) hS (fun q _ h => CA_le hS.1 q h) (fun q h => CA_le hS.1 q h) (fun r4 X3 t H locs ht hvm hw hP hz1 hk1 hS => ?_)
  have hP : va_P (dC, dI) vwCl (wdC cA ad X3) H := by rw [← ht]; exact hP
  try dsimp only at hw
  refine lv_iload_n hx hb d_CA_digest_9 rfl (lv_at hl 3 rfl) ?_
  refine va_calll (va_runS (As := [.long r4, .int a3]) (rest := []) ⟨hx, hb, hml, hown, hts⟩ (mt_CA_mix l hl9 dC dI cA ad hI _ hw) (va_cwS 2 hts (gS gw_27 gw_28 gw_13 gw_26) rfl rfl rfl (by decide +kernel) ⟨Nat.le_of_ble_eq_true rfl, Nat.le_of_ble_eq_true rfl⟩) ⟨zwC_blind, zwC_pre hP hS hG9⟩ rfl rfl hl.1 rfl (lv_room (Nat.le_of_ble_eq_true rfl)) d_CA_digest_10 ⟨Nat.le_of_ble_eq_true rfl, Nat.le_of_ble_eq_true rfl⟩) hS (fun q _ h => CA_le hS.1 q h) (fun q h => CA_le hS.1 q h) (fun r6 X5 t H locs ht hvm hw hP hz1 hk1 hS => ?_)
  have hP : va_P (dC, dI) vwCl (wdC cA ad X5) H := by rw [← ht]; exact hP
  try dsimp only at hw
  refine lv_iload hx hb d_CA_digest_13 (lv_at hl 4 rfl) ?_
  refine va_calll (va_runS (As := [.long r6, .int a4]) (rest := []) ⟨hx, hb, hml, hown, hts⟩ (mt_CA_mix l hl9 dC dI cA ad hI _ hw) (va_cwS 2 hts (gS gw_27 gw_28 gw_13 gw_26) rfl rfl rfl (by decide +kernel) ⟨Nat.le_of_ble_eq_true rfl, Nat.le_of_ble_eq_true rfl⟩) ⟨zwC_blind, zwC_pre hP hS hG9⟩ rfl rfl hl.1 rfl (lv_room (Nat.le_of_ble_eq_true rfl)) d_CA_digest_15 ⟨Nat.le_of_ble_eq_true rfl, Nat.le_of_ble_eq_true rfl⟩) hS (fun q _ h => CA_le hS.1 q h) (fun q h => CA_le hS.1 q h) (fun r8 X7 t H locs ht hvm hw hP hz1 hk1 hS => ?_)
  have hP : va_P (dC, dI) vwCl (wdC cA ad X7) H := by rw [← ht]; exact hP
  try dsimp only at hw
  refine lv_iload hx hb d_CA_digest_18 (lv_at hl 5 rfl) ?_
  refine va_calll (va_runS (As := [.long r8, .int a5]) (rest := []) ⟨hx, hb, hml, hown, hts⟩ (mt_CA_mix l hl9 dC dI cA ad hI _ hw) (va_cwS 2 hts (gS gw_27 gw_28 gw_13 gw_26) rfl rfl rfl (by decide +kernel) ⟨Nat.le_of_ble_eq_true rfl, Nat.le_of_ble_eq_true rfl⟩) ⟨zwC_blind, zwC_pre hP hS hG9⟩ rfl rfl hl.1 rfl (lv_room (Nat.le_of_ble_eq_true rfl)) d_CA_digest_20 ⟨Nat.le_of_ble_eq_true rfl, Nat.le_of_ble_eq_true rfl⟩) hS (fun q _ h => CA_le hS.1 q h) (fun q h => CA_le hS.1 q h) (fun r10 X9 t H locs ht hvm hw hP hz1 hk1 hS => ?_)
  have hP : va_P (dC, dI) vwCl (wdC cA ad X9) H := by rw [← ht]; exact hP
  try dsimp only at hw
  refine va_calli (va_runS (As := [.long r10]) (rest := []) ⟨hx, hb, hml, hown, hts⟩ (mt_CA_digestEnd l hl9 dC dI cA ad hI _ hw) (va_cwS 1 hts (gS gw_30 gw_31 gw_13 gw_29) rfl rfl rfl (by decide +kernel) ⟨Nat.le_of_ble_eq_true rfl, Nat.le_of_ble_eq_true rfl⟩) ⟨zwC_blind, zwC_pre hP hS hG9⟩ rfl rfl hl.1 rfl (lv_room (Nat.le_of_ble_eq_true rfl)) d_CA_digest_23 ⟨Nat.le_of_ble_eq_true rfl, Nat.le_of_ble_eq_true rfl⟩) hS (fun q _ h => CA_le hS.1 q h) (fun q h => CA_le hS.1 q h) (fun r12 X11 t H locs ht hvm hw hP hz1 hk1 hS => ?_)
  have hP : va_P (dC, dI) vwCl (wdC cA ad X11) H := by rw [← ht]; exact hP
  try dsimp only at hw
  exact W.iret (v := r12) hx hb hr (fun t ht _ => ⟨⟨r12, X11, rfl, hw, by show va_P _ _ _ t.heap; rw [ht]; exact hP⟩, hS.F ht⟩) hS.2.2 d_CA_digest_26
def ws_CA_isRight : List Cond := Cond.code y_CA_isRight c_CA_isRight 3 (Option.some Jvm.ClassFile.FieldType.boolean) :: GW
theorem d_CA_isRight_0 : decode c_CA_isRight 0 = .ok (.iload_n 0, 1) := by decide +kernel
theorem d_CA_isRight_1 : decode c_CA_isRight 1 = .ok (.ifCond .lt 25, 3) := by decide +kernel
theorem d_CA_isRight_4 : decode c_CA_isRight 4 = .ok (.iload_n 0, 1) := by decide +kernel
theorem d_CA_isRight_5 : decode c_CA_isRight 5 = .ok (.iload_n 2, 1) := by decide +kernel
theorem d_CA_isRight_6 : decode c_CA_isRight 6 = .ok (.if_icmp .ge 20, 3) := by decide +kernel
theorem d_CA_isRight_9 : decode c_CA_isRight 9 = .ok (.iload_n 0, 1) := by decide +kernel
theorem d_CA_isRight_10 : decode c_CA_isRight 10 = .ok (.bipush 17, 2) := by decide +kernel
theorem d_CA_isRight_12 : decode c_CA_isRight 12 = .ok (.iload_n 2, 1) := by decide +kernel
theorem d_CA_isRight_13 : decode c_CA_isRight 13 = .ok (.invokestatic 81, 3) := by decide +kernel
theorem d_CA_isRight_16 : decode c_CA_isRight 16 = .ok (.iload_n 1, 1) := by decide +kernel
theorem d_CA_isRight_17 : decode c_CA_isRight 17 = .ok (.iload_n 2, 1) := by decide +kernel
theorem d_CA_isRight_18 : decode c_CA_isRight 18 = .ok (.irem, 1) := by decide +kernel
theorem d_CA_isRight_19 : decode c_CA_isRight 19 = .ok (.if_icmp .ne 7, 3) := by decide +kernel
theorem d_CA_isRight_22 : decode c_CA_isRight 22 = .ok (.iconst 1, 1) := by decide +kernel
theorem d_CA_isRight_23 : decode c_CA_isRight 23 = .ok (.goto 4, 3) := by decide +kernel
theorem d_CA_isRight_26 : decode c_CA_isRight 26 = .ok (.iconst 0, 1) := by decide +kernel
theorem d_CA_isRight_27 : decode c_CA_isRight 27 = .ok (.ireturn, 1) := by decide +kernel
def wp_CA_isRight (post : Int32 → ST → Prop) (X : ST) (a1 : Int32) (a2 : Int32) (a3 : Int32) : Prop := ((a1 < 0 → post (0 : Int32) X) ∧ (¬ a1 < 0 → ((a3 ≤ a1 → post (0 : Int32) X) ∧ (¬ a3 ≤ a1 → wp_CA_powerModulo (fun (r4 : Int32) (X3 : ST) => (¬ a3 = 0 ∧ ((r4 = (a2 - a2 / a3 * a3) → post (1 : Int32) X3) ∧ (¬ r4 = (a2 - a2 / a3 * a3) → post (0 : Int32) X3)))) X a1 (17 : Int32) a3))))
set_option maxHeartbeats 4000000 in
set_option maxRecDepth 100000 in
theorem mt_CA_isRight (l : Launch) (hl9 : l.stackTraces = false) (dC : Nat → ClassId) (dI : Nat → Nat → Nat) (cA : Nat → ClassId) (ad : Nat → Nat) (hI : INJ ad 125) (sz : Nat) {X : ST} {a1 : Int32} {a2 : Int32} {a3 : Int32} {post : Int32 → ST → Prop} (hw : wp_CA_isRight post X a1 a2 a3) : Met l y_CA_isRight ws_CA_isRight ({ frames := 1, cells := 0, slots := 0, locals := 25 } : Room) (va_Pc [.int a1, .int a2, .int a3] (fun U => PC dC dI cA ad sz X U)) (va_Qi (fun r (u : ST) => post r u) (fun (u : ST) t => va_P (dC, dI) vwCl (wdC cA ad u) t.heap) (CA ad 125 sz)) 0 0 (CA ad 125 sz) := by
  refine Met.ofW (cc := c_CA_isRight) (maxL := 3) (ret := (some .boolean)) (by decide) rfl ?_
  intro p e s m args below meth c s₁ B hml hv
  obtain ⟨rfl, hsz, hP, hG⟩ := hv
  have hx := B.exec
  have hb := B.bytes
  have hr := B.returns
  have hts : ∀ w ∈ GW, w.before (([.int a1, .int a2, .int a3] : List Value).toArray) s = true := fun w h => atoms_spec (ws := ws_CA_isRight) B.pre w (List.mem_cons_of_mem _ h)
  have hown : s.vm.findClass R_CA = some m.cls := findClass_of_methodNamed B.named
  have hlocks := B.notSynchronized
  subst hsz
  have hK := hG.1
  have hG9 := hG
  have hNW := hG.2.1
  have hD0 : ∀ (X : ST), va_D (CA ad 125 s.heap.size) (wdC cA ad X) := fun _ => zwC_D hI
  have hS : va_S (CA ad 125 s.heap.size) s.heap s.heap [] := va_S.rf
  have hl := lv_entry ([.int a1, .int a2, .int a3]) (n := 3) (Nat.le_of_ble_eq_true rfl)
  rw [lg_entry_eq]
  generalize (lg_sl ([.int a1, .int a2, .int a3]) ++ List.replicate (3 - (lg_sl ([.int a1, .int a2, .int a3])).length) Slot.unset).toArray = ls at hl ⊢
  have hl : lv_has ls 3 [(0, .int a1), (1, .int a2), (2, .int a3)] := hl
  unfold wp_CA_isRight at hw
  refine lv_iload_n hx hb d_CA_isRight_0 rfl (lv_at hl 0 rfl) ?_
  refine lv_if_lt (tgt := 26) hx hb d_CA_isRight_1 (by decide) (fun c1 => ?_) (fun c1 => ?_)
  · have hw := hw.1 c1
    refine lv_iconst (v := (0 : Int32)) hx hb d_CA_isRight_26 (by decide) ?_
    exact W.zret (v := (0 : Int32)) hx hb hr (by decide) (fun t ht _ => ⟨⟨(0 : Int32), X, rfl, hw, by show va_P _ _ _ t.heap; rw [ht]; exact hP⟩, hS.F ht⟩) hS.2.2 d_CA_isRight_27
  · have hw := hw.2 c1
    refine lv_iload_n hx hb d_CA_isRight_4 rfl (lv_at hl 0 rfl) ?_
    refine lv_iload_n hx hb d_CA_isRight_5 rfl (lv_at hl 2 rfl) ?_
    refine lv_icmp_ge (tgt := 26) hx hb d_CA_isRight_6 (by decide) (fun c2 => ?_) (fun c2 => ?_)
    · have hw := hw.1 c2
      refine lv_iconst (v := (0 : Int32)) hx hb d_CA_isRight_26 (by decide) ?_
      exact W.zret (v := (0 : Int32)) hx hb hr (by decide) (fun t ht _ => ⟨⟨(0 : Int32), X, rfl, hw, by show va_P _ _ _ t.heap; rw [ht]; exact hP⟩, hS.F ht⟩) hS.2.2 d_CA_isRight_27
    · have hw := hw.2 c2
      refine lv_iload_n hx hb d_CA_isRight_9 rfl (lv_at hl 0 rfl) ?_
      refine lv_bipush (v := (17 : Int32)) hx hb d_CA_isRight_10 (by decide) ?_
      refine lv_iload_n hx hb d_CA_isRight_12 rfl (lv_at hl 2 rfl) ?_
      refine va_calli (va_runS (As := [.int a1, .int (17 : Int32), .int a3]) (rest := []) ⟨hx, hb, hml, hown, hts⟩ (mt_CA_powerModulo l hl9 dC dI cA ad hI _ hw) (va_cwS 3 hts (gS gw_23 gw_24 gw_13 gw_22) rfl rfl rfl (by decide +kernel) ⟨Nat.le_of_ble_eq_true rfl, Nat.le_of_ble_eq_true rfl⟩) ⟨zwC_blind, zwC_pre hP hS hG9⟩ rfl rfl hl.1 rfl (lv_room (Nat.le_of_ble_eq_true rfl)) d_CA_isRight_13 ⟨Nat.le_of_ble_eq_true rfl, Nat.le_of_ble_eq_true rfl⟩) hS (fun q _ h => CA_le hS.1 q h) (fun q h => CA_le hS.1 q h) (fun r4 X3 t H locs ht hvm hw hP hz1 hk1 hS => ?_)
      have hP : va_P (dC, dI) vwCl (wdC cA ad X3) H := by rw [← ht]; exact hP
      try dsimp only at hw
      refine lv_iload_n hx hb d_CA_isRight_16 rfl (lv_at hl 1 rfl) ?_
      refine lv_iload_n hx hb d_CA_isRight_17 rfl (lv_at hl 2 rfl) ?_
      obtain ⟨h5, hw⟩ := hw
      refine lv_irem hx hb d_CA_isRight_18 h5 ?_
      refine lv_icmp_ne (tgt := 26) hx hb d_CA_isRight_19 (by decide) (fun c6 => ?_) (fun c6 => ?_)
      · have hw := hw.2 c6
        refine lv_iconst (v := (0 : Int32)) hx hb d_CA_isRight_26 (by decide) ?_
        exact W.zret (v := (0 : Int32)) hx hb hr (by decide) (fun t ht _ => ⟨⟨(0 : Int32), X3, rfl, hw, by show va_P _ _ _ t.heap; rw [ht]; exact hP⟩, hS.F ht⟩) hS.2.2 d_CA_isRight_27
      · have hw := hw.1 c6
        refine lv_iconst (v := (1 : Int32)) hx hb d_CA_isRight_22 (by decide) ?_
        refine lv_goto (tgt := 27) hx hb d_CA_isRight_23 (by decide) ?_
        exact W.zret (v := (1 : Int32)) hx hb hr (by decide) (fun t ht _ => ⟨⟨(1 : Int32), X3, rfl, hw, by show va_P _ _ _ t.heap; rw [ht]; exact hP⟩, hS.F ht⟩) hS.2.2 d_CA_isRight_27
def ws_Non_takeBack : List Cond := Cond.code y_Non_takeBack c_Non_takeBack 3 (Option.some Jvm.ClassFile.FieldType.boolean) :: GW
theorem d_Non_takeBack_0 : decode c_Non_takeBack 0 = .ok (.iconst 0, 1) := by decide +kernel
theorem d_Non_takeBack_1 : decode c_Non_takeBack 1 = .ok (.istore_n 2, 1) := by decide +kernel
theorem d_Non_takeBack_2 : decode c_Non_takeBack 2 = .ok (.iload_n 2, 1) := by decide +kernel
theorem d_Non_takeBack_3 : decode c_Non_takeBack 3 = .ok (.aload_n 0, 1) := by decide +kernel
theorem d_Non_takeBack_4 : decode c_Non_takeBack 4 = .ok (.getfield 15, 3) := by decide +kernel
theorem d_Non_takeBack_7 : decode c_Non_takeBack 7 = .ok (.if_icmp .ge 26, 3) := by decide +kernel
theorem d_Non_takeBack_10 : decode c_Non_takeBack 10 = .ok (.aload_n 0, 1) := by decide +kernel
theorem d_Non_takeBack_11 : decode c_Non_takeBack 11 = .ok (.getfield 9, 3) := by decide +kernel
theorem d_Non_takeBack_14 : decode c_Non_takeBack 14 = .ok (.iload_n 2, 1) := by decide +kernel
theorem d_Non_takeBack_15 : decode c_Non_takeBack 15 = .ok (.iaload, 1) := by decide +kernel
theorem d_Non_takeBack_16 : decode c_Non_takeBack 16 = .ok (.iload_n 1, 1) := by decide +kernel
theorem d_Non_takeBack_17 : decode c_Non_takeBack 17 = .ok (.if_icmp .ne 10, 3) := by decide +kernel
theorem d_Non_takeBack_20 : decode c_Non_takeBack 20 = .ok (.aload_n 0, 1) := by decide +kernel
theorem d_Non_takeBack_21 : decode c_Non_takeBack 21 = .ok (.iload_n 2, 1) := by decide +kernel
theorem d_Non_takeBack_22 : decode c_Non_takeBack 22 = .ok (.invokevirtual 19, 3) := by decide +kernel
theorem d_Non_takeBack_25 : decode c_Non_takeBack 25 = .ok (.iconst 1, 1) := by decide +kernel
theorem d_Non_takeBack_26 : decode c_Non_takeBack 26 = .ok (.ireturn, 1) := by decide +kernel
theorem d_Non_takeBack_27 : decode c_Non_takeBack 27 = .ok (.iinc 2 1, 3) := by decide +kernel
theorem d_Non_takeBack_30 : decode c_Non_takeBack 30 = .ok (.goto (-28), 3) := by decide +kernel
theorem d_Non_takeBack_33 : decode c_Non_takeBack 33 = .ok (.iconst 0, 1) := by decide +kernel
theorem d_Non_takeBack_34 : decode c_Non_takeBack 34 = .ok (.ireturn, 1) := by decide +kernel
def wq_Non_takeBack_2 (post : Int32 → ST → Prop) (v1 : Int32) : Nat → Int32 → ST → Prop
  | 0 => fun _ _ => False
  | n + 1 => fun v2 X => (((X 6 0) ≤ v2 → post (0 : Int32) X) ∧ (¬ (X 6 0) ≤ v2 → (vp_in v2 8 ∧ (((X 61 v2.toNatClampNeg) = v1 → wp_Non_removeAt (fun (X4 : ST) => post (1 : Int32) X4) X v2) ∧ (¬ (X 61 v2.toNatClampNeg) = v1 → wq_Non_takeBack_2 post v1 n (v2 + (1 : Int32)) X)))))
def wp_Non_takeBack (post : Int32 → ST → Prop) (X : ST) (a1 : Int32) : Prop := (∃ n9, wq_Non_takeBack_2 post a1 n9 (0 : Int32) X)
set_option maxHeartbeats 4000000 in
set_option maxRecDepth 100000 in
theorem mt_Non_takeBack (l : Launch) (hl9 : l.stackTraces = false) (dC : Nat → ClassId) (dI : Nat → Nat → Nat) (cA : Nat → ClassId) (ad : Nat → Nat) (hI : INJ ad 125) (sz : Nat) {X : ST} {a1 : Int32} {post : Int32 → ST → Prop} (hw : wp_Non_takeBack post X a1) : Met l y_Non_takeBack ws_Non_takeBack ({ frames := 1, cells := 0, slots := 0, locals := 22 } : Room) (va_Pc [.ref (ad 6), .int a1] (fun U => PC dC dI cA ad sz X U)) (va_Qi (fun r (u : ST) => post r u) (fun (u : ST) t => va_P (dC, dI) vwCl (wdC cA ad u) t.heap) (CA ad 125 sz)) 0 0 (CA ad 125 sz) := by
  refine Met.ofW (cc := c_Non_takeBack) (maxL := 3) (ret := (some .boolean)) (by decide) rfl ?_
  intro p e s m args below meth c s₁ B hml hv
  obtain ⟨rfl, hsz, hP, hG⟩ := hv
  have hx := B.exec
  have hb := B.bytes
  have hr := B.returns
  have hts : ∀ w ∈ GW, w.before (([.ref (ad 6), .int a1] : List Value).toArray) s = true := fun w h => atoms_spec (ws := ws_Non_takeBack) B.pre w (List.mem_cons_of_mem _ h)
  have hown : s.vm.findClass R_Non = some m.cls := findClass_of_methodNamed B.named
  have hlocks := B.notSynchronized
  subst hsz
  have hK := hG.1
  have hG9 := hG
  have hNW := hG.2.1
  have hD0 : ∀ (X : ST), va_D (CA ad 125 s.heap.size) (wdC cA ad X) := fun _ => zwC_D hI
  have hS : va_S (CA ad 125 s.heap.size) s.heap s.heap [] := va_S.rf
  have hl := lv_entry ([.ref (ad 6), .int a1]) (n := 3) (Nat.le_of_ble_eq_true rfl)
  rw [lg_entry_eq]
  generalize (lg_sl ([.ref (ad 6), .int a1]) ++ List.replicate (3 - (lg_sl ([.ref (ad 6), .int a1])).length) Slot.unset).toArray = ls at hl ⊢
  have hl : lv_has ls 3 [(0, .ref (ad 6)), (1, .int a1)] := hl
  have L2 : ∀ (v1 : Int32), ∀ (n : Nat), ∀ (v2 : Int32) (X : ST) (H : Heap) (locs : List Loc) (ls : Array Slot), wq_Non_takeBack_2 post v1 n v2 X → va_P (dC, dI) vwCl (wdC cA ad X) H → va_S (CA ad 125 s.heap.size) s.heap H locs → lv_has ls 3 [(0, .ref (ad 6)), (1, .int v1), (2, .int v2)] → W p l e (headSpec ws_Non_takeBack ({ frames := 1, cells := 0, slots := 0, locals := 22 } : Room)).room s m (([.ref (ad 6), .int a1] : List Value).toArray) below meth c H locs 0 0 (MQ below (va_Qi (fun r (u : ST) => post r u) (fun (u : ST) t => va_P (dC, dI) vwCl (wdC cA ad u) t.heap) (CA ad 125 s.heap.size)) (([.ref (ad 6), .int a1] : List Value).toArray) s 0 0 (CA ad 125 s.heap.size)) (F0 m 2 ls []) := by
    intro v1 n
    induction n with
    | zero => intro v2 X H locs ls hw hP hS hl; exact False.elim hw
    | succ n ih =>
      intro v2 X H locs ls hw hP hS hl
      dsimp only [wq_Non_takeBack_2] at hw
      refine lv_iload_n hx hb d_Non_takeBack_2 rfl (lv_at hl 2 rfl) ?_
      refine lv_aload_n hx hb d_Non_takeBack_3 rfl (lv_at hl 0 rfl) ?_
      refine va_get (D := (dC, dI)) (ci := 1) (v := .int (X 6 0)) (C := R_Non) (T := T_Non) (N := 2) hx hb hts in_Non hown hK hP (6) atC_Non rfl 0 (by decide) (hts _ gw_2) (fun _ h9 => h9) rfl d_Non_takeBack_4 ?_
      refine lv_icmp_ge (tgt := 33) hx hb d_Non_takeBack_7 (by decide) (fun c1 => ?_) (fun c1 => ?_)
      · have hw := hw.1 c1
        refine lv_iconst (v := (0 : Int32)) hx hb d_Non_takeBack_33 (by decide) ?_
        exact W.zret (v := (0 : Int32)) hx hb hr (by decide) (fun t ht _ => ⟨⟨(0 : Int32), X, rfl, hw, by show va_P _ _ _ t.heap; rw [ht]; exact hP⟩, hS.F ht⟩) hS.2.2 d_Non_takeBack_34
      · have hw := hw.2 c1
        refine lv_aload_n hx hb d_Non_takeBack_10 rfl (lv_at hl 0 rfl) ?_
        refine va_get (D := (dC, dI)) (ci := 1) (v := .ref (ad 7)) (C := R_Non) (T := T_Non) (N := 2) hx hb hts in_Non hown hK hP (6) atC_Non rfl 1 (by decide) (hts _ gw_3) (fun _ h9 => h9) rfl d_Non_takeBack_11 ?_
        refine lv_iload_n hx hb d_Non_takeBack_14 rfl (lv_at hl 2 rfl) ?_
        obtain ⟨h2, hw⟩ := hw
        refine va_iald hx hb hK hP (7) 5 atC_iNon rfl h2 d_Non_takeBack_15 ?_
        refine lv_iload_n hx hb d_Non_takeBack_16 rfl (lv_at hl 1 rfl) ?_
        refine lv_icmp_ne (tgt := 27) hx hb d_Non_takeBack_17 (by decide) (fun c3 => ?_) (fun c3 => ?_)
        · have hw := hw.2 c3
          refine lv_iinc (k := 2) (v := v2 + (1 : Int32)) (lv' := [(2, .int (v2 + (1 : Int32))), (0, .ref (ad 6)), (1, .int v1)]) hx hb d_Non_takeBack_27 hl rfl rfl (by decide) rfl (fun ls hl => ?_)
          refine lv_goto (tgt := 2) hx hb d_Non_takeBack_30 (by decide) ?_
          have hl := lv_sub hl (l' := [(0, .ref (ad 6)), (1, .int v1), (2, .int (v2 + (1 : Int32)))]) [1, 2, 0] rfl
          exact ih _ _ _ _ _ hw hP hS hl
        · have hw := hw.1 c3
          refine lv_aload_n hx hb d_Non_takeBack_20 rfl (lv_at hl 0 rfl) ?_
          refine lv_iload_n hx hb d_Non_takeBack_21 rfl (lv_at hl 2 rfl) ?_
          refine va_callv (va_runV (As := [.int v2]) (rest := []) ⟨hx, hb, hml, hown, hts⟩ (mt_Non_removeAt l hl9 dC dI cA ad hI _ hw) (cwV 1 hts (gV gw_5 gw_6 gw_7 gw_8 gw_4) rfl rfl rfl (by decide +kernel) ⟨Nat.le_of_ble_eq_true rfl, Nat.le_of_ble_eq_true rfl⟩) ⟨zwC_blind, va_recv hK hP (ci := 1) (q0 := 6) rfl atC_Non, zwC_pre hP hS hG9⟩ rfl rfl hl.1 rfl (lv_room (Nat.le_of_ble_eq_true rfl)) d_Non_takeBack_22 ⟨Nat.le_of_ble_eq_true rfl, Nat.le_of_ble_eq_true rfl⟩) hS (fun q _ h => CA_le hS.1 q h) (fun q h => CA_le hS.1 q h) (fun X4 t H locs ht hvm hw hP hz1 hk1 hS => ?_)
          have hP : va_P (dC, dI) vwCl (wdC cA ad X4) H := by rw [← ht]; exact hP
          try dsimp only at hw
          refine lv_iconst (v := (1 : Int32)) hx hb d_Non_takeBack_25 (by decide) ?_
          exact W.zret (v := (1 : Int32)) hx hb hr (by decide) (fun t ht _ => ⟨⟨(1 : Int32), X4, rfl, hw, by show va_P _ _ _ t.heap; rw [ht]; exact hP⟩, hS.F ht⟩) hS.2.2 d_Non_takeBack_26
  unfold wp_Non_takeBack at hw
  refine lv_iconst (v := (0 : Int32)) hx hb d_Non_takeBack_0 (by decide) ?_
  refine lv_istore_n (lv' := [(2, .int (0 : Int32)), (0, .ref (ad 6)), (1, .int a1)]) hx hb d_Non_takeBack_1 rfl hl (by decide) rfl (fun ls hl => ?_)
  have hl := lv_sub hl (l' := [(0, .ref (ad 6)), (1, .int a1), (2, .int (0 : Int32))]) [1, 2, 0] rfl
  obtain ⟨n9, hw⟩ := hw
  exact L2 _ n9 _ _ _ _ _ hw hP hS hl
