def ws_MO_thrown : List Cond := Cond.code y_MO_thrown c_MO_thrown 1 (Option.some Jvm.ClassFile.FieldType.int) :: GW
theorem d_MO_thrown_0 : decode c_MO_thrown 0 = .ok (.aload_n 0, 1) := by decide +kernel
theorem d_MO_thrown_1 : decode c_MO_thrown 1 = .ok (.getfield 81, 3) := by decide +kernel
theorem d_MO_thrown_4 : decode c_MO_thrown 4 = .ok (.ireturn, 1) := by decide +kernel
def wp_MO_thrown (post : Int32 → ST → Int64 → Prop) (X : ST) (Y : Int64) : Prop := post (X 90 0) X Y
set_option maxHeartbeats 4000000 in
set_option maxRecDepth 100000 in
theorem mt_MO_thrown (l : Launch) (hl9 : l.stackTraces = false) (dC : Nat → ClassId) (dI : Nat → Nat → Nat) (cA : Nat → ClassId) (ad : Nat → Nat) (hI : INJ ad 23) (sz : Nat) {X : ST} {Y : Int64} {post : Int32 → ST → Int64 → Prop} (hw : wp_MO_thrown post X Y) : Met l y_MO_thrown ws_MO_thrown ({ frames := 0, cells := 0, slots := 0, locals := 0 } : Room) (va_Pc [.ref (ad 0)] (fun U => PM dC dI cA ad sz X Y U)) (va_Qi (fun r (u : ST × Int64) => post r u.1 u.2) (fun (u : ST × Int64) t => va_P (dC, dI) vwCl (wdM cA ad u.1 u.2) t.heap) (CA ad 23 sz)) 0 0 (CA ad 23 sz) := by
  refine Met.ofW (cc := c_MO_thrown) (maxL := 1) (ret := (some .int)) (by decide) rfl ?_
  intro p e s m args below meth c s₁ B hml hv
  obtain ⟨rfl, hsz, hP, hG⟩ := hv
  have hx := B.exec
  have hb := B.bytes
  have hr := B.returns
  have hts : ∀ w ∈ GW, w.before (([.ref (ad 0)] : List Value).toArray) s = true := fun w h => atoms_spec (ws := ws_MO_thrown) B.pre w (List.mem_cons_of_mem _ h)
  have hown : s.vm.findClass R_MO = some m.cls := findClass_of_methodNamed B.named
  have hlocks := B.notSynchronized
  subst hsz
  have hK := hG.1
  have hG9 := hG
  have hNW := hG.2
  have hD0 : ∀ (X : ST) (Y : Int64), va_D (CA ad 23 s.heap.size) (wdM cA ad X Y) := fun _ _ => zwM_D hI
  have hS : va_S (CA ad 23 s.heap.size) s.heap s.heap [] := va_S.rf
  have hl := lv_entry ([.ref (ad 0)]) (n := 1) (Nat.le_of_ble_eq_true rfl)
  rw [lg_entry_eq]
  generalize (lg_sl ([.ref (ad 0)]) ++ List.replicate (1 - (lg_sl ([.ref (ad 0)])).length) Slot.unset).toArray = ls at hl ⊢
  have hl : lv_has ls 1 [(0, .ref (ad 0))] := hl
  unfold wp_MO_thrown at hw
  refine lv_aload_n hx hb d_MO_thrown_0 rfl (lv_at hl 0 rfl) ?_
  refine va_get (D := (dC, dI)) (ci := 9) (v := .int (X 90 0)) (C := R_MO) (T := T_MO) (N := 36) hx hb hts in_MO hown hK hP (0) atM_MO rfl 0 (by decide) (hts _ gw_297) (fun _ h9 => h9) rfl d_MO_thrown_1 ?_
  exact W.iret (v := X 90 0) hx hb hr (fun t ht _ => ⟨⟨X 90 0, (X, Y), rfl, hw, by show va_P _ _ _ t.heap; rw [ht]; exact hP⟩, hS.F ht⟩) hS.2.2 d_MO_thrown_4
def ws_MO_draw : List Cond := Cond.code y_MO_draw c_MO_draw 1 (Option.some Jvm.ClassFile.FieldType.int) :: GW
theorem d_MO_draw_0 : decode c_MO_draw 0 = .ok (.aload_n 0, 1) := by decide +kernel
theorem d_MO_draw_1 : decode c_MO_draw 1 = .ok (.aload_n 0, 1) := by decide +kernel
theorem d_MO_draw_2 : decode c_MO_draw 2 = .ok (.getfield 77, 3) := by decide +kernel
theorem d_MO_draw_5 : decode c_MO_draw 5 = .ok (.ldc 84, 2) := by decide +kernel
theorem d_MO_draw_7 : decode c_MO_draw 7 = .ok (.imul, 1) := by decide +kernel
theorem d_MO_draw_8 : decode c_MO_draw 8 = .ok (.sipush 12345, 3) := by decide +kernel
theorem d_MO_draw_11 : decode c_MO_draw 11 = .ok (.iadd, 1) := by decide +kernel
theorem d_MO_draw_12 : decode c_MO_draw 12 = .ok (.putfield 77, 3) := by decide +kernel
theorem d_MO_draw_15 : decode c_MO_draw 15 = .ok (.aload_n 0, 1) := by decide +kernel
theorem d_MO_draw_16 : decode c_MO_draw 16 = .ok (.getfield 77, 3) := by decide +kernel
theorem d_MO_draw_19 : decode c_MO_draw 19 = .ok (.bipush 8, 2) := by decide +kernel
theorem d_MO_draw_21 : decode c_MO_draw 21 = .ok (.iushr, 1) := by decide +kernel
theorem d_MO_draw_22 : decode c_MO_draw 22 = .ok (.ireturn, 1) := by decide +kernel
def wp_MO_draw (post : Int32 → ST → Int64 → Prop) (X : ST) (Y : Int64) : Prop := post (((((X 0 0) * (1103515245 : Int32)) + (12345 : Int32)).toUInt32 >>> ((8 : Int32).toUInt32 &&& Int32.toUInt32 31)).toInt32) (up X 0 0 (((X 0 0) * (1103515245 : Int32)) + (12345 : Int32))) Y
set_option maxHeartbeats 4000000 in
set_option maxRecDepth 100000 in
theorem mt_MO_draw (l : Launch) (hl9 : l.stackTraces = false) (dC : Nat → ClassId) (dI : Nat → Nat → Nat) (cA : Nat → ClassId) (ad : Nat → Nat) (hI : INJ ad 23) (sz : Nat) {X : ST} {Y : Int64} {post : Int32 → ST → Int64 → Prop} (hw : wp_MO_draw post X Y) : Met l y_MO_draw ws_MO_draw ({ frames := 0, cells := 0, slots := 0, locals := 0 } : Room) (va_Pc [.ref (ad 0)] (fun U => PM dC dI cA ad sz X Y U)) (va_Qi (fun r (u : ST × Int64) => post r u.1 u.2) (fun (u : ST × Int64) t => va_P (dC, dI) vwCl (wdM cA ad u.1 u.2) t.heap) (CA ad 23 sz)) 0 0 (CA ad 23 sz) := by
  refine Met.ofW (cc := c_MO_draw) (maxL := 1) (ret := (some .int)) (by decide) rfl ?_
  intro p e s m args below meth c s₁ B hml hv
  obtain ⟨rfl, hsz, hP, hG⟩ := hv
  have hx := B.exec
  have hb := B.bytes
  have hr := B.returns
  have hts : ∀ w ∈ GW, w.before (([.ref (ad 0)] : List Value).toArray) s = true := fun w h => atoms_spec (ws := ws_MO_draw) B.pre w (List.mem_cons_of_mem _ h)
  have hown : s.vm.findClass R_MO = some m.cls := findClass_of_methodNamed B.named
  have hlocks := B.notSynchronized
  subst hsz
  have hK := hG.1
  have hG9 := hG
  have hNW := hG.2
  have hD0 : ∀ (X : ST) (Y : Int64), va_D (CA ad 23 s.heap.size) (wdM cA ad X Y) := fun _ _ => zwM_D hI
  have hS : va_S (CA ad 23 s.heap.size) s.heap s.heap [] := va_S.rf
  have hl := lv_entry ([.ref (ad 0)]) (n := 1) (Nat.le_of_ble_eq_true rfl)
  rw [lg_entry_eq]
  generalize (lg_sl ([.ref (ad 0)]) ++ List.replicate (1 - (lg_sl ([.ref (ad 0)])).length) Slot.unset).toArray = ls at hl ⊢
  have hl : lv_has ls 1 [(0, .ref (ad 0))] := hl
  unfold wp_MO_draw at hw
  refine lv_aload_n hx hb d_MO_draw_0 rfl (lv_at hl 0 rfl) ?_
  refine lv_aload_n hx hb d_MO_draw_1 rfl (lv_at hl 0 rfl) ?_
  refine va_get (D := (dC, dI)) (ci := 9) (v := .int (X 0 0)) (C := R_MO) (T := T_MO) (N := 36) hx hb hts in_MO hown hK hP (0) atM_MO rfl 1 (by decide) (hts _ gw_298) (fun _ h9 => h9) rfl d_MO_draw_2 ?_
  refine lv_ldc (v := (1103515245 : Int32)) hx hb hown (hts _ gw_299) d_MO_draw_5 ?_
  refine lv_imul hx hb d_MO_draw_7 ?_
  refine lv_sipush (v := (12345 : Int32)) hx hb d_MO_draw_8 (by decide) ?_
  refine lv_iadd hx hb d_MO_draw_11 ?_
  refine va_put (D := (dC, dI)) (ci := 9) (v := .int (((X 0 0) * (1103515245 : Int32)) + (12345 : Int32))) (ty := .int) (C := R_MO) (T := T_MO) (N := 36) hx hb hts in_MO ty_MO ty_MO_ok nm_MO hown hK hP (hD0 _ _) hS (0) atM_MO rfl 1 (by decide) (hts _ gw_298) (fun _ h9 => h9) rfl (by decide +kernel) rfl rfl (Nat.le_of_ble_eq_true rfl) d_MO_draw_12 (fun H locs hP _ hS => ?_)
  have hP : va_P (dC, dI) vwCl (wdM cA ad (up X 0 0 (((X 0 0) * (1103515245 : Int32)) + (12345 : Int32))) Y) H := by rw [← stM_MO_1]; exact hP
  refine lv_aload_n hx hb d_MO_draw_15 rfl (lv_at hl 0 rfl) ?_
  refine va_get (D := (dC, dI)) (ci := 9) (v := .int (((X 0 0) * (1103515245 : Int32)) + (12345 : Int32))) (C := R_MO) (T := T_MO) (N := 36) hx hb hts in_MO hown hK hP (0) atM_MO rfl 1 (by decide) (hts _ gw_298) (fun _ h9 => h9) rfl d_MO_draw_16 ?_
  refine lv_bipush (v := (8 : Int32)) hx hb d_MO_draw_19 (by decide) ?_
  refine lv_iushr hx hb d_MO_draw_21 rfl ?_
  exact W.iret (v := ((((X 0 0) * (1103515245 : Int32)) + (12345 : Int32)).toUInt32 >>> ((8 : Int32).toUInt32 &&& Int32.toUInt32 31)).toInt32) hx hb hr (fun t ht _ => ⟨⟨((((X 0 0) * (1103515245 : Int32)) + (12345 : Int32)).toUInt32 >>> ((8 : Int32).toUInt32 &&& Int32.toUInt32 31)).toInt32, (up X 0 0 (((X 0 0) * (1103515245 : Int32)) + (12345 : Int32)), Y), rfl, hw, by show va_P _ _ _ t.heap; rw [ht]; exact hP⟩, hS.F ht⟩) hS.2.2 d_MO_draw_22
def ws_MO_isKey : List Cond := Cond.code y_MO_isKey c_MO_isKey 1 (Option.some Jvm.ClassFile.FieldType.boolean) :: GW
theorem d_MO_isKey_0 : decode c_MO_isKey 0 = .ok (.iload_n 0, 1) := by decide +kernel
theorem d_MO_isKey_1 : decode c_MO_isKey 1 = .ok (.sipush 1000, 3) := by decide +kernel
theorem d_MO_isKey_4 : decode c_MO_isKey 4 = .ok (.if_icmp .lt 14, 3) := by decide +kernel
theorem d_MO_isKey_7 : decode c_MO_isKey 7 = .ok (.iload_n 0, 1) := by decide +kernel
theorem d_MO_isKey_8 : decode c_MO_isKey 8 = .ok (.sipush 32767, 3) := by decide +kernel
theorem d_MO_isKey_11 : decode c_MO_isKey 11 = .ok (.if_icmp .gt 7, 3) := by decide +kernel
theorem d_MO_isKey_14 : decode c_MO_isKey 14 = .ok (.iconst 1, 1) := by decide +kernel
theorem d_MO_isKey_15 : decode c_MO_isKey 15 = .ok (.goto 4, 3) := by decide +kernel
theorem d_MO_isKey_18 : decode c_MO_isKey 18 = .ok (.iconst 0, 1) := by decide +kernel
theorem d_MO_isKey_19 : decode c_MO_isKey 19 = .ok (.ireturn, 1) := by decide +kernel
def wp_MO_isKey (post : Int32 → ST → Int64 → Prop) (X : ST) (Y : Int64) (a1 : Int32) : Prop := ((a1 < (1000 : Int32) → post (0 : Int32) X Y) ∧ (¬ a1 < (1000 : Int32) → (((32767 : Int32) < a1 → post (0 : Int32) X Y) ∧ (¬ (32767 : Int32) < a1 → post (1 : Int32) X Y))))
set_option maxHeartbeats 4000000 in
set_option maxRecDepth 100000 in
theorem mt_MO_isKey (l : Launch) (hl9 : l.stackTraces = false) (dC : Nat → ClassId) (dI : Nat → Nat → Nat) (cA : Nat → ClassId) (ad : Nat → Nat) (hI : INJ ad 23) (sz : Nat) {X : ST} {Y : Int64} {a1 : Int32} {post : Int32 → ST → Int64 → Prop} (hw : wp_MO_isKey post X Y a1) : Met l y_MO_isKey ws_MO_isKey ({ frames := 0, cells := 0, slots := 0, locals := 0 } : Room) (va_Pc [.int a1] (fun U => PM dC dI cA ad sz X Y U)) (va_Qi (fun r (u : ST × Int64) => post r u.1 u.2) (fun (u : ST × Int64) t => va_P (dC, dI) vwCl (wdM cA ad u.1 u.2) t.heap) (CA ad 23 sz)) 0 0 (CA ad 23 sz) := by
  refine Met.ofW (cc := c_MO_isKey) (maxL := 1) (ret := (some .boolean)) (by decide) rfl ?_
  intro p e s m args below meth c s₁ B hml hv
  obtain ⟨rfl, hsz, hP, hG⟩ := hv
  have hx := B.exec
  have hb := B.bytes
  have hr := B.returns
  have hts : ∀ w ∈ GW, w.before (([.int a1] : List Value).toArray) s = true := fun w h => atoms_spec (ws := ws_MO_isKey) B.pre w (List.mem_cons_of_mem _ h)
  have hown : s.vm.findClass R_MO = some m.cls := findClass_of_methodNamed B.named
  have hlocks := B.notSynchronized
  subst hsz
  have hK := hG.1
  have hG9 := hG
  have hNW := hG.2
  have hD0 : ∀ (X : ST) (Y : Int64), va_D (CA ad 23 s.heap.size) (wdM cA ad X Y) := fun _ _ => zwM_D hI
  have hS : va_S (CA ad 23 s.heap.size) s.heap s.heap [] := va_S.rf
  have hl := lv_entry ([.int a1]) (n := 1) (Nat.le_of_ble_eq_true rfl)
  rw [lg_entry_eq]
  generalize (lg_sl ([.int a1]) ++ List.replicate (1 - (lg_sl ([.int a1])).length) Slot.unset).toArray = ls at hl ⊢
  have hl : lv_has ls 1 [(0, .int a1)] := hl
  unfold wp_MO_isKey at hw
  refine lv_iload_n hx hb d_MO_isKey_0 rfl (lv_at hl 0 rfl) ?_
  refine lv_sipush (v := (1000 : Int32)) hx hb d_MO_isKey_1 (by decide) ?_
  refine lv_icmp_lt (tgt := 18) hx hb d_MO_isKey_4 (by decide) (fun c1 => ?_) (fun c1 => ?_)
  · have hw := hw.1 c1
    refine lv_iconst (v := (0 : Int32)) hx hb d_MO_isKey_18 (by decide) ?_
    exact W.zret (v := (0 : Int32)) hx hb hr (by decide) (fun t ht _ => ⟨⟨(0 : Int32), (X, Y), rfl, hw, by show va_P _ _ _ t.heap; rw [ht]; exact hP⟩, hS.F ht⟩) hS.2.2 d_MO_isKey_19
  · have hw := hw.2 c1
    refine lv_iload_n hx hb d_MO_isKey_7 rfl (lv_at hl 0 rfl) ?_
    refine lv_sipush (v := (32767 : Int32)) hx hb d_MO_isKey_8 (by decide) ?_
    refine lv_icmp_gt (tgt := 18) hx hb d_MO_isKey_11 (by decide) (fun c2 => ?_) (fun c2 => ?_)
    · have hw := hw.1 c2
      refine lv_iconst (v := (0 : Int32)) hx hb d_MO_isKey_18 (by decide) ?_
      exact W.zret (v := (0 : Int32)) hx hb hr (by decide) (fun t ht _ => ⟨⟨(0 : Int32), (X, Y), rfl, hw, by show va_P _ _ _ t.heap; rw [ht]; exact hP⟩, hS.F ht⟩) hS.2.2 d_MO_isKey_19
    · have hw := hw.2 c2
      refine lv_iconst (v := (1 : Int32)) hx hb d_MO_isKey_14 (by decide) ?_
      refine lv_goto (tgt := 19) hx hb d_MO_isKey_15 (by decide) ?_
      exact W.zret (v := (1 : Int32)) hx hb hr (by decide) (fun t ht _ => ⟨⟨(1 : Int32), (X, Y), rfl, hw, by show va_P _ _ _ t.heap; rw [ht]; exact hP⟩, hS.F ht⟩) hS.2.2 d_MO_isKey_19
def ws_MO_mix : List Cond := Cond.code y_MO_mix c_MO_mix 4 (Option.none : Option Jvm.ClassFile.FieldType) :: GW
theorem d_MO_mix_0 : decode c_MO_mix 0 = .ok (.aload_n 0, 1) := by decide +kernel
theorem d_MO_mix_1 : decode c_MO_mix 1 = .ok (.getfield 85, 3) := by decide +kernel
theorem d_MO_mix_4 : decode c_MO_mix 4 = .ok (.iload_n 1, 1) := by decide +kernel
theorem d_MO_mix_5 : decode c_MO_mix 5 = .ok (.i2l, 1) := by decide +kernel
theorem d_MO_mix_6 : decode c_MO_mix 6 = .ok (.lxor, 1) := by decide +kernel
theorem d_MO_mix_7 : decode c_MO_mix 7 = .ok (.ldc2_w 89, 3) := by decide +kernel
theorem d_MO_mix_10 : decode c_MO_mix 10 = .ok (.lmul, 1) := by decide +kernel
theorem d_MO_mix_11 : decode c_MO_mix 11 = .ok (.lstore_n 2, 1) := by decide +kernel
theorem d_MO_mix_12 : decode c_MO_mix 12 = .ok (.aload_n 0, 1) := by decide +kernel
theorem d_MO_mix_13 : decode c_MO_mix 13 = .ok (.lload_n 2, 1) := by decide +kernel
theorem d_MO_mix_14 : decode c_MO_mix 14 = .ok (.lload_n 2, 1) := by decide +kernel
theorem d_MO_mix_15 : decode c_MO_mix 15 = .ok (.bipush 29, 2) := by decide +kernel
theorem d_MO_mix_17 : decode c_MO_mix 17 = .ok (.lushr, 1) := by decide +kernel
theorem d_MO_mix_18 : decode c_MO_mix 18 = .ok (.lxor, 1) := by decide +kernel
theorem d_MO_mix_19 : decode c_MO_mix 19 = .ok (.putfield 85, 3) := by decide +kernel
theorem d_MO_mix_22 : decode c_MO_mix 22 = .ok (.return_, 1) := by decide +kernel
def wp_MO_mix (post : ST → Int64 → Prop) (X : ST) (Y : Int64) (a1 : Int32) : Prop := post X (((Y ^^^ a1.toInt64) * (-7046029254386353131 : Int64)) ^^^ ((((Y ^^^ a1.toInt64) * (-7046029254386353131 : Int64)).toUInt64 >>> ((29 : Int32).toInt64.toUInt64 &&& Int64.toUInt64 63)).toInt64))
set_option maxHeartbeats 4000000 in
set_option maxRecDepth 100000 in
theorem mt_MO_mix (l : Launch) (hl9 : l.stackTraces = false) (dC : Nat → ClassId) (dI : Nat → Nat → Nat) (cA : Nat → ClassId) (ad : Nat → Nat) (hI : INJ ad 23) (sz : Nat) {X : ST} {Y : Int64} {a1 : Int32} {post : ST → Int64 → Prop} (hw : wp_MO_mix post X Y a1) : Met l y_MO_mix ws_MO_mix ({ frames := 0, cells := 0, slots := 0, locals := 0 } : Room) (va_Pc [.ref (ad 0), .int a1] (fun U => PM dC dI cA ad sz X Y U)) (va_Qv (fun (u : ST × Int64) => post u.1 u.2) (fun (u : ST × Int64) t => va_P (dC, dI) vwCl (wdM cA ad u.1 u.2) t.heap) (CA ad 23 sz)) 0 0 (CA ad 23 sz) := by
  refine Met.ofW (cc := c_MO_mix) (maxL := 4) (ret := none) (by decide) rfl ?_
  intro p e s m args below meth c s₁ B hml hv
  obtain ⟨rfl, hsz, hP, hG⟩ := hv
  have hx := B.exec
  have hb := B.bytes
  have hr := B.returns
  have hts : ∀ w ∈ GW, w.before (([.ref (ad 0), .int a1] : List Value).toArray) s = true := fun w h => atoms_spec (ws := ws_MO_mix) B.pre w (List.mem_cons_of_mem _ h)
  have hown : s.vm.findClass R_MO = some m.cls := findClass_of_methodNamed B.named
  have hlocks := B.notSynchronized
  subst hsz
  have hK := hG.1
  have hG9 := hG
  have hNW := hG.2
  have hD0 : ∀ (X : ST) (Y : Int64), va_D (CA ad 23 s.heap.size) (wdM cA ad X Y) := fun _ _ => zwM_D hI
  have hS : va_S (CA ad 23 s.heap.size) s.heap s.heap [] := va_S.rf
  have hl := lv_entry ([.ref (ad 0), .int a1]) (n := 4) (Nat.le_of_ble_eq_true rfl)
  rw [lg_entry_eq]
  generalize (lg_sl ([.ref (ad 0), .int a1]) ++ List.replicate (4 - (lg_sl ([.ref (ad 0), .int a1])).length) Slot.unset).toArray = ls at hl ⊢
  have hl : lv_has ls 4 [(0, .ref (ad 0)), (1, .int a1)] := hl
  unfold wp_MO_mix at hw
  refine lv_aload_n hx hb d_MO_mix_0 rfl (lv_at hl 0 rfl) ?_
  refine va_get (D := (dC, dI)) (ci := 9) (v := .long Y) (C := R_MO) (T := T_MO) (N := 36) hx hb hts in_MO hown hK hP (0) atM_MO rfl 35 (by decide) (hts _ gw_300) (fun _ h9 => h9) rfl d_MO_mix_1 ?_
  refine lv_iload_n hx hb d_MO_mix_4 rfl (lv_at hl 1 rfl) ?_
  refine lv_i2l hx hb d_MO_mix_5 rfl ?_
  refine lv_lxor hx hb d_MO_mix_6 ?_
  refine lv_ldc2 (v := (-7046029254386353131 : Int64)) hx hb hown (hts _ gw_301) d_MO_mix_7 ?_
  refine lv_lmul hx hb d_MO_mix_10 ?_
  refine lv_lstore_n (lv' := [(2, .long ((Y ^^^ a1.toInt64) * (-7046029254386353131 : Int64))), (0, .ref (ad 0)), (1, .int a1)]) hx hb d_MO_mix_11 rfl hl (by decide) rfl (fun ls hl => ?_)
  refine lv_aload_n hx hb d_MO_mix_12 rfl (lv_at hl 1 rfl) ?_
  refine lv_lload_n hx hb d_MO_mix_13 rfl (lv_at hl 0 rfl) ?_
  refine lv_lload_n hx hb d_MO_mix_14 rfl (lv_at hl 0 rfl) ?_
  refine lv_bipush (v := (29 : Int32)) hx hb d_MO_mix_15 (by decide) ?_
  refine lv_lushr hx hb d_MO_mix_17 rfl ?_
  refine lv_lxor hx hb d_MO_mix_18 ?_
  refine va_put (D := (dC, dI)) (ci := 9) (v := .long (((Y ^^^ a1.toInt64) * (-7046029254386353131 : Int64)) ^^^ ((((Y ^^^ a1.toInt64) * (-7046029254386353131 : Int64)).toUInt64 >>> ((29 : Int32).toInt64.toUInt64 &&& Int64.toUInt64 63)).toInt64))) (ty := .long) (C := R_MO) (T := T_MO) (N := 36) hx hb hts in_MO ty_MO ty_MO_ok nm_MO hown hK hP (hD0 _ _) hS (0) atM_MO rfl 35 (by decide) (hts _ gw_300) (fun _ h9 => h9) rfl (by decide +kernel) rfl rfl (Nat.le_of_ble_eq_true rfl) d_MO_mix_19 (fun H locs hP _ hS => ?_)
  have hP : va_P (dC, dI) vwCl (wdM cA ad X (((Y ^^^ a1.toInt64) * (-7046029254386353131 : Int64)) ^^^ ((((Y ^^^ a1.toInt64) * (-7046029254386353131 : Int64)).toUInt64 >>> ((29 : Int32).toInt64.toUInt64 &&& Int64.toUInt64 63)).toInt64))) H := by rw [← stM_MO_35]; exact hP
  exact W.vret hx hb hr (fun t ht _ => ⟨⟨(X, ((Y ^^^ a1.toInt64) * (-7046029254386353131 : Int64)) ^^^ ((((Y ^^^ a1.toInt64) * (-7046029254386353131 : Int64)).toUInt64 >>> ((29 : Int32).toInt64.toUInt64 &&& Int64.toUInt64 63)).toInt64)), rfl, hw, by show va_P _ _ _ t.heap; rw [ht]; exact hP⟩, hS.F ht⟩) hS.2.2 d_MO_mix_22
def ws_MO_mixedDigest : List Cond := Cond.code y_MO_mixedDigest c_MO_mixedDigest 1 (Option.some Jvm.ClassFile.FieldType.int) :: GW
theorem d_MO_mixedDigest_0 : decode c_MO_mixedDigest 0 = .ok (.aload_n 0, 1) := by decide +kernel
theorem d_MO_mixedDigest_1 : decode c_MO_mixedDigest 1 = .ok (.getfield 85, 3) := by decide +kernel
theorem d_MO_mixedDigest_4 : decode c_MO_mixedDigest 4 = .ok (.bipush 33, 2) := by decide +kernel
theorem d_MO_mixedDigest_6 : decode c_MO_mixedDigest 6 = .ok (.lushr, 1) := by decide +kernel
theorem d_MO_mixedDigest_7 : decode c_MO_mixedDigest 7 = .ok (.l2i, 1) := by decide +kernel
theorem d_MO_mixedDigest_8 : decode c_MO_mixedDigest 8 = .ok (.ireturn, 1) := by decide +kernel
def wp_MO_mixedDigest (post : Int32 → ST → Int64 → Prop) (X : ST) (Y : Int64) : Prop := post (((Y.toUInt64 >>> ((33 : Int32).toInt64.toUInt64 &&& Int64.toUInt64 63)).toInt64).toInt32) X Y
set_option maxHeartbeats 4000000 in
set_option maxRecDepth 100000 in
theorem mt_MO_mixedDigest (l : Launch) (hl9 : l.stackTraces = false) (dC : Nat → ClassId) (dI : Nat → Nat → Nat) (cA : Nat → ClassId) (ad : Nat → Nat) (hI : INJ ad 23) (sz : Nat) {X : ST} {Y : Int64} {post : Int32 → ST → Int64 → Prop} (hw : wp_MO_mixedDigest post X Y) : Met l y_MO_mixedDigest ws_MO_mixedDigest ({ frames := 0, cells := 0, slots := 0, locals := 0 } : Room) (va_Pc [.ref (ad 0)] (fun U => PM dC dI cA ad sz X Y U)) (va_Qi (fun r (u : ST × Int64) => post r u.1 u.2) (fun (u : ST × Int64) t => va_P (dC, dI) vwCl (wdM cA ad u.1 u.2) t.heap) (CA ad 23 sz)) 0 0 (CA ad 23 sz) := by
  refine Met.ofW (cc := c_MO_mixedDigest) (maxL := 1) (ret := (some .int)) (by decide) rfl ?_
  intro p e s m args below meth c s₁ B hml hv
  obtain ⟨rfl, hsz, hP, hG⟩ := hv
  have hx := B.exec
  have hb := B.bytes
  have hr := B.returns
  have hts : ∀ w ∈ GW, w.before (([.ref (ad 0)] : List Value).toArray) s = true := fun w h => atoms_spec (ws := ws_MO_mixedDigest) B.pre w (List.mem_cons_of_mem _ h)
  have hown : s.vm.findClass R_MO = some m.cls := findClass_of_methodNamed B.named
  have hlocks := B.notSynchronized
  subst hsz
  have hK := hG.1
  have hG9 := hG
  have hNW := hG.2
  have hD0 : ∀ (X : ST) (Y : Int64), va_D (CA ad 23 s.heap.size) (wdM cA ad X Y) := fun _ _ => zwM_D hI
  have hS : va_S (CA ad 23 s.heap.size) s.heap s.heap [] := va_S.rf
  have hl := lv_entry ([.ref (ad 0)]) (n := 1) (Nat.le_of_ble_eq_true rfl)
  rw [lg_entry_eq]
  generalize (lg_sl ([.ref (ad 0)]) ++ List.replicate (1 - (lg_sl ([.ref (ad 0)])).length) Slot.unset).toArray = ls at hl ⊢
  have hl : lv_has ls 1 [(0, .ref (ad 0))] := hl
  unfold wp_MO_mixedDigest at hw
  refine lv_aload_n hx hb d_MO_mixedDigest_0 rfl (lv_at hl 0 rfl) ?_
  refine va_get (D := (dC, dI)) (ci := 9) (v := .long Y) (C := R_MO) (T := T_MO) (N := 36) hx hb hts in_MO hown hK hP (0) atM_MO rfl 35 (by decide) (hts _ gw_300) (fun _ h9 => h9) rfl d_MO_mixedDigest_1 ?_
  refine lv_bipush (v := (33 : Int32)) hx hb d_MO_mixedDigest_4 (by decide) ?_
  refine lv_lushr hx hb d_MO_mixedDigest_6 rfl ?_
  refine lv_l2i hx hb d_MO_mixedDigest_7 rfl ?_
  exact W.iret (v := ((Y.toUInt64 >>> ((33 : Int32).toInt64.toUInt64 &&& Int64.toUInt64 63)).toInt64).toInt32) hx hb hr (fun t ht _ => ⟨⟨((Y.toUInt64 >>> ((33 : Int32).toInt64.toUInt64 &&& Int64.toUInt64 63)).toInt64).toInt32, (X, Y), rfl, hw, by show va_P _ _ _ t.heap; rw [ht]; exact hP⟩, hS.F ht⟩) hS.2.2 d_MO_mixedDigest_8
def ws_MO_five : List Cond := Cond.code y_MO_five c_MO_five 6 (Option.some Jvm.ClassFile.FieldType.int) :: GW
theorem d_MO_five_0 : decode c_MO_five 0 = .ok (.aload_n 0, 1) := by decide +kernel
theorem d_MO_five_1 : decode c_MO_five 1 = .ok (.lconst 0, 1) := by decide +kernel
theorem d_MO_five_2 : decode c_MO_five 2 = .ok (.putfield 85, 3) := by decide +kernel
theorem d_MO_five_5 : decode c_MO_five 5 = .ok (.aload_n 0, 1) := by decide +kernel
theorem d_MO_five_6 : decode c_MO_five 6 = .ok (.iload_n 1, 1) := by decide +kernel
theorem d_MO_five_7 : decode c_MO_five 7 = .ok (.invokevirtual 91, 3) := by decide +kernel
theorem d_MO_five_10 : decode c_MO_five 10 = .ok (.aload_n 0, 1) := by decide +kernel
theorem d_MO_five_11 : decode c_MO_five 11 = .ok (.iload_n 2, 1) := by decide +kernel
theorem d_MO_five_12 : decode c_MO_five 12 = .ok (.invokevirtual 91, 3) := by decide +kernel
theorem d_MO_five_15 : decode c_MO_five 15 = .ok (.aload_n 0, 1) := by decide +kernel
theorem d_MO_five_16 : decode c_MO_five 16 = .ok (.iload_n 3, 1) := by decide +kernel
theorem d_MO_five_17 : decode c_MO_five 17 = .ok (.invokevirtual 91, 3) := by decide +kernel
theorem d_MO_five_20 : decode c_MO_five 20 = .ok (.aload_n 0, 1) := by decide +kernel
theorem d_MO_five_21 : decode c_MO_five 21 = .ok (.iload 4, 2) := by decide +kernel
theorem d_MO_five_23 : decode c_MO_five 23 = .ok (.invokevirtual 91, 3) := by decide +kernel
theorem d_MO_five_26 : decode c_MO_five 26 = .ok (.aload_n 0, 1) := by decide +kernel
theorem d_MO_five_27 : decode c_MO_five 27 = .ok (.iload 5, 2) := by decide +kernel
theorem d_MO_five_29 : decode c_MO_five 29 = .ok (.invokevirtual 91, 3) := by decide +kernel
theorem d_MO_five_32 : decode c_MO_five 32 = .ok (.aload_n 0, 1) := by decide +kernel
theorem d_MO_five_33 : decode c_MO_five 33 = .ok (.invokevirtual 95, 3) := by decide +kernel
theorem d_MO_five_36 : decode c_MO_five 36 = .ok (.ireturn, 1) := by decide +kernel
def wp_MO_five (post : Int32 → ST → Int64 → Prop) (X : ST) (Y : Int64) (a1 : Int32) (a2 : Int32) (a3 : Int32) (a4 : Int32) (a5 : Int32) : Prop := wp_MO_mix (fun (X1 : ST) (Y2 : Int64) => wp_MO_mix (fun (X4 : ST) (Y5 : Int64) => wp_MO_mix (fun (X7 : ST) (Y8 : Int64) => wp_MO_mix (fun (X10 : ST) (Y11 : Int64) => wp_MO_mix (fun (X13 : ST) (Y14 : Int64) => wp_MO_mixedDigest (fun (r18 : Int32) (X16 : ST) (Y17 : Int64) => post r18 X16 Y17) X13 Y14) X10 Y11 a5) X7 Y8 a4) X4 Y5 a3) X1 Y2 a2) X (0 : Int64) a1
set_option maxHeartbeats 4000000 in
set_option maxRecDepth 100000 in
theorem mt_MO_five (l : Launch) (hl9 : l.stackTraces = false) (dC : Nat → ClassId) (dI : Nat → Nat → Nat) (cA : Nat → ClassId) (ad : Nat → Nat) (hI : INJ ad 23) (sz : Nat) {X : ST} {Y : Int64} {a1 : Int32} {a2 : Int32} {a3 : Int32} {a4 : Int32} {a5 : Int32} {post : Int32 → ST → Int64 → Prop} (hw : wp_MO_five post X Y a1 a2 a3 a4 a5) : Met l y_MO_five ws_MO_five ({ frames := 1, cells := 0, slots := 0, locals := 23 } : Room) (va_Pc [.ref (ad 0), .int a1, .int a2, .int a3, .int a4, .int a5] (fun U => PM dC dI cA ad sz X Y U)) (va_Qi (fun r (u : ST × Int64) => post r u.1 u.2) (fun (u : ST × Int64) t => va_P (dC, dI) vwCl (wdM cA ad u.1 u.2) t.heap) (CA ad 23 sz)) 0 0 (CA ad 23 sz) := by
  refine Met.ofW (cc := c_MO_five) (maxL := 6) (ret := (some .int)) (by decide) rfl ?_
  intro p e s m args below meth c s₁ B hml hv
  obtain ⟨rfl, hsz, hP, hG⟩ := hv
  have hx := B.exec
  have hb := B.bytes
  have hr := B.returns
  have hts : ∀ w ∈ GW, w.before (([.ref (ad 0), .int a1, .int a2, .int a3, .int a4, .int a5] : List Value).toArray) s = true := fun w h => atoms_spec (ws := ws_MO_five) B.pre w (List.mem_cons_of_mem _ h)
  have hown : s.vm.findClass R_MO = some m.cls := findClass_of_methodNamed B.named
  have hlocks := B.notSynchronized
  subst hsz
  have hK := hG.1
  have hG9 := hG
  have hNW := hG.2
  have hD0 : ∀ (X : ST) (Y : Int64), va_D (CA ad 23 s.heap.size) (wdM cA ad X Y) := fun _ _ => zwM_D hI
  have hS : va_S (CA ad 23 s.heap.size) s.heap s.heap [] := va_S.rf
  have hl := lv_entry ([.ref (ad 0), .int a1, .int a2, .int a3, .int a4, .int a5]) (n := 6) (Nat.le_of_ble_eq_true rfl)
  rw [lg_entry_eq]
  generalize (lg_sl ([.ref (ad 0), .int a1, .int a2, .int a3, .int a4, .int a5]) ++ List.replicate (6 - (lg_sl ([.ref (ad 0), .int a1, .int a2, .int a3, .int a4, .int a5])).length) Slot.unset).toArray = ls at hl ⊢
  have hl : lv_has ls 6 [(0, .ref (ad 0)), (1, .int a1), (2, .int a2), (3, .int a3), (4, .int a4), (5, .int a5)] := hl
  unfold wp_MO_five at hw
  refine lv_aload_n hx hb d_MO_five_0 rfl (lv_at hl 0 rfl) ?_
  refine lv_lconst (v := (0 : Int64)) hx hb d_MO_five_1 (by decide) ?_
  refine va_put (D := (dC, dI)) (ci := 9) (v := .long (0 : Int64)) (ty := .long) (C := R_MO) (T := T_MO) (N := 36) hx hb hts in_MO ty_MO ty_MO_ok nm_MO hown hK hP (hD0 _ _) hS (0) atM_MO rfl 35 (by decide) (hts _ gw_300) (fun _ h9 => h9) rfl (by decide +kernel) rfl rfl (Nat.le_of_ble_eq_true rfl) d_MO_five_2 (fun H locs hP _ hS => ?_)
  have hP : va_P (dC, dI) vwCl (wdM cA ad X (0 : Int64)) H := by rw [← stM_MO_35]; exact hP
  refine lv_aload_n hx hb d_MO_five_5 rfl (lv_at hl 0 rfl) ?_
  refine lv_iload_n hx hb d_MO_five_6 rfl (lv_at hl 1 rfl) ?_
  refine va_callv (va_runV (As := [.int a1]) (rest := []) ⟨hx, hb, hml, hown, hts⟩ (mt_MO_mix l hl9 dC dI cA ad hI _ hw) (cwV 1 hts (gV gw_303 gw_304 gw_305 gw_306 gw_302) rfl rfl rfl (by decide +kernel) ⟨Nat.le_of_ble_eq_true rfl, Nat.le_of_ble_eq_true rfl⟩) ⟨zwM_blind, va_recv hK hP (ci := 9) (q0 := 0) rfl atM_MO, zwM_pre hP hS hG9⟩ rfl rfl hl.1 rfl (lv_room (Nat.le_of_ble_eq_true rfl)) d_MO_five_7 ⟨Nat.le_of_ble_eq_true rfl, Nat.le_of_ble_eq_true rfl⟩) hS (fun q _ h => CA_le hS.1 q h) (fun q h => CA_le hS.1 q h) (fun u9 t H locs ht hvm hw hP hz1 hk1 hS => ?_)
  obtain ⟨X1, Y2⟩ := u9
  have hP : va_P (dC, dI) vwCl (wdM cA ad X1 Y2) H := by rw [← ht]; exact hP
  try dsimp only at hw
  refine lv_aload_n hx hb d_MO_five_10 rfl (lv_at hl 0 rfl) ?_
  refine lv_iload_n hx hb d_MO_five_11 rfl (lv_at hl 2 rfl) ?_
  refine va_callv (va_runV (As := [.int a2]) (rest := []) ⟨hx, hb, hml, hown, hts⟩ (mt_MO_mix l hl9 dC dI cA ad hI _ hw) (cwV 1 hts (gV gw_303 gw_304 gw_305 gw_306 gw_302) rfl rfl rfl (by decide +kernel) ⟨Nat.le_of_ble_eq_true rfl, Nat.le_of_ble_eq_true rfl⟩) ⟨zwM_blind, va_recv hK hP (ci := 9) (q0 := 0) rfl atM_MO, zwM_pre hP hS hG9⟩ rfl rfl hl.1 rfl (lv_room (Nat.le_of_ble_eq_true rfl)) d_MO_five_12 ⟨Nat.le_of_ble_eq_true rfl, Nat.le_of_ble_eq_true rfl⟩) hS (fun q _ h => CA_le hS.1 q h) (fun q h => CA_le hS.1 q h) (fun u9 t H locs ht hvm hw hP hz1 hk1 hS => ?_)
  obtain ⟨X4, Y5⟩ := u9
  have hP : va_P (dC, dI) vwCl (wdM cA ad X4 Y5) H := by rw [← ht]; exact hP
  try dsimp only at hw
  refine lv_aload_n hx hb d_MO_five_15 rfl (lv_at hl 0 rfl) ?_
  refine lv_iload_n hx hb d_MO_five_16 rfl (lv_at hl 3 rfl) ?_
  refine va_callv (va_runV (As := [.int a3]) (rest := []) ⟨hx, hb, hml, hown, hts⟩ (mt_MO_mix l hl9 dC dI cA ad hI _ hw) (cwV 1 hts (gV gw_303 gw_304 gw_305 gw_306 gw_302) rfl rfl rfl (by decide +kernel) ⟨Nat.le_of_ble_eq_true rfl, Nat.le_of_ble_eq_true rfl⟩) ⟨zwM_blind, va_recv hK hP (ci := 9) (q0 := 0) rfl atM_MO, zwM_pre hP hS hG9⟩ rfl rfl hl.1 rfl (lv_room (Nat.le_of_ble_eq_true rfl)) d_MO_five_17 ⟨Nat.le_of_ble_eq_true rfl, Nat.le_of_ble_eq_true rfl⟩) hS (fun q _ h => CA_le hS.1 q h) (fun q h => CA_le hS.1 q h) (fun u9 t H locs ht hvm hw hP hz1 hk1 hS => ?_)
  obtain ⟨X7, Y8⟩ := u9
  have hP : va_P (dC, dI) vwCl (wdM cA ad X7 Y8) H := by rw [← ht]; exact hP
  try dsimp only at hw
  refine lv_aload_n hx hb d_MO_five_20 rfl (lv_at hl 0 rfl) ?_
  refine lv_iload hx hb d_MO_five_21 (lv_at hl 4 rfl) ?_
  refine va_callv (va_runV (As := [.int a4]) (rest := []) ⟨hx, hb, hml, hown, hts⟩ (mt_MO_mix l hl9 dC dI cA ad hI _ hw) (cwV 1 hts (gV gw_303 gw_304 gw_305 gw_306 gw_302) rfl rfl rfl (by decide +kernel) ⟨Nat.le_of_ble_eq_true rfl, Nat.le_of_ble_eq_true rfl⟩) ⟨zwM_blind, va_recv hK hP (ci := 9) (q0 := 0) rfl atM_MO, zwM_pre hP hS hG9⟩ rfl rfl hl.1 rfl (lv_room (Nat.le_of_ble_eq_true rfl)) d_MO_five_23 ⟨Nat.le_of_ble_eq_true rfl, Nat.le_of_ble_eq_true rfl⟩) hS (fun q _ h => CA_le hS.1 q h) (fun q h => CA_le hS.1 q h) (fun u9 t H locs ht hvm hw hP hz1 hk1 hS => ?_)
  obtain ⟨X10, Y11⟩ := u9
  have hP : va_P (dC, dI) vwCl (wdM cA ad X10 Y11) H := by rw [← ht]; exact hP
  try dsimp only at hw
  refine lv_aload_n hx hb d_MO_five_26 rfl (lv_at hl 0 rfl) ?_
  refine lv_iload hx hb d_MO_five_27 (lv_at hl 5 rfl) ?_
  refine va_callv (va_runV (As := [.int a5]) (rest := []) ⟨hx, hb, hml, hown, hts⟩ (mt_MO_mix l hl9 dC dI cA ad hI _ hw) (cwV 1 hts (gV gw_303 gw_304 gw_305 gw_306 gw_302) rfl rfl rfl (by decide +kernel) ⟨Nat.le_of_ble_eq_true rfl, Nat.le_of_ble_eq_true rfl⟩) ⟨zwM_blind, va_recv hK hP (ci := 9) (q0 := 0) rfl atM_MO, zwM_pre hP hS hG9⟩ rfl rfl hl.1 rfl (lv_room (Nat.le_of_ble_eq_true rfl)) d_MO_five_29 ⟨Nat.le_of_ble_eq_true rfl, Nat.le_of_ble_eq_true rfl⟩) hS (fun q _ h => CA_le hS.1 q h) (fun q h => CA_le hS.1 q h) (fun u9 t H locs ht hvm hw hP hz1 hk1 hS => ?_)
  obtain ⟨X13, Y14⟩ := u9
  have hP : va_P (dC, dI) vwCl (wdM cA ad X13 Y14) H := by rw [← ht]; exact hP
  try dsimp only at hw
  refine lv_aload_n hx hb d_MO_five_32 rfl (lv_at hl 0 rfl) ?_
  refine va_calli (va_runV (As := []) (rest := []) ⟨hx, hb, hml, hown, hts⟩ (mt_MO_mixedDigest l hl9 dC dI cA ad hI _ hw) (cwV 0 hts (gV gw_308 gw_309 gw_310 gw_306 gw_307) rfl rfl rfl (by decide +kernel) ⟨Nat.le_of_ble_eq_true rfl, Nat.le_of_ble_eq_true rfl⟩) ⟨zwM_blind, va_recv hK hP (ci := 9) (q0 := 0) rfl atM_MO, zwM_pre hP hS hG9⟩ rfl rfl hl.1 rfl (lv_room (Nat.le_of_ble_eq_true rfl)) d_MO_five_33 ⟨Nat.le_of_ble_eq_true rfl, Nat.le_of_ble_eq_true rfl⟩) hS (fun q _ h => CA_le hS.1 q h) (fun q h => CA_le hS.1 q h) (fun r18 u9 t H locs ht hvm hw hP hz1 hk1 hS => ?_)
  obtain ⟨X16, Y17⟩ := u9
  have hP : va_P (dC, dI) vwCl (wdM cA ad X16 Y17) H := by rw [← ht]; exact hP
  try dsimp only at hw
  exact W.iret (v := r18) hx hb hr (fun t ht _ => ⟨⟨r18, (X16, Y17), rfl, hw, by show va_P _ _ _ t.heap; rw [ht]; exact hP⟩, hS.F ht⟩) hS.2.2 d_MO_five_36
def ws_MO_raised : List Cond := Cond.code y_MO_raised c_MO_raised 7 (Option.some Jvm.ClassFile.FieldType.long) :: GW
theorem d_MO_raised_0 : decode c_MO_raised 0 = .ok (.lconst 1, 1) := by decide +kernel
theorem d_MO_raised_1 : decode c_MO_raised 1 = .ok (.iload_n 3, 1) := by decide +kernel
theorem d_MO_raised_2 : decode c_MO_raised 2 = .ok (.i2l, 1) := by decide +kernel
theorem d_MO_raised_3 : decode c_MO_raised 3 = .ok (.lrem, 1) := by decide +kernel
theorem d_MO_raised_4 : decode c_MO_raised 4 = .ok (.lstore 4, 2) := by decide +kernel
theorem d_MO_raised_6 : decode c_MO_raised 6 = .ok (.bipush 30, 2) := by decide +kernel
theorem d_MO_raised_8 : decode c_MO_raised 8 = .ok (.istore 6, 2) := by decide +kernel
theorem d_MO_raised_10 : decode c_MO_raised 10 = .ok (.iload 6, 2) := by decide +kernel
theorem d_MO_raised_12 : decode c_MO_raised 12 = .ok (.ifCond .lt 46, 3) := by decide +kernel
theorem d_MO_raised_15 : decode c_MO_raised 15 = .ok (.lload 4, 2) := by decide +kernel
theorem d_MO_raised_17 : decode c_MO_raised 17 = .ok (.lload 4, 2) := by decide +kernel
theorem d_MO_raised_19 : decode c_MO_raised 19 = .ok (.lmul, 1) := by decide +kernel
theorem d_MO_raised_20 : decode c_MO_raised 20 = .ok (.iload_n 3, 1) := by decide +kernel
theorem d_MO_raised_21 : decode c_MO_raised 21 = .ok (.i2l, 1) := by decide +kernel
theorem d_MO_raised_22 : decode c_MO_raised 22 = .ok (.lrem, 1) := by decide +kernel
theorem d_MO_raised_23 : decode c_MO_raised 23 = .ok (.lstore 4, 2) := by decide +kernel
theorem d_MO_raised_25 : decode c_MO_raised 25 = .ok (.iload_n 2, 1) := by decide +kernel
theorem d_MO_raised_26 : decode c_MO_raised 26 = .ok (.iload 6, 2) := by decide +kernel
theorem d_MO_raised_28 : decode c_MO_raised 28 = .ok (.ishr, 1) := by decide +kernel
theorem d_MO_raised_29 : decode c_MO_raised 29 = .ok (.iconst 1, 1) := by decide +kernel
theorem d_MO_raised_30 : decode c_MO_raised 30 = .ok (.iand, 1) := by decide +kernel
theorem d_MO_raised_31 : decode c_MO_raised 31 = .ok (.iconst 1, 1) := by decide +kernel
theorem d_MO_raised_32 : decode c_MO_raised 32 = .ok (.if_icmp .ne 16, 3) := by decide +kernel
theorem d_MO_raised_35 : decode c_MO_raised 35 = .ok (.lload 4, 2) := by decide +kernel
theorem d_MO_raised_37 : decode c_MO_raised 37 = .ok (.lload_n 0, 1) := by decide +kernel
theorem d_MO_raised_38 : decode c_MO_raised 38 = .ok (.iload_n 3, 1) := by decide +kernel
theorem d_MO_raised_39 : decode c_MO_raised 39 = .ok (.i2l, 1) := by decide +kernel
theorem d_MO_raised_40 : decode c_MO_raised 40 = .ok (.lrem, 1) := by decide +kernel
theorem d_MO_raised_41 : decode c_MO_raised 41 = .ok (.lmul, 1) := by decide +kernel
theorem d_MO_raised_42 : decode c_MO_raised 42 = .ok (.iload_n 3, 1) := by decide +kernel
theorem d_MO_raised_43 : decode c_MO_raised 43 = .ok (.i2l, 1) := by decide +kernel
theorem d_MO_raised_44 : decode c_MO_raised 44 = .ok (.lrem, 1) := by decide +kernel
theorem d_MO_raised_45 : decode c_MO_raised 45 = .ok (.goto 5, 3) := by decide +kernel
theorem d_MO_raised_48 : decode c_MO_raised 48 = .ok (.lload 4, 2) := by decide +kernel
theorem d_MO_raised_50 : decode c_MO_raised 50 = .ok (.lstore 4, 2) := by decide +kernel
theorem d_MO_raised_52 : decode c_MO_raised 52 = .ok (.iinc 6 (-1), 3) := by decide +kernel
theorem d_MO_raised_55 : decode c_MO_raised 55 = .ok (.goto (-45), 3) := by decide +kernel
theorem d_MO_raised_58 : decode c_MO_raised 58 = .ok (.lload 4, 2) := by decide +kernel
theorem d_MO_raised_60 : decode c_MO_raised 60 = .ok (.lreturn, 1) := by decide +kernel
def wq_MO_raised_10 (post : Int64 → ST → Int64 → Prop) (v0 : Int64) (v2 : Int32) (v3 : Int32) : Nat → Int64 → Int32 → ST → Int64 → Prop
  | 0 => fun _ _ _ _ => False
  | n + 1 => fun v4 v6 X Y => ((v6 < 0 → post v4 X Y) ∧ (¬ v6 < 0 → (¬ v3.toInt64 = 0 ∧ ((((v2 >>> (v6 &&& 31)) &&& (1 : Int32)) = (1 : Int32) → (¬ v3.toInt64 = 0 ∧ (¬ v3.toInt64 = 0 ∧ wq_MO_raised_10 post v0 v2 v3 n ((((v4 * v4) - (v4 * v4) / v3.toInt64 * v3.toInt64) * (v0 - v0 / v3.toInt64 * v3.toInt64)) - (((v4 * v4) - (v4 * v4) / v3.toInt64 * v3.toInt64) * (v0 - v0 / v3.toInt64 * v3.toInt64)) / v3.toInt64 * v3.toInt64) (v6 + (-1 : Int32)) X Y))) ∧ (¬ ((v2 >>> (v6 &&& 31)) &&& (1 : Int32)) = (1 : Int32) → wq_MO_raised_10 post v0 v2 v3 n ((v4 * v4) - (v4 * v4) / v3.toInt64 * v3.toInt64) (v6 + (-1 : Int32)) X Y)))))
def wp_MO_raised (post : Int64 → ST → Int64 → Prop) (X : ST) (Y : Int64) (a1 : Int64) (a2 : Int32) (a3 : Int32) : Prop := (¬ a3.toInt64 = 0 ∧ (∃ n9, wq_MO_raised_10 post a1 a2 a3 n9 ((1 : Int64) - (1 : Int64) / a3.toInt64 * a3.toInt64) (30 : Int32) X Y))
set_option maxHeartbeats 4000000 in
set_option maxRecDepth 100000 in
theorem mt_MO_raised (l : Launch) (hl9 : l.stackTraces = false) (dC : Nat → ClassId) (dI : Nat → Nat → Nat) (cA : Nat → ClassId) (ad : Nat → Nat) (hI : INJ ad 23) (sz : Nat) {X : ST} {Y : Int64} {a1 : Int64} {a2 : Int32} {a3 : Int32} {post : Int64 → ST → Int64 → Prop} (hw : wp_MO_raised post X Y a1 a2 a3) : Met l y_MO_raised ws_MO_raised ({ frames := 0, cells := 0, slots := 0, locals := 0 } : Room) (va_Pc [.long a1, .int a2, .int a3] (fun U => PM dC dI cA ad sz X Y U)) (va_Ql (fun r (u : ST × Int64) => post r u.1 u.2) (fun (u : ST × Int64) t => va_P (dC, dI) vwCl (wdM cA ad u.1 u.2) t.heap) (CA ad 23 sz)) 0 0 (CA ad 23 sz) := by
  refine Met.ofW (cc := c_MO_raised) (maxL := 7) (ret := (some .long)) (by decide) rfl ?_
  intro p e s m args below meth c s₁ B hml hv
  obtain ⟨rfl, hsz, hP, hG⟩ := hv
  have hx := B.exec
  have hb := B.bytes
  have hr := B.returns
  have hts : ∀ w ∈ GW, w.before (([.long a1, .int a2, .int a3] : List Value).toArray) s = true := fun w h => atoms_spec (ws := ws_MO_raised) B.pre w (List.mem_cons_of_mem _ h)
  have hown : s.vm.findClass R_MO = some m.cls := findClass_of_methodNamed B.named
  have hlocks := B.notSynchronized
  subst hsz
  have hK := hG.1
  have hG9 := hG
  have hNW := hG.2
  have hD0 : ∀ (X : ST) (Y : Int64), va_D (CA ad 23 s.heap.size) (wdM cA ad X Y) := fun _ _ => zwM_D hI
  have hS : va_S (CA ad 23 s.heap.size) s.heap s.heap [] := va_S.rf
  have hl := lv_entry ([.long a1, .int a2, .int a3]) (n := 7) (Nat.le_of_ble_eq_true rfl)
  rw [lg_entry_eq]
  generalize (lg_sl ([.long a1, .int a2, .int a3]) ++ List.replicate (7 - (lg_sl ([.long a1, .int a2, .int a3])).length) Slot.unset).toArray = ls at hl ⊢
  have hl : lv_has ls 7 [(0, .long a1), (2, .int a2), (3, .int a3)] := hl
  have L10 : ∀ (v0 : Int64) (v2 : Int32) (v3 : Int32), ∀ (n : Nat), ∀ (v4 : Int64) (v6 : Int32) (X : ST) (Y : Int64) (H : Heap) (locs : List Loc) (ls : Array Slot), wq_MO_raised_10 post v0 v2 v3 n v4 v6 X Y → va_P (dC, dI) vwCl (wdM cA ad X Y) H → va_S (CA ad 23 s.heap.size) s.heap H locs → lv_has ls 7 [(0, .long v0), (2, .int v2), (3, .int v3), (4, .long v4), (6, .int v6)] → W p l e (headSpec ws_MO_raised ({ frames := 0, cells := 0, slots := 0, locals := 0 } : Room)).room s m (([.long a1, .int a2, .int a3] : List Value).toArray) below meth c H locs 0 0 (MQ below (va_Ql (fun r (u : ST × Int64) => post r u.1 u.2) (fun (u : ST × Int64) t => va_P (dC, dI) vwCl (wdM cA ad u.1 u.2) t.heap) (CA ad 23 s.heap.size)) (([.long a1, .int a2, .int a3] : List Value).toArray) s 0 0 (CA ad 23 s.heap.size)) (F0 m 10 ls []) := by
    intro v0 v2 v3 n
    induction n with
    | zero => intro v4 v6 X Y H locs ls hw hP hS hl; exact False.elim hw
    | succ n ih =>
      intro v4 v6 X Y H locs ls hw hP hS hl
      dsimp only [wq_MO_raised_10] at hw
      refine lv_iload hx hb d_MO_raised_10 (lv_at hl 4 rfl) ?_
      refine lv_if_lt (tgt := 58) hx hb d_MO_raised_12 (by decide) (fun c1 => ?_) (fun c1 => ?_)
      · have hw := hw.1 c1
        refine lv_lload hx hb d_MO_raised_58 (lv_at hl 3 rfl) ?_
        exact W.lret (v := v4) hx hb hr (fun t ht _ => ⟨⟨v4, (X, Y), rfl, hw, by show va_P _ _ _ t.heap; rw [ht]; exact hP⟩, hS.F ht⟩) hS.2.2 d_MO_raised_60
      · have hw := hw.2 c1
        refine lv_lload hx hb d_MO_raised_15 (lv_at hl 3 rfl) ?_
        refine lv_lload hx hb d_MO_raised_17 (lv_at hl 3 rfl) ?_
        refine lv_lmul hx hb d_MO_raised_19 ?_
        refine lv_iload_n hx hb d_MO_raised_20 rfl (lv_at hl 2 rfl) ?_
        refine lv_i2l hx hb d_MO_raised_21 rfl ?_
        obtain ⟨h2, hw⟩ := hw
        refine lv_lrem hx hb d_MO_raised_22 h2 ?_
        refine lv_lstore (lv' := [(4, .long ((v4 * v4) - (v4 * v4) / v3.toInt64 * v3.toInt64)), (0, .long v0), (2, .int v2), (3, .int v3), (6, .int v6)]) hx hb d_MO_raised_23 hl (by decide) rfl (fun ls hl => ?_)
        refine lv_iload_n hx hb d_MO_raised_25 rfl (lv_at hl 2 rfl) ?_
        refine lv_iload hx hb d_MO_raised_26 (lv_at hl 4 rfl) ?_
        refine lv_ishr hx hb d_MO_raised_28 ?_
        refine lv_iconst (v := (1 : Int32)) hx hb d_MO_raised_29 (by decide) ?_
        refine lv_iand hx hb d_MO_raised_30 ?_
        refine lv_iconst (v := (1 : Int32)) hx hb d_MO_raised_31 (by decide) ?_
        refine lv_icmp_ne (tgt := 48) hx hb d_MO_raised_32 (by decide) (fun c3 => ?_) (fun c3 => ?_)
        · have hw := hw.2 c3
          refine lv_lload hx hb d_MO_raised_48 (lv_at hl 0 rfl) ?_
          refine lv_lstore (lv' := [(4, .long ((v4 * v4) - (v4 * v4) / v3.toInt64 * v3.toInt64)), (0, .long v0), (2, .int v2), (3, .int v3), (6, .int v6)]) hx hb d_MO_raised_50 hl (by decide) rfl (fun ls hl => ?_)
          refine lv_iinc (k := 4) (v := v6 + (-1 : Int32)) (lv' := [(6, .int (v6 + (-1 : Int32))), (4, .long ((v4 * v4) - (v4 * v4) / v3.toInt64 * v3.toInt64)), (0, .long v0), (2, .int v2), (3, .int v3)]) hx hb d_MO_raised_52 hl rfl rfl (by decide) rfl (fun ls hl => ?_)
          refine lv_goto (tgt := 10) hx hb d_MO_raised_55 (by decide) ?_
          have hl := lv_sub hl (l' := [(0, .long v0), (2, .int v2), (3, .int v3), (4, .long ((v4 * v4) - (v4 * v4) / v3.toInt64 * v3.toInt64)), (6, .int (v6 + (-1 : Int32)))]) [2, 3, 4, 1, 0] rfl
          exact ih _ _ _ _ _ _ _ hw hP hS hl
        · have hw := hw.1 c3
          refine lv_lload hx hb d_MO_raised_35 (lv_at hl 0 rfl) ?_
          refine lv_lload_n hx hb d_MO_raised_37 rfl (lv_at hl 1 rfl) ?_
          refine lv_iload_n hx hb d_MO_raised_38 rfl (lv_at hl 3 rfl) ?_
          refine lv_i2l hx hb d_MO_raised_39 rfl ?_
          obtain ⟨h4, hw⟩ := hw
          refine lv_lrem hx hb d_MO_raised_40 h4 ?_
          refine lv_lmul hx hb d_MO_raised_41 ?_
          refine lv_iload_n hx hb d_MO_raised_42 rfl (lv_at hl 3 rfl) ?_
          refine lv_i2l hx hb d_MO_raised_43 rfl ?_
          obtain ⟨h5, hw⟩ := hw
          refine lv_lrem hx hb d_MO_raised_44 h5 ?_
          refine lv_goto (tgt := 50) hx hb d_MO_raised_45 (by decide) ?_
          refine lv_lstore (lv' := [(4, .long ((((v4 * v4) - (v4 * v4) / v3.toInt64 * v3.toInt64) * (v0 - v0 / v3.toInt64 * v3.toInt64)) - (((v4 * v4) - (v4 * v4) / v3.toInt64 * v3.toInt64) * (v0 - v0 / v3.toInt64 * v3.toInt64)) / v3.toInt64 * v3.toInt64)), (0, .long v0), (2, .int v2), (3, .int v3), (6, .int v6)]) hx hb d_MO_raised_50 hl (by decide) rfl (fun ls hl => ?_)
          refine lv_iinc (k := 4) (v := v6 + (-1 : Int32)) (lv' := [(6, .int (v6 + (-1 : Int32))), (4, .long ((((v4 * v4) - (v4 * v4) / v3.toInt64 * v3.toInt64) * (v0 - v0 / v3.toInt64 * v3.toInt64)) - (((v4 * v4) - (v4 * v4) / v3.toInt64 * v3.toInt64) * (v0 - v0 / v3.toInt64 * v3.toInt64)) / v3.toInt64 * v3.toInt64)), (0, .long v0), (2, .int v2), (3, .int v3)]) hx hb d_MO_raised_52 hl rfl rfl (by decide) rfl (fun ls hl => ?_)
          refine lv_goto (tgt := 10) hx hb d_MO_raised_55 (by decide) ?_
          have hl := lv_sub hl (l' := [(0, .long v0), (2, .int v2), (3, .int v3), (4, .long ((((v4 * v4) - (v4 * v4) / v3.toInt64 * v3.toInt64) * (v0 - v0 / v3.toInt64 * v3.toInt64)) - (((v4 * v4) - (v4 * v4) / v3.toInt64 * v3.toInt64) * (v0 - v0 / v3.toInt64 * v3.toInt64)) / v3.toInt64 * v3.toInt64)), (6, .int (v6 + (-1 : Int32)))]) [2, 3, 4, 1, 0] rfl
          exact ih _ _ _ _ _ _ _ hw hP hS hl
  unfold wp_MO_raised at hw
  refine lv_lconst (v := (1 : Int64)) hx hb d_MO_raised_0 (by decide) ?_
  refine lv_iload_n hx hb d_MO_raised_1 rfl (lv_at hl 2 rfl) ?_
  refine lv_i2l hx hb d_MO_raised_2 rfl ?_
  obtain ⟨h6, hw⟩ := hw
  refine lv_lrem hx hb d_MO_raised_3 h6 ?_
  refine lv_lstore (lv' := [(4, .long ((1 : Int64) - (1 : Int64) / a3.toInt64 * a3.toInt64)), (0, .long a1), (2, .int a2), (3, .int a3)]) hx hb d_MO_raised_4 hl (by decide) rfl (fun ls hl => ?_)
  refine lv_bipush (v := (30 : Int32)) hx hb d_MO_raised_6 (by decide) ?_
  refine lv_istore (lv' := [(6, .int (30 : Int32)), (4, .long ((1 : Int64) - (1 : Int64) / a3.toInt64 * a3.toInt64)), (0, .long a1), (2, .int a2), (3, .int a3)]) hx hb d_MO_raised_8 hl (by decide) rfl (fun ls hl => ?_)
  have hl := lv_sub hl (l' := [(0, .long a1), (2, .int a2), (3, .int a3), (4, .long ((1 : Int64) - (1 : Int64) / a3.toInt64 * a3.toInt64)), (6, .int (30 : Int32))]) [2, 3, 4, 1, 0] rfl
  obtain ⟨n9, hw⟩ := hw
  exact L10 _ _ _ n9 _ _ _ _ _ _ _ hw hP hS hl
