def ws_CA_draw : List Cond := Cond.code y_CA_draw c_CA_draw 1 (Option.some Jvm.ClassFile.FieldType.int) :: GW
theorem d_CA_draw_0 : decode c_CA_draw 0 = .ok (.aload_n 0, 1) := by decide +kernel
theorem d_CA_draw_1 : decode c_CA_draw 1 = .ok (.aload_n 0, 1) := by decide +kernel
theorem d_CA_draw_2 : decode c_CA_draw 2 = .ok (.getfield 60, 3) := by decide +kernel
theorem d_CA_draw_5 : decode c_CA_draw 5 = .ok (.ldc_w 256, 3) := by decide +kernel
theorem d_CA_draw_8 : decode c_CA_draw 8 = .ok (.imul, 1) := by decide +kernel
theorem d_CA_draw_9 : decode c_CA_draw 9 = .ok (.sipush 12345, 3) := by decide +kernel
theorem d_CA_draw_12 : decode c_CA_draw 12 = .ok (.iadd, 1) := by decide +kernel
theorem d_CA_draw_13 : decode c_CA_draw 13 = .ok (.putfield 60, 3) := by decide +kernel
theorem d_CA_draw_16 : decode c_CA_draw 16 = .ok (.aload_n 0, 1) := by decide +kernel
theorem d_CA_draw_17 : decode c_CA_draw 17 = .ok (.getfield 60, 3) := by decide +kernel
theorem d_CA_draw_20 : decode c_CA_draw 20 = .ok (.bipush 8, 2) := by decide +kernel
theorem d_CA_draw_22 : decode c_CA_draw 22 = .ok (.iushr, 1) := by decide +kernel
theorem d_CA_draw_23 : decode c_CA_draw 23 = .ok (.ireturn, 1) := by decide +kernel
def wp_CA_draw (post : Int32 → ST → Prop) (X : ST) : Prop := post (((((X 0 0) * (1103515245 : Int32)) + (12345 : Int32)).toUInt32 >>> ((8 : Int32).toUInt32 &&& Int32.toUInt32 31)).toInt32) (up X 0 0 (((X 0 0) * (1103515245 : Int32)) + (12345 : Int32)))
set_option maxHeartbeats 4000000 in
set_option maxRecDepth 100000 in
theorem mt_CA_draw (l : Launch) (hl9 : l.stackTraces = false) (dC : Nat → ClassId) (dI : Nat → Nat → Nat) (cA : Nat → ClassId) (ad : Nat → Nat) (hI : INJ ad 125) (sz : Nat) {X : ST} {post : Int32 → ST → Prop} (hw : wp_CA_draw post X) : Met l y_CA_draw ws_CA_draw ({ frames := 0, cells := 0, slots := 0, locals := 0 } : Room) (va_Pc [.ref (ad 0)] (fun U => PC dC dI cA ad sz X U)) (va_Qi (fun r (u : ST) => post r u) (fun (u : ST) t => va_P (dC, dI) vwCl (wdC cA ad u) t.heap) (CA ad 125 sz)) 0 0 (CA ad 125 sz) := by
  refine Met.ofW (cc := c_CA_draw) (maxL := 1) (ret := (some .int)) (by decide) rfl ?_
  intro p e s m args below meth c s₁ B hml hv
  obtain ⟨rfl, hsz, hP, hG⟩ := hv
  have hx := B.exec
  have hb := B.bytes
  have hr := B.returns
  have hts : ∀ w ∈ GW, w.before (([.ref (ad 0)] : List Value).toArray) s = true := fun w h => atoms_spec (ws := ws_CA_draw) B.pre w (List.mem_cons_of_mem _ h)
  have hown : s.vm.findClass R_CA = some m.cls := findClass_of_methodNamed B.named
  have hlocks := B.notSynchronized
  subst hsz
  have hK := hG.1
  have hG9 := hG
  have hNW := hG.2.1
  have hD0 : ∀ (X : ST), va_D (CA ad 125 s.heap.size) (wdC cA ad X) := fun _ => zwC_D hI
  have hS : va_S (CA ad 125 s.heap.size) s.heap s.heap [] := va_S.rf
  have hl := lv_entry ([.ref (ad 0)]) (n := 1) (Nat.le_of_ble_eq_true rfl)
  rw [lg_entry_eq]
  generalize (lg_sl ([.ref (ad 0)]) ++ List.replicate (1 - (lg_sl ([.ref (ad 0)])).length) Slot.unset).toArray = ls at hl ⊢
  have hl : lv_has ls 1 [(0, .ref (ad 0))] := hl
  unfold wp_CA_draw at hw
  refine lv_aload_n hx hb d_CA_draw_0 rfl (lv_at hl 0 rfl) ?_
  refine lv_aload_n hx hb d_CA_draw_1 rfl (lv_at hl 0 rfl) ?_
  refine va_get (D := (dC, dI)) (ci := 0) (v := .int (X 0 0)) (C := R_CA) (T := T_CA) (N := 14) hx hb hts in_CA hown hK hP (0) atC_CA rfl 0 (by decide) (hts _ gw_0) (fun _ h9 => h9) rfl d_CA_draw_2 ?_
  refine lv_ldcw (v := (1103515245 : Int32)) hx hb hown (hts _ gw_1) d_CA_draw_5 ?_
  refine lv_imul hx hb d_CA_draw_8 ?_
  refine lv_sipush (v := (12345 : Int32)) hx hb d_CA_draw_9 (by decide) ?_
  refine lv_iadd hx hb d_CA_draw_12 ?_
  refine va_put (D := (dC, dI)) (ci := 0) (v := .int (((X 0 0) * (1103515245 : Int32)) + (12345 : Int32))) (ty := .int) (C := R_CA) (T := T_CA) (N := 14) hx hb hts in_CA ty_CA ty_CA_ok nm_CA hown hK hP (hD0 _) hS (0) atC_CA rfl 0 (by decide) (hts _ gw_0) (fun _ h9 => h9) rfl (by decide +kernel) rfl rfl (Nat.le_of_ble_eq_true rfl) d_CA_draw_13 (fun H locs hP _ hS => ?_)
  have hP : va_P (dC, dI) vwCl (wdC cA ad (up X 0 0 (((X 0 0) * (1103515245 : Int32)) + (12345 : Int32)))) H := by rw [← stC_CA_0]; exact hP
  refine lv_aload_n hx hb d_CA_draw_16 rfl (lv_at hl 0 rfl) ?_
  refine va_get (D := (dC, dI)) (ci := 0) (v := .int (((X 0 0) * (1103515245 : Int32)) + (12345 : Int32))) (C := R_CA) (T := T_CA) (N := 14) hx hb hts in_CA hown hK hP (0) atC_CA rfl 0 (by decide) (hts _ gw_0) (fun _ h9 => h9) rfl d_CA_draw_17 ?_
  refine lv_bipush (v := (8 : Int32)) hx hb d_CA_draw_20 (by decide) ?_
  refine lv_iushr hx hb d_CA_draw_22 rfl ?_
  exact W.iret (v := ((((X 0 0) * (1103515245 : Int32)) + (12345 : Int32)).toUInt32 >>> ((8 : Int32).toUInt32 &&& Int32.toUInt32 31)).toInt32) hx hb hr (fun t ht _ => ⟨⟨((((X 0 0) * (1103515245 : Int32)) + (12345 : Int32)).toUInt32 >>> ((8 : Int32).toUInt32 &&& Int32.toUInt32 31)).toInt32, up X 0 0 (((X 0 0) * (1103515245 : Int32)) + (12345 : Int32)), rfl, hw, by show va_P _ _ _ t.heap; rw [ht]; exact hP⟩, hS.F ht⟩) hS.2.2 d_CA_draw_23
def ws_Non_removeAt : List Cond := Cond.code y_Non_removeAt c_Non_removeAt 3 (Option.none : Option Jvm.ClassFile.FieldType) :: GW
theorem d_Non_removeAt_0 : decode c_Non_removeAt 0 = .ok (.iload_n 1, 1) := by decide +kernel
theorem d_Non_removeAt_1 : decode c_Non_removeAt 1 = .ok (.istore_n 2, 1) := by decide +kernel
theorem d_Non_removeAt_2 : decode c_Non_removeAt 2 = .ok (.iload_n 2, 1) := by decide +kernel
theorem d_Non_removeAt_3 : decode c_Non_removeAt 3 = .ok (.iconst 1, 1) := by decide +kernel
theorem d_Non_removeAt_4 : decode c_Non_removeAt 4 = .ok (.iadd, 1) := by decide +kernel
theorem d_Non_removeAt_5 : decode c_Non_removeAt 5 = .ok (.aload_n 0, 1) := by decide +kernel
theorem d_Non_removeAt_6 : decode c_Non_removeAt 6 = .ok (.getfield 15, 3) := by decide +kernel
theorem d_Non_removeAt_9 : decode c_Non_removeAt 9 = .ok (.if_icmp .ge 23, 3) := by decide +kernel
theorem d_Non_removeAt_12 : decode c_Non_removeAt 12 = .ok (.aload_n 0, 1) := by decide +kernel
theorem d_Non_removeAt_13 : decode c_Non_removeAt 13 = .ok (.getfield 9, 3) := by decide +kernel
theorem d_Non_removeAt_16 : decode c_Non_removeAt 16 = .ok (.iload_n 2, 1) := by decide +kernel
theorem d_Non_removeAt_17 : decode c_Non_removeAt 17 = .ok (.aload_n 0, 1) := by decide +kernel
theorem d_Non_removeAt_18 : decode c_Non_removeAt 18 = .ok (.getfield 9, 3) := by decide +kernel
theorem d_Non_removeAt_21 : decode c_Non_removeAt 21 = .ok (.iload_n 2, 1) := by decide +kernel
theorem d_Non_removeAt_22 : decode c_Non_removeAt 22 = .ok (.iconst 1, 1) := by decide +kernel
theorem d_Non_removeAt_23 : decode c_Non_removeAt 23 = .ok (.iadd, 1) := by decide +kernel
theorem d_Non_removeAt_24 : decode c_Non_removeAt 24 = .ok (.iaload, 1) := by decide +kernel
theorem d_Non_removeAt_25 : decode c_Non_removeAt 25 = .ok (.iastore, 1) := by decide +kernel
theorem d_Non_removeAt_26 : decode c_Non_removeAt 26 = .ok (.iinc 2 1, 3) := by decide +kernel
theorem d_Non_removeAt_29 : decode c_Non_removeAt 29 = .ok (.goto (-27), 3) := by decide +kernel
theorem d_Non_removeAt_32 : decode c_Non_removeAt 32 = .ok (.aload_n 0, 1) := by decide +kernel
theorem d_Non_removeAt_33 : decode c_Non_removeAt 33 = .ok (.dup, 1) := by decide +kernel
theorem d_Non_removeAt_34 : decode c_Non_removeAt 34 = .ok (.getfield 15, 3) := by decide +kernel
theorem d_Non_removeAt_37 : decode c_Non_removeAt 37 = .ok (.iconst 1, 1) := by decide +kernel
theorem d_Non_removeAt_38 : decode c_Non_removeAt 38 = .ok (.isub, 1) := by decide +kernel
theorem d_Non_removeAt_39 : decode c_Non_removeAt 39 = .ok (.putfield 15, 3) := by decide +kernel
theorem d_Non_removeAt_42 : decode c_Non_removeAt 42 = .ok (.return_, 1) := by decide +kernel
def wq_Non_removeAt_2 (post : ST → Prop) : Nat → Int32 → ST → Prop
  | 0 => fun _ _ => False
  | n + 1 => fun v2 X => (((X 6 0) ≤ (v2 + (1 : Int32)) → post (up X 6 0 ((X 6 0) - (1 : Int32)))) ∧ (¬ (X 6 0) ≤ (v2 + (1 : Int32)) → (vp_in (v2 + (1 : Int32)) 8 ∧ (vp_in v2 8 ∧ wq_Non_removeAt_2 post n (v2 + (1 : Int32)) (up X 61 v2.toNatClampNeg (X 61 (v2 + (1 : Int32)).toNatClampNeg))))))
def wp_Non_removeAt (post : ST → Prop) (X : ST) (a1 : Int32) : Prop := (∃ n9, wq_Non_removeAt_2 post n9 a1 X)
set_option maxHeartbeats 4000000 in
set_option maxRecDepth 100000 in
theorem mt_Non_removeAt (l : Launch) (hl9 : l.stackTraces = false) (dC : Nat → ClassId) (dI : Nat → Nat → Nat) (cA : Nat → ClassId) (ad : Nat → Nat) (hI : INJ ad 125) (sz : Nat) {X : ST} {a1 : Int32} {post : ST → Prop} (hw : wp_Non_removeAt post X a1) : Met l y_Non_removeAt ws_Non_removeAt ({ frames := 0, cells := 0, slots := 0, locals := 0 } : Room) (va_Pc [.ref (ad 6), .int a1] (fun U => PC dC dI cA ad sz X U)) (va_Qv (fun (u : ST) => post u) (fun (u : ST) t => va_P (dC, dI) vwCl (wdC cA ad u) t.heap) (CA ad 125 sz)) 0 0 (CA ad 125 sz) := by
  refine Met.ofW (cc := c_Non_removeAt) (maxL := 3) (ret := none) (by decide) rfl ?_
  intro p e s m args below meth c s₁ B hml hv
  obtain ⟨rfl, hsz, hP, hG⟩ := hv
  have hx := B.exec
  have hb := B.bytes
  have hr := B.returns
  have hts : ∀ w ∈ GW, w.before (([.ref (ad 6), .int a1] : List Value).toArray) s = true := fun w h => atoms_spec (ws := ws_Non_removeAt) B.pre w (List.mem_cons_of_mem _ h)
  have hown : s.vm.findClass R_Non = some m.cls := findClass_of_methodNamed B.named
  have hlocks := B.notSynchronized
  subst hsz
  have hK := hG.1
  have hG9 := hG
  have hNW := hG.2.1
  have hD0 : ∀ (X : ST), va_D (CA ad 125 s.heap.size) (wdC cA ad X) := fun _ => zwC_D hI
  have hS : va_S (CA ad 125 s.heap.size) s.heap s.heap [] := va_S.rf
  have hl := lv_entry ([.ref (ad 6), .int a1]) (n := 3) (Nat.le_of_ble_eq_true rfl)
  rw [lg_entry_eq]
  generalize (lg_sl ([.ref (ad 6), .int a1]) ++ List.replicate (3 - (lg_sl ([.ref (ad 6), .int a1])).length) Slot.unset).toArray = ls at hl ⊢
  have hl : lv_has ls 3 [(0, .ref (ad 6)), (1, .int a1)] := hl
  have L2 : ∀ (n : Nat), ∀ (v2 : Int32) (X : ST) (H : Heap) (locs : List Loc) (ls : Array Slot), wq_Non_removeAt_2 post n v2 X → va_P (dC, dI) vwCl (wdC cA ad X) H → va_S (CA ad 125 s.heap.size) s.heap H locs → lv_has ls 3 [(0, .ref (ad 6)), (2, .int v2)] → W p l e (headSpec ws_Non_removeAt ({ frames := 0, cells := 0, slots := 0, locals := 0 } : Room)).room s m (([.ref (ad 6), .int a1] : List Value).toArray) below meth c H locs 0 0 (MQ below (va_Qv (fun (u : ST) => post u) (fun (u : ST) t => va_P (dC, dI) vwCl (wdC cA ad u) t.heap) (CA ad 125 s.heap.size)) (([.ref (ad 6), .int a1] : List Value).toArray) s 0 0 (CA ad 125 s.heap.size)) (F0 m 2 ls []) := by
    intro n
    induction n with
    | zero => intro v2 X H locs ls hw hP hS hl; exact False.elim hw
    | succ n ih =>
      intro v2 X H locs ls hw hP hS hl
      dsimp only [wq_Non_removeAt_2] at hw
      refine lv_iload_n hx hb d_Non_removeAt_2 rfl (lv_at hl 1 rfl) ?_
      refine lv_iconst (v := (1 : Int32)) hx hb d_Non_removeAt_3 (by decide) ?_
      refine lv_iadd hx hb d_Non_removeAt_4 ?_
      refine lv_aload_n hx hb d_Non_removeAt_5 rfl (lv_at hl 0 rfl) ?_
      refine va_get (D := (dC, dI)) (ci := 1) (v := .int (X 6 0)) (C := R_Non) (T := T_Non) (N := 2) hx hb hts in_Non hown hK hP (6) atC_Non rfl 0 (by decide) (hts _ gw_2) (fun _ h9 => h9) rfl d_Non_removeAt_6 ?_
      refine lv_icmp_ge (tgt := 32) hx hb d_Non_removeAt_9 (by decide) (fun c1 => ?_) (fun c1 => ?_)
      · have hw := hw.1 c1
        refine lv_aload_n hx hb d_Non_removeAt_32 rfl (lv_at hl 0 rfl) ?_
        refine lv_dup hx hb d_Non_removeAt_33 rfl ?_
        refine va_get (D := (dC, dI)) (ci := 1) (v := .int (X 6 0)) (C := R_Non) (T := T_Non) (N := 2) hx hb hts in_Non hown hK hP (6) atC_Non rfl 0 (by decide) (hts _ gw_2) (fun _ h9 => h9) rfl d_Non_removeAt_34 ?_
        refine lv_iconst (v := (1 : Int32)) hx hb d_Non_removeAt_37 (by decide) ?_
        refine lv_isub hx hb d_Non_removeAt_38 ?_
        refine va_put (D := (dC, dI)) (ci := 1) (v := .int ((X 6 0) - (1 : Int32))) (ty := .int) (C := R_Non) (T := T_Non) (N := 2) hx hb hts in_Non ty_Non ty_Non_ok nm_Non hown hK hP (hD0 _) hS (6) atC_Non rfl 0 (by decide) (hts _ gw_2) (fun _ h9 => h9) rfl (by decide +kernel) rfl rfl (Nat.le_of_ble_eq_true rfl) d_Non_removeAt_39 (fun H locs hP _ hS => ?_)
        have hP : va_P (dC, dI) vwCl (wdC cA ad (up X 6 0 ((X 6 0) - (1 : Int32)))) H := by rw [← stC_Non_0]; exact hP
        exact W.vret hx hb hr (fun t ht _ => ⟨⟨up X 6 0 ((X 6 0) - (1 : Int32)), rfl, hw, by show va_P _ _ _ t.heap; rw [ht]; exact hP⟩, hS.F ht⟩) hS.2.2 d_Non_removeAt_42
      · have hw := hw.2 c1
        refine lv_aload_n hx hb d_Non_removeAt_12 rfl (lv_at hl 0 rfl) ?_
        refine va_get (D := (dC, dI)) (ci := 1) (v := .ref (ad 7)) (C := R_Non) (T := T_Non) (N := 2) hx hb hts in_Non hown hK hP (6) atC_Non rfl 1 (by decide) (hts _ gw_3) (fun _ h9 => h9) rfl d_Non_removeAt_13 ?_
        refine lv_iload_n hx hb d_Non_removeAt_16 rfl (lv_at hl 1 rfl) ?_
        refine lv_aload_n hx hb d_Non_removeAt_17 rfl (lv_at hl 0 rfl) ?_
        refine va_get (D := (dC, dI)) (ci := 1) (v := .ref (ad 7)) (C := R_Non) (T := T_Non) (N := 2) hx hb hts in_Non hown hK hP (6) atC_Non rfl 1 (by decide) (hts _ gw_3) (fun _ h9 => h9) rfl d_Non_removeAt_18 ?_
        refine lv_iload_n hx hb d_Non_removeAt_21 rfl (lv_at hl 1 rfl) ?_
        refine lv_iconst (v := (1 : Int32)) hx hb d_Non_removeAt_22 (by decide) ?_
        refine lv_iadd hx hb d_Non_removeAt_23 ?_
        obtain ⟨h2, hw⟩ := hw
        refine va_iald hx hb hK hP (7) 5 atC_iNon rfl h2 d_Non_removeAt_24 ?_
        obtain ⟨h3, hw⟩ := hw
        refine va_iast hx hb hK hP (hD0 _) hS (7) 5 atC_iNon rfl h3 d_Non_removeAt_25 (fun H locs hP _ hS => ?_)
        have hP : va_P (dC, dI) vwCl (wdC cA ad (up X 61 v2.toNatClampNeg (X 61 (v2 + (1 : Int32)).toNatClampNeg))) H := by rw [← stC_iNon]; exact hP
        refine lv_iinc (k := 1) (v := v2 + (1 : Int32)) (lv' := [(2, .int (v2 + (1 : Int32))), (0, .ref (ad 6))]) hx hb d_Non_removeAt_26 hl rfl rfl (by decide) rfl (fun ls hl => ?_)
        refine lv_goto (tgt := 2) hx hb d_Non_removeAt_29 (by decide) ?_
        have hl := lv_sub hl (l' := [(0, .ref (ad 6)), (2, .int (v2 + (1 : Int32)))]) [1, 0] rfl
        exact ih _ _ _ _ _ hw hP hS hl
  unfold wp_Non_removeAt at hw
  refine lv_iload_n hx hb d_Non_removeAt_0 rfl (lv_at hl 1 rfl) ?_
  refine lv_istore_n (lv' := [(2, .int a1), (0, .ref (ad 6)), (1, .int a1)]) hx hb d_Non_removeAt_1 rfl hl (by decide) rfl (fun ls hl => ?_)
  have hl := lv_sub hl (l' := [(0, .ref (ad 6)), (2, .int a1)]) [1, 0] rfl
  obtain ⟨n9, hw⟩ := hw
  exact L2 n9 _ _ _ _ _ hw hP hS hl
def ws_Non_putOut : List Cond := Cond.code y_Non_putOut c_Non_putOut 2 (Option.none : Option Jvm.ClassFile.FieldType) :: GW
theorem d_Non_putOut_0 : decode c_Non_putOut 0 = .ok (.aload_n 0, 1) := by decide +kernel
theorem d_Non_putOut_1 : decode c_Non_putOut 1 = .ok (.getfield 15, 3) := by decide +kernel
theorem d_Non_putOut_4 : decode c_Non_putOut 4 = .ok (.bipush 8, 2) := by decide +kernel
theorem d_Non_putOut_6 : decode c_Non_putOut 6 = .ok (.if_icmp .lt 8, 3) := by decide +kernel
theorem d_Non_putOut_9 : decode c_Non_putOut 9 = .ok (.aload_n 0, 1) := by decide +kernel
theorem d_Non_putOut_10 : decode c_Non_putOut 10 = .ok (.iconst 0, 1) := by decide +kernel
theorem d_Non_putOut_11 : decode c_Non_putOut 11 = .ok (.invokevirtual 19, 3) := by decide +kernel
theorem d_Non_putOut_14 : decode c_Non_putOut 14 = .ok (.aload_n 0, 1) := by decide +kernel
theorem d_Non_putOut_15 : decode c_Non_putOut 15 = .ok (.getfield 9, 3) := by decide +kernel
theorem d_Non_putOut_18 : decode c_Non_putOut 18 = .ok (.aload_n 0, 1) := by decide +kernel
theorem d_Non_putOut_19 : decode c_Non_putOut 19 = .ok (.getfield 15, 3) := by decide +kernel
theorem d_Non_putOut_22 : decode c_Non_putOut 22 = .ok (.iload_n 1, 1) := by decide +kernel
theorem d_Non_putOut_23 : decode c_Non_putOut 23 = .ok (.iastore, 1) := by decide +kernel
theorem d_Non_putOut_24 : decode c_Non_putOut 24 = .ok (.aload_n 0, 1) := by decide +kernel
theorem d_Non_putOut_25 : decode c_Non_putOut 25 = .ok (.dup, 1) := by decide +kernel
theorem d_Non_putOut_26 : decode c_Non_putOut 26 = .ok (.getfield 15, 3) := by decide +kernel
theorem d_Non_putOut_29 : decode c_Non_putOut 29 = .ok (.iconst 1, 1) := by decide +kernel
theorem d_Non_putOut_30 : decode c_Non_putOut 30 = .ok (.iadd, 1) := by decide +kernel
theorem d_Non_putOut_31 : decode c_Non_putOut 31 = .ok (.putfield 15, 3) := by decide +kernel
theorem d_Non_putOut_34 : decode c_Non_putOut 34 = .ok (.return_, 1) := by decide +kernel
def wq_Non_putOut_14 (post : ST → Prop) (v1 : Int32) (X : ST) : Prop := (vp_in (X 6 0) 8 ∧ post (up (up X 61 ((X 6 0).toNatClampNeg) v1) 6 0 ((X 6 0) + (1 : Int32))))
def wp_Non_putOut (post : ST → Prop) (X : ST) (a1 : Int32) : Prop := (((X 6 0) < (8 : Int32) → wq_Non_putOut_14 post a1 X) ∧ (¬ (X 6 0) < (8 : Int32) → wp_Non_removeAt (fun (X3 : ST) => wq_Non_putOut_14 post a1 X3) X (0 : Int32)))
set_option maxHeartbeats 4000000 in
set_option maxRecDepth 100000 in
theorem mt_Non_putOut (l : Launch) (hl9 : l.stackTraces = false) (dC : Nat → ClassId) (dI : Nat → Nat → Nat) (cA : Nat → ClassId) (ad : Nat → Nat) (hI : INJ ad 125) (sz : Nat) {X : ST} {a1 : Int32} {post : ST → Prop} (hw : wp_Non_putOut post X a1) : Met l y_Non_putOut ws_Non_putOut ({ frames := 1, cells := 0, slots := 0, locals := 22 } : Room) (va_Pc [.ref (ad 6), .int a1] (fun U => PC dC dI cA ad sz X U)) (va_Qv (fun (u : ST) => post u) (fun (u : ST) t => va_P (dC, dI) vwCl (wdC cA ad u) t.heap) (CA ad 125 sz)) 0 0 (CA ad 125 sz) := by
  refine Met.ofW (cc := c_Non_putOut) (maxL := 2) (ret := none) (by decide) rfl ?_
  intro p e s m args below meth c s₁ B hml hv
  obtain ⟨rfl, hsz, hP, hG⟩ := hv
  have hx := B.exec
  have hb := B.bytes
  have hr := B.returns
  have hts : ∀ w ∈ GW, w.before (([.ref (ad 6), .int a1] : List Value).toArray) s = true := fun w h => atoms_spec (ws := ws_Non_putOut) B.pre w (List.mem_cons_of_mem _ h)
  have hown : s.vm.findClass R_Non = some m.cls := findClass_of_methodNamed B.named
  have hlocks := B.notSynchronized
  subst hsz
  have hK := hG.1
  have hG9 := hG
  have hNW := hG.2.1
  have hD0 : ∀ (X : ST), va_D (CA ad 125 s.heap.size) (wdC cA ad X) := fun _ => zwC_D hI
  have hS : va_S (CA ad 125 s.heap.size) s.heap s.heap [] := va_S.rf
  have hl := lv_entry ([.ref (ad 6), .int a1]) (n := 2) (Nat.le_of_ble_eq_true rfl)
  rw [lg_entry_eq]
  generalize (lg_sl ([.ref (ad 6), .int a1]) ++ List.replicate (2 - (lg_sl ([.ref (ad 6), .int a1])).length) Slot.unset).toArray = ls at hl ⊢
  have hl : lv_has ls 2 [(0, .ref (ad 6)), (1, .int a1)] := hl
  have L14 : ∀ (v1 : Int32) (X : ST) (H : Heap) (locs : List Loc) (ls : Array Slot), wq_Non_putOut_14 post v1 X → va_P (dC, dI) vwCl (wdC cA ad X) H → va_S (CA ad 125 s.heap.size) s.heap H locs → lv_has ls 2 [(0, .ref (ad 6)), (1, .int v1)] → W p l e (headSpec ws_Non_putOut ({ frames := 1, cells := 0, slots := 0, locals := 22 } : Room)).room s m (([.ref (ad 6), .int a1] : List Value).toArray) below meth c H locs 0 0 (MQ below (va_Qv (fun (u : ST) => post u) (fun (u : ST) t => va_P (dC, dI) vwCl (wdC cA ad u) t.heap) (CA ad 125 s.heap.size)) (([.ref (ad 6), .int a1] : List Value).toArray) s 0 0 (CA ad 125 s.heap.size)) (F0 m 14 ls []) := by
    intro v1 X H locs ls hw hP hS hl
    unfold wq_Non_putOut_14 at hw
    refine lv_aload_n hx hb d_Non_putOut_14 rfl (lv_at hl 0 rfl) ?_
    refine va_get (D := (dC, dI)) (ci := 1) (v := .ref (ad 7)) (C := R_Non) (T := T_Non) (N := 2) hx hb hts in_Non hown hK hP (6) atC_Non rfl 1 (by decide) (hts _ gw_3) (fun _ h9 => h9) rfl d_Non_putOut_15 ?_
    refine lv_aload_n hx hb d_Non_putOut_18 rfl (lv_at hl 0 rfl) ?_
    refine va_get (D := (dC, dI)) (ci := 1) (v := .int (X 6 0)) (C := R_Non) (T := T_Non) (N := 2) hx hb hts in_Non hown hK hP (6) atC_Non rfl 0 (by decide) (hts _ gw_2) (fun _ h9 => h9) rfl d_Non_putOut_19 ?_
    refine lv_iload_n hx hb d_Non_putOut_22 rfl (lv_at hl 1 rfl) ?_
    obtain ⟨h1, hw⟩ := hw
    refine va_iast hx hb hK hP (hD0 _) hS (7) 5 atC_iNon rfl h1 d_Non_putOut_23 (fun H locs hP _ hS => ?_)
    have hP : va_P (dC, dI) vwCl (wdC cA ad (up X 61 ((X 6 0).toNatClampNeg) v1)) H := by rw [← stC_iNon]; exact hP
    refine lv_aload_n hx hb d_Non_putOut_24 rfl (lv_at hl 0 rfl) ?_
    refine lv_dup hx hb d_Non_putOut_25 rfl ?_
    refine va_get (D := (dC, dI)) (ci := 1) (v := .int (X 6 0)) (C := R_Non) (T := T_Non) (N := 2) hx hb hts in_Non hown hK hP (6) atC_Non rfl 0 (by decide) (hts _ gw_2) (fun _ h9 => h9) rfl d_Non_putOut_26 ?_
    refine lv_iconst (v := (1 : Int32)) hx hb d_Non_putOut_29 (by decide) ?_
    refine lv_iadd hx hb d_Non_putOut_30 ?_
    refine va_put (D := (dC, dI)) (ci := 1) (v := .int ((X 6 0) + (1 : Int32))) (ty := .int) (C := R_Non) (T := T_Non) (N := 2) hx hb hts in_Non ty_Non ty_Non_ok nm_Non hown hK hP (hD0 _) hS (6) atC_Non rfl 0 (by decide) (hts _ gw_2) (fun _ h9 => h9) rfl (by decide +kernel) rfl rfl (Nat.le_of_ble_eq_true rfl) d_Non_putOut_31 (fun H locs hP _ hS => ?_)
    have hP : va_P (dC, dI) vwCl (wdC cA ad (up (up X 61 ((X 6 0).toNatClampNeg) v1) 6 0 ((X 6 0) + (1 : Int32)))) H := by rw [← stC_Non_0]; exact hP
    exact W.vret hx hb hr (fun t ht _ => ⟨⟨up (up X 61 ((X 6 0).toNatClampNeg) v1) 6 0 ((X 6 0) + (1 : Int32)), rfl, hw, by show va_P _ _ _ t.heap; rw [ht]; exact hP⟩, hS.F ht⟩) hS.2.2 d_Non_putOut_34
  unfold wp_Non_putOut at hw
  refine lv_aload_n hx hb d_Non_putOut_0 rfl (lv_at hl 0 rfl) ?_
  refine va_get (D := (dC, dI)) (ci := 1) (v := .int (X 6 0)) (C := R_Non) (T := T_Non) (N := 2) hx hb hts in_Non hown hK hP (6) atC_Non rfl 0 (by decide) (hts _ gw_2) (fun _ h9 => h9) rfl d_Non_putOut_1 ?_
  refine lv_bipush (v := (8 : Int32)) hx hb d_Non_putOut_4 (by decide) ?_
  refine lv_icmp_lt (tgt := 14) hx hb d_Non_putOut_6 (by decide) (fun c2 => ?_) (fun c2 => ?_)
  · have hw := hw.1 c2
    have hl := lv_sub hl (l' := [(0, .ref (ad 6)), (1, .int a1)]) [0, 1] rfl
    exact L14 _ _ _ _ _ hw hP hS hl
  · have hw := hw.2 c2
    refine lv_aload_n hx hb d_Non_putOut_9 rfl (lv_at hl 0 rfl) ?_
    refine lv_iconst (v := (0 : Int32)) hx hb d_Non_putOut_10 (by decide) ?_
    refine va_callv (va_runV (As := [.int (0 : Int32)]) (rest := []) ⟨hx, hb, hml, hown, hts⟩ (mt_Non_removeAt l hl9 dC dI cA ad hI _ hw) (cwV 1 hts (gV gw_5 gw_6 gw_7 gw_8 gw_4) rfl rfl rfl (by decide +kernel) ⟨Nat.le_of_ble_eq_true rfl, Nat.le_of_ble_eq_true rfl⟩) ⟨zwC_blind, va_recv hK hP (ci := 1) (q0 := 6) rfl atC_Non, zwC_pre hP hS hG9⟩ rfl rfl hl.1 rfl (lv_room (Nat.le_of_ble_eq_true rfl)) d_Non_putOut_11 ⟨Nat.le_of_ble_eq_true rfl, Nat.le_of_ble_eq_true rfl⟩) hS (fun q _ h => CA_le hS.1 q h) (fun q h => CA_le hS.1 q h) (fun X3 t H locs ht hvm hw hP hz1 hk1 hS => ?_)
    have hP : va_P (dC, dI) vwCl (wdC cA ad X3) H := by rw [← ht]; exact hP
    try dsimp only at hw
    have hl := lv_sub hl (l' := [(0, .ref (ad 6)), (1, .int a1)]) [0, 1] rfl
    exact L14 _ _ _ _ _ hw hP hS hl
def ws_CA_nonce : List Cond := Cond.code y_CA_nonce c_CA_nonce 2 (Option.some Jvm.ClassFile.FieldType.int) :: GW
theorem d_CA_nonce_0 : decode c_CA_nonce 0 = .ok (.aload_n 0, 1) := by decide +kernel
theorem d_CA_nonce_1 : decode c_CA_nonce 1 = .ok (.invokevirtual 69, 3) := by decide +kernel
theorem d_CA_nonce_4 : decode c_CA_nonce 4 = .ok (.istore_n 1, 1) := by decide +kernel
theorem d_CA_nonce_5 : decode c_CA_nonce 5 = .ok (.aload_n 0, 1) := by decide +kernel
theorem d_CA_nonce_6 : decode c_CA_nonce 6 = .ok (.getfield 42, 3) := by decide +kernel
theorem d_CA_nonce_9 : decode c_CA_nonce 9 = .ok (.iload_n 1, 1) := by decide +kernel
theorem d_CA_nonce_10 : decode c_CA_nonce 10 = .ok (.invokevirtual 73, 3) := by decide +kernel
theorem d_CA_nonce_13 : decode c_CA_nonce 13 = .ok (.iload_n 1, 1) := by decide +kernel
theorem d_CA_nonce_14 : decode c_CA_nonce 14 = .ok (.ireturn, 1) := by decide +kernel
def wp_CA_nonce (post : Int32 → ST → Prop) (X : ST) : Prop := wp_CA_draw (fun (r2 : Int32) (X1 : ST) => wp_Non_putOut (fun (X3 : ST) => post r2 X3) X1 r2) X
set_option maxHeartbeats 4000000 in
set_option maxRecDepth 100000 in
theorem mt_CA_nonce (l : Launch) (hl9 : l.stackTraces = false) (dC : Nat → ClassId) (dI : Nat → Nat → Nat) (cA : Nat → ClassId) (ad : Nat → Nat) (hI : INJ ad 125) (sz : Nat) {X : ST} {post : Int32 → ST → Prop} (hw : wp_CA_nonce post X) : Met l y_CA_nonce ws_CA_nonce ({ frames := 2, cells := 0, slots := 0, locals := 43 } : Room) (va_Pc [.ref (ad 0)] (fun U => PC dC dI cA ad sz X U)) (va_Qi (fun r (u : ST) => post r u) (fun (u : ST) t => va_P (dC, dI) vwCl (wdC cA ad u) t.heap) (CA ad 125 sz)) 0 0 (CA ad 125 sz) := by
  refine Met.ofW (cc := c_CA_nonce) (maxL := 2) (ret := (some .int)) (by decide) rfl ?_
  intro p e s m args below meth c s₁ B hml hv
  obtain ⟨rfl, hsz, hP, hG⟩ := hv
  have hx := B.exec
  have hb := B.bytes
  have hr := B.returns
  have hts : ∀ w ∈ GW, w.before (([.ref (ad 0)] : List Value).toArray) s = true := fun w h => atoms_spec (ws := ws_CA_nonce) B.pre w (List.mem_cons_of_mem _ h)
  have hown : s.vm.findClass R_CA = some m.cls := findClass_of_methodNamed B.named
  have hlocks := B.notSynchronized
  subst hsz
  have hK := hG.1
  have hG9 := hG
  have hNW := hG.2.1
  have hD0 : ∀ (X : ST), va_D (CA ad 125 s.heap.size) (wdC cA ad X) := fun _ => zwC_D hI
  have hS : va_S (CA ad 125 s.heap.size) s.heap s.heap [] := va_S.rf
  have hl := lv_entry ([.ref (ad 0)]) (n := 2) (Nat.le_of_ble_eq_true rfl)
  rw [lg_entry_eq]
  generalize (lg_sl ([.ref (ad 0)]) ++ List.replicate (2 - (lg_sl ([.ref (ad 0)])).length) Slot.unset).toArray = ls at hl ⊢
  have hl : lv_has ls 2 [(0, .ref (ad 0))] := hl
  unfold wp_CA_nonce at hw
  refine lv_aload_n hx hb d_CA_nonce_0 rfl (lv_at hl 0 rfl) ?_
  refine va_calli (va_runV (As := []) (rest := []) ⟨hx, hb, hml, hown, hts⟩ (mt_CA_draw l hl9 dC dI cA ad hI _ hw) (cwV 0 hts (gV gw_10 gw_11 gw_12 gw_13 gw_9) rfl rfl rfl (by decide +kernel) ⟨Nat.le_of_ble_eq_true rfl, Nat.le_of_ble_eq_true rfl⟩) ⟨zwC_blind, va_recv hK hP (ci := 0) (q0 := 0) rfl atC_CA, zwC_pre hP hS hG9⟩ rfl rfl hl.1 rfl (lv_room (Nat.le_of_ble_eq_true rfl)) d_CA_nonce_1 ⟨Nat.le_of_ble_eq_true rfl, Nat.le_of_ble_eq_true rfl⟩) hS (fun q _ h => CA_le hS.1 q h) (fun q h => CA_le hS.1 q h) (fun r2 X1 t H locs ht hvm hw hP hz1 hk1 hS => ?_)
  have hP : va_P (dC, dI) vwCl (wdC cA ad X1) H := by rw [← ht]; exact hP
  try dsimp only at hw
  refine lv_istore_n (lv' := [(1, .int r2), (0, .ref (ad 0))]) hx hb d_CA_nonce_4 rfl hl (by decide) rfl (fun ls hl => ?_)
  refine lv_aload_n hx hb d_CA_nonce_5 rfl (lv_at hl 1 rfl) ?_
  refine va_get (D := (dC, dI)) (ci := 0) (v := .ref (ad 6)) (C := R_CA) (T := T_CA) (N := 14) hx hb hts in_CA hown hK hP (0) atC_CA rfl 11 (by decide) (hts _ gw_14) (fun _ h9 => h9) rfl d_CA_nonce_6 ?_
  refine lv_iload_n hx hb d_CA_nonce_9 rfl (lv_at hl 0 rfl) ?_
  refine va_callv (va_runV (As := [.int r2]) (rest := []) ⟨hx, hb, hml, hown, hts⟩ (mt_Non_putOut l hl9 dC dI cA ad hI _ hw) (cwV 1 hts (gV gw_16 gw_17 gw_18 gw_8 gw_15) rfl rfl rfl (by decide +kernel) ⟨Nat.le_of_ble_eq_true rfl, Nat.le_of_ble_eq_true rfl⟩) ⟨zwC_blind, va_recv hK hP (ci := 1) (q0 := 6) rfl atC_Non, zwC_pre hP hS hG9⟩ rfl rfl hl.1 rfl (lv_room (Nat.le_of_ble_eq_true rfl)) d_CA_nonce_10 ⟨Nat.le_of_ble_eq_true rfl, Nat.le_of_ble_eq_true rfl⟩) hS (fun q _ h => CA_le hS.1 q h) (fun q h => CA_le hS.1 q h) (fun X3 t H locs ht hvm hw hP hz1 hk1 hS => ?_)
  have hP : va_P (dC, dI) vwCl (wdC cA ad X3) H := by rw [← ht]; exact hP
  try dsimp only at hw
  refine lv_iload_n hx hb d_CA_nonce_13 rfl (lv_at hl 0 rfl) ?_
  exact W.iret (v := r2) hx hb hr (fun t ht _ => ⟨⟨r2, X3, rfl, hw, by show va_P _ _ _ t.heap; rw [ht]; exact hP⟩, hS.F ht⟩) hS.2.2 d_CA_nonce_14
def ws_CA_isKey : List Cond := Cond.code y_CA_isKey c_CA_isKey 1 (Option.some Jvm.ClassFile.FieldType.boolean) :: GW
theorem d_CA_isKey_0 : decode c_CA_isKey 0 = .ok (.iload_n 0, 1) := by decide +kernel
theorem d_CA_isKey_1 : decode c_CA_isKey 1 = .ok (.sipush 1000, 3) := by decide +kernel
theorem d_CA_isKey_4 : decode c_CA_isKey 4 = .ok (.if_icmp .lt 14, 3) := by decide +kernel
theorem d_CA_isKey_7 : decode c_CA_isKey 7 = .ok (.iload_n 0, 1) := by decide +kernel
theorem d_CA_isKey_8 : decode c_CA_isKey 8 = .ok (.sipush 32767, 3) := by decide +kernel
theorem d_CA_isKey_11 : decode c_CA_isKey 11 = .ok (.if_icmp .gt 7, 3) := by decide +kernel
theorem d_CA_isKey_14 : decode c_CA_isKey 14 = .ok (.iconst 1, 1) := by decide +kernel
theorem d_CA_isKey_15 : decode c_CA_isKey 15 = .ok (.goto 4, 3) := by decide +kernel
theorem d_CA_isKey_18 : decode c_CA_isKey 18 = .ok (.iconst 0, 1) := by decide +kernel
theorem d_CA_isKey_19 : decode c_CA_isKey 19 = .ok (.ireturn, 1) := by decide +kernel
def wp_CA_isKey (post : Int32 → ST → Prop) (X : ST) (a1 : Int32) : Prop := ((a1 < (1000 : Int32) → post (0 : Int32) X) ∧ (¬ a1 < (1000 : Int32) → (((32767 : Int32) < a1 → post (0 : Int32) X) ∧ (¬ (32767 : Int32) < a1 → post (1 : Int32) X))))
set_option maxHeartbeats 4000000 in
set_option maxRecDepth 100000 in
theorem mt_CA_isKey (l : Launch) (hl9 : l.stackTraces = false) (dC : Nat → ClassId) (dI : Nat → Nat → Nat) (cA : Nat → ClassId) (ad : Nat → Nat) (hI : INJ ad 125) (sz : Nat) {X : ST} {a1 : Int32} {post : Int32 → ST → Prop} (hw : wp_CA_isKey post X a1) : Met l y_CA_isKey ws_CA_isKey ({ frames := 0, cells := 0, slots := 0, locals := 0 } : Room) (va_Pc [.int a1] (fun U => PC dC dI cA ad sz X U)) (va_Qi (fun r (u : ST) => post r u) (fun (u : ST) t => va_P (dC, dI) vwCl (wdC cA ad u) t.heap) (CA ad 125 sz)) 0 0 (CA ad 125 sz) := by
  refine Met.ofW (cc := c_CA_isKey) (maxL := 1) (ret := (some .boolean)) (by decide) rfl ?_
  intro p e s m args below meth c s₁ B hml hv
  obtain ⟨rfl, hsz, hP, hG⟩ := hv
  have hx := B.exec
  have hb := B.bytes
  have hr := B.returns
  have hts : ∀ w ∈ GW, w.before (([.int a1] : List Value).toArray) s = true := fun w h => atoms_spec (ws := ws_CA_isKey) B.pre w (List.mem_cons_of_mem _ h)
  have hown : s.vm.findClass R_CA = some m.cls := findClass_of_methodNamed B.named
  have hlocks := B.notSynchronized
  subst hsz
  have hK := hG.1
  have hG9 := hG
  have hNW := hG.2.1
  have hD0 : ∀ (X : ST), va_D (CA ad 125 s.heap.size) (wdC cA ad X) := fun _ => zwC_D hI
  have hS : va_S (CA ad 125 s.heap.size) s.heap s.heap [] := va_S.rf
  have hl := lv_entry ([.int a1]) (n := 1) (Nat.le_of_ble_eq_true rfl)
  rw [lg_entry_eq]
  generalize (lg_sl ([.int a1]) ++ List.replicate (1 - (lg_sl ([.int a1])).length) Slot.unset).toArray = ls at hl ⊢
  have hl : lv_has ls 1 [(0, .int a1)] := hl
  unfold wp_CA_isKey at hw
  refine lv_iload_n hx hb d_CA_isKey_0 rfl (lv_at hl 0 rfl) ?_
  refine lv_sipush (v := (1000 : Int32)) hx hb d_CA_isKey_1 (by decide) ?_
  refine lv_icmp_lt (tgt := 18) hx hb d_CA_isKey_4 (by decide) (fun c1 => ?_) (fun c1 => ?_)
  · have hw := hw.1 c1
    refine lv_iconst (v := (0 : Int32)) hx hb d_CA_isKey_18 (by decide) ?_
    exact W.zret (v := (0 : Int32)) hx hb hr (by decide) (fun t ht _ => ⟨⟨(0 : Int32), X, rfl, hw, by show va_P _ _ _ t.heap; rw [ht]; exact hP⟩, hS.F ht⟩) hS.2.2 d_CA_isKey_19
  · have hw := hw.2 c1
    refine lv_iload_n hx hb d_CA_isKey_7 rfl (lv_at hl 0 rfl) ?_
    refine lv_sipush (v := (32767 : Int32)) hx hb d_CA_isKey_8 (by decide) ?_
    refine lv_icmp_gt (tgt := 18) hx hb d_CA_isKey_11 (by decide) (fun c2 => ?_) (fun c2 => ?_)
    · have hw := hw.1 c2
      refine lv_iconst (v := (0 : Int32)) hx hb d_CA_isKey_18 (by decide) ?_
      exact W.zret (v := (0 : Int32)) hx hb hr (by decide) (fun t ht _ => ⟨⟨(0 : Int32), X, rfl, hw, by show va_P _ _ _ t.heap; rw [ht]; exact hP⟩, hS.F ht⟩) hS.2.2 d_CA_isKey_19
    · have hw := hw.2 c2
      refine lv_iconst (v := (1 : Int32)) hx hb d_CA_isKey_14 (by decide) ?_
      refine lv_goto (tgt := 19) hx hb d_CA_isKey_15 (by decide) ?_
      exact W.zret (v := (1 : Int32)) hx hb hr (by decide) (fun t ht _ => ⟨⟨(1 : Int32), X, rfl, hw, by show va_P _ _ _ t.heap; rw [ht]; exact hP⟩, hS.F ht⟩) hS.2.2 d_CA_isKey_19
def ws_CA_powerModulo : List Cond := Cond.code y_CA_powerModulo c_CA_powerModulo 6 (Option.some Jvm.ClassFile.FieldType.int) :: GW
theorem d_CA_powerModulo_0 : decode c_CA_powerModulo 0 = .ok (.iconst 1, 1) := by decide +kernel
theorem d_CA_powerModulo_1 : decode c_CA_powerModulo 1 = .ok (.istore_n 3, 1) := by decide +kernel
theorem d_CA_powerModulo_2 : decode c_CA_powerModulo 2 = .ok (.iload_n 0, 1) := by decide +kernel
theorem d_CA_powerModulo_3 : decode c_CA_powerModulo 3 = .ok (.iload_n 2, 1) := by decide +kernel
theorem d_CA_powerModulo_4 : decode c_CA_powerModulo 4 = .ok (.irem, 1) := by decide +kernel
theorem d_CA_powerModulo_5 : decode c_CA_powerModulo 5 = .ok (.istore 4, 2) := by decide +kernel
theorem d_CA_powerModulo_7 : decode c_CA_powerModulo 7 = .ok (.iload_n 1, 1) := by decide +kernel
theorem d_CA_powerModulo_8 : decode c_CA_powerModulo 8 = .ok (.istore 5, 2) := by decide +kernel
theorem d_CA_powerModulo_10 : decode c_CA_powerModulo 10 = .ok (.iload 5, 2) := by decide +kernel
theorem d_CA_powerModulo_12 : decode c_CA_powerModulo 12 = .ok (.ifCond .le 36, 3) := by decide +kernel
theorem d_CA_powerModulo_15 : decode c_CA_powerModulo 15 = .ok (.iload 5, 2) := by decide +kernel
theorem d_CA_powerModulo_17 : decode c_CA_powerModulo 17 = .ok (.iconst 1, 1) := by decide +kernel
theorem d_CA_powerModulo_18 : decode c_CA_powerModulo 18 = .ok (.iand, 1) := by decide +kernel
theorem d_CA_powerModulo_19 : decode c_CA_powerModulo 19 = .ok (.iconst 1, 1) := by decide +kernel
theorem d_CA_powerModulo_20 : decode c_CA_powerModulo 20 = .ok (.if_icmp .ne 10, 3) := by decide +kernel
theorem d_CA_powerModulo_23 : decode c_CA_powerModulo 23 = .ok (.iload_n 3, 1) := by decide +kernel
theorem d_CA_powerModulo_24 : decode c_CA_powerModulo 24 = .ok (.iload 4, 2) := by decide +kernel
theorem d_CA_powerModulo_26 : decode c_CA_powerModulo 26 = .ok (.imul, 1) := by decide +kernel
theorem d_CA_powerModulo_27 : decode c_CA_powerModulo 27 = .ok (.iload_n 2, 1) := by decide +kernel
theorem d_CA_powerModulo_28 : decode c_CA_powerModulo 28 = .ok (.irem, 1) := by decide +kernel
theorem d_CA_powerModulo_29 : decode c_CA_powerModulo 29 = .ok (.istore_n 3, 1) := by decide +kernel
theorem d_CA_powerModulo_30 : decode c_CA_powerModulo 30 = .ok (.iload 4, 2) := by decide +kernel
theorem d_CA_powerModulo_32 : decode c_CA_powerModulo 32 = .ok (.iload 4, 2) := by decide +kernel
theorem d_CA_powerModulo_34 : decode c_CA_powerModulo 34 = .ok (.imul, 1) := by decide +kernel
theorem d_CA_powerModulo_35 : decode c_CA_powerModulo 35 = .ok (.iload_n 2, 1) := by decide +kernel
theorem d_CA_powerModulo_36 : decode c_CA_powerModulo 36 = .ok (.irem, 1) := by decide +kernel
theorem d_CA_powerModulo_37 : decode c_CA_powerModulo 37 = .ok (.istore 4, 2) := by decide +kernel
theorem d_CA_powerModulo_39 : decode c_CA_powerModulo 39 = .ok (.iload 5, 2) := by decide +kernel
theorem d_CA_powerModulo_41 : decode c_CA_powerModulo 41 = .ok (.iconst 1, 1) := by decide +kernel
theorem d_CA_powerModulo_42 : decode c_CA_powerModulo 42 = .ok (.ishr, 1) := by decide +kernel
theorem d_CA_powerModulo_43 : decode c_CA_powerModulo 43 = .ok (.istore 5, 2) := by decide +kernel
theorem d_CA_powerModulo_45 : decode c_CA_powerModulo 45 = .ok (.goto (-35), 3) := by decide +kernel
theorem d_CA_powerModulo_48 : decode c_CA_powerModulo 48 = .ok (.iload_n 3, 1) := by decide +kernel
theorem d_CA_powerModulo_49 : decode c_CA_powerModulo 49 = .ok (.ireturn, 1) := by decide +kernel
def wq_CA_powerModulo_30 (post : Int32 → ST → Prop) (J10 : Int32 → Int32 → Int32 → ST → Prop) (v2 : Int32) (v3 : Int32) (v4 : Int32) (v5 : Int32) (X : ST) : Prop := (¬ v2 = 0 ∧ J10 v3 ((v4 * v4) - (v4 * v4) / v2 * v2) (v5 >>> ((1 : Int32) &&& 31)) X)
def wq_CA_powerModulo_10 (post : Int32 → ST → Prop) (v2 : Int32) : Nat → Int32 → Int32 → Int32 → ST → Prop
  | 0 => fun _ _ _ _ => False
  | n + 1 => fun v3 v4 v5 X => ((v5 ≤ 0 → post v3 X) ∧ (¬ v5 ≤ 0 → (((v5 &&& (1 : Int32)) = (1 : Int32) → (¬ v2 = 0 ∧ wq_CA_powerModulo_30 post (wq_CA_powerModulo_10 post v2 n) v2 ((v3 * v4) - (v3 * v4) / v2 * v2) v4 v5 X)) ∧ (¬ (v5 &&& (1 : Int32)) = (1 : Int32) → wq_CA_powerModulo_30 post (wq_CA_powerModulo_10 post v2 n) v2 v3 v4 v5 X))))
def wp_CA_powerModulo (post : Int32 → ST → Prop) (X : ST) (a1 : Int32) (a2 : Int32) (a3 : Int32) : Prop := (¬ a3 = 0 ∧ (∃ n9, wq_CA_powerModulo_10 post a3 n9 (1 : Int32) (a1 - a1 / a3 * a3) a2 X))
set_option maxHeartbeats 4000000 in
set_option maxRecDepth 100000 in
theorem mt_CA_powerModulo (l : Launch) (hl9 : l.stackTraces = false) (dC : Nat → ClassId) (dI : Nat → Nat → Nat) (cA : Nat → ClassId) (ad : Nat → Nat) (hI : INJ ad 125) (sz : Nat) {X : ST} {a1 : Int32} {a2 : Int32} {a3 : Int32} {post : Int32 → ST → Prop} (hw : wp_CA_powerModulo post X a1 a2 a3) : Met l y_CA_powerModulo ws_CA_powerModulo ({ frames := 0, cells := 0, slots := 0, locals := 0 } : Room) (va_Pc [.int a1, .int a2, .int a3] (fun U => PC dC dI cA ad sz X U)) (va_Qi (fun r (u : ST) => post r u) (fun (u : ST) t => va_P (dC, dI) vwCl (wdC cA ad u) t.heap) (CA ad 125 sz)) 0 0 (CA ad 125 sz) := by
  refine Met.ofW (cc := c_CA_powerModulo) (maxL := 6) (ret := (some .int)) (by decide) rfl ?_
  intro p e s m args below meth c s₁ B hml hv
  obtain ⟨rfl, hsz, hP, hG⟩ := hv
  have hx := B.exec
  have hb := B.bytes
  have hr := B.returns
  have hts : ∀ w ∈ GW, w.before (([.int a1, .int a2, .int a3] : List Value).toArray) s = true := fun w h => atoms_spec (ws := ws_CA_powerModulo) B.pre w (List.mem_cons_of_mem _ h)
  have hown : s.vm.findClass R_CA = some m.cls := findClass_of_methodNamed B.named
  have hlocks := B.notSynchronized
  subst hsz
  have hK := hG.1
  have hG9 := hG
  have hNW := hG.2.1
  have hD0 : ∀ (X : ST), va_D (CA ad 125 s.heap.size) (wdC cA ad X) := fun _ => zwC_D hI
  have hS : va_S (CA ad 125 s.heap.size) s.heap s.heap [] := va_S.rf
  have hl := lv_entry ([.int a1, .int a2, .int a3]) (n := 6) (Nat.le_of_ble_eq_true rfl)
  rw [lg_entry_eq]
  generalize (lg_sl ([.int a1, .int a2, .int a3]) ++ List.replicate (6 - (lg_sl ([.int a1, .int a2, .int a3])).length) Slot.unset).toArray = ls at hl ⊢
  have hl : lv_has ls 6 [(0, .int a1), (1, .int a2), (2, .int a3)] := hl
  have L30 : ∀ (v2 : Int32), ∀ (J10 : Int32 → Int32 → Int32 → ST → Prop), (∀ (v3 : Int32) (v4 : Int32) (v5 : Int32) (X : ST) (H : Heap) (locs : List Loc) (ls : Array Slot), J10 v3 v4 v5 X → va_P (dC, dI) vwCl (wdC cA ad X) H → va_S (CA ad 125 s.heap.size) s.heap H locs → lv_has ls 6 [(2, .int v2), (3, .int v3), (4, .int v4), (5, .int v5)] → W p l e (headSpec ws_CA_powerModulo ({ frames := 0, cells := 0, slots := 0, locals := 0 } : Room)).room s m (([.int a1, .int a2, .int a3] : List Value).toArray) below meth c H locs 0 0 (MQ below (va_Qi (fun r (u : ST) => post r u) (fun (u : ST) t => va_P (dC, dI) vwCl (wdC cA ad u) t.heap) (CA ad 125 s.heap.size)) (([.int a1, .int a2, .int a3] : List Value).toArray) s 0 0 (CA ad 125 s.heap.size)) (F0 m 10 ls [])) → ∀ (v3 : Int32) (v4 : Int32) (v5 : Int32) (X : ST) (H : Heap) (locs : List Loc) (ls : Array Slot), wq_CA_powerModulo_30 post J10 v2 v3 v4 v5 X → va_P (dC, dI) vwCl (wdC cA ad X) H → va_S (CA ad 125 s.heap.size) s.heap H locs → lv_has ls 6 [(2, .int v2), (3, .int v3), (4, .int v4), (5, .int v5)] → W p l e (headSpec ws_CA_powerModulo ({ frames := 0, cells := 0, slots := 0, locals := 0 } : Room)).room s m (([.int a1, .int a2, .int a3] : List Value).toArray) below meth c H locs 0 0 (MQ below (va_Qi (fun r (u : ST) => post r u) (fun (u : ST) t => va_P (dC, dI) vwCl (wdC cA ad u) t.heap) (CA ad 125 s.heap.size)) (([.int a1, .int a2, .int a3] : List Value).toArray) s 0 0 (CA ad 125 s.heap.size)) (F0 m 30 ls []) := by
    intro v2 J10 hJ10 v3 v4 v5 X H locs ls hw hP hS hl
    unfold wq_CA_powerModulo_30 at hw
    refine lv_iload hx hb d_CA_powerModulo_30 (lv_at hl 2 rfl) ?_
    refine lv_iload hx hb d_CA_powerModulo_32 (lv_at hl 2 rfl) ?_
    refine lv_imul hx hb d_CA_powerModulo_34 ?_
    refine lv_iload_n hx hb d_CA_powerModulo_35 rfl (lv_at hl 0 rfl) ?_
    obtain ⟨h1, hw⟩ := hw
    refine lv_irem hx hb d_CA_powerModulo_36 h1 ?_
    refine lv_istore (lv' := [(4, .int ((v4 * v4) - (v4 * v4) / v2 * v2)), (2, .int v2), (3, .int v3), (5, .int v5)]) hx hb d_CA_powerModulo_37 hl (by decide) rfl (fun ls hl => ?_)
    refine lv_iload hx hb d_CA_powerModulo_39 (lv_at hl 3 rfl) ?_
    refine lv_iconst (v := (1 : Int32)) hx hb d_CA_powerModulo_41 (by decide) ?_
    refine lv_ishr hx hb d_CA_powerModulo_42 ?_
    refine lv_istore (lv' := [(5, .int (v5 >>> ((1 : Int32) &&& 31))), (4, .int ((v4 * v4) - (v4 * v4) / v2 * v2)), (2, .int v2), (3, .int v3)]) hx hb d_CA_powerModulo_43 hl (by decide) rfl (fun ls hl => ?_)
    refine lv_goto (tgt := 10) hx hb d_CA_powerModulo_45 (by decide) ?_
    have hl := lv_sub hl (l' := [(2, .int v2), (3, .int v3), (4, .int ((v4 * v4) - (v4 * v4) / v2 * v2)), (5, .int (v5 >>> ((1 : Int32) &&& 31)))]) [2, 3, 1, 0] rfl
    exact hJ10 _ _ _ _ _ _ _ hw hP hS hl
  have L10 : ∀ (v2 : Int32), ∀ (n : Nat), ∀ (v3 : Int32) (v4 : Int32) (v5 : Int32) (X : ST) (H : Heap) (locs : List Loc) (ls : Array Slot), wq_CA_powerModulo_10 post v2 n v3 v4 v5 X → va_P (dC, dI) vwCl (wdC cA ad X) H → va_S (CA ad 125 s.heap.size) s.heap H locs → lv_has ls 6 [(2, .int v2), (3, .int v3), (4, .int v4), (5, .int v5)] → W p l e (headSpec ws_CA_powerModulo ({ frames := 0, cells := 0, slots := 0, locals := 0 } : Room)).room s m (([.int a1, .int a2, .int a3] : List Value).toArray) below meth c H locs 0 0 (MQ below (va_Qi (fun r (u : ST) => post r u) (fun (u : ST) t => va_P (dC, dI) vwCl (wdC cA ad u) t.heap) (CA ad 125 s.heap.size)) (([.int a1, .int a2, .int a3] : List Value).toArray) s 0 0 (CA ad 125 s.heap.size)) (F0 m 10 ls []) := by
    intro v2 n
    induction n with
    | zero => intro v3 v4 v5 X H locs ls hw hP hS hl; exact False.elim hw
    | succ n ih =>
      intro v3 v4 v5 X H locs ls hw hP hS hl
      dsimp only [wq_CA_powerModulo_10] at hw
      refine lv_iload hx hb d_CA_powerModulo_10 (lv_at hl 3 rfl) ?_
      refine lv_if_le (tgt := 48) hx hb d_CA_powerModulo_12 (by decide) (fun c2 => ?_) (fun c2 => ?_)
      · have hw := hw.1 c2
        refine lv_iload_n hx hb d_CA_powerModulo_48 rfl (lv_at hl 1 rfl) ?_
        exact W.iret (v := v3) hx hb hr (fun t ht _ => ⟨⟨v3, X, rfl, hw, by show va_P _ _ _ t.heap; rw [ht]; exact hP⟩, hS.F ht⟩) hS.2.2 d_CA_powerModulo_49
      · have hw := hw.2 c2
        refine lv_iload hx hb d_CA_powerModulo_15 (lv_at hl 3 rfl) ?_
        refine lv_iconst (v := (1 : Int32)) hx hb d_CA_powerModulo_17 (by decide) ?_
        refine lv_iand hx hb d_CA_powerModulo_18 ?_
        refine lv_iconst (v := (1 : Int32)) hx hb d_CA_powerModulo_19 (by decide) ?_
        refine lv_icmp_ne (tgt := 30) hx hb d_CA_powerModulo_20 (by decide) (fun c3 => ?_) (fun c3 => ?_)
        · have hw := hw.2 c3
          have hl := lv_sub hl (l' := [(2, .int v2), (3, .int v3), (4, .int v4), (5, .int v5)]) [0, 1, 2, 3] rfl
          exact L30 _ (wq_CA_powerModulo_10 post v2 n) ih _ _ _ _ _ _ _ hw hP hS hl
        · have hw := hw.1 c3
          refine lv_iload_n hx hb d_CA_powerModulo_23 rfl (lv_at hl 1 rfl) ?_
          refine lv_iload hx hb d_CA_powerModulo_24 (lv_at hl 2 rfl) ?_
          refine lv_imul hx hb d_CA_powerModulo_26 ?_
          refine lv_iload_n hx hb d_CA_powerModulo_27 rfl (lv_at hl 0 rfl) ?_
          obtain ⟨h4, hw⟩ := hw
          refine lv_irem hx hb d_CA_powerModulo_28 h4 ?_
          refine lv_istore_n (lv' := [(3, .int ((v3 * v4) - (v3 * v4) / v2 * v2)), (2, .int v2), (4, .int v4), (5, .int v5)]) hx hb d_CA_powerModulo_29 rfl hl (by decide) rfl (fun ls hl => ?_)
          have hl := lv_sub hl (l' := [(2, .int v2), (3, .int ((v3 * v4) - (v3 * v4) / v2 * v2)), (4, .int v4), (5, .int v5)]) [1, 0, 2, 3] rfl
          exact L30 _ (wq_CA_powerModulo_10 post v2 n) ih _ _ _ _ _ _ _ hw hP hS hl
  unfold wp_CA_powerModulo at hw
  refine lv_iconst (v := (1 : Int32)) hx hb d_CA_powerModulo_0 (by decide) ?_
  refine lv_istore_n (lv' := [(3, .int (1 : Int32)), (0, .int a1), (1, .int a2), (2, .int a3)]) hx hb d_CA_powerModulo_1 rfl hl (by decide) rfl (fun ls hl => ?_)
  refine lv_iload_n hx hb d_CA_powerModulo_2 rfl (lv_at hl 1 rfl) ?_
  refine lv_iload_n hx hb d_CA_powerModulo_3 rfl (lv_at hl 3 rfl) ?_
  obtain ⟨h5, hw⟩ := hw
  refine lv_irem hx hb d_CA_powerModulo_4 h5 ?_
  refine lv_istore (lv' := [(4, .int (a1 - a1 / a3 * a3)), (3, .int (1 : Int32)), (0, .int a1), (1, .int a2), (2, .int a3)]) hx hb d_CA_powerModulo_5 hl (by decide) rfl (fun ls hl => ?_)
  refine lv_iload_n hx hb d_CA_powerModulo_7 rfl (lv_at hl 3 rfl) ?_
  refine lv_istore (lv' := [(5, .int a2), (4, .int (a1 - a1 / a3 * a3)), (3, .int (1 : Int32)), (0, .int a1), (1, .int a2), (2, .int a3)]) hx hb d_CA_powerModulo_8 hl (by decide) rfl (fun ls hl => ?_)
  have hl := lv_sub hl (l' := [(2, .int a3), (3, .int (1 : Int32)), (4, .int (a1 - a1 / a3 * a3)), (5, .int a2)]) [5, 2, 1, 0] rfl
  obtain ⟨n9, hw⟩ := hw
  exact L10 _ n9 _ _ _ _ _ _ _ hw hP hS hl
