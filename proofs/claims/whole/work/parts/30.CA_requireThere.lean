def ws_CA_requireThere : List Cond := Cond.code y_CA_requireThere c_CA_requireThere 4 (Option.none : Option Jvm.ClassFile.FieldType) :: GW
theorem d_CA_requireThere_0 : decode c_CA_requireThere 0 = .ok (.iload_n 1, 1) := by decide +kernel
theorem d_CA_requireThere_1 : decode c_CA_requireThere 1 = .ok (.iconst 3, 1) := by decide +kernel
theorem d_CA_requireThere_2 : decode c_CA_requireThere 2 = .ok (.if_icmp .ne 12, 3) := by decide +kernel
theorem d_CA_requireThere_5 : decode c_CA_requireThere 5 = .ok (.iconst 2, 1) := by decide +kernel
theorem d_CA_requireThere_6 : decode c_CA_requireThere 6 = .ok (.aload_n 0, 1) := by decide +kernel
theorem d_CA_requireThere_7 : decode c_CA_requireThere 7 = .ok (.getfield 136, 3) := by decide +kernel
theorem d_CA_requireThere_10 : decode c_CA_requireThere 10 = .ok (.imul, 1) := by decide +kernel
theorem d_CA_requireThere_11 : decode c_CA_requireThere 11 = .ok (.goto 8, 3) := by decide +kernel
theorem d_CA_requireThere_14 : decode c_CA_requireThere 14 = .ok (.aload_n 0, 1) := by decide +kernel
theorem d_CA_requireThere_15 : decode c_CA_requireThere 15 = .ok (.iload_n 1, 1) := by decide +kernel
theorem d_CA_requireThere_16 : decode c_CA_requireThere 16 = .ok (.invokevirtual 297, 3) := by decide +kernel
theorem d_CA_requireThere_19 : decode c_CA_requireThere 19 = .ok (.istore_n 3, 1) := by decide +kernel
theorem d_CA_requireThere_20 : decode c_CA_requireThere 20 = .ok (.iload_n 2, 1) := by decide +kernel
theorem d_CA_requireThere_21 : decode c_CA_requireThere 21 = .ok (.ifCond .lt 8, 3) := by decide +kernel
theorem d_CA_requireThere_24 : decode c_CA_requireThere 24 = .ok (.iload_n 2, 1) := by decide +kernel
theorem d_CA_requireThere_25 : decode c_CA_requireThere 25 = .ok (.iload_n 3, 1) := by decide +kernel
theorem d_CA_requireThere_26 : decode c_CA_requireThere 26 = .ok (.if_icmp .lt 11, 3) := by decide +kernel
theorem d_CA_requireThere_29 : decode c_CA_requireThere 29 = .ok (.new 177, 3) := by decide +kernel
theorem d_CA_requireThere_32 : decode c_CA_requireThere 32 = .ok (.dup, 1) := by decide +kernel
theorem d_CA_requireThere_33 : decode c_CA_requireThere 33 = .ok (.invokespecial 179, 3) := by decide +kernel
theorem d_CA_requireThere_36 : decode c_CA_requireThere 36 = .ok (.athrow, 1) := by decide +kernel
theorem d_CA_requireThere_37 : decode c_CA_requireThere 37 = .ok (.return_, 1) := by decide +kernel
def wq_CA_requireThere_19 (post : ST → Prop) (px : String → ST → Prop) (s0 : Int32) (v2 : Int32) (X : ST) : Prop := ((v2 < 0 → px "java/util/NoSuchElementException" X) ∧ (¬ v2 < 0 → ((v2 < s0 → post X) ∧ (¬ v2 < s0 → px "java/util/NoSuchElementException" X))))
def wp_CA_requireThere (post : ST → Prop) (px : String → ST → Prop) (X : ST) (a1 : Int32) (a2 : Int32) : Prop := ((a1 = (3 : Int32) → wq_CA_requireThere_19 post px ((2 : Int32) * (X 4 0)) a2 X) ∧ (¬ a1 = (3 : Int32) → wp_CA_there (fun (r5 : Int32) (X4 : ST) => wq_CA_requireThere_19 post px r5 a2 X4) X a1))
set_option maxHeartbeats 4000000 in
set_option maxRecDepth 100000 in
theorem mt_CA_requireThere (l : Launch) (hl9 : l.stackTraces = false) (dC : Nat → ClassId) (dI : Nat → Nat → Nat) (cA : Nat → ClassId) (ad : Nat → Nat) (hI : INJ ad 125) (sz : Nat) {X : ST} {a1 : Int32} {a2 : Int32} {post : ST → Prop} {px : String → ST → Prop} (hw : wp_CA_requireThere post px X a1 a2) : xt_Met l y_CA_requireThere ws_CA_requireThere ({ frames := 6, cells := 1, slots := 6, locals := 90 } : Room) (va_Pc [.ref (ad 0), .int a1, .int a2] (fun U => PC dC dI cA ad sz X U)) (va_Qv (fun (u : ST) => post u) (fun (u : ST) t => va_P (dC, dI) vwCl (wdC cA ad u) t.heap) (CA ad 125 sz)) (xt_X (fun (u : String × ST) => px u.1 u.2) (fun E (u : String × ST) t => u.1 = E ∧ va_P (dC, dI) vwCl (wdC cA ad u.2) t.heap) (CA ad 125 sz)) 1 6 (CA ad 125 sz) := by
  refine xt_ofW (cc := c_CA_requireThere) (maxL := 4) (ret := none) (by decide) rfl ?_
  intro p e s m args below meth c s₁ B hml hEx hv
  obtain ⟨rfl, hsz, hP, hG⟩ := hv
  have hx := B.exec
  have hb := B.bytes
  have hr := B.returns
  have hts : ∀ w ∈ GW, w.before (([.ref (ad 0), .int a1, .int a2] : List Value).toArray) s = true := fun w h => atoms_spec (ws := ws_CA_requireThere) B.pre w (List.mem_cons_of_mem _ h)
  have hown : s.vm.findClass R_CA = some m.cls := findClass_of_methodNamed B.named
  have hlocks := B.notSynchronized
  subst hsz
  have hK := hG.1
  have hG9 := hG
  have hNW := hG.2.1
  have hD0 : ∀ (X : ST), va_D (CA ad 125 s.heap.size) (wdC cA ad X) := fun _ => zwC_D hI
  have hS : va_S (CA ad 125 s.heap.size) s.heap s.heap [] := va_S.rf
  have hl := lv_entry ([.ref (ad 0), .int a1, .int a2]) (n := 4) (Nat.le_of_ble_eq_true rfl)
  rw [lg_entry_eq]
  generalize (lg_sl ([.ref (ad 0), .int a1, .int a2]) ++ List.replicate (4 - (lg_sl ([.ref (ad 0), .int a1, .int a2])).length) Slot.unset).toArray = ls at hl ⊢
  have hl : lv_has ls 4 [(0, .ref (ad 0)), (1, .int a1), (2, .int a2)] := hl
  have L19 : ∀ (s0 : Int32) (v2 : Int32) (X : ST) (H : Heap) (locs : List Loc) (ls : Array Slot), wq_CA_requireThere_19 post px s0 v2 X → va_P (dC, dI) vwCl (wdC cA ad X) H → va_S (CA ad 125 s.heap.size) s.heap H locs → lv_has ls 4 [(2, .int v2)] → W p l e (headSpec ws_CA_requireThere ({ frames := 6, cells := 1, slots := 6, locals := 90 } : Room)).room s m (([.ref (ad 0), .int a1, .int a2] : List Value).toArray) below meth c H locs 0 0 (xt_Q below (va_Qv (fun (u : ST) => post u) (fun (u : ST) t => va_P (dC, dI) vwCl (wdC cA ad u) t.heap) (CA ad 125 s.heap.size)) (xt_X (fun (u : String × ST) => px u.1 u.2) (fun E (u : String × ST) t => u.1 = E ∧ va_P (dC, dI) vwCl (wdC cA ad u.2) t.heap) (CA ad 125 s.heap.size)) (([.ref (ad 0), .int a1, .int a2] : List Value).toArray) s 1 6 (CA ad 125 s.heap.size)) (F0 m 19 ls [.int s0]) := by
    intro s0 v2 X H locs ls hw hP hS hl
    unfold wq_CA_requireThere_19 at hw
    refine lv_istore_n (lv' := [(3, .int s0), (2, .int v2)]) hx hb d_CA_requireThere_19 rfl hl (by decide) rfl (fun ls hl => ?_)
    refine lv_iload_n hx hb d_CA_requireThere_20 rfl (lv_at hl 1 rfl) ?_
    refine lv_if_lt (tgt := 29) hx hb d_CA_requireThere_21 (by decide) (fun c1 => ?_) (fun c1 => ?_)
    · have hw := hw.1 c1
      exact xt_throw0 (cls := "java/util/NoSuchElementException") (names := ["java/lang/RuntimeException", "java/lang/Exception"]) (ic := 179) hx hb hl9 hown (by decide +kernel) (by decide +kernel) (hts _ gw_64) (hts _ gw_65) (hts _ gw_66) (xc_hat xa_3 hts hG9 hP hS) (hl.1.trans hml.symm) d_CA_requireThere_29 d_CA_requireThere_32 d_CA_requireThere_33 d_CA_requireThere_36 (fun x hx => (hEx x hx).elim) hlocks (fun t ha hz hk => ⟨("java/util/NoSuchElementException", X), hw, ⟨rfl, zw_keep hP hk⟩, zw_F hS hz hk⟩) hS.2.2 (Nat.le_of_ble_eq_true rfl) (Nat.le_of_ble_eq_true rfl) (Nat.le_of_ble_eq_true rfl) (Nat.le_of_ble_eq_true rfl) (Nat.le_of_ble_eq_true rfl) (Nat.le_of_ble_eq_true rfl)
    · have hw := hw.2 c1
      refine lv_iload_n hx hb d_CA_requireThere_24 rfl (lv_at hl 1 rfl) ?_
      refine lv_iload_n hx hb d_CA_requireThere_25 rfl (lv_at hl 0 rfl) ?_
      refine lv_icmp_lt (tgt := 37) hx hb d_CA_requireThere_26 (by decide) (fun c2 => ?_) (fun c2 => ?_)
      · have hw := hw.1 c2
        refine xt_ret ?_
        refine W.widen (k := 1) (n := 6) (Nat.le_of_ble_eq_true rfl) (Nat.le_of_ble_eq_true rfl) ?_
        exact W.vret hx hb hr (fun t ht _ => ⟨⟨X, rfl, hw, by show va_P _ _ _ t.heap; rw [ht]; exact hP⟩, hS.F ht⟩) hS.2.2 d_CA_requireThere_37
      · have hw := hw.2 c2
        exact xt_throw0 (cls := "java/util/NoSuchElementException") (names := ["java/lang/RuntimeException", "java/lang/Exception"]) (ic := 179) hx hb hl9 hown (by decide +kernel) (by decide +kernel) (hts _ gw_64) (hts _ gw_65) (hts _ gw_66) (xc_hat xa_3 hts hG9 hP hS) (hl.1.trans hml.symm) d_CA_requireThere_29 d_CA_requireThere_32 d_CA_requireThere_33 d_CA_requireThere_36 (fun x hx => (hEx x hx).elim) hlocks (fun t ha hz hk => ⟨("java/util/NoSuchElementException", X), hw, ⟨rfl, zw_keep hP hk⟩, zw_F hS hz hk⟩) hS.2.2 (Nat.le_of_ble_eq_true rfl) (Nat.le_of_ble_eq_true rfl) (Nat.le_of_ble_eq_true rfl) (Nat.le_of_ble_eq_true rfl) (Nat.le_of_ble_eq_true rfl) (Nat.le_of_ble_eq_true rfl)
  unfold wp_CA_requireThere at hw
  refine lv_iload_n hx hb d_CA_requireThere_0 rfl (lv_at hl 1 rfl) ?_
  refine lv_iconst (v := (3 : Int32)) hx hb d_CA_requireThere_1 (by decide) ?_
  refine lv_icmp_ne (tgt := 14) hx hb d_CA_requireThere_2 (by decide) (fun c3 => ?_) (fun c3 => ?_)
  · have hw := hw.2 c3
    refine lv_aload_n hx hb d_CA_requireThere_14 rfl (lv_at hl 0 rfl) ?_
    refine lv_iload_n hx hb d_CA_requireThere_15 rfl (lv_at hl 1 rfl) ?_
    refine va_calli (va_runV (As := [.int a1]) (rest := []) ⟨hx, hb, hml, hown, hts⟩ (mt_CA_there l hl9 dC dI cA ad hI _ hw) (cwV 1 hts (gV gw_248 gw_249 gw_250 gw_13 gw_247) rfl rfl rfl (by decide +kernel) ⟨Nat.le_of_ble_eq_true rfl, Nat.le_of_ble_eq_true rfl⟩) ⟨zwC_blind, va_recv hK hP (ci := 0) (q0 := 0) rfl atC_CA, zwC_pre hP hS hG9⟩ rfl rfl hl.1 rfl (lv_room (Nat.le_of_ble_eq_true rfl)) d_CA_requireThere_16 ⟨Nat.le_of_ble_eq_true rfl, Nat.le_of_ble_eq_true rfl⟩) hS (fun q _ h => CA_le hS.1 q h) (fun q h => CA_le hS.1 q h) (fun r5 X4 t H locs ht hvm hw hP hz1 hk1 hS => ?_)
    have hP : va_P (dC, dI) vwCl (wdC cA ad X4) H := by rw [← ht]; exact hP
    try dsimp only at hw
    have hl := lv_sub hl (l' := [(2, .int a2)]) [2] rfl
    exact L19 _ _ _ _ _ _ hw hP hS hl
  · have hw := hw.1 c3
    refine lv_iconst (v := (2 : Int32)) hx hb d_CA_requireThere_5 (by decide) ?_
    refine lv_aload_n hx hb d_CA_requireThere_6 rfl (lv_at hl 0 rfl) ?_
    refine va_get (D := (dC, dI)) (ci := 0) (v := .int (X 4 0)) (C := R_CA) (T := T_CA) (N := 14) hx hb hts in_CA hown hK hP (0) atC_CA rfl 4 (by decide) (hts _ gw_79) (fun _ h9 => h9) rfl d_CA_requireThere_7 ?_
    refine lv_imul hx hb d_CA_requireThere_10 ?_
    refine lv_goto (tgt := 19) hx hb d_CA_requireThere_11 (by decide) ?_
    have hl := lv_sub hl (l' := [(2, .int a2)]) [2] rfl
    exact L19 _ _ _ _ _ _ hw hP hS hl
def ws_CA_state : List Cond := Cond.code y_CA_state c_CA_state 3 (Option.some Jvm.ClassFile.FieldType.int) :: GW
theorem d_CA_state_0 : decode c_CA_state 0 = .ok (.aload_n 0, 1) := by decide +kernel
theorem d_CA_state_1 : decode c_CA_state 1 = .ok (.iload_n 1, 1) := by decide +kernel
theorem d_CA_state_2 : decode c_CA_state 2 = .ok (.iload_n 2, 1) := by decide +kernel
theorem d_CA_state_3 : decode c_CA_state 3 = .ok (.invokevirtual 235, 3) := by decide +kernel
theorem d_CA_state_6 : decode c_CA_state 6 = .ok (.iload_n 1, 1) := by decide +kernel
theorem d_CA_state_7 : decode c_CA_state 7 = .ok (.tableswitch 69 0 3 #[29, 39, 49, 59], 29) := by decide +kernel
theorem d_CA_state_36 : decode c_CA_state 36 = .ok (.aload_n 0, 1) := by decide +kernel
theorem d_CA_state_37 : decode c_CA_state 37 = .ok (.getfield 11, 3) := by decide +kernel
theorem d_CA_state_40 : decode c_CA_state 40 = .ok (.iload_n 2, 1) := by decide +kernel
theorem d_CA_state_41 : decode c_CA_state 41 = .ok (.aaload, 1) := by decide +kernel
theorem d_CA_state_42 : decode c_CA_state 42 = .ok (.getfield 117, 3) := by decide +kernel
theorem d_CA_state_45 : decode c_CA_state 45 = .ok (.ireturn, 1) := by decide +kernel
theorem d_CA_state_46 : decode c_CA_state 46 = .ok (.aload_n 0, 1) := by decide +kernel
theorem d_CA_state_47 : decode c_CA_state 47 = .ok (.getfield 17, 3) := by decide +kernel
theorem d_CA_state_50 : decode c_CA_state 50 = .ok (.iload_n 2, 1) := by decide +kernel
theorem d_CA_state_51 : decode c_CA_state 51 = .ok (.aaload, 1) := by decide +kernel
theorem d_CA_state_52 : decode c_CA_state 52 = .ok (.getfield 181, 3) := by decide +kernel
theorem d_CA_state_55 : decode c_CA_state 55 = .ok (.ireturn, 1) := by decide +kernel
theorem d_CA_state_56 : decode c_CA_state 56 = .ok (.aload_n 0, 1) := by decide +kernel
theorem d_CA_state_57 : decode c_CA_state 57 = .ok (.getfield 23, 3) := by decide +kernel
theorem d_CA_state_60 : decode c_CA_state 60 = .ok (.iload_n 2, 1) := by decide +kernel
theorem d_CA_state_61 : decode c_CA_state 61 = .ok (.aaload, 1) := by decide +kernel
theorem d_CA_state_62 : decode c_CA_state 62 = .ok (.getfield 159, 3) := by decide +kernel
theorem d_CA_state_65 : decode c_CA_state 65 = .ok (.ireturn, 1) := by decide +kernel
theorem d_CA_state_66 : decode c_CA_state 66 = .ok (.aload_n 0, 1) := by decide +kernel
theorem d_CA_state_67 : decode c_CA_state 67 = .ok (.getfield 29, 3) := by decide +kernel
theorem d_CA_state_70 : decode c_CA_state 70 = .ok (.iload_n 2, 1) := by decide +kernel
theorem d_CA_state_71 : decode c_CA_state 71 = .ok (.aaload, 1) := by decide +kernel
theorem d_CA_state_72 : decode c_CA_state 72 = .ok (.getfield 160, 3) := by decide +kernel
theorem d_CA_state_75 : decode c_CA_state 75 = .ok (.ireturn, 1) := by decide +kernel
theorem d_CA_state_76 : decode c_CA_state 76 = .ok (.aload_n 0, 1) := by decide +kernel
theorem d_CA_state_77 : decode c_CA_state 77 = .ok (.getfield 35, 3) := by decide +kernel
theorem d_CA_state_80 : decode c_CA_state 80 = .ok (.iload_n 2, 1) := by decide +kernel
theorem d_CA_state_81 : decode c_CA_state 81 = .ok (.aaload, 1) := by decide +kernel
theorem d_CA_state_82 : decode c_CA_state 82 = .ok (.getfield 204, 3) := by decide +kernel
theorem d_CA_state_85 : decode c_CA_state 85 = .ok (.ireturn, 1) := by decide +kernel
def wp_CA_state (post : Int32 → ST → Prop) (px : String → ST → Prop) (X : ST) (a1 : Int32) (a2 : Int32) : Prop := wp_CA_requireThere (fun (X1 : ST) => ((a1 < (0 : Int32) → (vp_in a2 12 ∧ post (X1 50 a2.toNatClampNeg) X1)) ∧ (¬ a1 < (0 : Int32) → (((3 : Int32) < a1 → (vp_in a2 12 ∧ post (X1 50 a2.toNatClampNeg) X1)) ∧ (¬ (3 : Int32) < a1 → ((a1 = (0 : Int32) → (vp_in a2 6 ∧ post (X1 10 a2.toNatClampNeg) X1)) ∧ (¬ a1 = (0 : Int32) → ((a1 = (1 : Int32) → (vp_in a2 12 ∧ post (X1 20 a2.toNatClampNeg) X1)) ∧ (¬ a1 = (1 : Int32) → ((a1 = (2 : Int32) → (vp_in a2 24 ∧ post (X1 30 a2.toNatClampNeg) X1)) ∧ (¬ a1 = (2 : Int32) → ((a1 = (3 : Int32) → (vp_in a2 48 ∧ post (X1 40 a2.toNatClampNeg) X1)) ∧ (¬ a1 = (3 : Int32) → False))))))))))))) px X a1 a2
set_option maxHeartbeats 4000000 in
set_option maxRecDepth 100000 in
theorem mt_CA_state (l : Launch) (hl9 : l.stackTraces = false) (dC : Nat → ClassId) (dI : Nat → Nat → Nat) (cA : Nat → ClassId) (ad : Nat → Nat) (hI : INJ ad 125) (sz : Nat) {X : ST} {a1 : Int32} {a2 : Int32} {post : Int32 → ST → Prop} {px : String → ST → Prop} (hw : wp_CA_state post px X a1 a2) : xt_Met l y_CA_state ws_CA_state ({ frames := 7, cells := 1, slots := 6, locals := 113 } : Room) (va_Pc [.ref (ad 0), .int a1, .int a2] (fun U => PC dC dI cA ad sz X U)) (va_Qi (fun r (u : ST) => post r u) (fun (u : ST) t => va_P (dC, dI) vwCl (wdC cA ad u) t.heap) (CA ad 125 sz)) (xt_X (fun (u : String × ST) => px u.1 u.2) (fun E (u : String × ST) t => u.1 = E ∧ va_P (dC, dI) vwCl (wdC cA ad u.2) t.heap) (CA ad 125 sz)) 1 6 (CA ad 125 sz) := by
  refine xt_ofW (cc := c_CA_state) (maxL := 3) (ret := (some .int)) (by decide) rfl ?_
  intro p e s m args below meth c s₁ B hml hEx hv
  obtain ⟨rfl, hsz, hP, hG⟩ := hv
  have hx := B.exec
  have hb := B.bytes
  have hr := B.returns
  have hts : ∀ w ∈ GW, w.before (([.ref (ad 0), .int a1, .int a2] : List Value).toArray) s = true := fun w h => atoms_spec (ws := ws_CA_state) B.pre w (List.mem_cons_of_mem _ h)
  have hown : s.vm.findClass R_CA = some m.cls := findClass_of_methodNamed B.named
  have hlocks := B.notSynchronized
  subst hsz
  have hK := hG.1
  have hG9 := hG
  have hNW := hG.2.1
  have hD0 : ∀ (X : ST), va_D (CA ad 125 s.heap.size) (wdC cA ad X) := fun _ => zwC_D hI
  have hS : va_S (CA ad 125 s.heap.size) s.heap s.heap [] := va_S.rf
  have hl := lv_entry ([.ref (ad 0), .int a1, .int a2]) (n := 3) (Nat.le_of_ble_eq_true rfl)
  rw [lg_entry_eq]
  generalize (lg_sl ([.ref (ad 0), .int a1, .int a2]) ++ List.replicate (3 - (lg_sl ([.ref (ad 0), .int a1, .int a2])).length) Slot.unset).toArray = ls at hl ⊢
  have hl : lv_has ls 3 [(0, .ref (ad 0)), (1, .int a1), (2, .int a2)] := hl
  unfold wp_CA_state at hw
  refine lv_aload_n hx hb d_CA_state_0 rfl (lv_at hl 0 rfl) ?_
  refine lv_iload_n hx hb d_CA_state_1 rfl (lv_at hl 1 rfl) ?_
  refine lv_iload_n hx hb d_CA_state_2 rfl (lv_at hl 2 rfl) ?_
  refine xt_callv (xt_runV (As := [.int a1, .int a2]) (rest := []) ⟨hx, hb, hml, hown, hts⟩ (mt_CA_requireThere l hl9 dC dI cA ad hI _ hw) (cwV 2 hts (gV gw_252 gw_253 gw_254 gw_13 gw_251) rfl rfl rfl (by decide +kernel) ⟨Nat.le_of_ble_eq_true rfl, Nat.le_of_ble_eq_true rfl⟩) ⟨zwC_blind, va_recv hK hP (ci := 0) (q0 := 0) rfl atC_CA, zwC_pre hP hS hG9⟩ rfl rfl hl.1 rfl (lv_room (Nat.le_of_ble_eq_true rfl)) d_CA_state_3 ⟨Nat.le_of_ble_eq_true rfl, Nat.le_of_ble_eq_true rfl⟩) hS (fun q _ h => CA_le hS.1 q h) (fun q h => CA_le hS.1 q h) (fun q _ h => CA_le hS.1 q h) (fun E ce q9 u9 t H locs ht ha hw hB hz1 hk1 hS hce hcv hcl => ?_) (fun X1 t H locs ht hvm hw hP hz1 hk1 hS => ?_)
  · obtain ⟨E9, X9⟩ := u9
    obtain ⟨rfl, hP⟩ := hB
    exact xt_out (E := E9) (fun x hx => (hEx x hx).elim) hlocks hce hcv hcl (fun t9 ht9 ha9 => ⟨(E9, X9), hw, ⟨rfl, by show va_P _ _ _ t9.heap; rw [ht9, ← ht]; exact hP⟩, hS.F ht9⟩) hS.2.2 (Nat.le_of_ble_eq_true rfl) (Nat.le_of_ble_eq_true rfl)
  have hP : va_P (dC, dI) vwCl (wdC cA ad X1) H := by rw [← ht]; exact hP
  try dsimp only at hw
  refine lv_iload_n hx hb d_CA_state_6 rfl (lv_at hl 1 rfl) ?_
  by_cases c3 : a1 < (0 : Int32)
  · have hw := hw.1 c3
    refine lv_tableOut (tgt := 76) hx hb d_CA_state_7 (Or.inl (by have q := Int32.lt_iff_toInt_lt.mp c3; exact q)) (by decide) ?_
    refine lv_aload_n hx hb d_CA_state_76 rfl (lv_at hl 0 rfl) ?_
    refine va_get (D := (dC, dI)) (ci := 0) (v := .ref (ad 5)) (C := R_CA) (T := T_CA) (N := 14) hx hb hts in_CA hown hK hP (0) atC_CA rfl 10 (by decide) (hts _ gw_191) (fun _ h9 => h9) rfl d_CA_state_77 ?_
    refine lv_iload_n hx hb d_CA_state_80 rfl (lv_at hl 2 rfl) ?_
    obtain ⟨h5, hw⟩ := hw
    refine va_aldq hx hb hK hP (5) 4 atC_aCer rfl h5 d_CA_state_81 ?_
    refine W.eq (g2 := F0 m 82 ls [.ref (ad (113 + a2.toNatClampNeg))]) rfl ?_
    refine va_get (D := (dC, dI)) (ci := 8) (v := .int (X1 50 a2.toNatClampNeg)) (C := R_Cer) (T := T_Cer) (N := 6) hx hb hts in_Cer hown hK hP (113 + a2.toNatClampNeg) (atC_Cer (zw_lt h5)) rfl 0 (by decide) (hts _ gw_213) (fun _ h9 => h9) rfl d_CA_state_82 ?_
    refine xt_ret ?_
    exact W.iret (v := X1 50 a2.toNatClampNeg) hx hb hr (fun t ht _ => ⟨⟨X1 50 a2.toNatClampNeg, X1, rfl, hw, by show va_P _ _ _ t.heap; rw [ht]; exact hP⟩, hS.F ht⟩) hS.2.2 d_CA_state_85
  have hw := hw.2 c3
  by_cases c4 : (3 : Int32) < a1
  · have hw := hw.1 c4
    refine lv_tableOut (tgt := 76) hx hb d_CA_state_7 (Or.inr (by have q := Int32.lt_iff_toInt_lt.mp c4; exact q)) (by decide) ?_
    refine lv_aload_n hx hb d_CA_state_76 rfl (lv_at hl 0 rfl) ?_
    refine va_get (D := (dC, dI)) (ci := 0) (v := .ref (ad 5)) (C := R_CA) (T := T_CA) (N := 14) hx hb hts in_CA hown hK hP (0) atC_CA rfl 10 (by decide) (hts _ gw_191) (fun _ h9 => h9) rfl d_CA_state_77 ?_
    refine lv_iload_n hx hb d_CA_state_80 rfl (lv_at hl 2 rfl) ?_
    obtain ⟨h6, hw⟩ := hw
    refine va_aldq hx hb hK hP (5) 4 atC_aCer rfl h6 d_CA_state_81 ?_
    refine W.eq (g2 := F0 m 82 ls [.ref (ad (113 + a2.toNatClampNeg))]) rfl ?_
    refine va_get (D := (dC, dI)) (ci := 8) (v := .int (X1 50 a2.toNatClampNeg)) (C := R_Cer) (T := T_Cer) (N := 6) hx hb hts in_Cer hown hK hP (113 + a2.toNatClampNeg) (atC_Cer (zw_lt h6)) rfl 0 (by decide) (hts _ gw_213) (fun _ h9 => h9) rfl d_CA_state_82 ?_
    refine xt_ret ?_
    exact W.iret (v := X1 50 a2.toNatClampNeg) hx hb hr (fun t ht _ => ⟨⟨X1 50 a2.toNatClampNeg, X1, rfl, hw, by show va_P _ _ _ t.heap; rw [ht]; exact hP⟩, hS.F ht⟩) hS.2.2 d_CA_state_85
  have hw := hw.2 c4
  by_cases c7 : a1 = (0 : Int32)
  · have hw := hw.1 c7
    refine lv_tableIn (off := 29) (tgt := 36) hx hb d_CA_state_7 (by rw [c7]; decide) (by rw [c7]; decide) (by rw [c7]; decide) (by decide) ?_
    refine lv_aload_n hx hb d_CA_state_36 rfl (lv_at hl 0 rfl) ?_
    refine va_get (D := (dC, dI)) (ci := 0) (v := .ref (ad 1)) (C := R_CA) (T := T_CA) (N := 14) hx hb hts in_CA hown hK hP (0) atC_CA rfl 6 (by decide) (hts _ gw_33) (fun _ h9 => h9) rfl d_CA_state_37 ?_
    refine lv_iload_n hx hb d_CA_state_40 rfl (lv_at hl 2 rfl) ?_
    obtain ⟨h8, hw⟩ := hw
    refine va_aldq hx hb hK hP (1) 0 atC_aAcc rfl h8 d_CA_state_41 ?_
    refine W.eq (g2 := F0 m 42 ls [.ref (ad (11 + a2.toNatClampNeg))]) rfl ?_
    refine va_get (D := (dC, dI)) (ci := 4) (v := .int (X1 10 a2.toNatClampNeg)) (C := R_Acc) (T := T_Acc) (N := 2) hx hb hts in_Acc hown hK hP (11 + a2.toNatClampNeg) (atC_Acc (zw_lt h8)) rfl 0 (by decide) (hts _ gw_63) (fun _ h9 => h9) rfl d_CA_state_42 ?_
    refine xt_ret ?_
    exact W.iret (v := X1 10 a2.toNatClampNeg) hx hb hr (fun t ht _ => ⟨⟨X1 10 a2.toNatClampNeg, X1, rfl, hw, by show va_P _ _ _ t.heap; rw [ht]; exact hP⟩, hS.F ht⟩) hS.2.2 d_CA_state_45
  have hw := hw.2 c7
  by_cases c9 : a1 = (1 : Int32)
  · have hw := hw.1 c9
    refine lv_tableIn (off := 39) (tgt := 46) hx hb d_CA_state_7 (by rw [c9]; decide) (by rw [c9]; decide) (by rw [c9]; decide) (by decide) ?_
    refine lv_aload_n hx hb d_CA_state_46 rfl (lv_at hl 0 rfl) ?_
    refine va_get (D := (dC, dI)) (ci := 0) (v := .ref (ad 2)) (C := R_CA) (T := T_CA) (N := 14) hx hb hts in_CA hown hK hP (0) atC_CA rfl 7 (by decide) (hts _ gw_102) (fun _ h9 => h9) rfl d_CA_state_47 ?_
    refine lv_iload_n hx hb d_CA_state_50 rfl (lv_at hl 2 rfl) ?_
    obtain ⟨h10, hw⟩ := hw
    refine va_aldq hx hb hK hP (2) 1 atC_aOrd rfl h10 d_CA_state_51 ?_
    refine W.eq (g2 := F0 m 52 ls [.ref (ad (17 + a2.toNatClampNeg))]) rfl ?_
    refine va_get (D := (dC, dI)) (ci := 5) (v := .int (X1 20 a2.toNatClampNeg)) (C := R_Ord) (T := T_Ord) (N := 7) hx hb hts in_Ord hown hK hP (17 + a2.toNatClampNeg) (atC_Ord (zw_lt h10)) rfl 0 (by decide) (hts _ gw_109) (fun _ h9 => h9) rfl d_CA_state_52 ?_
    refine xt_ret ?_
    exact W.iret (v := X1 20 a2.toNatClampNeg) hx hb hr (fun t ht _ => ⟨⟨X1 20 a2.toNatClampNeg, X1, rfl, hw, by show va_P _ _ _ t.heap; rw [ht]; exact hP⟩, hS.F ht⟩) hS.2.2 d_CA_state_55
  have hw := hw.2 c9
  by_cases c11 : a1 = (2 : Int32)
  · have hw := hw.1 c11
    refine lv_tableIn (off := 49) (tgt := 56) hx hb d_CA_state_7 (by rw [c11]; decide) (by rw [c11]; decide) (by rw [c11]; decide) (by decide) ?_
    refine lv_aload_n hx hb d_CA_state_56 rfl (lv_at hl 0 rfl) ?_
    refine va_get (D := (dC, dI)) (ci := 0) (v := .ref (ad 3)) (C := R_CA) (T := T_CA) (N := 14) hx hb hts in_CA hown hK hP (0) atC_CA rfl 8 (by decide) (hts _ gw_75) (fun _ h9 => h9) rfl d_CA_state_57 ?_
    refine lv_iload_n hx hb d_CA_state_60 rfl (lv_at hl 2 rfl) ?_
    obtain ⟨h12, hw⟩ := hw
    refine va_aldq hx hb hK hP (3) 2 atC_aAut rfl h12 d_CA_state_61 ?_
    refine W.eq (g2 := F0 m 62 ls [.ref (ad (41 + a2.toNatClampNeg))]) rfl ?_
    refine va_get (D := (dC, dI)) (ci := 6) (v := .int (X1 30 a2.toNatClampNeg)) (C := R_Aut) (T := T_Aut) (N := 4) hx hb hts in_Aut hown hK hP (41 + a2.toNatClampNeg) (atC_Aut (zw_lt h12)) rfl 0 (by decide) (hts _ gw_78) (fun _ h9 => h9) rfl d_CA_state_62 ?_
    refine xt_ret ?_
    exact W.iret (v := X1 30 a2.toNatClampNeg) hx hb hr (fun t ht _ => ⟨⟨X1 30 a2.toNatClampNeg, X1, rfl, hw, by show va_P _ _ _ t.heap; rw [ht]; exact hP⟩, hS.F ht⟩) hS.2.2 d_CA_state_65
  have hw := hw.2 c11
  by_cases c13 : a1 = (3 : Int32)
  · have hw := hw.1 c13
    refine lv_tableIn (off := 59) (tgt := 66) hx hb d_CA_state_7 (by rw [c13]; decide) (by rw [c13]; decide) (by rw [c13]; decide) (by decide) ?_
    refine lv_aload_n hx hb d_CA_state_66 rfl (lv_at hl 0 rfl) ?_
    refine va_get (D := (dC, dI)) (ci := 0) (v := .ref (ad 4)) (C := R_CA) (T := T_CA) (N := 14) hx hb hts in_CA hown hK hP (0) atC_CA rfl 9 (by decide) (hts _ gw_87) (fun _ h9 => h9) rfl d_CA_state_67 ?_
    refine lv_iload_n hx hb d_CA_state_70 rfl (lv_at hl 2 rfl) ?_
    obtain ⟨h14, hw⟩ := hw
    refine va_aldq hx hb hK hP (4) 3 atC_aCha rfl h14 d_CA_state_71 ?_
    refine W.eq (g2 := F0 m 72 ls [.ref (ad (65 + a2.toNatClampNeg))]) rfl ?_
    refine va_get (D := (dC, dI)) (ci := 7) (v := .int (X1 40 a2.toNatClampNeg)) (C := R_Cha) (T := T_Cha) (N := 3) hx hb hts in_Cha hown hK hP (65 + a2.toNatClampNeg) (atC_Cha (zw_lt h14)) rfl 0 (by decide) (hts _ gw_148) (fun _ h9 => h9) rfl d_CA_state_72 ?_
    refine xt_ret ?_
    exact W.iret (v := X1 40 a2.toNatClampNeg) hx hb hr (fun t ht _ => ⟨⟨X1 40 a2.toNatClampNeg, X1, rfl, hw, by show va_P _ _ _ t.heap; rw [ht]; exact hP⟩, hS.F ht⟩) hS.2.2 d_CA_state_75
  have hw := hw.2 c13
  exact hw.elim
def ws_CA_ordersOf : List Cond := Cond.code y_CA_ordersOf c_CA_ordersOf 4 (Option.some Jvm.ClassFile.FieldType.int) :: GW
theorem d_CA_ordersOf_0 : decode c_CA_ordersOf 0 = .ok (.iconst 0, 1) := by decide +kernel
theorem d_CA_ordersOf_1 : decode c_CA_ordersOf 1 = .ok (.istore_n 2, 1) := by decide +kernel
theorem d_CA_ordersOf_2 : decode c_CA_ordersOf 2 = .ok (.iconst 0, 1) := by decide +kernel
theorem d_CA_ordersOf_3 : decode c_CA_ordersOf 3 = .ok (.istore_n 3, 1) := by decide +kernel
theorem d_CA_ordersOf_4 : decode c_CA_ordersOf 4 = .ok (.iload_n 3, 1) := by decide +kernel
theorem d_CA_ordersOf_5 : decode c_CA_ordersOf 5 = .ok (.aload_n 0, 1) := by decide +kernel
theorem d_CA_ordersOf_6 : decode c_CA_ordersOf 6 = .ok (.getfield 133, 3) := by decide +kernel
theorem d_CA_ordersOf_9 : decode c_CA_ordersOf 9 = .ok (.if_icmp .ge 25, 3) := by decide +kernel
theorem d_CA_ordersOf_12 : decode c_CA_ordersOf 12 = .ok (.aload_n 0, 1) := by decide +kernel
theorem d_CA_ordersOf_13 : decode c_CA_ordersOf 13 = .ok (.getfield 17, 3) := by decide +kernel
theorem d_CA_ordersOf_16 : decode c_CA_ordersOf 16 = .ok (.iload_n 3, 1) := by decide +kernel
theorem d_CA_ordersOf_17 : decode c_CA_ordersOf 17 = .ok (.aaload, 1) := by decide +kernel
theorem d_CA_ordersOf_18 : decode c_CA_ordersOf 18 = .ok (.getfield 180, 3) := by decide +kernel
theorem d_CA_ordersOf_21 : decode c_CA_ordersOf 21 = .ok (.iload_n 1, 1) := by decide +kernel
theorem d_CA_ordersOf_22 : decode c_CA_ordersOf 22 = .ok (.if_icmp .ne 6, 3) := by decide +kernel
theorem d_CA_ordersOf_25 : decode c_CA_ordersOf 25 = .ok (.iinc 2 1, 3) := by decide +kernel
theorem d_CA_ordersOf_28 : decode c_CA_ordersOf 28 = .ok (.iinc 3 1, 3) := by decide +kernel
theorem d_CA_ordersOf_31 : decode c_CA_ordersOf 31 = .ok (.goto (-27), 3) := by decide +kernel
theorem d_CA_ordersOf_34 : decode c_CA_ordersOf 34 = .ok (.iload_n 2, 1) := by decide +kernel
theorem d_CA_ordersOf_35 : decode c_CA_ordersOf 35 = .ok (.ireturn, 1) := by decide +kernel
def wq_CA_ordersOf_4 (post : Int32 → ST → Prop) (v1 : Int32) : Nat → Int32 → Int32 → ST → Prop
  | 0 => fun _ _ _ => False
  | n + 1 => fun v2 v3 X => (((X 3 0) ≤ v3 → post v2 X) ∧ (¬ (X 3 0) ≤ v3 → (vp_in v3 12 ∧ (((X 21 v3.toNatClampNeg) = v1 → wq_CA_ordersOf_4 post v1 n (v2 + (1 : Int32)) (v3 + (1 : Int32)) X) ∧ (¬ (X 21 v3.toNatClampNeg) = v1 → wq_CA_ordersOf_4 post v1 n v2 (v3 + (1 : Int32)) X)))))
def wp_CA_ordersOf (post : Int32 → ST → Prop) (X : ST) (a1 : Int32) : Prop := (∃ n9, wq_CA_ordersOf_4 post a1 n9 (0 : Int32) (0 : Int32) X)
set_option maxHeartbeats 4000000 in
set_option maxRecDepth 100000 in
theorem mt_CA_ordersOf (l : Launch) (hl9 : l.stackTraces = false) (dC : Nat → ClassId) (dI : Nat → Nat → Nat) (cA : Nat → ClassId) (ad : Nat → Nat) (hI : INJ ad 125) (sz : Nat) {X : ST} {a1 : Int32} {post : Int32 → ST → Prop} (hw : wp_CA_ordersOf post X a1) : Met l y_CA_ordersOf ws_CA_ordersOf ({ frames := 0, cells := 0, slots := 0, locals := 0 } : Room) (va_Pc [.ref (ad 0), .int a1] (fun U => PC dC dI cA ad sz X U)) (va_Qi (fun r (u : ST) => post r u) (fun (u : ST) t => va_P (dC, dI) vwCl (wdC cA ad u) t.heap) (CA ad 125 sz)) 0 0 (CA ad 125 sz) := by
  refine Met.ofW (cc := c_CA_ordersOf) (maxL := 4) (ret := (some .int)) (by decide) rfl ?_
  intro p e s m args below meth c s₁ B hml hv
  obtain ⟨rfl, hsz, hP, hG⟩ := hv
  have hx := B.exec
  have hb := B.bytes
  have hr := B.returns
  have hts : ∀ w ∈ GW, w.before (([.ref (ad 0), .int a1] : List Value).toArray) s = true := fun w h => atoms_spec (ws := ws_CA_ordersOf) B.pre w (List.mem_cons_of_mem _ h)
  have hown : s.vm.findClass R_CA = some m.cls := findClass_of_methodNamed B.named
  have hlocks := B.notSynchronized
  subst hsz
  have hK := hG.1
  have hG9 := hG
  have hNW := hG.2.1
  have hD0 : ∀ (X : ST), va_D (CA ad 125 s.heap.size) (wdC cA ad X) := fun _ => zwC_D hI
  have hS : va_S (CA ad 125 s.heap.size) s.heap s.heap [] := va_S.rf
  have hl := lv_entry ([.ref (ad 0), .int a1]) (n := 4) (Nat.le_of_ble_eq_true rfl)
  rw [lg_entry_eq]
  generalize (lg_sl ([.ref (ad 0), .int a1]) ++ List.replicate (4 - (lg_sl ([.ref (ad 0), .int a1])).length) Slot.unset).toArray = ls at hl ⊢
  have hl : lv_has ls 4 [(0, .ref (ad 0)), (1, .int a1)] := hl
  have L4 : ∀ (v1 : Int32), ∀ (n : Nat), ∀ (v2 : Int32) (v3 : Int32) (X : ST) (H : Heap) (locs : List Loc) (ls : Array Slot), wq_CA_ordersOf_4 post v1 n v2 v3 X → va_P (dC, dI) vwCl (wdC cA ad X) H → va_S (CA ad 125 s.heap.size) s.heap H locs → lv_has ls 4 [(0, .ref (ad 0)), (1, .int v1), (2, .int v2), (3, .int v3)] → W p l e (headSpec ws_CA_ordersOf ({ frames := 0, cells := 0, slots := 0, locals := 0 } : Room)).room s m (([.ref (ad 0), .int a1] : List Value).toArray) below meth c H locs 0 0 (MQ below (va_Qi (fun r (u : ST) => post r u) (fun (u : ST) t => va_P (dC, dI) vwCl (wdC cA ad u) t.heap) (CA ad 125 s.heap.size)) (([.ref (ad 0), .int a1] : List Value).toArray) s 0 0 (CA ad 125 s.heap.size)) (F0 m 4 ls []) := by
    intro v1 n
    induction n with
    | zero => intro v2 v3 X H locs ls hw hP hS hl; exact False.elim hw
    | succ n ih =>
      intro v2 v3 X H locs ls hw hP hS hl
      dsimp only [wq_CA_ordersOf_4] at hw
      refine lv_iload_n hx hb d_CA_ordersOf_4 rfl (lv_at hl 3 rfl) ?_
      refine lv_aload_n hx hb d_CA_ordersOf_5 rfl (lv_at hl 0 rfl) ?_
      refine va_get (D := (dC, dI)) (ci := 0) (v := .int (X 3 0)) (C := R_CA) (T := T_CA) (N := 14) hx hb hts in_CA hown hK hP (0) atC_CA rfl 3 (by decide) (hts _ gw_97) (fun _ h9 => h9) rfl d_CA_ordersOf_6 ?_
      refine lv_icmp_ge (tgt := 34) hx hb d_CA_ordersOf_9 (by decide) (fun c1 => ?_) (fun c1 => ?_)
      · have hw := hw.1 c1
        refine lv_iload_n hx hb d_CA_ordersOf_34 rfl (lv_at hl 2 rfl) ?_
        exact W.iret (v := v2) hx hb hr (fun t ht _ => ⟨⟨v2, X, rfl, hw, by show va_P _ _ _ t.heap; rw [ht]; exact hP⟩, hS.F ht⟩) hS.2.2 d_CA_ordersOf_35
      · have hw := hw.2 c1
        refine lv_aload_n hx hb d_CA_ordersOf_12 rfl (lv_at hl 0 rfl) ?_
        refine va_get (D := (dC, dI)) (ci := 0) (v := .ref (ad 2)) (C := R_CA) (T := T_CA) (N := 14) hx hb hts in_CA hown hK hP (0) atC_CA rfl 7 (by decide) (hts _ gw_102) (fun _ h9 => h9) rfl d_CA_ordersOf_13 ?_
        refine lv_iload_n hx hb d_CA_ordersOf_16 rfl (lv_at hl 3 rfl) ?_
        obtain ⟨h2, hw⟩ := hw
        refine va_aldq hx hb hK hP (2) 1 atC_aOrd rfl h2 d_CA_ordersOf_17 ?_
        refine W.eq (g2 := F0 m 18 ls [.ref (ad (17 + v3.toNatClampNeg))]) rfl ?_
        refine va_get (D := (dC, dI)) (ci := 5) (v := .int (X 21 v3.toNatClampNeg)) (C := R_Ord) (T := T_Ord) (N := 7) hx hb hts in_Ord hown hK hP (17 + v3.toNatClampNeg) (atC_Ord (zw_lt h2)) rfl 1 (by decide) (hts _ gw_103) (fun _ h9 => h9) rfl d_CA_ordersOf_18 ?_
        refine lv_iload_n hx hb d_CA_ordersOf_21 rfl (lv_at hl 1 rfl) ?_
        refine lv_icmp_ne (tgt := 28) hx hb d_CA_ordersOf_22 (by decide) (fun c3 => ?_) (fun c3 => ?_)
        · have hw := hw.2 c3
          refine lv_iinc (k := 3) (v := v3 + (1 : Int32)) (lv' := [(3, .int (v3 + (1 : Int32))), (0, .ref (ad 0)), (1, .int v1), (2, .int v2)]) hx hb d_CA_ordersOf_28 hl rfl rfl (by decide) rfl (fun ls hl => ?_)
          refine lv_goto (tgt := 4) hx hb d_CA_ordersOf_31 (by decide) ?_
          have hl := lv_sub hl (l' := [(0, .ref (ad 0)), (1, .int v1), (2, .int v2), (3, .int (v3 + (1 : Int32)))]) [1, 2, 3, 0] rfl
          exact ih _ _ _ _ _ _ hw hP hS hl
        · have hw := hw.1 c3
          refine lv_iinc (k := 2) (v := v2 + (1 : Int32)) (lv' := [(2, .int (v2 + (1 : Int32))), (0, .ref (ad 0)), (1, .int v1), (3, .int v3)]) hx hb d_CA_ordersOf_25 hl rfl rfl (by decide) rfl (fun ls hl => ?_)
          refine lv_iinc (k := 3) (v := v3 + (1 : Int32)) (lv' := [(3, .int (v3 + (1 : Int32))), (2, .int (v2 + (1 : Int32))), (0, .ref (ad 0)), (1, .int v1)]) hx hb d_CA_ordersOf_28 hl rfl rfl (by decide) rfl (fun ls hl => ?_)
          refine lv_goto (tgt := 4) hx hb d_CA_ordersOf_31 (by decide) ?_
          have hl := lv_sub hl (l' := [(0, .ref (ad 0)), (1, .int v1), (2, .int (v2 + (1 : Int32))), (3, .int (v3 + (1 : Int32)))]) [2, 3, 1, 0] rfl
          exact ih _ _ _ _ _ _ hw hP hS hl
  unfold wp_CA_ordersOf at hw
  refine lv_iconst (v := (0 : Int32)) hx hb d_CA_ordersOf_0 (by decide) ?_
  refine lv_istore_n (lv' := [(2, .int (0 : Int32)), (0, .ref (ad 0)), (1, .int a1)]) hx hb d_CA_ordersOf_1 rfl hl (by decide) rfl (fun ls hl => ?_)
  refine lv_iconst (v := (0 : Int32)) hx hb d_CA_ordersOf_2 (by decide) ?_
  refine lv_istore_n (lv' := [(3, .int (0 : Int32)), (2, .int (0 : Int32)), (0, .ref (ad 0)), (1, .int a1)]) hx hb d_CA_ordersOf_3 rfl hl (by decide) rfl (fun ls hl => ?_)
  have hl := lv_sub hl (l' := [(0, .ref (ad 0)), (1, .int a1), (2, .int (0 : Int32)), (3, .int (0 : Int32))]) [2, 3, 1, 0] rfl
  obtain ⟨n9, hw⟩ := hw
  exact L4 _ n9 _ _ _ _ _ _ hw hP hS hl
def ws_CA_accountDetail : List Cond := Cond.code y_CA_accountDetail c_CA_accountDetail 3 (Option.some Jvm.ClassFile.FieldType.int) :: GW
theorem d_CA_accountDetail_0 : decode c_CA_accountDetail 0 = .ok (.iload_n 2, 1) := by decide +kernel
theorem d_CA_accountDetail_1 : decode c_CA_accountDetail 1 = .ok (.lookupswitch 43 #[(0, 27), (1, 37)], 27) := by decide +kernel
theorem d_CA_accountDetail_28 : decode c_CA_accountDetail 28 = .ok (.aload_n 0, 1) := by decide +kernel
theorem d_CA_accountDetail_29 : decode c_CA_accountDetail 29 = .ok (.getfield 11, 3) := by decide +kernel
theorem d_CA_accountDetail_32 : decode c_CA_accountDetail 32 = .ok (.iload_n 1, 1) := by decide +kernel
theorem d_CA_accountDetail_33 : decode c_CA_accountDetail 33 = .ok (.aaload, 1) := by decide +kernel
theorem d_CA_accountDetail_34 : decode c_CA_accountDetail 34 = .ok (.getfield 164, 3) := by decide +kernel
theorem d_CA_accountDetail_37 : decode c_CA_accountDetail 37 = .ok (.ireturn, 1) := by decide +kernel
theorem d_CA_accountDetail_38 : decode c_CA_accountDetail 38 = .ok (.aload_n 0, 1) := by decide +kernel
theorem d_CA_accountDetail_39 : decode c_CA_accountDetail 39 = .ok (.iload_n 1, 1) := by decide +kernel
theorem d_CA_accountDetail_40 : decode c_CA_accountDetail 40 = .ok (.invokevirtual 300, 3) := by decide +kernel
theorem d_CA_accountDetail_43 : decode c_CA_accountDetail 43 = .ok (.ireturn, 1) := by decide +kernel
theorem d_CA_accountDetail_44 : decode c_CA_accountDetail 44 = .ok (.iconst (-1), 1) := by decide +kernel
theorem d_CA_accountDetail_45 : decode c_CA_accountDetail 45 = .ok (.ireturn, 1) := by decide +kernel
def wp_CA_accountDetail (post : Int32 → ST → Prop) (X : ST) (a1 : Int32) (a2 : Int32) : Prop := ((a2 = (0 : Int32) → (vp_in a1 6 ∧ post (X 11 a1.toNatClampNeg) X)) ∧ (¬ a2 = (0 : Int32) → ((a2 = (1 : Int32) → wp_CA_ordersOf (fun (r5 : Int32) (X4 : ST) => post r5 X4) X a1) ∧ (¬ a2 = (1 : Int32) → post (-1 : Int32) X))))
set_option maxHeartbeats 4000000 in
set_option maxRecDepth 100000 in
theorem mt_CA_accountDetail (l : Launch) (hl9 : l.stackTraces = false) (dC : Nat → ClassId) (dI : Nat → Nat → Nat) (cA : Nat → ClassId) (ad : Nat → Nat) (hI : INJ ad 125) (sz : Nat) {X : ST} {a1 : Int32} {a2 : Int32} {post : Int32 → ST → Prop} (hw : wp_CA_accountDetail post X a1 a2) : Met l y_CA_accountDetail ws_CA_accountDetail ({ frames := 1, cells := 0, slots := 0, locals := 23 } : Room) (va_Pc [.ref (ad 0), .int a1, .int a2] (fun U => PC dC dI cA ad sz X U)) (va_Qi (fun r (u : ST) => post r u) (fun (u : ST) t => va_P (dC, dI) vwCl (wdC cA ad u) t.heap) (CA ad 125 sz)) 0 0 (CA ad 125 sz) := by
  refine Met.ofW (cc := c_CA_accountDetail) (maxL := 3) (ret := (some .int)) (by decide) rfl ?_
  intro p e s m args below meth c s₁ B hml hv
  obtain ⟨rfl, hsz, hP, hG⟩ := hv
  have hx := B.exec
  have hb := B.bytes
  have hr := B.returns
  have hts : ∀ w ∈ GW, w.before (([.ref (ad 0), .int a1, .int a2] : List Value).toArray) s = true := fun w h => atoms_spec (ws := ws_CA_accountDetail) B.pre w (List.mem_cons_of_mem _ h)
  have hown : s.vm.findClass R_CA = some m.cls := findClass_of_methodNamed B.named
  have hlocks := B.notSynchronized
  subst hsz
  have hK := hG.1
  have hG9 := hG
  have hNW := hG.2.1
  have hD0 : ∀ (X : ST), va_D (CA ad 125 s.heap.size) (wdC cA ad X) := fun _ => zwC_D hI
  have hS : va_S (CA ad 125 s.heap.size) s.heap s.heap [] := va_S.rf
  have hl := lv_entry ([.ref (ad 0), .int a1, .int a2]) (n := 3) (Nat.le_of_ble_eq_true rfl)
  rw [lg_entry_eq]
  generalize (lg_sl ([.ref (ad 0), .int a1, .int a2]) ++ List.replicate (3 - (lg_sl ([.ref (ad 0), .int a1, .int a2])).length) Slot.unset).toArray = ls at hl ⊢
  have hl : lv_has ls 3 [(0, .ref (ad 0)), (1, .int a1), (2, .int a2)] := hl
  unfold wp_CA_accountDetail at hw
  refine lv_iload_n hx hb d_CA_accountDetail_0 rfl (lv_at hl 2 rfl) ?_
  by_cases c1 : a2 = (0 : Int32)
  · have hw := hw.1 c1
    refine lv_lookup (off := 27) (tgt := 28) hx hb d_CA_accountDetail_1 (by decide) (by rw [c1]; decide) (by decide) ?_
    refine lv_aload_n hx hb d_CA_accountDetail_28 rfl (lv_at hl 0 rfl) ?_
    refine va_get (D := (dC, dI)) (ci := 0) (v := .ref (ad 1)) (C := R_CA) (T := T_CA) (N := 14) hx hb hts in_CA hown hK hP (0) atC_CA rfl 6 (by decide) (hts _ gw_33) (fun _ h9 => h9) rfl d_CA_accountDetail_29 ?_
    refine lv_iload_n hx hb d_CA_accountDetail_32 rfl (lv_at hl 1 rfl) ?_
    obtain ⟨h2, hw⟩ := hw
    refine va_aldq hx hb hK hP (1) 0 atC_aAcc rfl h2 d_CA_accountDetail_33 ?_
    refine W.eq (g2 := F0 m 34 ls [.ref (ad (11 + a1.toNatClampNeg))]) rfl ?_
    refine va_get (D := (dC, dI)) (ci := 4) (v := .int (X 11 a1.toNatClampNeg)) (C := R_Acc) (T := T_Acc) (N := 2) hx hb hts in_Acc hown hK hP (11 + a1.toNatClampNeg) (atC_Acc (zw_lt h2)) rfl 1 (by decide) (hts _ gw_34) (fun _ h9 => h9) rfl d_CA_accountDetail_34 ?_
    exact W.iret (v := X 11 a1.toNatClampNeg) hx hb hr (fun t ht _ => ⟨⟨X 11 a1.toNatClampNeg, X, rfl, hw, by show va_P _ _ _ t.heap; rw [ht]; exact hP⟩, hS.F ht⟩) hS.2.2 d_CA_accountDetail_37
  have hw := hw.2 c1
  by_cases c3 : a2 = (1 : Int32)
  · have hw := hw.1 c3
    refine lv_lookup (off := 37) (tgt := 38) hx hb d_CA_accountDetail_1 (by decide) (by rw [c3]; decide) (by decide) ?_
    refine lv_aload_n hx hb d_CA_accountDetail_38 rfl (lv_at hl 0 rfl) ?_
    refine lv_iload_n hx hb d_CA_accountDetail_39 rfl (lv_at hl 1 rfl) ?_
    refine va_calli (va_runV (As := [.int a1]) (rest := []) ⟨hx, hb, hml, hown, hts⟩ (mt_CA_ordersOf l hl9 dC dI cA ad hI _ hw) (cwV 1 hts (gV gw_256 gw_257 gw_258 gw_13 gw_255) rfl rfl rfl (by decide +kernel) ⟨Nat.le_of_ble_eq_true rfl, Nat.le_of_ble_eq_true rfl⟩) ⟨zwC_blind, va_recv hK hP (ci := 0) (q0 := 0) rfl atC_CA, zwC_pre hP hS hG9⟩ rfl rfl hl.1 rfl (lv_room (Nat.le_of_ble_eq_true rfl)) d_CA_accountDetail_40 ⟨Nat.le_of_ble_eq_true rfl, Nat.le_of_ble_eq_true rfl⟩) hS (fun q _ h => CA_le hS.1 q h) (fun q h => CA_le hS.1 q h) (fun r5 X4 t H locs ht hvm hw hP hz1 hk1 hS => ?_)
    have hP : va_P (dC, dI) vwCl (wdC cA ad X4) H := by rw [← ht]; exact hP
    try dsimp only at hw
    exact W.iret (v := r5) hx hb hr (fun t ht _ => ⟨⟨r5, X4, rfl, hw, by show va_P _ _ _ t.heap; rw [ht]; exact hP⟩, hS.F ht⟩) hS.2.2 d_CA_accountDetail_43
  have hw := hw.2 c3
  refine lv_lookup (off := 43) (tgt := 44) hx hb d_CA_accountDetail_1 (by decide) (by rw [lv_osw c1 (by decide)]; rw [lv_osw c3 (by decide)]; rfl) (by decide) ?_
  refine lv_iconst (v := (-1 : Int32)) hx hb d_CA_accountDetail_44 (by decide) ?_
  exact W.iret (v := (-1 : Int32)) hx hb hr (fun t ht _ => ⟨⟨(-1 : Int32), X, rfl, hw, by show va_P _ _ _ t.heap; rw [ht]; exact hP⟩, hS.F ht⟩) hS.2.2 d_CA_accountDetail_45
