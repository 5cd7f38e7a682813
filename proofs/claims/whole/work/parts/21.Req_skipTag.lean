def ws_Req_skipTag : List Cond := Cond.code y_Req_skipTag c_Req_skipTag 5 (Option.none : Option Jvm.ClassFile.FieldType) :: GW
theorem d_Req_skipTag_0 : decode c_Req_skipTag 0 = .ok (.aload_n 0, 1) := by decide +kernel
theorem d_Req_skipTag_1 : decode c_Req_skipTag 1 = .ok (.aload_n 1, 1) := by decide +kernel
theorem d_Req_skipTag_2 : decode c_Req_skipTag 2 = .ok (.iload_n 2, 1) := by decide +kernel
theorem d_Req_skipTag_3 : decode c_Req_skipTag 3 = .ok (.invokevirtual 67, 3) := by decide +kernel
theorem d_Req_skipTag_6 : decode c_Req_skipTag 6 = .ok (.istore 4, 2) := by decide +kernel
theorem d_Req_skipTag_8 : decode c_Req_skipTag 8 = .ok (.aload_n 0, 1) := by decide +kernel
theorem d_Req_skipTag_9 : decode c_Req_skipTag 9 = .ok (.aload_n 0, 1) := by decide +kernel
theorem d_Req_skipTag_10 : decode c_Req_skipTag 10 = .ok (.getfield 15, 3) := by decide +kernel
theorem d_Req_skipTag_13 : decode c_Req_skipTag 13 = .ok (.ifCond .eq 13, 3) := by decide +kernel
theorem d_Req_skipTag_16 : decode c_Req_skipTag 16 = .ok (.iload 4, 2) := by decide +kernel
theorem d_Req_skipTag_18 : decode c_Req_skipTag 18 = .ok (.iload_n 3, 1) := by decide +kernel
theorem d_Req_skipTag_19 : decode c_Req_skipTag 19 = .ok (.if_icmp .ne 7, 3) := by decide +kernel
theorem d_Req_skipTag_22 : decode c_Req_skipTag 22 = .ok (.iconst 1, 1) := by decide +kernel
theorem d_Req_skipTag_23 : decode c_Req_skipTag 23 = .ok (.goto 4, 3) := by decide +kernel
theorem d_Req_skipTag_26 : decode c_Req_skipTag 26 = .ok (.iconst 0, 1) := by decide +kernel
theorem d_Req_skipTag_27 : decode c_Req_skipTag 27 = .ok (.putfield 15, 3) := by decide +kernel
theorem d_Req_skipTag_30 : decode c_Req_skipTag 30 = .ok (.return_, 1) := by decide +kernel
def wq_Req_skipTag_27 (post : ST → Prop) (s0 : Int32) (X : ST) : Prop := ((s0 = 0 ∨ s0 = 1) ∧ post (up X 67 0 s0))
def wp_Req_skipTag (post : ST → Prop) (X : ST) (a2 : Int32) (a3 : Int32) : Prop := wp_Req_readByte (fun (r3 : Int32) (X2 : ST) => (((X2 67 0) = 0 → wq_Req_skipTag_27 post (0 : Int32) X2) ∧ (¬ (X2 67 0) = 0 → ((r3 = a3 → wq_Req_skipTag_27 post (1 : Int32) X2) ∧ (¬ r3 = a3 → wq_Req_skipTag_27 post (0 : Int32) X2))))) X a2
set_option maxHeartbeats 4000000 in
set_option maxRecDepth 100000 in
theorem mt_Req_skipTag (l : Launch) (hl9 : l.stackTraces = false) (dC : Nat → ClassId) (dI : Nat → Nat → Nat) (cA : Nat → ClassId) (ad : Nat → Nat) (hI : INJ ad 125) (sz : Nat) {X : ST} {a2 : Int32} {a3 : Int32} {post : ST → Prop} (hw : wp_Req_skipTag post X a2 a3) : Met l y_Req_skipTag ws_Req_skipTag ({ frames := 1, cells := 0, slots := 0, locals := 22 } : Room) (va_Pc [.ref (ad 10), .ref (ad 8), .int a2, .int a3] (fun U => PC dC dI cA ad sz X U)) (va_Qv (fun (u : ST) => post u) (fun (u : ST) t => va_P (dC, dI) vwCl (wdC cA ad u) t.heap) (CA ad 125 sz)) 0 0 (CA ad 125 sz) := by
  refine Met.ofW (cc := c_Req_skipTag) (maxL := 5) (ret := none) (by decide) rfl ?_
  intro p e s m args below meth c s₁ B hml hv
  obtain ⟨rfl, hsz, hP, hG⟩ := hv
  have hx := B.exec
  have hb := B.bytes
  have hr := B.returns
  have hts : ∀ w ∈ GW, w.before (([.ref (ad 10), .ref (ad 8), .int a2, .int a3] : List Value).toArray) s = true := fun w h => atoms_spec (ws := ws_Req_skipTag) B.pre w (List.mem_cons_of_mem _ h)
  have hown : s.vm.findClass R_Req = some m.cls := findClass_of_methodNamed B.named
  have hlocks := B.notSynchronized
  subst hsz
  have hK := hG.1
  have hG9 := hG
  have hNW := hG.2.1
  have hD0 : ∀ (X : ST), va_D (CA ad 125 s.heap.size) (wdC cA ad X) := fun _ => zwC_D hI
  have hS : va_S (CA ad 125 s.heap.size) s.heap s.heap [] := va_S.rf
  have hl := lv_entry ([.ref (ad 10), .ref (ad 8), .int a2, .int a3]) (n := 5) (Nat.le_of_ble_eq_true rfl)
  rw [lg_entry_eq]
  generalize (lg_sl ([.ref (ad 10), .ref (ad 8), .int a2, .int a3]) ++ List.replicate (5 - (lg_sl ([.ref (ad 10), .ref (ad 8), .int a2, .int a3])).length) Slot.unset).toArray = ls at hl ⊢
  have hl : lv_has ls 5 [(0, .ref (ad 10)), (1, .ref (ad 8)), (2, .int a2), (3, .int a3)] := hl
  have L27 : ∀ (s0 : Int32) (X : ST) (H : Heap) (locs : List Loc) (ls : Array Slot), wq_Req_skipTag_27 post s0 X → va_P (dC, dI) vwCl (wdC cA ad X) H → va_S (CA ad 125 s.heap.size) s.heap H locs → lv_has ls 5 [] → W p l e (headSpec ws_Req_skipTag ({ frames := 1, cells := 0, slots := 0, locals := 22 } : Room)).room s m (([.ref (ad 10), .ref (ad 8), .int a2, .int a3] : List Value).toArray) below meth c H locs 0 0 (MQ below (va_Qv (fun (u : ST) => post u) (fun (u : ST) t => va_P (dC, dI) vwCl (wdC cA ad u) t.heap) (CA ad 125 s.heap.size)) (([.ref (ad 10), .ref (ad 8), .int a2, .int a3] : List Value).toArray) s 0 0 (CA ad 125 s.heap.size)) (F0 m 27 ls [.int s0, .ref (ad 10)]) := by
    intro s0 X H locs ls hw hP hS hl
    unfold wq_Req_skipTag_27 at hw
    obtain ⟨h1, hw⟩ := hw
    refine va_put (D := (dC, dI)) (ci := 3) (v := .int s0) (ty := .boolean) (C := R_Req) (T := T_Req) (N := 4) hx hb hts in_Req ty_Req ty_Req_ok nm_Req hown hK hP (hD0 _) hS (10) atC_Req rfl 3 (by decide) (hts _ gw_156) (fun _ h9 => h9) rfl (by decide +kernel) (zw_bn h1) (zw_bf h1) (Nat.le_of_ble_eq_true rfl) d_Req_skipTag_27 (fun H locs hP _ hS => ?_)
    have hP : va_P (dC, dI) vwCl (wdC cA ad (up X 67 0 s0)) H := by rw [← stC_Req_3]; exact hP
    exact W.vret hx hb hr (fun t ht _ => ⟨⟨up X 67 0 s0, rfl, hw, by show va_P _ _ _ t.heap; rw [ht]; exact hP⟩, hS.F ht⟩) hS.2.2 d_Req_skipTag_30
  unfold wp_Req_skipTag at hw
  refine lv_aload_n hx hb d_Req_skipTag_0 rfl (lv_at hl 0 rfl) ?_
  refine lv_aload_n hx hb d_Req_skipTag_1 rfl (lv_at hl 1 rfl) ?_
  refine lv_iload_n hx hb d_Req_skipTag_2 rfl (lv_at hl 2 rfl) ?_
  refine va_calli (va_runV (As := [.ref (ad 8), .int a2]) (rest := []) ⟨hx, hb, hml, hown, hts⟩ (mt_Req_readByte l hl9 dC dI cA ad hI _ hw) (cwV 2 hts (gV gw_161 gw_162 gw_163 gw_164 gw_160) rfl rfl rfl (by decide +kernel) ⟨Nat.le_of_ble_eq_true rfl, Nat.le_of_ble_eq_true rfl⟩) ⟨zwC_blind, va_recv hK hP (ci := 3) (q0 := 10) rfl atC_Req, zwC_pre hP hS hG9⟩ rfl rfl hl.1 rfl (lv_room (Nat.le_of_ble_eq_true rfl)) d_Req_skipTag_3 ⟨Nat.le_of_ble_eq_true rfl, Nat.le_of_ble_eq_true rfl⟩) hS (fun q _ h => CA_le hS.1 q h) (fun q h => CA_le hS.1 q h) (fun r3 X2 t H locs ht hvm hw hP hz1 hk1 hS => ?_)
  have hP : va_P (dC, dI) vwCl (wdC cA ad X2) H := by rw [← ht]; exact hP
  try dsimp only at hw
  refine lv_istore (lv' := [(4, .int r3), (0, .ref (ad 10)), (1, .ref (ad 8)), (2, .int a2), (3, .int a3)]) hx hb d_Req_skipTag_6 hl (by decide) rfl (fun ls hl => ?_)
  refine lv_aload_n hx hb d_Req_skipTag_8 rfl (lv_at hl 1 rfl) ?_
  refine lv_aload_n hx hb d_Req_skipTag_9 rfl (lv_at hl 1 rfl) ?_
  refine va_get (D := (dC, dI)) (ci := 3) (v := .int (X2 67 0)) (C := R_Req) (T := T_Req) (N := 4) hx hb hts in_Req hown hK hP (10) atC_Req rfl 3 (by decide) (hts _ gw_156) (fun _ h9 => h9) rfl d_Req_skipTag_10 ?_
  refine lv_if_eq (tgt := 26) hx hb d_Req_skipTag_13 (by decide) (fun c4 => ?_) (fun c4 => ?_)
  · have hw := hw.1 c4
    refine lv_iconst (v := (0 : Int32)) hx hb d_Req_skipTag_26 (by decide) ?_
    have hl := lv_sub hl (l' := []) [] rfl
    exact L27 _ _ _ _ _ hw hP hS hl
  · have hw := hw.2 c4
    refine lv_iload hx hb d_Req_skipTag_16 (lv_at hl 0 rfl) ?_
    refine lv_iload_n hx hb d_Req_skipTag_18 rfl (lv_at hl 4 rfl) ?_
    refine lv_icmp_ne (tgt := 26) hx hb d_Req_skipTag_19 (by decide) (fun c5 => ?_) (fun c5 => ?_)
    · have hw := hw.2 c5
      refine lv_iconst (v := (0 : Int32)) hx hb d_Req_skipTag_26 (by decide) ?_
      have hl := lv_sub hl (l' := []) [] rfl
      exact L27 _ _ _ _ _ hw hP hS hl
    · have hw := hw.1 c5
      refine lv_iconst (v := (1 : Int32)) hx hb d_Req_skipTag_22 (by decide) ?_
      refine lv_goto (tgt := 27) hx hb d_Req_skipTag_23 (by decide) ?_
      have hl := lv_sub hl (l' := []) [] rfl
      exact L27 _ _ _ _ _ hw hP hS hl
def ws_Req_readLength : List Cond := Cond.code y_Req_readLength c_Req_readLength 4 (Option.some Jvm.ClassFile.FieldType.int) :: GW
theorem d_Req_readLength_0 : decode c_Req_readLength 0 = .ok (.aload_n 0, 1) := by decide +kernel
theorem d_Req_readLength_1 : decode c_Req_readLength 1 = .ok (.aload_n 1, 1) := by decide +kernel
theorem d_Req_readLength_2 : decode c_Req_readLength 2 = .ok (.iload_n 2, 1) := by decide +kernel
theorem d_Req_readLength_3 : decode c_Req_readLength 3 = .ok (.invokevirtual 67, 3) := by decide +kernel
theorem d_Req_readLength_6 : decode c_Req_readLength 6 = .ok (.istore_n 3, 1) := by decide +kernel
theorem d_Req_readLength_7 : decode c_Req_readLength 7 = .ok (.aload_n 0, 1) := by decide +kernel
theorem d_Req_readLength_8 : decode c_Req_readLength 8 = .ok (.aload_n 0, 1) := by decide +kernel
theorem d_Req_readLength_9 : decode c_Req_readLength 9 = .ok (.getfield 15, 3) := by decide +kernel
theorem d_Req_readLength_12 : decode c_Req_readLength 12 = .ok (.ifCond .eq 13, 3) := by decide +kernel
theorem d_Req_readLength_15 : decode c_Req_readLength 15 = .ok (.iload_n 3, 1) := by decide +kernel
theorem d_Req_readLength_16 : decode c_Req_readLength 16 = .ok (.bipush 127, 2) := by decide +kernel
theorem d_Req_readLength_18 : decode c_Req_readLength 18 = .ok (.if_icmp .gt 7, 3) := by decide +kernel
theorem d_Req_readLength_21 : decode c_Req_readLength 21 = .ok (.iconst 1, 1) := by decide +kernel
theorem d_Req_readLength_22 : decode c_Req_readLength 22 = .ok (.goto 4, 3) := by decide +kernel
theorem d_Req_readLength_25 : decode c_Req_readLength 25 = .ok (.iconst 0, 1) := by decide +kernel
theorem d_Req_readLength_26 : decode c_Req_readLength 26 = .ok (.putfield 15, 3) := by decide +kernel
theorem d_Req_readLength_29 : decode c_Req_readLength 29 = .ok (.iload_n 3, 1) := by decide +kernel
theorem d_Req_readLength_30 : decode c_Req_readLength 30 = .ok (.ireturn, 1) := by decide +kernel
def wq_Req_readLength_26 (post : Int32 → ST → Prop) (s0 : Int32) (v3 : Int32) (X : ST) : Prop := ((s0 = 0 ∨ s0 = 1) ∧ post v3 (up X 67 0 s0))
def wp_Req_readLength (post : Int32 → ST → Prop) (X : ST) (a2 : Int32) : Prop := wp_Req_readByte (fun (r3 : Int32) (X2 : ST) => (((X2 67 0) = 0 → wq_Req_readLength_26 post (0 : Int32) r3 X2) ∧ (¬ (X2 67 0) = 0 → (((127 : Int32) < r3 → wq_Req_readLength_26 post (0 : Int32) r3 X2) ∧ (¬ (127 : Int32) < r3 → wq_Req_readLength_26 post (1 : Int32) r3 X2))))) X a2
set_option maxHeartbeats 4000000 in
set_option maxRecDepth 100000 in
theorem mt_Req_readLength (l : Launch) (hl9 : l.stackTraces = false) (dC : Nat → ClassId) (dI : Nat → Nat → Nat) (cA : Nat → ClassId) (ad : Nat → Nat) (hI : INJ ad 125) (sz : Nat) {X : ST} {a2 : Int32} {post : Int32 → ST → Prop} (hw : wp_Req_readLength post X a2) : Met l y_Req_readLength ws_Req_readLength ({ frames := 1, cells := 0, slots := 0, locals := 22 } : Room) (va_Pc [.ref (ad 10), .ref (ad 8), .int a2] (fun U => PC dC dI cA ad sz X U)) (va_Qi (fun r (u : ST) => post r u) (fun (u : ST) t => va_P (dC, dI) vwCl (wdC cA ad u) t.heap) (CA ad 125 sz)) 0 0 (CA ad 125 sz) := by
  refine Met.ofW (cc := c_Req_readLength) (maxL := 4) (ret := (some .int)) (by decide) rfl ?_
  intro p e s m args below meth c s₁ B hml hv
  obtain ⟨rfl, hsz, hP, hG⟩ := hv
  have hx := B.exec
  have hb := B.bytes
  have hr := B.returns
  have hts : ∀ w ∈ GW, w.before (([.ref (ad 10), .ref (ad 8), .int a2] : List Value).toArray) s = true := fun w h => atoms_spec (ws := ws_Req_readLength) B.pre w (List.mem_cons_of_mem _ h)
  have hown : s.vm.findClass R_Req = some m.cls := findClass_of_methodNamed B.named
  have hlocks := B.notSynchronized
  subst hsz
  have hK := hG.1
  have hG9 := hG
  have hNW := hG.2.1
  have hD0 : ∀ (X : ST), va_D (CA ad 125 s.heap.size) (wdC cA ad X) := fun _ => zwC_D hI
  have hS : va_S (CA ad 125 s.heap.size) s.heap s.heap [] := va_S.rf
  have hl := lv_entry ([.ref (ad 10), .ref (ad 8), .int a2]) (n := 4) (Nat.le_of_ble_eq_true rfl)
  rw [lg_entry_eq]
  generalize (lg_sl ([.ref (ad 10), .ref (ad 8), .int a2]) ++ List.replicate (4 - (lg_sl ([.ref (ad 10), .ref (ad 8), .int a2])).length) Slot.unset).toArray = ls at hl ⊢
  have hl : lv_has ls 4 [(0, .ref (ad 10)), (1, .ref (ad 8)), (2, .int a2)] := hl
  have L26 : ∀ (s0 : Int32) (v3 : Int32) (X : ST) (H : Heap) (locs : List Loc) (ls : Array Slot), wq_Req_readLength_26 post s0 v3 X → va_P (dC, dI) vwCl (wdC cA ad X) H → va_S (CA ad 125 s.heap.size) s.heap H locs → lv_has ls 4 [(3, .int v3)] → W p l e (headSpec ws_Req_readLength ({ frames := 1, cells := 0, slots := 0, locals := 22 } : Room)).room s m (([.ref (ad 10), .ref (ad 8), .int a2] : List Value).toArray) below meth c H locs 0 0 (MQ below (va_Qi (fun r (u : ST) => post r u) (fun (u : ST) t => va_P (dC, dI) vwCl (wdC cA ad u) t.heap) (CA ad 125 s.heap.size)) (([.ref (ad 10), .ref (ad 8), .int a2] : List Value).toArray) s 0 0 (CA ad 125 s.heap.size)) (F0 m 26 ls [.int s0, .ref (ad 10)]) := by
    intro s0 v3 X H locs ls hw hP hS hl
    unfold wq_Req_readLength_26 at hw
    obtain ⟨h1, hw⟩ := hw
    refine va_put (D := (dC, dI)) (ci := 3) (v := .int s0) (ty := .boolean) (C := R_Req) (T := T_Req) (N := 4) hx hb hts in_Req ty_Req ty_Req_ok nm_Req hown hK hP (hD0 _) hS (10) atC_Req rfl 3 (by decide) (hts _ gw_156) (fun _ h9 => h9) rfl (by decide +kernel) (zw_bn h1) (zw_bf h1) (Nat.le_of_ble_eq_true rfl) d_Req_readLength_26 (fun H locs hP _ hS => ?_)
    have hP : va_P (dC, dI) vwCl (wdC cA ad (up X 67 0 s0)) H := by rw [← stC_Req_3]; exact hP
    refine lv_iload_n hx hb d_Req_readLength_29 rfl (lv_at hl 0 rfl) ?_
    exact W.iret (v := v3) hx hb hr (fun t ht _ => ⟨⟨v3, up X 67 0 s0, rfl, hw, by show va_P _ _ _ t.heap; rw [ht]; exact hP⟩, hS.F ht⟩) hS.2.2 d_Req_readLength_30
  unfold wp_Req_readLength at hw
  refine lv_aload_n hx hb d_Req_readLength_0 rfl (lv_at hl 0 rfl) ?_
  refine lv_aload_n hx hb d_Req_readLength_1 rfl (lv_at hl 1 rfl) ?_
  refine lv_iload_n hx hb d_Req_readLength_2 rfl (lv_at hl 2 rfl) ?_
  refine va_calli (va_runV (As := [.ref (ad 8), .int a2]) (rest := []) ⟨hx, hb, hml, hown, hts⟩ (mt_Req_readByte l hl9 dC dI cA ad hI _ hw) (cwV 2 hts (gV gw_161 gw_162 gw_163 gw_164 gw_160) rfl rfl rfl (by decide +kernel) ⟨Nat.le_of_ble_eq_true rfl, Nat.le_of_ble_eq_true rfl⟩) ⟨zwC_blind, va_recv hK hP (ci := 3) (q0 := 10) rfl atC_Req, zwC_pre hP hS hG9⟩ rfl rfl hl.1 rfl (lv_room (Nat.le_of_ble_eq_true rfl)) d_Req_readLength_3 ⟨Nat.le_of_ble_eq_true rfl, Nat.le_of_ble_eq_true rfl⟩) hS (fun q _ h => CA_le hS.1 q h) (fun q h => CA_le hS.1 q h) (fun r3 X2 t H locs ht hvm hw hP hz1 hk1 hS => ?_)
  have hP : va_P (dC, dI) vwCl (wdC cA ad X2) H := by rw [← ht]; exact hP
  try dsimp only at hw
  refine lv_istore_n (lv' := [(3, .int r3), (0, .ref (ad 10)), (1, .ref (ad 8)), (2, .int a2)]) hx hb d_Req_readLength_6 rfl hl (by decide) rfl (fun ls hl => ?_)
  refine lv_aload_n hx hb d_Req_readLength_7 rfl (lv_at hl 1 rfl) ?_
  refine lv_aload_n hx hb d_Req_readLength_8 rfl (lv_at hl 1 rfl) ?_
  refine va_get (D := (dC, dI)) (ci := 3) (v := .int (X2 67 0)) (C := R_Req) (T := T_Req) (N := 4) hx hb hts in_Req hown hK hP (10) atC_Req rfl 3 (by decide) (hts _ gw_156) (fun _ h9 => h9) rfl d_Req_readLength_9 ?_
  refine lv_if_eq (tgt := 25) hx hb d_Req_readLength_12 (by decide) (fun c4 => ?_) (fun c4 => ?_)
  · have hw := hw.1 c4
    refine lv_iconst (v := (0 : Int32)) hx hb d_Req_readLength_25 (by decide) ?_
    have hl := lv_sub hl (l' := [(3, .int r3)]) [0] rfl
    exact L26 _ _ _ _ _ _ hw hP hS hl
  · have hw := hw.2 c4
    refine lv_iload_n hx hb d_Req_readLength_15 rfl (lv_at hl 0 rfl) ?_
    refine lv_bipush (v := (127 : Int32)) hx hb d_Req_readLength_16 (by decide) ?_
    refine lv_icmp_gt (tgt := 25) hx hb d_Req_readLength_18 (by decide) (fun c5 => ?_) (fun c5 => ?_)
    · have hw := hw.1 c5
      refine lv_iconst (v := (0 : Int32)) hx hb d_Req_readLength_25 (by decide) ?_
      have hl := lv_sub hl (l' := [(3, .int r3)]) [0] rfl
      exact L26 _ _ _ _ _ _ hw hP hS hl
    · have hw := hw.2 c5
      refine lv_iconst (v := (1 : Int32)) hx hb d_Req_readLength_21 (by decide) ?_
      refine lv_goto (tgt := 26) hx hb d_Req_readLength_22 (by decide) ?_
      have hl := lv_sub hl (l' := [(3, .int r3)]) [0] rfl
      exact L26 _ _ _ _ _ _ hw hP hS hl
def ws_Req_readRowEnd : List Cond := Cond.code y_Req_readRowEnd c_Req_readRowEnd 4 (Option.some Jvm.ClassFile.FieldType.int) :: GW
theorem d_Req_readRowEnd_0 : decode c_Req_readRowEnd 0 = .ok (.aload_n 0, 1) := by decide +kernel
theorem d_Req_readRowEnd_1 : decode c_Req_readRowEnd 1 = .ok (.aload_n 1, 1) := by decide +kernel
theorem d_Req_readRowEnd_2 : decode c_Req_readRowEnd 2 = .ok (.iload_n 2, 1) := by decide +kernel
theorem d_Req_readRowEnd_3 : decode c_Req_readRowEnd 3 = .ok (.bipush 48, 2) := by decide +kernel
theorem d_Req_readRowEnd_5 : decode c_Req_readRowEnd 5 = .ok (.invokevirtual 60, 3) := by decide +kernel
theorem d_Req_readRowEnd_8 : decode c_Req_readRowEnd 8 = .ok (.aload_n 0, 1) := by decide +kernel
theorem d_Req_readRowEnd_9 : decode c_Req_readRowEnd 9 = .ok (.aload_n 1, 1) := by decide +kernel
theorem d_Req_readRowEnd_10 : decode c_Req_readRowEnd 10 = .ok (.iload_n 2, 1) := by decide +kernel
theorem d_Req_readRowEnd_11 : decode c_Req_readRowEnd 11 = .ok (.invokevirtual 64, 3) := by decide +kernel
theorem d_Req_readRowEnd_14 : decode c_Req_readRowEnd 14 = .ok (.istore_n 3, 1) := by decide +kernel
theorem d_Req_readRowEnd_15 : decode c_Req_readRowEnd 15 = .ok (.aload_n 0, 1) := by decide +kernel
theorem d_Req_readRowEnd_16 : decode c_Req_readRowEnd 16 = .ok (.aload_n 0, 1) := by decide +kernel
theorem d_Req_readRowEnd_17 : decode c_Req_readRowEnd 17 = .ok (.getfield 15, 3) := by decide +kernel
theorem d_Req_readRowEnd_20 : decode c_Req_readRowEnd 20 = .ok (.ifCond .eq 17, 3) := by decide +kernel
theorem d_Req_readRowEnd_23 : decode c_Req_readRowEnd 23 = .ok (.iload_n 3, 1) := by decide +kernel
theorem d_Req_readRowEnd_24 : decode c_Req_readRowEnd 24 = .ok (.iload_n 2, 1) := by decide +kernel
theorem d_Req_readRowEnd_25 : decode c_Req_readRowEnd 25 = .ok (.aload_n 0, 1) := by decide +kernel
theorem d_Req_readRowEnd_26 : decode c_Req_readRowEnd 26 = .ok (.getfield 9, 3) := by decide +kernel
theorem d_Req_readRowEnd_29 : decode c_Req_readRowEnd 29 = .ok (.isub, 1) := by decide +kernel
theorem d_Req_readRowEnd_30 : decode c_Req_readRowEnd 30 = .ok (.if_icmp .gt 7, 3) := by decide +kernel
theorem d_Req_readRowEnd_33 : decode c_Req_readRowEnd 33 = .ok (.iconst 1, 1) := by decide +kernel
theorem d_Req_readRowEnd_34 : decode c_Req_readRowEnd 34 = .ok (.goto 4, 3) := by decide +kernel
theorem d_Req_readRowEnd_37 : decode c_Req_readRowEnd 37 = .ok (.iconst 0, 1) := by decide +kernel
theorem d_Req_readRowEnd_38 : decode c_Req_readRowEnd 38 = .ok (.putfield 15, 3) := by decide +kernel
theorem d_Req_readRowEnd_41 : decode c_Req_readRowEnd 41 = .ok (.aload_n 0, 1) := by decide +kernel
theorem d_Req_readRowEnd_42 : decode c_Req_readRowEnd 42 = .ok (.getfield 15, 3) := by decide +kernel
theorem d_Req_readRowEnd_45 : decode c_Req_readRowEnd 45 = .ok (.ifCond .eq 12, 3) := by decide +kernel
theorem d_Req_readRowEnd_48 : decode c_Req_readRowEnd 48 = .ok (.aload_n 0, 1) := by decide +kernel
theorem d_Req_readRowEnd_49 : decode c_Req_readRowEnd 49 = .ok (.getfield 9, 3) := by decide +kernel
theorem d_Req_readRowEnd_52 : decode c_Req_readRowEnd 52 = .ok (.iload_n 3, 1) := by decide +kernel
theorem d_Req_readRowEnd_53 : decode c_Req_readRowEnd 53 = .ok (.iadd, 1) := by decide +kernel
theorem d_Req_readRowEnd_54 : decode c_Req_readRowEnd 54 = .ok (.goto 7, 3) := by decide +kernel
theorem d_Req_readRowEnd_57 : decode c_Req_readRowEnd 57 = .ok (.aload_n 0, 1) := by decide +kernel
theorem d_Req_readRowEnd_58 : decode c_Req_readRowEnd 58 = .ok (.getfield 9, 3) := by decide +kernel
theorem d_Req_readRowEnd_61 : decode c_Req_readRowEnd 61 = .ok (.ireturn, 1) := by decide +kernel
def wq_Req_readRowEnd_38 (post : Int32 → ST → Prop) (s0 : Int32) (v3 : Int32) (X : ST) : Prop := ((s0 = 0 ∨ s0 = 1) ∧ ((s0 = 0 → post (X 66 0) (up X 67 0 s0)) ∧ (¬ s0 = 0 → post ((X 66 0) + v3) (up X 67 0 s0))))
def wp_Req_readRowEnd (post : Int32 → ST → Prop) (X : ST) (a2 : Int32) : Prop := wp_Req_skipTag (fun (X3 : ST) => wp_Req_readLength (fun (r6 : Int32) (X5 : ST) => (((X5 67 0) = 0 → wq_Req_readRowEnd_38 post (0 : Int32) r6 X5) ∧ (¬ (X5 67 0) = 0 → (((a2 - (X5 66 0)) < r6 → wq_Req_readRowEnd_38 post (0 : Int32) r6 X5) ∧ (¬ (a2 - (X5 66 0)) < r6 → wq_Req_readRowEnd_38 post (1 : Int32) r6 X5))))) X3 a2) X a2 (48 : Int32)
set_option maxHeartbeats 4000000 in
set_option maxRecDepth 100000 in
theorem mt_Req_readRowEnd (l : Launch) (hl9 : l.stackTraces = false) (dC : Nat → ClassId) (dI : Nat → Nat → Nat) (cA : Nat → ClassId) (ad : Nat → Nat) (hI : INJ ad 125) (sz : Nat) {X : ST} {a2 : Int32} {post : Int32 → ST → Prop} (hw : wp_Req_readRowEnd post X a2) : Met l y_Req_readRowEnd ws_Req_readRowEnd ({ frames := 2, cells := 0, slots := 0, locals := 46 } : Room) (va_Pc [.ref (ad 10), .ref (ad 8), .int a2] (fun U => PC dC dI cA ad sz X U)) (va_Qi (fun r (u : ST) => post r u) (fun (u : ST) t => va_P (dC, dI) vwCl (wdC cA ad u) t.heap) (CA ad 125 sz)) 0 0 (CA ad 125 sz) := by
  refine Met.ofW (cc := c_Req_readRowEnd) (maxL := 4) (ret := (some .int)) (by decide) rfl ?_
  intro p e s m args below meth c s₁ B hml hv
  obtain ⟨rfl, hsz, hP, hG⟩ := hv
  have hx := B.exec
  have hb := B.bytes
  have hr := B.returns
  have hts : ∀ w ∈ GW, w.before (([.ref (ad 10), .ref (ad 8), .int a2] : List Value).toArray) s = true := fun w h => atoms_spec (ws := ws_Req_readRowEnd) B.pre w (List.mem_cons_of_mem _ h)
  have hown : s.vm.findClass R_Req = some m.cls := findClass_of_methodNamed B.named
  have hlocks := B.notSynchronized
  subst hsz
  have hK := hG.1
  have hG9 := hG
  have hNW := hG.2.1
  have hD0 : ∀ (X : ST), va_D (CA ad 125 s.heap.size) (wdC cA ad X) := fun _ => zwC_D hI
  have hS : va_S (CA ad 125 s.heap.size) s.heap s.heap [] := va_S.rf
  have hl := lv_entry ([.ref (ad 10), .ref (ad 8), .int a2]) (n := 4) (Nat.le_of_ble_eq_true rfl)
  rw [lg_entry_eq]
  generalize (lg_sl ([.ref (ad 10), .ref (ad 8), .int a2]) ++ List.replicate (4 - (lg_sl ([.ref (ad 10), .ref (ad 8), .int a2])).length) Slot.unset).toArray = ls at hl ⊢
  have hl : lv_has ls 4 [(0, .ref (ad 10)), (1, .ref (ad 8)), (2, .int a2)] := hl
  have L38 : ∀ (s0 : Int32) (v3 : Int32) (X : ST) (H : Heap) (locs : List Loc) (ls : Array Slot), wq_Req_readRowEnd_38 post s0 v3 X → va_P (dC, dI) vwCl (wdC cA ad X) H → va_S (CA ad 125 s.heap.size) s.heap H locs → lv_has ls 4 [(0, .ref (ad 10)), (3, .int v3)] → W p l e (headSpec ws_Req_readRowEnd ({ frames := 2, cells := 0, slots := 0, locals := 46 } : Room)).room s m (([.ref (ad 10), .ref (ad 8), .int a2] : List Value).toArray) below meth c H locs 0 0 (MQ below (va_Qi (fun r (u : ST) => post r u) (fun (u : ST) t => va_P (dC, dI) vwCl (wdC cA ad u) t.heap) (CA ad 125 s.heap.size)) (([.ref (ad 10), .ref (ad 8), .int a2] : List Value).toArray) s 0 0 (CA ad 125 s.heap.size)) (F0 m 38 ls [.int s0, .ref (ad 10)]) := by
    intro s0 v3 X H locs ls hw hP hS hl
    unfold wq_Req_readRowEnd_38 at hw
    obtain ⟨h1, hw⟩ := hw
    refine va_put (D := (dC, dI)) (ci := 3) (v := .int s0) (ty := .boolean) (C := R_Req) (T := T_Req) (N := 4) hx hb hts in_Req ty_Req ty_Req_ok nm_Req hown hK hP (hD0 _) hS (10) atC_Req rfl 3 (by decide) (hts _ gw_156) (fun _ h9 => h9) rfl (by decide +kernel) (zw_bn h1) (zw_bf h1) (Nat.le_of_ble_eq_true rfl) d_Req_readRowEnd_38 (fun H locs hP _ hS => ?_)
    have hP : va_P (dC, dI) vwCl (wdC cA ad (up X 67 0 s0)) H := by rw [← stC_Req_3]; exact hP
    refine lv_aload_n hx hb d_Req_readRowEnd_41 rfl (lv_at hl 0 rfl) ?_
    refine va_get (D := (dC, dI)) (ci := 3) (v := .int s0) (C := R_Req) (T := T_Req) (N := 4) hx hb hts in_Req hown hK hP (10) atC_Req rfl 3 (by decide) (hts _ gw_156) (fun _ h9 => h9) rfl d_Req_readRowEnd_42 ?_
    refine lv_if_eq (tgt := 57) hx hb d_Req_readRowEnd_45 (by decide) (fun c2 => ?_) (fun c2 => ?_)
    · have hw := hw.1 c2
      refine lv_aload_n hx hb d_Req_readRowEnd_57 rfl (lv_at hl 0 rfl) ?_
      refine va_get (D := (dC, dI)) (ci := 3) (v := .int (X 66 0)) (C := R_Req) (T := T_Req) (N := 4) hx hb hts in_Req hown hK hP (10) atC_Req rfl 2 (by decide) (hts _ gw_158) (fun _ h9 => h9) rfl d_Req_readRowEnd_58 ?_
      exact W.iret (v := X 66 0) hx hb hr (fun t ht _ => ⟨⟨X 66 0, up X 67 0 s0, rfl, hw, by show va_P _ _ _ t.heap; rw [ht]; exact hP⟩, hS.F ht⟩) hS.2.2 d_Req_readRowEnd_61
    · have hw := hw.2 c2
      refine lv_aload_n hx hb d_Req_readRowEnd_48 rfl (lv_at hl 0 rfl) ?_
      refine va_get (D := (dC, dI)) (ci := 3) (v := .int (X 66 0)) (C := R_Req) (T := T_Req) (N := 4) hx hb hts in_Req hown hK hP (10) atC_Req rfl 2 (by decide) (hts _ gw_158) (fun _ h9 => h9) rfl d_Req_readRowEnd_49 ?_
      refine lv_iload_n hx hb d_Req_readRowEnd_52 rfl (lv_at hl 1 rfl) ?_
      refine lv_iadd hx hb d_Req_readRowEnd_53 ?_
      refine lv_goto (tgt := 61) hx hb d_Req_readRowEnd_54 (by decide) ?_
      exact W.iret (v := (X 66 0) + v3) hx hb hr (fun t ht _ => ⟨⟨(X 66 0) + v3, up X 67 0 s0, rfl, hw, by show va_P _ _ _ t.heap; rw [ht]; exact hP⟩, hS.F ht⟩) hS.2.2 d_Req_readRowEnd_61
  unfold wp_Req_readRowEnd at hw
  refine lv_aload_n hx hb d_Req_readRowEnd_0 rfl (lv_at hl 0 rfl) ?_
  refine lv_aload_n hx hb d_Req_readRowEnd_1 rfl (lv_at hl 1 rfl) ?_
  refine lv_iload_n hx hb d_Req_readRowEnd_2 rfl (lv_at hl 2 rfl) ?_
  refine lv_bipush (v := (48 : Int32)) hx hb d_Req_readRowEnd_3 (by decide) ?_
  refine va_callv (va_runV (As := [.ref (ad 8), .int a2, .int (48 : Int32)]) (rest := []) ⟨hx, hb, hml, hown, hts⟩ (mt_Req_skipTag l hl9 dC dI cA ad hI _ hw) (cwV 3 hts (gV gw_166 gw_167 gw_168 gw_164 gw_165) rfl rfl rfl (by decide +kernel) ⟨Nat.le_of_ble_eq_true rfl, Nat.le_of_ble_eq_true rfl⟩) ⟨zwC_blind, va_recv hK hP (ci := 3) (q0 := 10) rfl atC_Req, zwC_pre hP hS hG9⟩ rfl rfl hl.1 rfl (lv_room (Nat.le_of_ble_eq_true rfl)) d_Req_readRowEnd_5 ⟨Nat.le_of_ble_eq_true rfl, Nat.le_of_ble_eq_true rfl⟩) hS (fun q _ h => CA_le hS.1 q h) (fun q h => CA_le hS.1 q h) (fun X3 t H locs ht hvm hw hP hz1 hk1 hS => ?_)
  have hP : va_P (dC, dI) vwCl (wdC cA ad X3) H := by rw [← ht]; exact hP
  try dsimp only at hw
  refine lv_aload_n hx hb d_Req_readRowEnd_8 rfl (lv_at hl 0 rfl) ?_
  refine lv_aload_n hx hb d_Req_readRowEnd_9 rfl (lv_at hl 1 rfl) ?_
  refine lv_iload_n hx hb d_Req_readRowEnd_10 rfl (lv_at hl 2 rfl) ?_
  refine va_calli (va_runV (As := [.ref (ad 8), .int a2]) (rest := []) ⟨hx, hb, hml, hown, hts⟩ (mt_Req_readLength l hl9 dC dI cA ad hI _ hw) (cwV 2 hts (gV gw_170 gw_171 gw_172 gw_164 gw_169) rfl rfl rfl (by decide +kernel) ⟨Nat.le_of_ble_eq_true rfl, Nat.le_of_ble_eq_true rfl⟩) ⟨zwC_blind, va_recv hK hP (ci := 3) (q0 := 10) rfl atC_Req, zwC_pre hP hS hG9⟩ rfl rfl hl.1 rfl (lv_room (Nat.le_of_ble_eq_true rfl)) d_Req_readRowEnd_11 ⟨Nat.le_of_ble_eq_true rfl, Nat.le_of_ble_eq_true rfl⟩) hS (fun q _ h => CA_le hS.1 q h) (fun q h => CA_le hS.1 q h) (fun r6 X5 t H locs ht hvm hw hP hz1 hk1 hS => ?_)
  have hP : va_P (dC, dI) vwCl (wdC cA ad X5) H := by rw [← ht]; exact hP
  try dsimp only at hw
  refine lv_istore_n (lv' := [(3, .int r6), (0, .ref (ad 10)), (1, .ref (ad 8)), (2, .int a2)]) hx hb d_Req_readRowEnd_14 rfl hl (by decide) rfl (fun ls hl => ?_)
  refine lv_aload_n hx hb d_Req_readRowEnd_15 rfl (lv_at hl 1 rfl) ?_
  refine lv_aload_n hx hb d_Req_readRowEnd_16 rfl (lv_at hl 1 rfl) ?_
  refine va_get (D := (dC, dI)) (ci := 3) (v := .int (X5 67 0)) (C := R_Req) (T := T_Req) (N := 4) hx hb hts in_Req hown hK hP (10) atC_Req rfl 3 (by decide) (hts _ gw_156) (fun _ h9 => h9) rfl d_Req_readRowEnd_17 ?_
  refine lv_if_eq (tgt := 37) hx hb d_Req_readRowEnd_20 (by decide) (fun c7 => ?_) (fun c7 => ?_)
  · have hw := hw.1 c7
    refine lv_iconst (v := (0 : Int32)) hx hb d_Req_readRowEnd_37 (by decide) ?_
    have hl := lv_sub hl (l' := [(0, .ref (ad 10)), (3, .int r6)]) [1, 0] rfl
    exact L38 _ _ _ _ _ _ hw hP hS hl
  · have hw := hw.2 c7
    refine lv_iload_n hx hb d_Req_readRowEnd_23 rfl (lv_at hl 0 rfl) ?_
    refine lv_iload_n hx hb d_Req_readRowEnd_24 rfl (lv_at hl 3 rfl) ?_
    refine lv_aload_n hx hb d_Req_readRowEnd_25 rfl (lv_at hl 1 rfl) ?_
    refine va_get (D := (dC, dI)) (ci := 3) (v := .int (X5 66 0)) (C := R_Req) (T := T_Req) (N := 4) hx hb hts in_Req hown hK hP (10) atC_Req rfl 2 (by decide) (hts _ gw_158) (fun _ h9 => h9) rfl d_Req_readRowEnd_26 ?_
    refine lv_isub hx hb d_Req_readRowEnd_29 ?_
    refine lv_icmp_gt (tgt := 37) hx hb d_Req_readRowEnd_30 (by decide) (fun c8 => ?_) (fun c8 => ?_)
    · have hw := hw.1 c8
      refine lv_iconst (v := (0 : Int32)) hx hb d_Req_readRowEnd_37 (by decide) ?_
      have hl := lv_sub hl (l' := [(0, .ref (ad 10)), (3, .int r6)]) [1, 0] rfl
      exact L38 _ _ _ _ _ _ hw hP hS hl
    · have hw := hw.2 c8
      refine lv_iconst (v := (1 : Int32)) hx hb d_Req_readRowEnd_33 (by decide) ?_
      refine lv_goto (tgt := 38) hx hb d_Req_readRowEnd_34 (by decide) ?_
      have hl := lv_sub hl (l' := [(0, .ref (ad 10)), (3, .int r6)]) [1, 0] rfl
      exact L38 _ _ _ _ _ _ hw hP hS hl
