def ws_MO_textDigest : List Cond := Cond.code y_MO_textDigest c_MO_textDigest 2 (Option.some Jvm.ClassFile.FieldType.int) :: GW
theorem d_MO_textDigest_0 : decode c_MO_textDigest 0 = .ok (.aload_n 0, 1) := by decide +kernel
theorem d_MO_textDigest_1 : decode c_MO_textDigest 1 = .ok (.lconst 0, 1) := by decide +kernel
theorem d_MO_textDigest_2 : decode c_MO_textDigest 2 = .ok (.putfield 85, 3) := by decide +kernel
theorem d_MO_textDigest_5 : decode c_MO_textDigest 5 = .ok (.iconst 0, 1) := by decide +kernel
theorem d_MO_textDigest_6 : decode c_MO_textDigest 6 = .ok (.istore_n 1, 1) := by decide +kernel
theorem d_MO_textDigest_7 : decode c_MO_textDigest 7 = .ok (.iload_n 1, 1) := by decide +kernel
theorem d_MO_textDigest_8 : decode c_MO_textDigest 8 = .ok (.aload_n 0, 1) := by decide +kernel
theorem d_MO_textDigest_9 : decode c_MO_textDigest 9 = .ok (.getfield 182, 3) := by decide +kernel
theorem d_MO_textDigest_12 : decode c_MO_textDigest 12 = .ok (.if_icmp .ge 19, 3) := by decide +kernel
theorem d_MO_textDigest_15 : decode c_MO_textDigest 15 = .ok (.aload_n 0, 1) := by decide +kernel
theorem d_MO_textDigest_16 : decode c_MO_textDigest 16 = .ok (.aload_n 0, 1) := by decide +kernel
theorem d_MO_textDigest_17 : decode c_MO_textDigest 17 = .ok (.getfield 74, 3) := by decide +kernel
theorem d_MO_textDigest_20 : decode c_MO_textDigest 20 = .ok (.iload_n 1, 1) := by decide +kernel
theorem d_MO_textDigest_21 : decode c_MO_textDigest 21 = .ok (.iaload, 1) := by decide +kernel
theorem d_MO_textDigest_22 : decode c_MO_textDigest 22 = .ok (.invokevirtual 91, 3) := by decide +kernel
theorem d_MO_textDigest_25 : decode c_MO_textDigest 25 = .ok (.iinc 1 1, 3) := by decide +kernel
theorem d_MO_textDigest_28 : decode c_MO_textDigest 28 = .ok (.goto (-21), 3) := by decide +kernel
theorem d_MO_textDigest_31 : decode c_MO_textDigest 31 = .ok (.aload_n 0, 1) := by decide +kernel
theorem d_MO_textDigest_32 : decode c_MO_textDigest 32 = .ok (.invokevirtual 95, 3) := by decide +kernel
theorem d_MO_textDigest_35 : decode c_MO_textDigest 35 = .ok (.ireturn, 1) := by decide +kernel
def wq_MO_textDigest_7 (post : Int32 → ST → Int64 → Prop) : Nat → Int32 → ST → Int64 → Prop
  | 0 => fun _ _ _ => False
  | n + 1 => fun v1 X Y => (((X 7 0) ≤ v1 → wp_MO_mixedDigest (fun (r4 : Int32) (X2 : ST) (Y3 : Int64) => post r4 X2 Y3) X Y) ∧ (¬ (X 7 0) ≤ v1 → (vp_in v1 96 ∧ wp_MO_mix (fun (X6 : ST) (Y7 : Int64) => wq_MO_textDigest_7 post n (v1 + (1 : Int32)) X6 Y7) X Y (X 63 v1.toNatClampNeg))))
def wp_MO_textDigest (post : Int32 → ST → Int64 → Prop) (X : ST) (Y : Int64) : Prop := (∃ n9, wq_MO_textDigest_7 post n9 (0 : Int32) X (0 : Int64))
set_option maxHeartbeats 4000000 in
set_option maxRecDepth 100000 in
theorem mt_MO_textDigest (l : Launch) (hl9 : l.stackTraces = false) (dC : Nat → ClassId) (dI : Nat → Nat → Nat) (cA : Nat → ClassId) (ad : Nat → Nat) (hI : INJ ad 23) (sz : Nat) {X : ST} {Y : Int64} {post : Int32 → ST → Int64 → Prop} (hw : wp_MO_textDigest post X Y) : Met l y_MO_textDigest ws_MO_textDigest ({ frames := 1, cells := 0, slots := 0, locals := 23 } : Room) (va_Pc [.ref (ad 0)] (fun U => PM dC dI cA ad sz X Y U)) (va_Qi (fun r (u : ST × Int64) => post r u.1 u.2) (fun (u : ST × Int64) t => va_P (dC, dI) vwCl (wdM cA ad u.1 u.2) t.heap) (CA ad 23 sz)) 0 0 (CA ad 23 sz) := by
  refine Met.ofW (cc := c_MO_textDigest) (maxL := 2) (ret := (some .int)) (by decide) rfl ?_
  intro p e s m args below meth c s₁ B hml hv
  obtain ⟨rfl, hsz, hP, hG⟩ := hv
  have hx := B.exec
  have hb := B.bytes
  have hr := B.returns
  have hts : ∀ w ∈ GW, w.before (([.ref (ad 0)] : List Value).toArray) s = true := fun w h => atoms_spec (ws := ws_MO_textDigest) B.pre w (List.mem_cons_of_mem _ h)
  have hown : s.vm.findClass R_MO = some m.cls := findClass_of_methodNamed B.named
  have hlocks := B.notSynchronized
  subst hsz
  have hK := hG.1
  have hG9 := hG
  have hNW := hG.2
  have hD0 : ∀ (X : ST) (Y : Int64), va_D (CA ad 23 s.heap.size) (wdM cA ad X Y) := fun _ _ => zwM_D hI
  have hS : va_S (CA ad 23 s.heap.size) s.heap s.heap [] := va_S.rf
  have hl := lv_entry ([.ref (ad 0)]) (n := 2) (Nat.le_of_ble_eq_true rfl)
  rw [lg_entry_eq]
  generalize (lg_sl ([.ref (ad 0)]) ++ List.replicate (2 - (lg_sl ([.ref (ad 0)])).length) Slot.unset).toArray = ls at hl ⊢
  have hl : lv_has ls 2 [(0, .ref (ad 0))] := hl
  have L7 : ∀ (n : Nat), ∀ (v1 : Int32) (X : ST) (Y : Int64) (H : Heap) (locs : List Loc) (ls : Array Slot), wq_MO_textDigest_7 post n v1 X Y → va_P (dC, dI) vwCl (wdM cA ad X Y) H → va_S (CA ad 23 s.heap.size) s.heap H locs → lv_has ls 2 [(0, .ref (ad 0)), (1, .int v1)] → W p l e (headSpec ws_MO_textDigest ({ frames := 1, cells := 0, slots := 0, locals := 23 } : Room)).room s m (([.ref (ad 0)] : List Value).toArray) below meth c H locs 0 0 (MQ below (va_Qi (fun r (u : ST × Int64) => post r u.1 u.2) (fun (u : ST × Int64) t => va_P (dC, dI) vwCl (wdM cA ad u.1 u.2) t.heap) (CA ad 23 s.heap.size)) (([.ref (ad 0)] : List Value).toArray) s 0 0 (CA ad 23 s.heap.size)) (F0 m 7 ls []) := by
    intro n
    induction n with
    | zero => intro v1 X Y H locs ls hw hP hS hl; exact False.elim hw
    | succ n ih =>
      intro v1 X Y H locs ls hw hP hS hl
      dsimp only [wq_MO_textDigest_7] at hw
      refine lv_iload_n hx hb d_MO_textDigest_7 rfl (lv_at hl 1 rfl) ?_
      refine lv_aload_n hx hb d_MO_textDigest_8 rfl (lv_at hl 0 rfl) ?_
      refine va_get (D := (dC, dI)) (ci := 9) (v := .int (X 7 0)) (C := R_MO) (T := T_MO) (N := 36) hx hb hts in_MO hown hK hP (0) atM_MO rfl 30 (by decide) (hts _ gw_399) (fun _ h9 => h9) rfl d_MO_textDigest_9 ?_
      refine lv_icmp_ge (tgt := 31) hx hb d_MO_textDigest_12 (by decide) (fun c1 => ?_) (fun c1 => ?_)
      · have hw := hw.1 c1
        refine lv_aload_n hx hb d_MO_textDigest_31 rfl (lv_at hl 0 rfl) ?_
        refine va_calli (va_runV (As := []) (rest := []) ⟨hx, hb, hml, hown, hts⟩ (mt_MO_mixedDigest l hl9 dC dI cA ad hI _ hw) (cwV 0 hts (gV gw_308 gw_309 gw_310 gw_306 gw_307) rfl rfl rfl (by decide +kernel) ⟨Nat.le_of_ble_eq_true rfl, Nat.le_of_ble_eq_true rfl⟩) ⟨zwM_blind, va_recv hK hP (ci := 9) (q0 := 0) rfl atM_MO, zwM_pre hP hS hG9⟩ rfl rfl hl.1 rfl (lv_room (Nat.le_of_ble_eq_true rfl)) d_MO_textDigest_32 ⟨Nat.le_of_ble_eq_true rfl, Nat.le_of_ble_eq_true rfl⟩) hS (fun q _ h => CA_le hS.1 q h) (fun q h => CA_le hS.1 q h) (fun r4 u9 t H locs ht hvm hw hP hz1 hk1 hS => ?_)
        obtain ⟨X2, Y3⟩ := u9
        have hP : va_P (dC, dI) vwCl (wdM cA ad X2 Y3) H := by rw [← ht]; exact hP
        try dsimp only at hw
        exact W.iret (v := r4) hx hb hr (fun t ht _ => ⟨⟨r4, (X2, Y3), rfl, hw, by show va_P _ _ _ t.heap; rw [ht]; exact hP⟩, hS.F ht⟩) hS.2.2 d_MO_textDigest_35
      · have hw := hw.2 c1
        refine lv_aload_n hx hb d_MO_textDigest_15 rfl (lv_at hl 0 rfl) ?_
        refine lv_aload_n hx hb d_MO_textDigest_16 rfl (lv_at hl 0 rfl) ?_
        refine va_get (D := (dC, dI)) (ci := 9) (v := .ref (ad 22)) (C := R_MO) (T := T_MO) (N := 36) hx hb hts in_MO hown hK hP (0) atM_MO rfl 29 (by decide) (hts _ gw_398) (fun _ h9 => h9) rfl d_MO_textDigest_17 ?_
        refine lv_iload_n hx hb d_MO_textDigest_20 rfl (lv_at hl 1 rfl) ?_
        obtain ⟨h5, hw⟩ := hw
        refine va_iald hx hb hK hP (22) 21 atM_text rfl h5 d_MO_textDigest_21 ?_
        refine va_callv (va_runV (As := [.int (X 63 v1.toNatClampNeg)]) (rest := []) ⟨hx, hb, hml, hown, hts⟩ (mt_MO_mix l hl9 dC dI cA ad hI _ hw) (cwV 1 hts (gV gw_303 gw_304 gw_305 gw_306 gw_302) rfl rfl rfl (by decide +kernel) ⟨Nat.le_of_ble_eq_true rfl, Nat.le_of_ble_eq_true rfl⟩) ⟨zwM_blind, va_recv hK hP (ci := 9) (q0 := 0) rfl atM_MO, zwM_pre hP hS hG9⟩ rfl rfl hl.1 rfl (lv_room (Nat.le_of_ble_eq_true rfl)) d_MO_textDigest_22 ⟨Nat.le_of_ble_eq_true rfl, Nat.le_of_ble_eq_true rfl⟩) hS (fun q _ h => CA_le hS.1 q h) (fun q h => CA_le hS.1 q h) (fun u9 t H locs ht hvm hw hP hz1 hk1 hS => ?_)
        obtain ⟨X6, Y7⟩ := u9
        have hP : va_P (dC, dI) vwCl (wdM cA ad X6 Y7) H := by rw [← ht]; exact hP
        try dsimp only at hw
        refine lv_iinc (k := 1) (v := v1 + (1 : Int32)) (lv' := [(1, .int (v1 + (1 : Int32))), (0, .ref (ad 0))]) hx hb d_MO_textDigest_25 hl rfl rfl (by decide) rfl (fun ls hl => ?_)
        refine lv_goto (tgt := 7) hx hb d_MO_textDigest_28 (by decide) ?_
        have hl := lv_sub hl (l' := [(0, .ref (ad 0)), (1, .int (v1 + (1 : Int32)))]) [1, 0] rfl
        exact ih _ _ _ _ _ _ hw hP hS hl
  unfold wp_MO_textDigest at hw
  refine lv_aload_n hx hb d_MO_textDigest_0 rfl (lv_at hl 0 rfl) ?_
  refine lv_lconst (v := (0 : Int64)) hx hb d_MO_textDigest_1 (by decide) ?_
  refine va_put (D := (dC, dI)) (ci := 9) (v := .long (0 : Int64)) (ty := .long) (C := R_MO) (T := T_MO) (N := 36) hx hb hts in_MO ty_MO ty_MO_ok nm_MO hown hK hP (hD0 _ _) hS (0) atM_MO rfl 35 (by decide) (hts _ gw_300) (fun _ h9 => h9) rfl (by decide +kernel) rfl rfl (Nat.le_of_ble_eq_true rfl) d_MO_textDigest_2 (fun H locs hP _ hS => ?_)
  have hP : va_P (dC, dI) vwCl (wdM cA ad X (0 : Int64)) H := by rw [← stM_MO_35]; exact hP
  refine lv_iconst (v := (0 : Int32)) hx hb d_MO_textDigest_5 (by decide) ?_
  refine lv_istore_n (lv' := [(1, .int (0 : Int32)), (0, .ref (ad 0))]) hx hb d_MO_textDigest_6 rfl hl (by decide) rfl (fun ls hl => ?_)
  have hl := lv_sub hl (l' := [(0, .ref (ad 0)), (1, .int (0 : Int32))]) [1, 0] rfl
  obtain ⟨n9, hw⟩ := hw
  exact L7 n9 _ _ _ _ _ _ hw hP hS hl
def ws_MO_csr : List Cond := Cond.code y_MO_csr c_MO_csr 1 (Option.some Jvm.ClassFile.FieldType.int) :: GW
theorem d_MO_csr_0 : decode c_MO_csr 0 = .ok (.aload_n 0, 1) := by decide +kernel
theorem d_MO_csr_1 : decode c_MO_csr 1 = .ok (.iconst 0, 1) := by decide +kernel
theorem d_MO_csr_2 : decode c_MO_csr 2 = .ok (.putfield 81, 3) := by decide +kernel
theorem d_MO_csr_5 : decode c_MO_csr 5 = .ok (.aload_n 0, 1) := by decide +kernel
theorem d_MO_csr_6 : decode c_MO_csr 6 = .ok (.invokevirtual 203, 3) := by decide +kernel
theorem d_MO_csr_9 : decode c_MO_csr 9 = .ok (.ireturn, 1) := by decide +kernel
def wp_MO_csr (post : Int32 → ST → Int64 → Prop) (X : ST) (Y : Int64) : Prop := wp_MO_textDigest (fun (r3 : Int32) (X1 : ST) (Y2 : Int64) => post r3 X1 Y2) (up X 90 0 (0 : Int32)) Y
set_option maxHeartbeats 4000000 in
set_option maxRecDepth 100000 in
theorem mt_MO_csr (l : Launch) (hl9 : l.stackTraces = false) (dC : Nat → ClassId) (dI : Nat → Nat → Nat) (cA : Nat → ClassId) (ad : Nat → Nat) (hI : INJ ad 23) (sz : Nat) {X : ST} {Y : Int64} {post : Int32 → ST → Int64 → Prop} (hw : wp_MO_csr post X Y) : Met l y_MO_csr ws_MO_csr ({ frames := 2, cells := 0, slots := 0, locals := 44 } : Room) (va_Pc [.ref (ad 0)] (fun U => PM dC dI cA ad sz X Y U)) (va_Qi (fun r (u : ST × Int64) => post r u.1 u.2) (fun (u : ST × Int64) t => va_P (dC, dI) vwCl (wdM cA ad u.1 u.2) t.heap) (CA ad 23 sz)) 0 0 (CA ad 23 sz) := by
  refine Met.ofW (cc := c_MO_csr) (maxL := 1) (ret := (some .int)) (by decide) rfl ?_
  intro p e s m args below meth c s₁ B hml hv
  obtain ⟨rfl, hsz, hP, hG⟩ := hv
  have hx := B.exec
  have hb := B.bytes
  have hr := B.returns
  have hts : ∀ w ∈ GW, w.before (([.ref (ad 0)] : List Value).toArray) s = true := fun w h => atoms_spec (ws := ws_MO_csr) B.pre w (List.mem_cons_of_mem _ h)
  have hown : s.vm.findClass R_MO = some m.cls := findClass_of_methodNamed B.named
  have hlocks := B.notSynchronized
  subst hsz
  have hK := hG.1
  have hG9 := hG
  have hNW := hG.2
  have hD0 : ∀ (X : ST) (Y : Int64), va_D (CA ad 23 s.heap.size) (wdM cA ad X Y) := fun _ _ => zwM_D hI
  have hS : va_S (CA ad 23 s.heap.size) s.heap s.heap [] := va_S.rf
  have hl := lv_entry ([.ref (ad 0)]) (n := 1) (Nat.le_of_ble_eq_true rfl)
  rw [lg_entry_eq]
  generalize (lg_sl ([.ref (ad 0)]) ++ List.replicate (1 - (lg_sl ([.ref (ad 0)])).length) Slot.unset).toArray = ls at hl ⊢
  have hl : lv_has ls 1 [(0, .ref (ad 0))] := hl
  unfold wp_MO_csr at hw
  refine lv_aload_n hx hb d_MO_csr_0 rfl (lv_at hl 0 rfl) ?_
  refine lv_iconst (v := (0 : Int32)) hx hb d_MO_csr_1 (by decide) ?_
  refine va_put (D := (dC, dI)) (ci := 9) (v := .int (0 : Int32)) (ty := .int) (C := R_MO) (T := T_MO) (N := 36) hx hb hts in_MO ty_MO ty_MO_ok nm_MO hown hK hP (hD0 _ _) hS (0) atM_MO rfl 0 (by decide) (hts _ gw_297) (fun _ h9 => h9) rfl (by decide +kernel) rfl rfl (Nat.le_of_ble_eq_true rfl) d_MO_csr_2 (fun H locs hP _ hS => ?_)
  have hP : va_P (dC, dI) vwCl (wdM cA ad (up X 90 0 (0 : Int32)) Y) H := by rw [← stM_MO_0]; exact hP
  refine lv_aload_n hx hb d_MO_csr_5 rfl (lv_at hl 0 rfl) ?_
  refine va_calli (va_runV (As := []) (rest := []) ⟨hx, hb, hml, hown, hts⟩ (mt_MO_textDigest l hl9 dC dI cA ad hI _ hw) (cwV 0 hts (gV gw_419 gw_420 gw_421 gw_306 gw_418) rfl rfl rfl (by decide +kernel) ⟨Nat.le_of_ble_eq_true rfl, Nat.le_of_ble_eq_true rfl⟩) ⟨zwM_blind, va_recv hK hP (ci := 9) (q0 := 0) rfl atM_MO, zwM_pre hP hS hG9⟩ rfl rfl hl.1 rfl (lv_room (Nat.le_of_ble_eq_true rfl)) d_MO_csr_6 ⟨Nat.le_of_ble_eq_true rfl, Nat.le_of_ble_eq_true rfl⟩) hS (fun q _ h => CA_le hS.1 q h) (fun q h => CA_le hS.1 q h) (fun r3 u9 t H locs ht hvm hw hP hz1 hk1 hS => ?_)
  obtain ⟨X1, Y2⟩ := u9
  have hP : va_P (dC, dI) vwCl (wdM cA ad X1 Y2) H := by rw [← ht]; exact hP
  try dsimp only at hw
  exact W.iret (v := r3) hx hb hr (fun t ht _ => ⟨⟨r3, (X1, Y2), rfl, hw, by show va_P _ _ _ t.heap; rw [ht]; exact hP⟩, hS.F ht⟩) hS.2.2 d_MO_csr_9
