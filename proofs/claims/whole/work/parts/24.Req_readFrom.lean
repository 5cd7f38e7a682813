def ws_Req_readFrom : List Cond := Cond.code y_Req_readFrom c_Req_readFrom 4 (Option.some Jvm.ClassFile.FieldType.boolean) :: GW
theorem d_Req_readFrom_0 : decode c_Req_readFrom 0 = .ok (.aload_n 0, 1) := by decide +kernel
theorem d_Req_readFrom_1 : decode c_Req_readFrom 1 = .ok (.iconst 0, 1) := by decide +kernel
theorem d_Req_readFrom_2 : decode c_Req_readFrom 2 = .ok (.putfield 9, 3) := by decide +kernel
theorem d_Req_readFrom_5 : decode c_Req_readFrom 5 = .ok (.aload_n 0, 1) := by decide +kernel
theorem d_Req_readFrom_6 : decode c_Req_readFrom 6 = .ok (.iconst 1, 1) := by decide +kernel
theorem d_Req_readFrom_7 : decode c_Req_readFrom 7 = .ok (.putfield 15, 3) := by decide +kernel
theorem d_Req_readFrom_10 : decode c_Req_readFrom 10 = .ok (.aload_n 0, 1) := by decide +kernel
theorem d_Req_readFrom_11 : decode c_Req_readFrom 11 = .ok (.aload_n 1, 1) := by decide +kernel
theorem d_Req_readFrom_12 : decode c_Req_readFrom 12 = .ok (.aload_n 1, 1) := by decide +kernel
theorem d_Req_readFrom_13 : decode c_Req_readFrom 13 = .ok (.getfield 19, 3) := by decide +kernel
theorem d_Req_readFrom_16 : decode c_Req_readFrom 16 = .ok (.invokevirtual 24, 3) := by decide +kernel
theorem d_Req_readFrom_19 : decode c_Req_readFrom 19 = .ok (.istore_n 2, 1) := by decide +kernel
theorem d_Req_readFrom_20 : decode c_Req_readFrom 20 = .ok (.aload_n 0, 1) := by decide +kernel
theorem d_Req_readFrom_21 : decode c_Req_readFrom 21 = .ok (.aload_n 0, 1) := by decide +kernel
theorem d_Req_readFrom_22 : decode c_Req_readFrom 22 = .ok (.getfield 15, 3) := by decide +kernel
theorem d_Req_readFrom_25 : decode c_Req_readFrom 25 = .ok (.ifCond .eq 15, 3) := by decide +kernel
theorem d_Req_readFrom_28 : decode c_Req_readFrom 28 = .ok (.iload_n 2, 1) := by decide +kernel
theorem d_Req_readFrom_29 : decode c_Req_readFrom 29 = .ok (.aload_n 1, 1) := by decide +kernel
theorem d_Req_readFrom_30 : decode c_Req_readFrom 30 = .ok (.getfield 19, 3) := by decide +kernel
theorem d_Req_readFrom_33 : decode c_Req_readFrom 33 = .ok (.if_icmp .ne 7, 3) := by decide +kernel
theorem d_Req_readFrom_36 : decode c_Req_readFrom 36 = .ok (.iconst 1, 1) := by decide +kernel
theorem d_Req_readFrom_37 : decode c_Req_readFrom 37 = .ok (.goto 4, 3) := by decide +kernel
theorem d_Req_readFrom_40 : decode c_Req_readFrom 40 = .ok (.iconst 0, 1) := by decide +kernel
theorem d_Req_readFrom_41 : decode c_Req_readFrom 41 = .ok (.putfield 15, 3) := by decide +kernel
theorem d_Req_readFrom_44 : decode c_Req_readFrom 44 = .ok (.aload_n 0, 1) := by decide +kernel
theorem d_Req_readFrom_45 : decode c_Req_readFrom 45 = .ok (.aload_n 0, 1) := by decide +kernel
theorem d_Req_readFrom_46 : decode c_Req_readFrom 46 = .ok (.aload_n 1, 1) := by decide +kernel
theorem d_Req_readFrom_47 : decode c_Req_readFrom 47 = .ok (.iload_n 2, 1) := by decide +kernel
theorem d_Req_readFrom_48 : decode c_Req_readFrom 48 = .ok (.invokevirtual 28, 3) := by decide +kernel
theorem d_Req_readFrom_51 : decode c_Req_readFrom 51 = .ok (.putfield 31, 3) := by decide +kernel
theorem d_Req_readFrom_54 : decode c_Req_readFrom 54 = .ok (.aload_n 0, 1) := by decide +kernel
theorem d_Req_readFrom_55 : decode c_Req_readFrom 55 = .ok (.aload_n 0, 1) := by decide +kernel
theorem d_Req_readFrom_56 : decode c_Req_readFrom 56 = .ok (.aload_n 1, 1) := by decide +kernel
theorem d_Req_readFrom_57 : decode c_Req_readFrom 57 = .ok (.aload_n 0, 1) := by decide +kernel
theorem d_Req_readFrom_58 : decode c_Req_readFrom 58 = .ok (.aload_n 1, 1) := by decide +kernel
theorem d_Req_readFrom_59 : decode c_Req_readFrom 59 = .ok (.iload_n 2, 1) := by decide +kernel
theorem d_Req_readFrom_60 : decode c_Req_readFrom 60 = .ok (.invokevirtual 24, 3) := by decide +kernel
theorem d_Req_readFrom_63 : decode c_Req_readFrom 63 = .ok (.invokevirtual 34, 3) := by decide +kernel
theorem d_Req_readFrom_66 : decode c_Req_readFrom 66 = .ok (.putfield 37, 3) := by decide +kernel
theorem d_Req_readFrom_69 : decode c_Req_readFrom 69 = .ok (.aload_n 0, 1) := by decide +kernel
theorem d_Req_readFrom_70 : decode c_Req_readFrom 70 = .ok (.aload_n 1, 1) := by decide +kernel
theorem d_Req_readFrom_71 : decode c_Req_readFrom 71 = .ok (.iload_n 2, 1) := by decide +kernel
theorem d_Req_readFrom_72 : decode c_Req_readFrom 72 = .ok (.invokevirtual 28, 3) := by decide +kernel
theorem d_Req_readFrom_75 : decode c_Req_readFrom 75 = .ok (.istore_n 3, 1) := by decide +kernel
theorem d_Req_readFrom_76 : decode c_Req_readFrom 76 = .ok (.aload_n 0, 1) := by decide +kernel
theorem d_Req_readFrom_77 : decode c_Req_readFrom 77 = .ok (.getfield 15, 3) := by decide +kernel
theorem d_Req_readFrom_80 : decode c_Req_readFrom 80 = .ok (.ifCond .eq 40, 3) := by decide +kernel
theorem d_Req_readFrom_83 : decode c_Req_readFrom 83 = .ok (.aload_n 0, 1) := by decide +kernel
theorem d_Req_readFrom_84 : decode c_Req_readFrom 84 = .ok (.getfield 9, 3) := by decide +kernel
theorem d_Req_readFrom_87 : decode c_Req_readFrom 87 = .ok (.iload_n 2, 1) := by decide +kernel
theorem d_Req_readFrom_88 : decode c_Req_readFrom 88 = .ok (.if_icmp .ne 32, 3) := by decide +kernel
theorem d_Req_readFrom_91 : decode c_Req_readFrom 91 = .ok (.aload_n 0, 1) := by decide +kernel
theorem d_Req_readFrom_92 : decode c_Req_readFrom 92 = .ok (.getfield 31, 3) := by decide +kernel
theorem d_Req_readFrom_95 : decode c_Req_readFrom 95 = .ok (.invokestatic 40, 3) := by decide +kernel
theorem d_Req_readFrom_98 : decode c_Req_readFrom 98 = .ok (.ifCond .eq 22, 3) := by decide +kernel
theorem d_Req_readFrom_101 : decode c_Req_readFrom 101 = .ok (.iload_n 3, 1) := by decide +kernel
theorem d_Req_readFrom_102 : decode c_Req_readFrom 102 = .ok (.aload_n 0, 1) := by decide +kernel
theorem d_Req_readFrom_103 : decode c_Req_readFrom 103 = .ok (.invokevirtual 44, 3) := by decide +kernel
theorem d_Req_readFrom_106 : decode c_Req_readFrom 106 = .ok (.aload_n 0, 1) := by decide +kernel
theorem d_Req_readFrom_107 : decode c_Req_readFrom 107 = .ok (.getfield 31, 3) := by decide +kernel
theorem d_Req_readFrom_110 : decode c_Req_readFrom 110 = .ok (.invokestatic 48, 3) := by decide +kernel
theorem d_Req_readFrom_113 : decode c_Req_readFrom 113 = .ok (.ifCond .eq 7, 3) := by decide +kernel
theorem d_Req_readFrom_116 : decode c_Req_readFrom 116 = .ok (.iconst 1, 1) := by decide +kernel
theorem d_Req_readFrom_117 : decode c_Req_readFrom 117 = .ok (.goto 4, 3) := by decide +kernel
theorem d_Req_readFrom_120 : decode c_Req_readFrom 120 = .ok (.iconst 0, 1) := by decide +kernel
theorem d_Req_readFrom_121 : decode c_Req_readFrom 121 = .ok (.ireturn, 1) := by decide +kernel
def wq_Req_readFrom_41 (post : Int32 → ST → Prop) (s0 : Int32) (v2 : Int32) (X : ST) : Prop := ((s0 = 0 ∨ s0 = 1) ∧ wp_Req_readNumber (fun (r3 : Int32) (X2 : ST) => wp_Req_readRowEnd (fun (r5 : Int32) (X4 : ST) => wp_Req_readNames (fun (r7 : Int32) (X6 : ST) => wp_Req_readNumber (fun (r9 : Int32) (X8 : ST) => (((X8 67 0) = 0 → post (0 : Int32) X8) ∧ (¬ (X8 67 0) = 0 → (((X8 66 0) = v2 → wp_CA_isKey (fun (r13 : Int32) (X12 : ST) => ((r13 = 0 → post (0 : Int32) X12) ∧ (¬ r13 = 0 → wp_Req_signedDigest (fun (r16 : Int32) (X15 : ST) => wp_CA_isRight (fun (r18 : Int32) (X17 : ST) => ((r18 = 0 → post (0 : Int32) X17) ∧ (¬ r18 = 0 → post (1 : Int32) X17))) X15 r9 r16 (X15 64 0)) X12))) X8 (X8 64 0)) ∧ (¬ (X8 66 0) = v2 → post (0 : Int32) X8))))) (up X6 65 0 r7) v2) X4 r5) (up X2 64 0 r3) v2) (up X 67 0 s0) v2)
def wp_Req_readFrom (post : Int32 → ST → Prop) (X : ST) : Prop := wp_Req_readRowEnd (fun (r21 : Int32) (X20 : ST) => (((X20 67 0) = 0 → wq_Req_readFrom_41 post (0 : Int32) r21 X20) ∧ (¬ (X20 67 0) = 0 → ((r21 = (X20 7 0) → wq_Req_readFrom_41 post (1 : Int32) r21 X20) ∧ (¬ r21 = (X20 7 0) → wq_Req_readFrom_41 post (0 : Int32) r21 X20))))) (up (up X 66 0 (0 : Int32)) 67 0 (1 : Int32)) (X 7 0)
set_option maxHeartbeats 4000000 in
set_option maxRecDepth 100000 in
theorem mt_Req_readFrom (l : Launch) (hl9 : l.stackTraces = false) (dC : Nat → ClassId) (dI : Nat → Nat → Nat) (cA : Nat → ClassId) (ad : Nat → Nat) (hI : INJ ad 125) (sz : Nat) {X : ST} {post : Int32 → ST → Prop} (hw : wp_Req_readFrom post X) : Met l y_Req_readFrom ws_Req_readFrom ({ frames := 4, cells := 0, slots := 0, locals := 99 } : Room) (va_Pc [.ref (ad 10), .ref (ad 8)] (fun U => PC dC dI cA ad sz X U)) (va_Qi (fun r (u : ST) => post r u) (fun (u : ST) t => va_P (dC, dI) vwCl (wdC cA ad u) t.heap) (CA ad 125 sz)) 0 0 (CA ad 125 sz) := by
  refine Met.ofW (cc := c_Req_readFrom) (maxL := 4) (ret := (some .boolean)) (by decide) rfl ?_
  intro p e s m args below meth c s₁ B hml hv
  obtain ⟨rfl, hsz, hP, hG⟩ := hv
  have hx := B.exec
  have hb := B.bytes
  have hr := B.returns
  have hts : ∀ w ∈ GW, w.before (([.ref (ad 10), .ref (ad 8)] : List Value).toArray) s = true := fun w h => atoms_spec (ws := ws_Req_readFrom) B.pre w (List.mem_cons_of_mem _ h)
  have hown : s.vm.findClass R_Req = some m.cls := findClass_of_methodNamed B.named
  have hlocks := B.notSynchronized
  subst hsz
  have hK := hG.1
  have hG9 := hG
  have hNW := hG.2.1
  have hD0 : ∀ (X : ST), va_D (CA ad 125 s.heap.size) (wdC cA ad X) := fun _ => zwC_D hI
  have hS : va_S (CA ad 125 s.heap.size) s.heap s.heap [] := va_S.rf
  have hl := lv_entry ([.ref (ad 10), .ref (ad 8)]) (n := 4) (Nat.le_of_ble_eq_true rfl)
  rw [lg_entry_eq]
  generalize (lg_sl ([.ref (ad 10), .ref (ad 8)]) ++ List.replicate (4 - (lg_sl ([.ref (ad 10), .ref (ad 8)])).length) Slot.unset).toArray = ls at hl ⊢
  have hl : lv_has ls 4 [(0, .ref (ad 10)), (1, .ref (ad 8))] := hl
  have L41 : ∀ (s0 : Int32) (v2 : Int32) (X : ST) (H : Heap) (locs : List Loc) (ls : Array Slot), wq_Req_readFrom_41 post s0 v2 X → va_P (dC, dI) vwCl (wdC cA ad X) H → va_S (CA ad 125 s.heap.size) s.heap H locs → lv_has ls 4 [(0, .ref (ad 10)), (1, .ref (ad 8)), (2, .int v2)] → W p l e (headSpec ws_Req_readFrom ({ frames := 4, cells := 0, slots := 0, locals := 99 } : Room)).room s m (([.ref (ad 10), .ref (ad 8)] : List Value).toArray) below meth c H locs 0 0 (MQ below (va_Qi (fun r (u : ST) => post r u) (fun (u : ST) t => va_P (dC, dI) vwCl (wdC cA ad u) t.heap) (CA ad 125 s.heap.size)) (([.ref (ad 10), .ref (ad 8)] : List Value).toArray) s 0 0 (CA ad 125 s.heap.size)) (F0 m 41 ls [.int s0, .ref (ad 10)]) := by
    intro s0 v2 X H locs ls hw hP hS hl
    unfold wq_Req_readFrom_41 at hw
    obtain ⟨h1, hw⟩ := hw
    refine va_put (D := (dC, dI)) (ci := 3) (v := .int s0) (ty := .boolean) (C := R_Req) (T := T_Req) (N := 4) hx hb hts in_Req ty_Req ty_Req_ok nm_Req hown hK hP (hD0 _) hS (10) atC_Req rfl 3 (by decide) (hts _ gw_156) (fun _ h9 => h9) rfl (by decide +kernel) (zw_bn h1) (zw_bf h1) (Nat.le_of_ble_eq_true rfl) d_Req_readFrom_41 (fun H locs hP _ hS => ?_)
    have hP : va_P (dC, dI) vwCl (wdC cA ad (up X 67 0 s0)) H := by rw [← stC_Req_3]; exact hP
    refine lv_aload_n hx hb d_Req_readFrom_44 rfl (lv_at hl 0 rfl) ?_
    refine lv_aload_n hx hb d_Req_readFrom_45 rfl (lv_at hl 0 rfl) ?_
    refine lv_aload_n hx hb d_Req_readFrom_46 rfl (lv_at hl 1 rfl) ?_
    refine lv_iload_n hx hb d_Req_readFrom_47 rfl (lv_at hl 2 rfl) ?_
    refine va_calli (va_runV (As := [.ref (ad 8), .int v2]) (rest := [.ref (ad 10)]) ⟨hx, hb, hml, hown, hts⟩ (mt_Req_readNumber l hl9 dC dI cA ad hI _ hw) (cwV 2 hts (gV gw_174 gw_175 gw_176 gw_164 gw_173) rfl rfl rfl (by decide +kernel) ⟨Nat.le_of_ble_eq_true rfl, Nat.le_of_ble_eq_true rfl⟩) ⟨zwC_blind, va_recv hK hP (ci := 3) (q0 := 10) rfl atC_Req, zwC_pre hP hS hG9⟩ rfl rfl hl.1 rfl (lv_room (Nat.le_of_ble_eq_true rfl)) d_Req_readFrom_48 ⟨Nat.le_of_ble_eq_true rfl, Nat.le_of_ble_eq_true rfl⟩) hS (fun q _ h => CA_le hS.1 q h) (fun q h => CA_le hS.1 q h) (fun r3 X2 t H locs ht hvm hw hP hz1 hk1 hS => ?_)
    have hP : va_P (dC, dI) vwCl (wdC cA ad X2) H := by rw [← ht]; exact hP
    try dsimp only at hw
    refine va_put (D := (dC, dI)) (ci := 3) (v := .int r3) (ty := .int) (C := R_Req) (T := T_Req) (N := 4) hx hb hts in_Req ty_Req ty_Req_ok nm_Req hown hK hP (hD0 _) hS (10) atC_Req rfl 0 (by decide) (hts _ gw_177) (fun _ h9 => h9) rfl (by decide +kernel) rfl rfl (Nat.le_of_ble_eq_true rfl) d_Req_readFrom_51 (fun H locs hP _ hS => ?_)
    have hP : va_P (dC, dI) vwCl (wdC cA ad (up X2 64 0 r3)) H := by rw [← stC_Req_0]; exact hP
    refine lv_aload_n hx hb d_Req_readFrom_54 rfl (lv_at hl 0 rfl) ?_
    refine lv_aload_n hx hb d_Req_readFrom_55 rfl (lv_at hl 0 rfl) ?_
    refine lv_aload_n hx hb d_Req_readFrom_56 rfl (lv_at hl 1 rfl) ?_
    refine lv_aload_n hx hb d_Req_readFrom_57 rfl (lv_at hl 0 rfl) ?_
    refine lv_aload_n hx hb d_Req_readFrom_58 rfl (lv_at hl 1 rfl) ?_
    refine lv_iload_n hx hb d_Req_readFrom_59 rfl (lv_at hl 2 rfl) ?_
    refine va_calli (va_runV (As := [.ref (ad 8), .int v2]) (rest := [.ref (ad 8), .ref (ad 10), .ref (ad 10)]) ⟨hx, hb, hml, hown, hts⟩ (mt_Req_readRowEnd l hl9 dC dI cA ad hI _ hw) (cwV 2 hts (gV gw_180 gw_181 gw_182 gw_164 gw_179) rfl rfl rfl (by decide +kernel) ⟨Nat.le_of_ble_eq_true rfl, Nat.le_of_ble_eq_true rfl⟩) ⟨zwC_blind, va_recv hK hP (ci := 3) (q0 := 10) rfl atC_Req, zwC_pre hP hS hG9⟩ rfl rfl hl.1 rfl (lv_room (Nat.le_of_ble_eq_true rfl)) d_Req_readFrom_60 ⟨Nat.le_of_ble_eq_true rfl, Nat.le_of_ble_eq_true rfl⟩) hS (fun q _ h => CA_le hS.1 q h) (fun q h => CA_le hS.1 q h) (fun r5 X4 t H locs ht hvm hw hP hz1 hk1 hS => ?_)
    have hP : va_P (dC, dI) vwCl (wdC cA ad X4) H := by rw [← ht]; exact hP
    try dsimp only at hw
    refine va_calli (va_runV (As := [.ref (ad 8), .int r5]) (rest := [.ref (ad 10)]) ⟨hx, hb, hml, hown, hts⟩ (mt_Req_readNames l hl9 dC dI cA ad hI _ hw) (cwV 2 hts (gV gw_184 gw_185 gw_186 gw_164 gw_183) rfl rfl rfl (by decide +kernel) ⟨Nat.le_of_ble_eq_true rfl, Nat.le_of_ble_eq_true rfl⟩) ⟨zwC_blind, va_recv hK hP (ci := 3) (q0 := 10) rfl atC_Req, zwC_pre hP hS hG9⟩ rfl rfl hl.1 rfl (lv_room (Nat.le_of_ble_eq_true rfl)) d_Req_readFrom_63 ⟨Nat.le_of_ble_eq_true rfl, Nat.le_of_ble_eq_true rfl⟩) hS (fun q _ h => CA_le hS.1 q h) (fun q h => CA_le hS.1 q h) (fun r7 X6 t H locs ht hvm hw hP hz1 hk1 hS => ?_)
    have hP : va_P (dC, dI) vwCl (wdC cA ad X6) H := by rw [← ht]; exact hP
    try dsimp only at hw
    refine va_put (D := (dC, dI)) (ci := 3) (v := .int r7) (ty := .int) (C := R_Req) (T := T_Req) (N := 4) hx hb hts in_Req ty_Req ty_Req_ok nm_Req hown hK hP (hD0 _) hS (10) atC_Req rfl 1 (by decide) (hts _ gw_178) (fun _ h9 => h9) rfl (by decide +kernel) rfl rfl (Nat.le_of_ble_eq_true rfl) d_Req_readFrom_66 (fun H locs hP _ hS => ?_)
    have hP : va_P (dC, dI) vwCl (wdC cA ad (up X6 65 0 r7)) H := by rw [← stC_Req_1]; exact hP
    refine lv_aload_n hx hb d_Req_readFrom_69 rfl (lv_at hl 0 rfl) ?_
    refine lv_aload_n hx hb d_Req_readFrom_70 rfl (lv_at hl 1 rfl) ?_
    refine lv_iload_n hx hb d_Req_readFrom_71 rfl (lv_at hl 2 rfl) ?_
    refine va_calli (va_runV (As := [.ref (ad 8), .int v2]) (rest := []) ⟨hx, hb, hml, hown, hts⟩ (mt_Req_readNumber l hl9 dC dI cA ad hI _ hw) (cwV 2 hts (gV gw_174 gw_175 gw_176 gw_164 gw_173) rfl rfl rfl (by decide +kernel) ⟨Nat.le_of_ble_eq_true rfl, Nat.le_of_ble_eq_true rfl⟩) ⟨zwC_blind, va_recv hK hP (ci := 3) (q0 := 10) rfl atC_Req, zwC_pre hP hS hG9⟩ rfl rfl hl.1 rfl (lv_room (Nat.le_of_ble_eq_true rfl)) d_Req_readFrom_72 ⟨Nat.le_of_ble_eq_true rfl, Nat.le_of_ble_eq_true rfl⟩) hS (fun q _ h => CA_le hS.1 q h) (fun q h => CA_le hS.1 q h) (fun r9 X8 t H locs ht hvm hw hP hz1 hk1 hS => ?_)
    have hP : va_P (dC, dI) vwCl (wdC cA ad X8) H := by rw [← ht]; exact hP
    try dsimp only at hw
    refine lv_istore_n (lv' := [(3, .int r9), (0, .ref (ad 10)), (1, .ref (ad 8)), (2, .int v2)]) hx hb d_Req_readFrom_75 rfl hl (by decide) rfl (fun ls hl => ?_)
    refine lv_aload_n hx hb d_Req_readFrom_76 rfl (lv_at hl 1 rfl) ?_
    refine va_get (D := (dC, dI)) (ci := 3) (v := .int (X8 67 0)) (C := R_Req) (T := T_Req) (N := 4) hx hb hts in_Req hown hK hP (10) atC_Req rfl 3 (by decide) (hts _ gw_156) (fun _ h9 => h9) rfl d_Req_readFrom_77 ?_
    refine lv_if_eq (tgt := 120) hx hb d_Req_readFrom_80 (by decide) (fun c10 => ?_) (fun c10 => ?_)
    · have hw := hw.1 c10
      refine lv_iconst (v := (0 : Int32)) hx hb d_Req_readFrom_120 (by decide) ?_
      exact W.zret (v := (0 : Int32)) hx hb hr (by decide) (fun t ht _ => ⟨⟨(0 : Int32), X8, rfl, hw, by show va_P _ _ _ t.heap; rw [ht]; exact hP⟩, hS.F ht⟩) hS.2.2 d_Req_readFrom_121
    · have hw := hw.2 c10
      refine lv_aload_n hx hb d_Req_readFrom_83 rfl (lv_at hl 1 rfl) ?_
      refine va_get (D := (dC, dI)) (ci := 3) (v := .int (X8 66 0)) (C := R_Req) (T := T_Req) (N := 4) hx hb hts in_Req hown hK hP (10) atC_Req rfl 2 (by decide) (hts _ gw_158) (fun _ h9 => h9) rfl d_Req_readFrom_84 ?_
      refine lv_iload_n hx hb d_Req_readFrom_87 rfl (lv_at hl 3 rfl) ?_
      refine lv_icmp_ne (tgt := 120) hx hb d_Req_readFrom_88 (by decide) (fun c11 => ?_) (fun c11 => ?_)
      · have hw := hw.2 c11
        refine lv_iconst (v := (0 : Int32)) hx hb d_Req_readFrom_120 (by decide) ?_
        exact W.zret (v := (0 : Int32)) hx hb hr (by decide) (fun t ht _ => ⟨⟨(0 : Int32), X8, rfl, hw, by show va_P _ _ _ t.heap; rw [ht]; exact hP⟩, hS.F ht⟩) hS.2.2 d_Req_readFrom_121
      · have hw := hw.1 c11
        refine lv_aload_n hx hb d_Req_readFrom_91 rfl (lv_at hl 1 rfl) ?_
        refine va_get (D := (dC, dI)) (ci := 3) (v := .int (X8 64 0)) (C := R_Req) (T := T_Req) (N := 4) hx hb hts in_Req hown hK hP (10) atC_Req rfl 0 (by decide) (hts _ gw_177) (fun _ h9 => h9) rfl d_Req_readFrom_92 ?_
        refine va_calli (va_runSN (As := [.int (X8 64 0)]) (rest := []) ⟨hx, hb, hml, hown, hts⟩ (mt_CA_isKey l hl9 dC dI cA ad hI _ hw) ⟨va_cnB 1 hts (gN gw_19) rfl rfl rfl (hNW _ (List.mem_of_getElem? (i := 18) rfl)) (hts _ gw_13) (by decide +kernel) ⟨Nat.le_of_ble_eq_true rfl, Nat.le_of_ble_eq_true rfl⟩, hts _ gw_21, trivial⟩ ⟨zwC_blind, zwC_pre hP hS hG9⟩ rfl rfl hl.1 rfl (lv_room (Nat.le_of_ble_eq_true rfl)) d_Req_readFrom_95 ⟨Nat.le_of_ble_eq_true rfl, Nat.le_of_ble_eq_true rfl⟩) hS (fun q _ h => CA_le hS.1 q h) (fun q h => CA_le hS.1 q h) (fun r13 X12 t H locs ht hvm hw hP hz1 hk1 hS => ?_)
        have hP : va_P (dC, dI) vwCl (wdC cA ad X12) H := by rw [← ht]; exact hP
        try dsimp only at hw
        refine lv_if_eq (tgt := 120) hx hb d_Req_readFrom_98 (by decide) (fun c14 => ?_) (fun c14 => ?_)
        · have hw := hw.1 c14
          refine lv_iconst (v := (0 : Int32)) hx hb d_Req_readFrom_120 (by decide) ?_
          exact W.zret (v := (0 : Int32)) hx hb hr (by decide) (fun t ht _ => ⟨⟨(0 : Int32), X12, rfl, hw, by show va_P _ _ _ t.heap; rw [ht]; exact hP⟩, hS.F ht⟩) hS.2.2 d_Req_readFrom_121
        · have hw := hw.2 c14
          refine lv_iload_n hx hb d_Req_readFrom_101 rfl (lv_at hl 0 rfl) ?_
          refine lv_aload_n hx hb d_Req_readFrom_102 rfl (lv_at hl 1 rfl) ?_
          refine va_calli (va_runV (As := []) (rest := [.int r9]) ⟨hx, hb, hml, hown, hts⟩ (mt_Req_signedDigest l hl9 dC dI cA ad hI _ hw) (cwV 0 hts (gV gw_188 gw_189 gw_190 gw_164 gw_187) rfl rfl rfl (by decide +kernel) ⟨Nat.le_of_ble_eq_true rfl, Nat.le_of_ble_eq_true rfl⟩) ⟨zwC_blind, va_recv hK hP (ci := 3) (q0 := 10) rfl atC_Req, zwC_pre hP hS hG9⟩ rfl rfl hl.1 rfl (lv_room (Nat.le_of_ble_eq_true rfl)) d_Req_readFrom_103 ⟨Nat.le_of_ble_eq_true rfl, Nat.le_of_ble_eq_true rfl⟩) hS (fun q _ h => CA_le hS.1 q h) (fun q h => CA_le hS.1 q h) (fun r16 X15 t H locs ht hvm hw hP hz1 hk1 hS => ?_)
          have hP : va_P (dC, dI) vwCl (wdC cA ad X15) H := by rw [← ht]; exact hP
          try dsimp only at hw
          refine lv_aload_n hx hb d_Req_readFrom_106 rfl (lv_at hl 1 rfl) ?_
          refine va_get (D := (dC, dI)) (ci := 3) (v := .int (X15 64 0)) (C := R_Req) (T := T_Req) (N := 4) hx hb hts in_Req hown hK hP (10) atC_Req rfl 0 (by decide) (hts _ gw_177) (fun _ h9 => h9) rfl d_Req_readFrom_107 ?_
          refine va_calli (va_runSN (As := [.int r9, .int r16, .int (X15 64 0)]) (rest := []) ⟨hx, hb, hml, hown, hts⟩ (mt_CA_isRight l hl9 dC dI cA ad hI _ hw) ⟨va_cnB 3 hts (gN gw_46) rfl rfl rfl (hNW _ (List.mem_of_getElem? (i := 21) rfl)) (hts _ gw_13) (by decide +kernel) ⟨Nat.le_of_ble_eq_true rfl, Nat.le_of_ble_eq_true rfl⟩, hts _ gw_48, trivial⟩ ⟨zwC_blind, zwC_pre hP hS hG9⟩ rfl rfl hl.1 rfl (lv_room (Nat.le_of_ble_eq_true rfl)) d_Req_readFrom_110 ⟨Nat.le_of_ble_eq_true rfl, Nat.le_of_ble_eq_true rfl⟩) hS (fun q _ h => CA_le hS.1 q h) (fun q h => CA_le hS.1 q h) (fun r18 X17 t H locs ht hvm hw hP hz1 hk1 hS => ?_)
          have hP : va_P (dC, dI) vwCl (wdC cA ad X17) H := by rw [← ht]; exact hP
          try dsimp only at hw
          refine lv_if_eq (tgt := 120) hx hb d_Req_readFrom_113 (by decide) (fun c19 => ?_) (fun c19 => ?_)
          · have hw := hw.1 c19
            refine lv_iconst (v := (0 : Int32)) hx hb d_Req_readFrom_120 (by decide) ?_
            exact W.zret (v := (0 : Int32)) hx hb hr (by decide) (fun t ht _ => ⟨⟨(0 : Int32), X17, rfl, hw, by show va_P _ _ _ t.heap; rw [ht]; exact hP⟩, hS.F ht⟩) hS.2.2 d_Req_readFrom_121
          · have hw := hw.2 c19
            refine lv_iconst (v := (1 : Int32)) hx hb d_Req_readFrom_116 (by decide) ?_
            refine lv_goto (tgt := 121) hx hb d_Req_readFrom_117 (by decide) ?_
            exact W.zret (v := (1 : Int32)) hx hb hr (by decide) (fun t ht _ => ⟨⟨(1 : Int32), X17, rfl, hw, by show va_P _ _ _ t.heap; rw [ht]; exact hP⟩, hS.F ht⟩) hS.2.2 d_Req_readFrom_121
  unfold wp_Req_readFrom at hw
  refine lv_aload_n hx hb d_Req_readFrom_0 rfl (lv_at hl 0 rfl) ?_
  refine lv_iconst (v := (0 : Int32)) hx hb d_Req_readFrom_1 (by decide) ?_
  refine va_put (D := (dC, dI)) (ci := 3) (v := .int (0 : Int32)) (ty := .int) (C := R_Req) (T := T_Req) (N := 4) hx hb hts in_Req ty_Req ty_Req_ok nm_Req hown hK hP (hD0 _) hS (10) atC_Req rfl 2 (by decide) (hts _ gw_158) (fun _ h9 => h9) rfl (by decide +kernel) rfl rfl (Nat.le_of_ble_eq_true rfl) d_Req_readFrom_2 (fun H locs hP _ hS => ?_)
  have hP : va_P (dC, dI) vwCl (wdC cA ad (up X 66 0 (0 : Int32))) H := by rw [← stC_Req_2]; exact hP
  refine lv_aload_n hx hb d_Req_readFrom_5 rfl (lv_at hl 0 rfl) ?_
  refine lv_iconst (v := (1 : Int32)) hx hb d_Req_readFrom_6 (by decide) ?_
  refine va_put (D := (dC, dI)) (ci := 3) (v := .int (1 : Int32)) (ty := .boolean) (C := R_Req) (T := T_Req) (N := 4) hx hb hts in_Req ty_Req ty_Req_ok nm_Req hown hK hP (hD0 _) hS (10) atC_Req rfl 3 (by decide) (hts _ gw_156) (fun _ h9 => h9) rfl (by decide +kernel) rfl rfl (Nat.le_of_ble_eq_true rfl) d_Req_readFrom_7 (fun H locs hP _ hS => ?_)
  have hP : va_P (dC, dI) vwCl (wdC cA ad (up (up X 66 0 (0 : Int32)) 67 0 (1 : Int32))) H := by rw [← stC_Req_3]; exact hP
  refine lv_aload_n hx hb d_Req_readFrom_10 rfl (lv_at hl 0 rfl) ?_
  refine lv_aload_n hx hb d_Req_readFrom_11 rfl (lv_at hl 1 rfl) ?_
  refine lv_aload_n hx hb d_Req_readFrom_12 rfl (lv_at hl 1 rfl) ?_
  refine va_get (D := (dC, dI)) (ci := 2) (v := .int (X 7 0)) (C := R_Txt) (T := T_Txt) (N := 2) hx hb hts in_Txt hown hK hP (8) atC_Txt rfl 0 (by decide) (hts _ gw_159) (fun _ h9 => h9) rfl d_Req_readFrom_13 ?_
  refine va_calli (va_runV (As := [.ref (ad 8), .int (X 7 0)]) (rest := []) ⟨hx, hb, hml, hown, hts⟩ (mt_Req_readRowEnd l hl9 dC dI cA ad hI _ hw) (cwV 2 hts (gV gw_180 gw_181 gw_182 gw_164 gw_179) rfl rfl rfl (by decide +kernel) ⟨Nat.le_of_ble_eq_true rfl, Nat.le_of_ble_eq_true rfl⟩) ⟨zwC_blind, va_recv hK hP (ci := 3) (q0 := 10) rfl atC_Req, zwC_pre hP hS hG9⟩ rfl rfl hl.1 rfl (lv_room (Nat.le_of_ble_eq_true rfl)) d_Req_readFrom_16 ⟨Nat.le_of_ble_eq_true rfl, Nat.le_of_ble_eq_true rfl⟩) hS (fun q _ h => CA_le hS.1 q h) (fun q h => CA_le hS.1 q h) (fun r21 X20 t H locs ht hvm hw hP hz1 hk1 hS => ?_)
  have hP : va_P (dC, dI) vwCl (wdC cA ad X20) H := by rw [← ht]; exact hP
  try dsimp only at hw
  refine lv_istore_n (lv' := [(2, .int r21), (0, .ref (ad 10)), (1, .ref (ad 8))]) hx hb d_Req_readFrom_19 rfl hl (by decide) rfl (fun ls hl => ?_)
  refine lv_aload_n hx hb d_Req_readFrom_20 rfl (lv_at hl 1 rfl) ?_
  refine lv_aload_n hx hb d_Req_readFrom_21 rfl (lv_at hl 1 rfl) ?_
  refine va_get (D := (dC, dI)) (ci := 3) (v := .int (X20 67 0)) (C := R_Req) (T := T_Req) (N := 4) hx hb hts in_Req hown hK hP (10) atC_Req rfl 3 (by decide) (hts _ gw_156) (fun _ h9 => h9) rfl d_Req_readFrom_22 ?_
  refine lv_if_eq (tgt := 40) hx hb d_Req_readFrom_25 (by decide) (fun c22 => ?_) (fun c22 => ?_)
  · have hw := hw.1 c22
    refine lv_iconst (v := (0 : Int32)) hx hb d_Req_readFrom_40 (by decide) ?_
    have hl := lv_sub hl (l' := [(0, .ref (ad 10)), (1, .ref (ad 8)), (2, .int r21)]) [1, 2, 0] rfl
    exact L41 _ _ _ _ _ _ hw hP hS hl
  · have hw := hw.2 c22
    refine lv_iload_n hx hb d_Req_readFrom_28 rfl (lv_at hl 0 rfl) ?_
    refine lv_aload_n hx hb d_Req_readFrom_29 rfl (lv_at hl 2 rfl) ?_
    refine va_get (D := (dC, dI)) (ci := 2) (v := .int (X20 7 0)) (C := R_Txt) (T := T_Txt) (N := 2) hx hb hts in_Txt hown hK hP (8) atC_Txt rfl 0 (by decide) (hts _ gw_159) (fun _ h9 => h9) rfl d_Req_readFrom_30 ?_
    refine lv_icmp_ne (tgt := 40) hx hb d_Req_readFrom_33 (by decide) (fun c23 => ?_) (fun c23 => ?_)
    · have hw := hw.2 c23
      refine lv_iconst (v := (0 : Int32)) hx hb d_Req_readFrom_40 (by decide) ?_
      have hl := lv_sub hl (l' := [(0, .ref (ad 10)), (1, .ref (ad 8)), (2, .int r21)]) [1, 2, 0] rfl
      exact L41 _ _ _ _ _ _ hw hP hS hl
    · have hw := hw.1 c23
      refine lv_iconst (v := (1 : Int32)) hx hb d_Req_readFrom_36 (by decide) ?_
      refine lv_goto (tgt := 41) hx hb d_Req_readFrom_37 (by decide) ?_
      have hl := lv_sub hl (l' := [(0, .ref (ad 10)), (1, .ref (ad 8)), (2, .int r21)]) [1, 2, 0] rfl
      exact L41 _ _ _ _ _ _ hw hP hS hl
def ws_CA_makeCertificate : List Cond := Cond.code y_CA_makeCertificate c_CA_makeCertificate 5 (Option.some Jvm.ClassFile.FieldType.int) :: GW
theorem d_CA_makeCertificate_0 : decode c_CA_makeCertificate 0 = .ok (.aload_n 0, 1) := by decide +kernel
theorem d_CA_makeCertificate_1 : decode c_CA_makeCertificate 1 = .ok (.getfield 35, 3) := by decide +kernel
theorem d_CA_makeCertificate_4 : decode c_CA_makeCertificate 4 = .ok (.aload_n 0, 1) := by decide +kernel
theorem d_CA_makeCertificate_5 : decode c_CA_makeCertificate 5 = .ok (.getfield 182, 3) := by decide +kernel
theorem d_CA_makeCertificate_8 : decode c_CA_makeCertificate 8 = .ok (.aaload, 1) := by decide +kernel
theorem d_CA_makeCertificate_9 : decode c_CA_makeCertificate 9 = .ok (.astore 4, 2) := by decide +kernel
theorem d_CA_makeCertificate_11 : decode c_CA_makeCertificate 11 = .ok (.aload 4, 2) := by decide +kernel
theorem d_CA_makeCertificate_13 : decode c_CA_makeCertificate 13 = .ok (.iload_n 1, 1) := by decide +kernel
theorem d_CA_makeCertificate_14 : decode c_CA_makeCertificate 14 = .ok (.putfield 200, 3) := by decide +kernel
theorem d_CA_makeCertificate_17 : decode c_CA_makeCertificate 17 = .ok (.aload 4, 2) := by decide +kernel
theorem d_CA_makeCertificate_19 : decode c_CA_makeCertificate 19 = .ok (.iload_n 2, 1) := by decide +kernel
theorem d_CA_makeCertificate_20 : decode c_CA_makeCertificate 20 = .ok (.putfield 203, 3) := by decide +kernel
theorem d_CA_makeCertificate_23 : decode c_CA_makeCertificate 23 = .ok (.aload 4, 2) := by decide +kernel
theorem d_CA_makeCertificate_25 : decode c_CA_makeCertificate 25 = .ok (.iload_n 3, 1) := by decide +kernel
theorem d_CA_makeCertificate_26 : decode c_CA_makeCertificate 26 = .ok (.putfield 277, 3) := by decide +kernel
theorem d_CA_makeCertificate_29 : decode c_CA_makeCertificate 29 = .ok (.aload 4, 2) := by decide +kernel
theorem d_CA_makeCertificate_31 : decode c_CA_makeCertificate 31 = .ok (.aload_n 0, 1) := by decide +kernel
theorem d_CA_makeCertificate_32 : decode c_CA_makeCertificate 32 = .ok (.getfield 143, 3) := by decide +kernel
theorem d_CA_makeCertificate_35 : decode c_CA_makeCertificate 35 = .ok (.putfield 278, 3) := by decide +kernel
theorem d_CA_makeCertificate_38 : decode c_CA_makeCertificate 38 = .ok (.aload_n 0, 1) := by decide +kernel
theorem d_CA_makeCertificate_39 : decode c_CA_makeCertificate 39 = .ok (.dup, 1) := by decide +kernel
theorem d_CA_makeCertificate_40 : decode c_CA_makeCertificate 40 = .ok (.getfield 182, 3) := by decide +kernel
theorem d_CA_makeCertificate_43 : decode c_CA_makeCertificate 43 = .ok (.dup_x1, 1) := by decide +kernel
theorem d_CA_makeCertificate_44 : decode c_CA_makeCertificate 44 = .ok (.iconst 1, 1) := by decide +kernel
theorem d_CA_makeCertificate_45 : decode c_CA_makeCertificate 45 = .ok (.iadd, 1) := by decide +kernel
theorem d_CA_makeCertificate_46 : decode c_CA_makeCertificate 46 = .ok (.putfield 182, 3) := by decide +kernel
theorem d_CA_makeCertificate_49 : decode c_CA_makeCertificate 49 = .ok (.ireturn, 1) := by decide +kernel
def wp_CA_makeCertificate (post : Int32 → ST → Prop) (X : ST) (a1 : Int32) (a2 : Int32) (a3 : Int32) : Prop := (vp_in (X 5 0) 12 ∧ post (X 5 0) (up (up (up (up (up X 51 ((X 5 0).toNatClampNeg) a1) 52 ((X 5 0).toNatClampNeg) a2) 53 ((X 5 0).toNatClampNeg) a3) 54 ((X 5 0).toNatClampNeg) (X 1 0)) 5 0 ((X 5 0) + (1 : Int32))))
set_option maxHeartbeats 4000000 in
set_option maxRecDepth 100000 in
theorem mt_CA_makeCertificate (l : Launch) (hl9 : l.stackTraces = false) (dC : Nat → ClassId) (dI : Nat → Nat → Nat) (cA : Nat → ClassId) (ad : Nat → Nat) (hI : INJ ad 125) (sz : Nat) {X : ST} {a1 : Int32} {a2 : Int32} {a3 : Int32} {post : Int32 → ST → Prop} (hw : wp_CA_makeCertificate post X a1 a2 a3) : Met l y_CA_makeCertificate ws_CA_makeCertificate ({ frames := 0, cells := 0, slots := 0, locals := 0 } : Room) (va_Pc [.ref (ad 0), .int a1, .int a2, .int a3] (fun U => PC dC dI cA ad sz X U)) (va_Qi (fun r (u : ST) => post r u) (fun (u : ST) t => va_P (dC, dI) vwCl (wdC cA ad u) t.heap) (CA ad 125 sz)) 0 0 (CA ad 125 sz) := by
  refine Met.ofW (cc := c_CA_makeCertificate) (maxL := 5) (ret := (some .int)) (by decide) rfl ?_
  intro p e s m args below meth c s₁ B hml hv
  obtain ⟨rfl, hsz, hP, hG⟩ := hv
  have hx := B.exec
  have hb := B.bytes
  have hr := B.returns
  have hts : ∀ w ∈ GW, w.before (([.ref (ad 0), .int a1, .int a2, .int a3] : List Value).toArray) s = true := fun w h => atoms_spec (ws := ws_CA_makeCertificate) B.pre w (List.mem_cons_of_mem _ h)
  have hown : s.vm.findClass R_CA = some m.cls := findClass_of_methodNamed B.named
  have hlocks := B.notSynchronized
  subst hsz
  have hK := hG.1
  have hG9 := hG
  have hNW := hG.2.1
  have hD0 : ∀ (X : ST), va_D (CA ad 125 s.heap.size) (wdC cA ad X) := fun _ => zwC_D hI
  have hS : va_S (CA ad 125 s.heap.size) s.heap s.heap [] := va_S.rf
  have hl := lv_entry ([.ref (ad 0), .int a1, .int a2, .int a3]) (n := 5) (Nat.le_of_ble_eq_true rfl)
  rw [lg_entry_eq]
  generalize (lg_sl ([.ref (ad 0), .int a1, .int a2, .int a3]) ++ List.replicate (5 - (lg_sl ([.ref (ad 0), .int a1, .int a2, .int a3])).length) Slot.unset).toArray = ls at hl ⊢
  have hl : lv_has ls 5 [(0, .ref (ad 0)), (1, .int a1), (2, .int a2), (3, .int a3)] := hl
  unfold wp_CA_makeCertificate at hw
  refine lv_aload_n hx hb d_CA_makeCertificate_0 rfl (lv_at hl 0 rfl) ?_
  refine va_get (D := (dC, dI)) (ci := 0) (v := .ref (ad 5)) (C := R_CA) (T := T_CA) (N := 14) hx hb hts in_CA hown hK hP (0) atC_CA rfl 10 (by decide) (hts _ gw_191) (fun _ h9 => h9) rfl d_CA_makeCertificate_1 ?_
  refine lv_aload_n hx hb d_CA_makeCertificate_4 rfl (lv_at hl 0 rfl) ?_
  refine va_get (D := (dC, dI)) (ci := 0) (v := .int (X 5 0)) (C := R_CA) (T := T_CA) (N := 14) hx hb hts in_CA hown hK hP (0) atC_CA rfl 5 (by decide) (hts _ gw_192) (fun _ h9 => h9) rfl d_CA_makeCertificate_5 ?_
  obtain ⟨h1, hw⟩ := hw
  refine va_aldq hx hb hK hP (5) 4 atC_aCer rfl h1 d_CA_makeCertificate_8 ?_
  refine W.eq (g2 := F0 m 9 ls [.ref (ad (113 + ((X 5 0).toNatClampNeg)))]) rfl ?_
  refine lv_astore (lv' := [(4, .ref (ad (113 + ((X 5 0).toNatClampNeg)))), (0, .ref (ad 0)), (1, .int a1), (2, .int a2), (3, .int a3)]) hx hb d_CA_makeCertificate_9 hl (by decide) rfl (fun ls hl => ?_)
  refine lv_aload hx hb d_CA_makeCertificate_11 (lv_at hl 0 rfl) ?_
  refine lv_iload_n hx hb d_CA_makeCertificate_13 rfl (lv_at hl 2 rfl) ?_
  refine va_put (D := (dC, dI)) (ci := 8) (v := .int a1) (ty := .int) (C := R_Cer) (T := T_Cer) (N := 6) hx hb hts in_Cer ty_Cer ty_Cer_ok nm_Cer hown hK hP (hD0 _) hS (113 + ((X 5 0).toNatClampNeg)) (atC_Cer (zw_lt h1)) rfl 1 (by decide) (hts _ gw_193) (fun _ h9 => h9) rfl (by decide +kernel) rfl rfl (Nat.le_of_ble_eq_true rfl) d_CA_makeCertificate_14 (fun H locs hP _ hS => ?_)
  have hP : va_P (dC, dI) vwCl (wdC cA ad (up X 51 ((X 5 0).toNatClampNeg) a1)) H := by rw [← stC_Cer_1 (zw_lt h1)]; exact hP
  refine lv_aload hx hb d_CA_makeCertificate_17 (lv_at hl 0 rfl) ?_
  refine lv_iload_n hx hb d_CA_makeCertificate_19 rfl (lv_at hl 3 rfl) ?_
  refine va_put (D := (dC, dI)) (ci := 8) (v := .int a2) (ty := .int) (C := R_Cer) (T := T_Cer) (N := 6) hx hb hts in_Cer ty_Cer ty_Cer_ok nm_Cer hown hK hP (hD0 _) hS (113 + ((X 5 0).toNatClampNeg)) (atC_Cer (zw_lt h1)) rfl 2 (by decide) (hts _ gw_194) (fun _ h9 => h9) rfl (by decide +kernel) rfl rfl (Nat.le_of_ble_eq_true rfl) d_CA_makeCertificate_20 (fun H locs hP _ hS => ?_)
  have hP : va_P (dC, dI) vwCl (wdC cA ad (up (up X 51 ((X 5 0).toNatClampNeg) a1) 52 ((X 5 0).toNatClampNeg) a2)) H := by rw [← stC_Cer_2 (zw_lt h1)]; exact hP
  refine lv_aload hx hb d_CA_makeCertificate_23 (lv_at hl 0 rfl) ?_
  refine lv_iload_n hx hb d_CA_makeCertificate_25 rfl (lv_at hl 4 rfl) ?_
  refine va_put (D := (dC, dI)) (ci := 8) (v := .int a3) (ty := .int) (C := R_Cer) (T := T_Cer) (N := 6) hx hb hts in_Cer ty_Cer ty_Cer_ok nm_Cer hown hK hP (hD0 _) hS (113 + ((X 5 0).toNatClampNeg)) (atC_Cer (zw_lt h1)) rfl 3 (by decide) (hts _ gw_195) (fun _ h9 => h9) rfl (by decide +kernel) rfl rfl (Nat.le_of_ble_eq_true rfl) d_CA_makeCertificate_26 (fun H locs hP _ hS => ?_)
  have hP : va_P (dC, dI) vwCl (wdC cA ad (up (up (up X 51 ((X 5 0).toNatClampNeg) a1) 52 ((X 5 0).toNatClampNeg) a2) 53 ((X 5 0).toNatClampNeg) a3)) H := by rw [← stC_Cer_3 (zw_lt h1)]; exact hP
  refine lv_aload hx hb d_CA_makeCertificate_29 (lv_at hl 0 rfl) ?_
  refine lv_aload_n hx hb d_CA_makeCertificate_31 rfl (lv_at hl 1 rfl) ?_
  refine va_get (D := (dC, dI)) (ci := 0) (v := .int (X 1 0)) (C := R_CA) (T := T_CA) (N := 14) hx hb hts in_CA hown hK hP (0) atC_CA rfl 1 (by decide) (hts _ gw_135) (fun _ h9 => h9) rfl d_CA_makeCertificate_32 ?_
  refine va_put (D := (dC, dI)) (ci := 8) (v := .int (X 1 0)) (ty := .int) (C := R_Cer) (T := T_Cer) (N := 6) hx hb hts in_Cer ty_Cer ty_Cer_ok nm_Cer hown hK hP (hD0 _) hS (113 + ((X 5 0).toNatClampNeg)) (atC_Cer (zw_lt h1)) rfl 4 (by decide) (hts _ gw_196) (fun _ h9 => h9) rfl (by decide +kernel) rfl rfl (Nat.le_of_ble_eq_true rfl) d_CA_makeCertificate_35 (fun H locs hP _ hS => ?_)
  have hP : va_P (dC, dI) vwCl (wdC cA ad (up (up (up (up X 51 ((X 5 0).toNatClampNeg) a1) 52 ((X 5 0).toNatClampNeg) a2) 53 ((X 5 0).toNatClampNeg) a3) 54 ((X 5 0).toNatClampNeg) (X 1 0))) H := by rw [← stC_Cer_4 (zw_lt h1)]; exact hP
  refine lv_aload_n hx hb d_CA_makeCertificate_38 rfl (lv_at hl 1 rfl) ?_
  refine lv_dup hx hb d_CA_makeCertificate_39 rfl ?_
  refine va_get (D := (dC, dI)) (ci := 0) (v := .int (X 5 0)) (C := R_CA) (T := T_CA) (N := 14) hx hb hts in_CA hown hK hP (0) atC_CA rfl 5 (by decide) (hts _ gw_192) (fun _ h9 => h9) rfl d_CA_makeCertificate_40 ?_
  refine lv_dup_x1 hx hb d_CA_makeCertificate_43 rfl rfl ?_
  refine lv_iconst (v := (1 : Int32)) hx hb d_CA_makeCertificate_44 (by decide) ?_
  refine lv_iadd hx hb d_CA_makeCertificate_45 ?_
  refine va_put (D := (dC, dI)) (ci := 0) (v := .int ((X 5 0) + (1 : Int32))) (ty := .int) (C := R_CA) (T := T_CA) (N := 14) hx hb hts in_CA ty_CA ty_CA_ok nm_CA hown hK hP (hD0 _) hS (0) atC_CA rfl 5 (by decide) (hts _ gw_192) (fun _ h9 => h9) rfl (by decide +kernel) rfl rfl (Nat.le_of_ble_eq_true rfl) d_CA_makeCertificate_46 (fun H locs hP _ hS => ?_)
  have hP : va_P (dC, dI) vwCl (wdC cA ad (up (up (up (up (up X 51 ((X 5 0).toNatClampNeg) a1) 52 ((X 5 0).toNatClampNeg) a2) 53 ((X 5 0).toNatClampNeg) a3) 54 ((X 5 0).toNatClampNeg) (X 1 0)) 5 0 ((X 5 0) + (1 : Int32)))) H := by rw [← stC_CA_5]; exact hP
  exact W.iret (v := X 5 0) hx hb hr (fun t ht _ => ⟨⟨X 5 0, up (up (up (up (up X 51 ((X 5 0).toNatClampNeg) a1) 52 ((X 5 0).toNatClampNeg) a2) 53 ((X 5 0).toNatClampNeg) a3) 54 ((X 5 0).toNatClampNeg) (X 1 0)) 5 0 ((X 5 0) + (1 : Int32)), rfl, hw, by show va_P _ _ _ t.heap; rw [ht]; exact hP⟩, hS.F ht⟩) hS.2.2 d_CA_makeCertificate_49
