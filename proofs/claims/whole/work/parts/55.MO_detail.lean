def ws_MO_detail : List Cond := Cond.code y_MO_detail c_MO_detail 4 (Option.some Jvm.ClassFile.FieldType.int) :: GW
theorem d_MO_detail_0 : decode c_MO_detail 0 = .ok (.aload_n 0, 1) := by decide +kernel
theorem d_MO_detail_1 : decode c_MO_detail 1 = .ok (.iload_n 1, 1) := by decide +kernel
theorem d_MO_detail_2 : decode c_MO_detail 2 = .ok (.iload_n 2, 1) := by decide +kernel
theorem d_MO_detail_3 : decode c_MO_detail 3 = .ok (.invokevirtual 223, 3) := by decide +kernel
theorem d_MO_detail_6 : decode c_MO_detail 6 = .ok (.aload_n 0, 1) := by decide +kernel
theorem d_MO_detail_7 : decode c_MO_detail 7 = .ok (.getfield 81, 3) := by decide +kernel
theorem d_MO_detail_10 : decode c_MO_detail 10 = .ok (.ifCond .eq 5, 3) := by decide +kernel
theorem d_MO_detail_13 : decode c_MO_detail 13 = .ok (.iconst 0, 1) := by decide +kernel
theorem d_MO_detail_14 : decode c_MO_detail 14 = .ok (.ireturn, 1) := by decide +kernel
theorem d_MO_detail_15 : decode c_MO_detail 15 = .ok (.iload_n 1, 1) := by decide +kernel
theorem d_MO_detail_16 : decode c_MO_detail 16 = .ok (.tableswitch 118 0 3 #[32, 39, 46, 89], 32) := by decide +kernel
theorem d_MO_detail_48 : decode c_MO_detail 48 = .ok (.aload_n 0, 1) := by decide +kernel
theorem d_MO_detail_49 : decode c_MO_detail 49 = .ok (.iload_n 2, 1) := by decide +kernel
theorem d_MO_detail_50 : decode c_MO_detail 50 = .ok (.iload_n 3, 1) := by decide +kernel
theorem d_MO_detail_51 : decode c_MO_detail 51 = .ok (.invokevirtual 227, 3) := by decide +kernel
theorem d_MO_detail_54 : decode c_MO_detail 54 = .ok (.ireturn, 1) := by decide +kernel
theorem d_MO_detail_55 : decode c_MO_detail 55 = .ok (.aload_n 0, 1) := by decide +kernel
theorem d_MO_detail_56 : decode c_MO_detail 56 = .ok (.iload_n 2, 1) := by decide +kernel
theorem d_MO_detail_57 : decode c_MO_detail 57 = .ok (.iload_n 3, 1) := by decide +kernel
theorem d_MO_detail_58 : decode c_MO_detail 58 = .ok (.invokevirtual 230, 3) := by decide +kernel
theorem d_MO_detail_61 : decode c_MO_detail 61 = .ok (.ireturn, 1) := by decide +kernel
theorem d_MO_detail_62 : decode c_MO_detail 62 = .ok (.iload_n 3, 1) := by decide +kernel
theorem d_MO_detail_63 : decode c_MO_detail 63 = .ok (.ifCond .ne 12, 3) := by decide +kernel
theorem d_MO_detail_66 : decode c_MO_detail 66 = .ok (.aload_n 0, 1) := by decide +kernel
theorem d_MO_detail_67 : decode c_MO_detail 67 = .ok (.getfield 38, 3) := by decide +kernel
theorem d_MO_detail_70 : decode c_MO_detail 70 = .ok (.iload_n 2, 1) := by decide +kernel
theorem d_MO_detail_71 : decode c_MO_detail 71 = .ok (.iaload, 1) := by decide +kernel
theorem d_MO_detail_72 : decode c_MO_detail 72 = .ok (.goto 32, 3) := by decide +kernel
theorem d_MO_detail_75 : decode c_MO_detail 75 = .ok (.iload_n 3, 1) := by decide +kernel
theorem d_MO_detail_76 : decode c_MO_detail 76 = .ok (.iconst 1, 1) := by decide +kernel
theorem d_MO_detail_77 : decode c_MO_detail 77 = .ok (.if_icmp .ne 12, 3) := by decide +kernel
theorem d_MO_detail_80 : decode c_MO_detail 80 = .ok (.aload_n 0, 1) := by decide +kernel
theorem d_MO_detail_81 : decode c_MO_detail 81 = .ok (.getfield 41, 3) := by decide +kernel
theorem d_MO_detail_84 : decode c_MO_detail 84 = .ok (.iload_n 2, 1) := by decide +kernel
theorem d_MO_detail_85 : decode c_MO_detail 85 = .ok (.iaload, 1) := by decide +kernel
theorem d_MO_detail_86 : decode c_MO_detail 86 = .ok (.goto 18, 3) := by decide +kernel
theorem d_MO_detail_89 : decode c_MO_detail 89 = .ok (.iload_n 3, 1) := by decide +kernel
theorem d_MO_detail_90 : decode c_MO_detail 90 = .ok (.iconst 2, 1) := by decide +kernel
theorem d_MO_detail_91 : decode c_MO_detail 91 = .ok (.if_icmp .ne 12, 3) := by decide +kernel
theorem d_MO_detail_94 : decode c_MO_detail 94 = .ok (.aload_n 0, 1) := by decide +kernel
theorem d_MO_detail_95 : decode c_MO_detail 95 = .ok (.getfield 44, 3) := by decide +kernel
theorem d_MO_detail_98 : decode c_MO_detail 98 = .ok (.iload_n 2, 1) := by decide +kernel
theorem d_MO_detail_99 : decode c_MO_detail 99 = .ok (.iaload, 1) := by decide +kernel
theorem d_MO_detail_100 : decode c_MO_detail 100 = .ok (.goto 4, 3) := by decide +kernel
theorem d_MO_detail_103 : decode c_MO_detail 103 = .ok (.iconst (-1), 1) := by decide +kernel
theorem d_MO_detail_104 : decode c_MO_detail 104 = .ok (.ireturn, 1) := by decide +kernel
theorem d_MO_detail_105 : decode c_MO_detail 105 = .ok (.iload_n 3, 1) := by decide +kernel
theorem d_MO_detail_106 : decode c_MO_detail 106 = .ok (.ifCond .ne 12, 3) := by decide +kernel
theorem d_MO_detail_109 : decode c_MO_detail 109 = .ok (.aload_n 0, 1) := by decide +kernel
theorem d_MO_detail_110 : decode c_MO_detail 110 = .ok (.getfield 50, 3) := by decide +kernel
theorem d_MO_detail_113 : decode c_MO_detail 113 = .ok (.iload_n 2, 1) := by decide +kernel
theorem d_MO_detail_114 : decode c_MO_detail 114 = .ok (.iaload, 1) := by decide +kernel
theorem d_MO_detail_115 : decode c_MO_detail 115 = .ok (.goto 18, 3) := by decide +kernel
theorem d_MO_detail_118 : decode c_MO_detail 118 = .ok (.iload_n 3, 1) := by decide +kernel
theorem d_MO_detail_119 : decode c_MO_detail 119 = .ok (.iconst 1, 1) := by decide +kernel
theorem d_MO_detail_120 : decode c_MO_detail 120 = .ok (.if_icmp .ne 12, 3) := by decide +kernel
theorem d_MO_detail_123 : decode c_MO_detail 123 = .ok (.aload_n 0, 1) := by decide +kernel
theorem d_MO_detail_124 : decode c_MO_detail 124 = .ok (.getfield 56, 3) := by decide +kernel
theorem d_MO_detail_127 : decode c_MO_detail 127 = .ok (.iload_n 2, 1) := by decide +kernel
theorem d_MO_detail_128 : decode c_MO_detail 128 = .ok (.iaload, 1) := by decide +kernel
theorem d_MO_detail_129 : decode c_MO_detail 129 = .ok (.goto 4, 3) := by decide +kernel
theorem d_MO_detail_132 : decode c_MO_detail 132 = .ok (.iconst (-1), 1) := by decide +kernel
theorem d_MO_detail_133 : decode c_MO_detail 133 = .ok (.ireturn, 1) := by decide +kernel
theorem d_MO_detail_134 : decode c_MO_detail 134 = .ok (.aload_n 0, 1) := by decide +kernel
theorem d_MO_detail_135 : decode c_MO_detail 135 = .ok (.iload_n 2, 1) := by decide +kernel
theorem d_MO_detail_136 : decode c_MO_detail 136 = .ok (.iload_n 3, 1) := by decide +kernel
theorem d_MO_detail_137 : decode c_MO_detail 137 = .ok (.invokevirtual 233, 3) := by decide +kernel
theorem d_MO_detail_140 : decode c_MO_detail 140 = .ok (.ireturn, 1) := by decide +kernel
def wp_MO_detail (post : Int32 → ST → Int64 → Prop) (X : ST) (Y : Int64) (a1 : Int32) (a2 : Int32) (a3 : Int32) : Prop := wp_MO_look (fun (X1 : ST) (Y2 : Int64) => (((X1 90 0) = 0 → ((a1 < (0 : Int32) → wp_MO_ofPaper (fun (r9 : Int32) (X7 : ST) (Y8 : Int64) => post r9 X7 Y8) X1 Y2 a2 a3) ∧ (¬ a1 < (0 : Int32) → (((3 : Int32) < a1 → wp_MO_ofPaper (fun (r12 : Int32) (X10 : ST) (Y11 : Int64) => post r12 X10 Y11) X1 Y2 a2 a3) ∧ (¬ (3 : Int32) < a1 → ((a1 = (0 : Int32) → wp_MO_ofAccount (fun (r16 : Int32) (X14 : ST) (Y15 : Int64) => post r16 X14 Y15) X1 Y2 a2 a3) ∧ (¬ a1 = (0 : Int32) → ((a1 = (1 : Int32) → wp_MO_ofOrder (fun (r20 : Int32) (X18 : ST) (Y19 : Int64) => post r20 X18 Y19) X1 Y2 a2 a3) ∧ (¬ a1 = (1 : Int32) → ((a1 = (2 : Int32) → ((a3 = 0 → (vp_in a2 24 ∧ post (X1 31 a2.toNatClampNeg) X1 Y2)) ∧ (¬ a3 = 0 → ((a3 = (1 : Int32) → (vp_in a2 24 ∧ post (X1 32 a2.toNatClampNeg) X1 Y2)) ∧ (¬ a3 = (1 : Int32) → ((a3 = (2 : Int32) → (vp_in a2 24 ∧ post (X1 33 a2.toNatClampNeg) X1 Y2)) ∧ (¬ a3 = (2 : Int32) → post (-1 : Int32) X1 Y2))))))) ∧ (¬ a1 = (2 : Int32) → ((a1 = (3 : Int32) → ((a3 = 0 → (vp_in a2 48 ∧ post (X1 41 a2.toNatClampNeg) X1 Y2)) ∧ (¬ a3 = 0 → ((a3 = (1 : Int32) → (vp_in a2 48 ∧ post (X1 42 a2.toNatClampNeg) X1 Y2)) ∧ (¬ a3 = (1 : Int32) → post (-1 : Int32) X1 Y2))))) ∧ (¬ a1 = (3 : Int32) → False))))))))))))) ∧ (¬ (X1 90 0) = 0 → post (0 : Int32) X1 Y2))) X Y a1 a2
set_option maxHeartbeats 4000000 in
set_option maxRecDepth 100000 in
theorem mt_MO_detail (l : Launch) (hl9 : l.stackTraces = false) (dC : Nat → ClassId) (dI : Nat → Nat → Nat) (cA : Nat → ClassId) (ad : Nat → Nat) (hI : INJ ad 23) (sz : Nat) {X : ST} {Y : Int64} {a1 : Int32} {a2 : Int32} {a3 : Int32} {post : Int32 → ST → Int64 → Prop} (hw : wp_MO_detail post X Y a1 a2 a3) : Met l y_MO_detail ws_MO_detail ({ frames := 2, cells := 0, slots := 0, locals := 44 } : Room) (va_Pc [.ref (ad 0), .int a1, .int a2, .int a3] (fun U => PM dC dI cA ad sz X Y U)) (va_Qi (fun r (u : ST × Int64) => post r u.1 u.2) (fun (u : ST × Int64) t => va_P (dC, dI) vwCl (wdM cA ad u.1 u.2) t.heap) (CA ad 23 sz)) 0 0 (CA ad 23 sz) := by
  refine Met.ofW (cc := c_MO_detail) (maxL := 4) (ret := (some .int)) (by decide) rfl ?_
  intro p e s m args below meth c s₁ B hml hv
  obtain ⟨rfl, hsz, hP, hG⟩ := hv
  have hx := B.exec
  have hb := B.bytes
  have hr := B.returns
  have hts : ∀ w ∈ GW, w.before (([.ref (ad 0), .int a1, .int a2, .int a3] : List Value).toArray) s = true := fun w h => atoms_spec (ws := ws_MO_detail) B.pre w (List.mem_cons_of_mem _ h)
  have hown : s.vm.findClass R_MO = some m.cls := findClass_of_methodNamed B.named
  have hlocks := B.notSynchronized
  subst hsz
  have hK := hG.1
  have hG9 := hG
  have hNW := hG.2
  have hD0 : ∀ (X : ST) (Y : Int64), va_D (CA ad 23 s.heap.size) (wdM cA ad X Y) := fun _ _ => zwM_D hI
  have hS : va_S (CA ad 23 s.heap.size) s.heap s.heap [] := va_S.rf
  have hl := lv_entry ([.ref (ad 0), .int a1, .int a2, .int a3]) (n := 4) (Nat.le_of_ble_eq_true rfl)
  rw [lg_entry_eq]
  generalize (lg_sl ([.ref (ad 0), .int a1, .int a2, .int a3]) ++ List.replicate (4 - (lg_sl ([.ref (ad 0), .int a1, .int a2, .int a3])).length) Slot.unset).toArray = ls at hl ⊢
  have hl : lv_has ls 4 [(0, .ref (ad 0)), (1, .int a1), (2, .int a2), (3, .int a3)] := hl
  unfold wp_MO_detail at hw
  refine lv_aload_n hx hb d_MO_detail_0 rfl (lv_at hl 0 rfl) ?_
  refine lv_iload_n hx hb d_MO_detail_1 rfl (lv_at hl 1 rfl) ?_
  refine lv_iload_n hx hb d_MO_detail_2 rfl (lv_at hl 2 rfl) ?_
  refine va_callv (va_runV (As := [.int a1, .int a2]) (rest := []) ⟨hx, hb, hml, hown, hts⟩ (mt_MO_look l hl9 dC dI cA ad hI _ hw) (cwV 2 hts (gV gw_445 gw_446 gw_447 gw_306 gw_444) rfl rfl rfl (by decide +kernel) ⟨Nat.le_of_ble_eq_true rfl, Nat.le_of_ble_eq_true rfl⟩) ⟨zwM_blind, va_recv hK hP (ci := 9) (q0 := 0) rfl atM_MO, zwM_pre hP hS hG9⟩ rfl rfl hl.1 rfl (lv_room (Nat.le_of_ble_eq_true rfl)) d_MO_detail_3 ⟨Nat.le_of_ble_eq_true rfl, Nat.le_of_ble_eq_true rfl⟩) hS (fun q _ h => CA_le hS.1 q h) (fun q h => CA_le hS.1 q h) (fun u9 t H locs ht hvm hw hP hz1 hk1 hS => ?_)
  obtain ⟨X1, Y2⟩ := u9
  have hP : va_P (dC, dI) vwCl (wdM cA ad X1 Y2) H := by rw [← ht]; exact hP
  try dsimp only at hw
  refine lv_aload_n hx hb d_MO_detail_6 rfl (lv_at hl 0 rfl) ?_
  refine va_get (D := (dC, dI)) (ci := 9) (v := .int (X1 90 0)) (C := R_MO) (T := T_MO) (N := 36) hx hb hts in_MO hown hK hP (0) atM_MO rfl 0 (by decide) (hts _ gw_297) (fun _ h9 => h9) rfl d_MO_detail_7 ?_
  refine lv_if_eq (tgt := 15) hx hb d_MO_detail_10 (by decide) (fun c4 => ?_) (fun c4 => ?_)
  · have hw := hw.1 c4
    refine lv_iload_n hx hb d_MO_detail_15 rfl (lv_at hl 1 rfl) ?_
    by_cases c5 : a1 < (0 : Int32)
    · have hw := hw.1 c5
      refine lv_tableOut (tgt := 134) hx hb d_MO_detail_16 (Or.inl (by have q := Int32.lt_iff_toInt_lt.mp c5; exact q)) (by decide) ?_
      refine lv_aload_n hx hb d_MO_detail_134 rfl (lv_at hl 0 rfl) ?_
      refine lv_iload_n hx hb d_MO_detail_135 rfl (lv_at hl 2 rfl) ?_
      refine lv_iload_n hx hb d_MO_detail_136 rfl (lv_at hl 3 rfl) ?_
      refine va_calli (va_runV (As := [.int a2, .int a3]) (rest := []) ⟨hx, hb, hml, hown, hts⟩ (mt_MO_ofPaper l hl9 dC dI cA ad hI _ hw) (cwV 2 hts (gV gw_449 gw_450 gw_451 gw_306 gw_448) rfl rfl rfl (by decide +kernel) ⟨Nat.le_of_ble_eq_true rfl, Nat.le_of_ble_eq_true rfl⟩) ⟨zwM_blind, va_recv hK hP (ci := 9) (q0 := 0) rfl atM_MO, zwM_pre hP hS hG9⟩ rfl rfl hl.1 rfl (lv_room (Nat.le_of_ble_eq_true rfl)) d_MO_detail_137 ⟨Nat.le_of_ble_eq_true rfl, Nat.le_of_ble_eq_true rfl⟩) hS (fun q _ h => CA_le hS.1 q h) (fun q h => CA_le hS.1 q h) (fun r9 u9 t H locs ht hvm hw hP hz1 hk1 hS => ?_)
      obtain ⟨X7, Y8⟩ := u9
      have hP : va_P (dC, dI) vwCl (wdM cA ad X7 Y8) H := by rw [← ht]; exact hP
      try dsimp only at hw
      exact W.iret (v := r9) hx hb hr (fun t ht _ => ⟨⟨r9, (X7, Y8), rfl, hw, by show va_P _ _ _ t.heap; rw [ht]; exact hP⟩, hS.F ht⟩) hS.2.2 d_MO_detail_140
    have hw := hw.2 c5
    by_cases c6 : (3 : Int32) < a1
    · have hw := hw.1 c6
      refine lv_tableOut (tgt := 134) hx hb d_MO_detail_16 (Or.inr (by have q := Int32.lt_iff_toInt_lt.mp c6; exact q)) (by decide) ?_
      refine lv_aload_n hx hb d_MO_detail_134 rfl (lv_at hl 0 rfl) ?_
      refine lv_iload_n hx hb d_MO_detail_135 rfl (lv_at hl 2 rfl) ?_
      refine lv_iload_n hx hb d_MO_detail_136 rfl (lv_at hl 3 rfl) ?_
      refine va_calli (va_runV (As := [.int a2, .int a3]) (rest := []) ⟨hx, hb, hml, hown, hts⟩ (mt_MO_ofPaper l hl9 dC dI cA ad hI _ hw) (cwV 2 hts (gV gw_449 gw_450 gw_451 gw_306 gw_448) rfl rfl rfl (by decide +kernel) ⟨Nat.le_of_ble_eq_true rfl, Nat.le_of_ble_eq_true rfl⟩) ⟨zwM_blind, va_recv hK hP (ci := 9) (q0 := 0) rfl atM_MO, zwM_pre hP hS hG9⟩ rfl rfl hl.1 rfl (lv_room (Nat.le_of_ble_eq_true rfl)) d_MO_detail_137 ⟨Nat.le_of_ble_eq_true rfl, Nat.le_of_ble_eq_true rfl⟩) hS (fun q _ h => CA_le hS.1 q h) (fun q h => CA_le hS.1 q h) (fun r12 u9 t H locs ht hvm hw hP hz1 hk1 hS => ?_)
      obtain ⟨X10, Y11⟩ := u9
      have hP : va_P (dC, dI) vwCl (wdM cA ad X10 Y11) H := by rw [← ht]; exact hP
      try dsimp only at hw
      exact W.iret (v := r12) hx hb hr (fun t ht _ => ⟨⟨r12, (X10, Y11), rfl, hw, by show va_P _ _ _ t.heap; rw [ht]; exact hP⟩, hS.F ht⟩) hS.2.2 d_MO_detail_140
    have hw := hw.2 c6
    by_cases c13 : a1 = (0 : Int32)
    · have hw := hw.1 c13
      refine lv_tableIn (off := 32) (tgt := 48) hx hb d_MO_detail_16 (by rw [c13]; decide) (by rw [c13]; decide) (by rw [c13]; decide) (by decide) ?_
      refine lv_aload_n hx hb d_MO_detail_48 rfl (lv_at hl 0 rfl) ?_
      refine lv_iload_n hx hb d_MO_detail_49 rfl (lv_at hl 2 rfl) ?_
      refine lv_iload_n hx hb d_MO_detail_50 rfl (lv_at hl 3 rfl) ?_
      refine va_calli (va_runV (As := [.int a2, .int a3]) (rest := []) ⟨hx, hb, hml, hown, hts⟩ (mt_MO_ofAccount l hl9 dC dI cA ad hI _ hw) (cwV 2 hts (gV gw_453 gw_454 gw_455 gw_306 gw_452) rfl rfl rfl (by decide +kernel) ⟨Nat.le_of_ble_eq_true rfl, Nat.le_of_ble_eq_true rfl⟩) ⟨zwM_blind, va_recv hK hP (ci := 9) (q0 := 0) rfl atM_MO, zwM_pre hP hS hG9⟩ rfl rfl hl.1 rfl (lv_room (Nat.le_of_ble_eq_true rfl)) d_MO_detail_51 ⟨Nat.le_of_ble_eq_true rfl, Nat.le_of_ble_eq_true rfl⟩) hS (fun q _ h => CA_le hS.1 q h) (fun q h => CA_le hS.1 q h) (fun r16 u9 t H locs ht hvm hw hP hz1 hk1 hS => ?_)
      obtain ⟨X14, Y15⟩ := u9
      have hP : va_P (dC, dI) vwCl (wdM cA ad X14 Y15) H := by rw [← ht]; exact hP
      try dsimp only at hw
      exact W.iret (v := r16) hx hb hr (fun t ht _ => ⟨⟨r16, (X14, Y15), rfl, hw, by show va_P _ _ _ t.heap; rw [ht]; exact hP⟩, hS.F ht⟩) hS.2.2 d_MO_detail_54
    have hw := hw.2 c13
    by_cases c17 : a1 = (1 : Int32)
    · have hw := hw.1 c17
      refine lv_tableIn (off := 39) (tgt := 55) hx hb d_MO_detail_16 (by rw [c17]; decide) (by rw [c17]; decide) (by rw [c17]; decide) (by decide) ?_
      refine lv_aload_n hx hb d_MO_detail_55 rfl (lv_at hl 0 rfl) ?_
      refine lv_iload_n hx hb d_MO_detail_56 rfl (lv_at hl 2 rfl) ?_
      refine lv_iload_n hx hb d_MO_detail_57 rfl (lv_at hl 3 rfl) ?_
      refine va_calli (va_runV (As := [.int a2, .int a3]) (rest := []) ⟨hx, hb, hml, hown, hts⟩ (mt_MO_ofOrder l hl9 dC dI cA ad hI _ hw) (cwV 2 hts (gV gw_457 gw_458 gw_459 gw_306 gw_456) rfl rfl rfl (by decide +kernel) ⟨Nat.le_of_ble_eq_true rfl, Nat.le_of_ble_eq_true rfl⟩) ⟨zwM_blind, va_recv hK hP (ci := 9) (q0 := 0) rfl atM_MO, zwM_pre hP hS hG9⟩ rfl rfl hl.1 rfl (lv_room (Nat.le_of_ble_eq_true rfl)) d_MO_detail_58 ⟨Nat.le_of_ble_eq_true rfl, Nat.le_of_ble_eq_true rfl⟩) hS (fun q _ h => CA_le hS.1 q h) (fun q h => CA_le hS.1 q h) (fun r20 u9 t H locs ht hvm hw hP hz1 hk1 hS => ?_)
      obtain ⟨X18, Y19⟩ := u9
      have hP : va_P (dC, dI) vwCl (wdM cA ad X18 Y19) H := by rw [← ht]; exact hP
      try dsimp only at hw
      exact W.iret (v := r20) hx hb hr (fun t ht _ => ⟨⟨r20, (X18, Y19), rfl, hw, by show va_P _ _ _ t.heap; rw [ht]; exact hP⟩, hS.F ht⟩) hS.2.2 d_MO_detail_61
    have hw := hw.2 c17
    by_cases c21 : a1 = (2 : Int32)
    · have hw := hw.1 c21
      refine lv_tableIn (off := 46) (tgt := 62) hx hb d_MO_detail_16 (by rw [c21]; decide) (by rw [c21]; decide) (by rw [c21]; decide) (by decide) ?_
      refine lv_iload_n hx hb d_MO_detail_62 rfl (lv_at hl 3 rfl) ?_
      refine lv_if_ne (tgt := 75) hx hb d_MO_detail_63 (by decide) (fun c22 => ?_) (fun c22 => ?_)
      · have hw := hw.2 c22
        refine lv_iload_n hx hb d_MO_detail_75 rfl (lv_at hl 3 rfl) ?_
        refine lv_iconst (v := (1 : Int32)) hx hb d_MO_detail_76 (by decide) ?_
        refine lv_icmp_ne (tgt := 89) hx hb d_MO_detail_77 (by decide) (fun c24 => ?_) (fun c24 => ?_)
        · have hw := hw.2 c24
          refine lv_iload_n hx hb d_MO_detail_89 rfl (lv_at hl 3 rfl) ?_
          refine lv_iconst (v := (2 : Int32)) hx hb d_MO_detail_90 (by decide) ?_
          refine lv_icmp_ne (tgt := 103) hx hb d_MO_detail_91 (by decide) (fun c26 => ?_) (fun c26 => ?_)
          · have hw := hw.2 c26
            refine lv_iconst (v := (-1 : Int32)) hx hb d_MO_detail_103 (by decide) ?_
            exact W.iret (v := (-1 : Int32)) hx hb hr (fun t ht _ => ⟨⟨(-1 : Int32), (X1, Y2), rfl, hw, by show va_P _ _ _ t.heap; rw [ht]; exact hP⟩, hS.F ht⟩) hS.2.2 d_MO_detail_104
          · have hw := hw.1 c26
            refine lv_aload_n hx hb d_MO_detail_94 rfl (lv_at hl 0 rfl) ?_
            refine va_get (D := (dC, dI)) (ci := 9) (v := .ref (ad 12)) (C := R_MO) (T := T_MO) (N := 36) hx hb hts in_MO hown hK hP (0) atM_MO rfl 17 (by decide) (hts _ gw_359) (fun _ h9 => h9) rfl d_MO_detail_95 ?_
            refine lv_iload_n hx hb d_MO_detail_98 rfl (lv_at hl 2 rfl) ?_
            obtain ⟨h27, hw⟩ := hw
            refine va_iald hx hb hK hP (12) 11 atM_authEnds rfl h27 d_MO_detail_99 ?_
            refine lv_goto (tgt := 104) hx hb d_MO_detail_100 (by decide) ?_
            exact W.iret (v := X1 33 a2.toNatClampNeg) hx hb hr (fun t ht _ => ⟨⟨X1 33 a2.toNatClampNeg, (X1, Y2), rfl, hw, by show va_P _ _ _ t.heap; rw [ht]; exact hP⟩, hS.F ht⟩) hS.2.2 d_MO_detail_104
        · have hw := hw.1 c24
          refine lv_aload_n hx hb d_MO_detail_80 rfl (lv_at hl 0 rfl) ?_
          refine va_get (D := (dC, dI)) (ci := 9) (v := .ref (ad 11)) (C := R_MO) (T := T_MO) (N := 36) hx hb hts in_MO hown hK hP (0) atM_MO rfl 16 (by decide) (hts _ gw_352) (fun _ h9 => h9) rfl d_MO_detail_81 ?_
          refine lv_iload_n hx hb d_MO_detail_84 rfl (lv_at hl 2 rfl) ?_
          obtain ⟨h25, hw⟩ := hw
          refine va_iald hx hb hK hP (11) 10 atM_authName rfl h25 d_MO_detail_85 ?_
          refine lv_goto (tgt := 104) hx hb d_MO_detail_86 (by decide) ?_
          exact W.iret (v := X1 32 a2.toNatClampNeg) hx hb hr (fun t ht _ => ⟨⟨X1 32 a2.toNatClampNeg, (X1, Y2), rfl, hw, by show va_P _ _ _ t.heap; rw [ht]; exact hP⟩, hS.F ht⟩) hS.2.2 d_MO_detail_104
      · have hw := hw.1 c22
        refine lv_aload_n hx hb d_MO_detail_66 rfl (lv_at hl 0 rfl) ?_
        refine va_get (D := (dC, dI)) (ci := 9) (v := .ref (ad 10)) (C := R_MO) (T := T_MO) (N := 36) hx hb hts in_MO hown hK hP (0) atM_MO rfl 15 (by decide) (hts _ gw_351) (fun _ h9 => h9) rfl d_MO_detail_67 ?_
        refine lv_iload_n hx hb d_MO_detail_70 rfl (lv_at hl 2 rfl) ?_
        obtain ⟨h23, hw⟩ := hw
        refine va_iald hx hb hK hP (10) 9 atM_authAccount rfl h23 d_MO_detail_71 ?_
        refine lv_goto (tgt := 104) hx hb d_MO_detail_72 (by decide) ?_
        exact W.iret (v := X1 31 a2.toNatClampNeg) hx hb hr (fun t ht _ => ⟨⟨X1 31 a2.toNatClampNeg, (X1, Y2), rfl, hw, by show va_P _ _ _ t.heap; rw [ht]; exact hP⟩, hS.F ht⟩) hS.2.2 d_MO_detail_104
    have hw := hw.2 c21
    by_cases c28 : a1 = (3 : Int32)
    · have hw := hw.1 c28
      refine lv_tableIn (off := 89) (tgt := 105) hx hb d_MO_detail_16 (by rw [c28]; decide) (by rw [c28]; decide) (by rw [c28]; decide) (by decide) ?_
      refine lv_iload_n hx hb d_MO_detail_105 rfl (lv_at hl 3 rfl) ?_
      refine lv_if_ne (tgt := 118) hx hb d_MO_detail_106 (by decide) (fun c29 => ?_) (fun c29 => ?_)
      · have hw := hw.2 c29
        refine lv_iload_n hx hb d_MO_detail_118 rfl (lv_at hl 3 rfl) ?_
        refine lv_iconst (v := (1 : Int32)) hx hb d_MO_detail_119 (by decide) ?_
        refine lv_icmp_ne (tgt := 132) hx hb d_MO_detail_120 (by decide) (fun c31 => ?_) (fun c31 => ?_)
        · have hw := hw.2 c31
          refine lv_iconst (v := (-1 : Int32)) hx hb d_MO_detail_132 (by decide) ?_
          exact W.iret (v := (-1 : Int32)) hx hb hr (fun t ht _ => ⟨⟨(-1 : Int32), (X1, Y2), rfl, hw, by show va_P _ _ _ t.heap; rw [ht]; exact hP⟩, hS.F ht⟩) hS.2.2 d_MO_detail_133
        · have hw := hw.1 c31
          refine lv_aload_n hx hb d_MO_detail_123 rfl (lv_at hl 0 rfl) ?_
          refine va_get (D := (dC, dI)) (ci := 9) (v := .ref (ad 16)) (C := R_MO) (T := T_MO) (N := 36) hx hb hts in_MO hown hK hP (0) atM_MO rfl 21 (by decide) (hts _ gw_358) (fun _ h9 => h9) rfl d_MO_detail_124 ?_
          refine lv_iload_n hx hb d_MO_detail_127 rfl (lv_at hl 2 rfl) ?_
          obtain ⟨h32, hw⟩ := hw
          refine va_iald hx hb hK hP (16) 15 atM_wrong rfl h32 d_MO_detail_128 ?_
          refine lv_goto (tgt := 133) hx hb d_MO_detail_129 (by decide) ?_
          exact W.iret (v := X1 42 a2.toNatClampNeg) hx hb hr (fun t ht _ => ⟨⟨X1 42 a2.toNatClampNeg, (X1, Y2), rfl, hw, by show va_P _ _ _ t.heap; rw [ht]; exact hP⟩, hS.F ht⟩) hS.2.2 d_MO_detail_133
      · have hw := hw.1 c29
        refine lv_aload_n hx hb d_MO_detail_109 rfl (lv_at hl 0 rfl) ?_
        refine va_get (D := (dC, dI)) (ci := 9) (v := .ref (ad 14)) (C := R_MO) (T := T_MO) (N := 36) hx hb hts in_MO hown hK hP (0) atM_MO rfl 19 (by decide) (hts _ gw_356) (fun _ h9 => h9) rfl d_MO_detail_110 ?_
        refine lv_iload_n hx hb d_MO_detail_113 rfl (lv_at hl 2 rfl) ?_
        obtain ⟨h30, hw⟩ := hw
        refine va_iald hx hb hK hP (14) 13 atM_token rfl h30 d_MO_detail_114 ?_
        refine lv_goto (tgt := 133) hx hb d_MO_detail_115 (by decide) ?_
        exact W.iret (v := X1 41 a2.toNatClampNeg) hx hb hr (fun t ht _ => ⟨⟨X1 41 a2.toNatClampNeg, (X1, Y2), rfl, hw, by show va_P _ _ _ t.heap; rw [ht]; exact hP⟩, hS.F ht⟩) hS.2.2 d_MO_detail_133
    have hw := hw.2 c28
    exact hw.elim
  · have hw := hw.2 c4
    refine lv_iconst (v := (0 : Int32)) hx hb d_MO_detail_13 (by decide) ?_
    exact W.iret (v := (0 : Int32)) hx hb hr (fun t ht _ => ⟨⟨(0 : Int32), (X1, Y2), rfl, hw, by show va_P _ _ _ t.heap; rw [ht]; exact hP⟩, hS.F ht⟩) hS.2.2 d_MO_detail_14
