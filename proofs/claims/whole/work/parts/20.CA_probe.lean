def ws_CA_probe : List Cond := Cond.code y_CA_probe c_CA_probe 7 (Option.some Jvm.ClassFile.FieldType.int) :: GW
theorem d_CA_probe_0 : decode c_CA_probe 0 = .ok (.aload_n 0, 1) := by decide +kernel
theorem d_CA_probe_1 : decode c_CA_probe 1 = .ok (.iload_n 1, 1) := by decide +kernel
theorem d_CA_probe_2 : decode c_CA_probe 2 = .ok (.iload_n 2, 1) := by decide +kernel
theorem d_CA_probe_3 : decode c_CA_probe 3 = .ok (.invokevirtual 152, 3) := by decide +kernel
theorem d_CA_probe_6 : decode c_CA_probe 6 = .ok (.astore 4, 2) := by decide +kernel
theorem d_CA_probe_8 : decode c_CA_probe 8 = .ok (.aload_n 0, 1) := by decide +kernel
theorem d_CA_probe_9 : decode c_CA_probe 9 = .ok (.getfield 23, 3) := by decide +kernel
theorem d_CA_probe_12 : decode c_CA_probe 12 = .ok (.iload_n 1, 1) := by decide +kernel
theorem d_CA_probe_13 : decode c_CA_probe 13 = .ok (.aaload, 1) := by decide +kernel
theorem d_CA_probe_14 : decode c_CA_probe 14 = .ok (.astore 5, 2) := by decide +kernel
theorem d_CA_probe_16 : decode c_CA_probe 16 = .ok (.aload 4, 2) := by decide +kernel
theorem d_CA_probe_18 : decode c_CA_probe 18 = .ok (.getfield 160, 3) := by decide +kernel
theorem d_CA_probe_21 : decode c_CA_probe 21 = .ok (.iconst 1, 1) := by decide +kernel
theorem d_CA_probe_22 : decode c_CA_probe 22 = .ok (.if_icmp .ne 11, 3) := by decide +kernel
theorem d_CA_probe_25 : decode c_CA_probe 25 = .ok (.aload 5, 2) := by decide +kernel
theorem d_CA_probe_27 : decode c_CA_probe 27 = .ok (.getfield 159, 3) := by decide +kernel
theorem d_CA_probe_30 : decode c_CA_probe 30 = .ok (.ifCond .eq 11, 3) := by decide +kernel
theorem d_CA_probe_33 : decode c_CA_probe 33 = .ok (.new 120, 3) := by decide +kernel
theorem d_CA_probe_36 : decode c_CA_probe 36 = .ok (.dup, 1) := by decide +kernel
theorem d_CA_probe_37 : decode c_CA_probe 37 = .ok (.invokespecial 122, 3) := by decide +kernel
theorem d_CA_probe_40 : decode c_CA_probe 40 = .ok (.athrow, 1) := by decide +kernel
theorem d_CA_probe_41 : decode c_CA_probe 41 = .ok (.aload_n 0, 1) := by decide +kernel
theorem d_CA_probe_42 : decode c_CA_probe 42 = .ok (.getfield 11, 3) := by decide +kernel
theorem d_CA_probe_45 : decode c_CA_probe 45 = .ok (.aload 5, 2) := by decide +kernel
theorem d_CA_probe_47 : decode c_CA_probe 47 = .ok (.getfield 156, 3) := by decide +kernel
theorem d_CA_probe_50 : decode c_CA_probe 50 = .ok (.aaload, 1) := by decide +kernel
theorem d_CA_probe_51 : decode c_CA_probe 51 = .ok (.getfield 164, 3) := by decide +kernel
theorem d_CA_probe_54 : decode c_CA_probe 54 = .ok (.istore 6, 2) := by decide +kernel
theorem d_CA_probe_56 : decode c_CA_probe 56 = .ok (.iload_n 3, 1) := by decide +kernel
theorem d_CA_probe_57 : decode c_CA_probe 57 = .ok (.aload_n 0, 1) := by decide +kernel
theorem d_CA_probe_58 : decode c_CA_probe 58 = .ok (.bipush 8, 2) := by decide +kernel
theorem d_CA_probe_60 : decode c_CA_probe 60 = .ok (.aload 4, 2) := by decide +kernel
theorem d_CA_probe_62 : decode c_CA_probe 62 = .ok (.getfield 161, 3) := by decide +kernel
theorem d_CA_probe_65 : decode c_CA_probe 65 = .ok (.iload 6, 2) := by decide +kernel
theorem d_CA_probe_67 : decode c_CA_probe 67 = .ok (.iconst 0, 1) := by decide +kernel
theorem d_CA_probe_68 : decode c_CA_probe 68 = .ok (.iconst 0, 1) := by decide +kernel
theorem d_CA_probe_69 : decode c_CA_probe 69 = .ok (.invokevirtual 96, 3) := by decide +kernel
theorem d_CA_probe_72 : decode c_CA_probe 72 = .ok (.if_icmp .ne 30, 3) := by decide +kernel
theorem d_CA_probe_75 : decode c_CA_probe 75 = .ok (.aload 4, 2) := by decide +kernel
theorem d_CA_probe_77 : decode c_CA_probe 77 = .ok (.iconst 2, 1) := by decide +kernel
theorem d_CA_probe_78 : decode c_CA_probe 78 = .ok (.putfield 160, 3) := by decide +kernel
theorem d_CA_probe_81 : decode c_CA_probe 81 = .ok (.aload 5, 2) := by decide +kernel
theorem d_CA_probe_83 : decode c_CA_probe 83 = .ok (.iconst 1, 1) := by decide +kernel
theorem d_CA_probe_84 : decode c_CA_probe 84 = .ok (.putfield 159, 3) := by decide +kernel
theorem d_CA_probe_87 : decode c_CA_probe 87 = .ok (.aload 5, 2) := by decide +kernel
theorem d_CA_probe_89 : decode c_CA_probe 89 = .ok (.aload_n 0, 1) := by decide +kernel
theorem d_CA_probe_90 : decode c_CA_probe 90 = .ok (.getfield 143, 3) := by decide +kernel
theorem d_CA_probe_93 : decode c_CA_probe 93 = .ok (.bipush 40, 2) := by decide +kernel
theorem d_CA_probe_95 : decode c_CA_probe 95 = .ok (.iadd, 1) := by decide +kernel
theorem d_CA_probe_96 : decode c_CA_probe 96 = .ok (.putfield 167, 3) := by decide +kernel
theorem d_CA_probe_99 : decode c_CA_probe 99 = .ok (.goto 10, 3) := by decide +kernel
theorem d_CA_probe_102 : decode c_CA_probe 102 = .ok (.aload 4, 2) := by decide +kernel
theorem d_CA_probe_104 : decode c_CA_probe 104 = .ok (.aload 5, 2) := by decide +kernel
theorem d_CA_probe_106 : decode c_CA_probe 106 = .ok (.invokestatic 170, 3) := by decide +kernel
theorem d_CA_probe_109 : decode c_CA_probe 109 = .ok (.aload_n 0, 1) := by decide +kernel
theorem d_CA_probe_110 : decode c_CA_probe 110 = .ok (.invokevirtual 149, 3) := by decide +kernel
theorem d_CA_probe_113 : decode c_CA_probe 113 = .ok (.aload 5, 2) := by decide +kernel
theorem d_CA_probe_115 : decode c_CA_probe 115 = .ok (.getfield 159, 3) := by decide +kernel
theorem d_CA_probe_118 : decode c_CA_probe 118 = .ok (.ireturn, 1) := by decide +kernel
def wq_CA_probe_109 (post : Int32 → ST → Prop) (px : String → ST → Prop) (v5 : Nat) (X : ST) : Prop := wp_CA_settleOrders (fun (X1 : ST) => (v5 < 24 ∧ post (X1 30 v5) X1)) X
def wp_CA_probe (post : Int32 → ST → Prop) (px : String → ST → Prop) (X : ST) (a1 : Int32) (a2 : Int32) (a3 : Int32) : Prop := wp_CA_challengeOf (fun (i6 : Nat) (X4 : ST) => (vp_in a1 24 ∧ (i6 < 48 ∧ (((X4 40 i6) = (1 : Int32) → (((X4 30 a1.toNatClampNeg) = 0 → (vp_in (X4 31 a1.toNatClampNeg) 6 ∧ wp_CA_digest (fun (r13 : Int32) (X12 : ST) => ((a3 = r13 → wq_CA_probe_109 post px a1.toNatClampNeg (up (up (up X12 40 i6 (2 : Int32)) 30 a1.toNatClampNeg (1 : Int32)) 33 a1.toNatClampNeg ((X12 1 0) + (40 : Int32)))) ∧ (¬ a3 = r13 → wp_CA_countWrong (fun (X15 : ST) => wq_CA_probe_109 post px a1.toNatClampNeg X15) X12 i6 a1.toNatClampNeg))) X4 (8 : Int32) (X4 41 i6) (X4 11 ((X4 31 a1.toNatClampNeg).toNatClampNeg)) (0 : Int32) (0 : Int32))) ∧ (¬ (X4 30 a1.toNatClampNeg) = 0 → px "java/lang/IllegalStateException" X4))) ∧ (¬ (X4 40 i6) = (1 : Int32) → px "java/lang/IllegalStateException" X4))))) px X a1 a2
set_option maxHeartbeats 4000000 in
set_option maxRecDepth 100000 in
theorem mt_CA_probe (l : Launch) (hl9 : l.stackTraces = false) (dC : Nat → ClassId) (dI : Nat → Nat → Nat) (cA : Nat → ClassId) (ad : Nat → Nat) (hI : INJ ad 125) (sz : Nat) {X : ST} {a1 : Int32} {a2 : Int32} {a3 : Int32} {post : Int32 → ST → Prop} {px : String → ST → Prop} (hw : wp_CA_probe post px X a1 a2 a3) : xt_Met l y_CA_probe ws_CA_probe ({ frames := 7, cells := 2, slots := 12, locals := 112 } : Room) (va_Pc [.ref (ad 0), .int a1, .int a2, .int a3] (fun U => PC dC dI cA ad sz X U)) (va_Qi (fun r (u : ST) => post r u) (fun (u : ST) t => va_P (dC, dI) vwCl (wdC cA ad u) t.heap) (CA ad 125 sz)) (xt_X (fun (u : String × ST) => px u.1 u.2) (fun E (u : String × ST) t => u.1 = E ∧ va_P (dC, dI) vwCl (wdC cA ad u.2) t.heap) (CA ad 125 sz)) 2 12 (CA ad 125 sz) := by
  refine xt_ofW (cc := c_CA_probe) (maxL := 7) (ret := (some .int)) (by decide) rfl ?_
  intro p e s m args below meth c s₁ B hml hEx hv
  obtain ⟨rfl, hsz, hP, hG⟩ := hv
  have hx := B.exec
  have hb := B.bytes
  have hr := B.returns
  have hts : ∀ w ∈ GW, w.before (([.ref (ad 0), .int a1, .int a2, .int a3] : List Value).toArray) s = true := fun w h => atoms_spec (ws := ws_CA_probe) B.pre w (List.mem_cons_of_mem _ h)
  have hown : s.vm.findClass R_CA = some m.cls := findClass_of_methodNamed B.named
  have hlocks := B.notSynchronized
  subst hsz
  have hK := hG.1
  have hG9 := hG
  have hNW := hG.2.1
  have hD0 : ∀ (X : ST), va_D (CA ad 125 s.heap.size) (wdC cA ad X) := fun _ => zwC_D hI
  have hS : va_S (CA ad 125 s.heap.size) s.heap s.heap [] := va_S.rf
  have hl := lv_entry ([.ref (ad 0), .int a1, .int a2, .int a3]) (n := 7) (Nat.le_of_ble_eq_true rfl)
  rw [lg_entry_eq]
  generalize (lg_sl ([.ref (ad 0), .int a1, .int a2, .int a3]) ++ List.replicate (7 - (lg_sl ([.ref (ad 0), .int a1, .int a2, .int a3])).length) Slot.unset).toArray = ls at hl ⊢
  have hl : lv_has ls 7 [(0, .ref (ad 0)), (1, .int a1), (2, .int a2), (3, .int a3)] := hl
  have L109 : ∀ (v5 : Nat) (X : ST) (H : Heap) (locs : List Loc) (ls : Array Slot), wq_CA_probe_109 post px v5 X → va_P (dC, dI) vwCl (wdC cA ad X) H → va_S (CA ad 125 s.heap.size) s.heap H locs → lv_has ls 7 [(0, .ref (ad 0)), (5, .ref (ad (41 + v5)))] → W p l e (headSpec ws_CA_probe ({ frames := 7, cells := 2, slots := 12, locals := 112 } : Room)).room s m (([.ref (ad 0), .int a1, .int a2, .int a3] : List Value).toArray) below meth c H locs 1 6 (xt_Q below (va_Qi (fun r (u : ST) => post r u) (fun (u : ST) t => va_P (dC, dI) vwCl (wdC cA ad u) t.heap) (CA ad 125 s.heap.size)) (xt_X (fun (u : String × ST) => px u.1 u.2) (fun E (u : String × ST) t => u.1 = E ∧ va_P (dC, dI) vwCl (wdC cA ad u.2) t.heap) (CA ad 125 s.heap.size)) (([.ref (ad 0), .int a1, .int a2, .int a3] : List Value).toArray) s 2 12 (CA ad 125 s.heap.size)) (F0 m 109 ls []) := by
    intro v5 X H locs ls hw hP hS hl
    unfold wq_CA_probe_109 at hw
    refine lv_aload_n hx hb d_CA_probe_109 rfl (lv_at hl 0 rfl) ?_
    refine va_callv (va_runV (As := []) (rest := []) ⟨hx, hb, hml, hown, hts⟩ (mt_CA_settleOrders l hl9 dC dI cA ad hI _ hw) (cwV 0 hts (gV gw_141 gw_142 gw_143 gw_13 gw_140) rfl rfl rfl (by decide +kernel) ⟨Nat.le_of_ble_eq_true rfl, Nat.le_of_ble_eq_true rfl⟩) ⟨zwC_blind, va_recv hK hP (ci := 0) (q0 := 0) rfl atC_CA, zwC_pre hP hS hG9⟩ rfl rfl hl.1 rfl (lv_room (Nat.le_of_ble_eq_true rfl)) d_CA_probe_110 ⟨Nat.le_of_ble_eq_true rfl, Nat.le_of_ble_eq_true rfl⟩) hS (fun q _ h => CA_le hS.1 q h) (fun q h => CA_le hS.1 q h) (fun X1 t H locs ht hvm hw hP hz1 hk1 hS => ?_)
    have hP : va_P (dC, dI) vwCl (wdC cA ad X1) H := by rw [← ht]; exact hP
    try dsimp only at hw
    refine lv_aload hx hb d_CA_probe_113 (lv_at hl 1 rfl) ?_
    obtain ⟨h3, hw⟩ := hw
    refine va_get (D := (dC, dI)) (ci := 6) (v := .int (X1 30 v5)) (C := R_Aut) (T := T_Aut) (N := 4) hx hb hts in_Aut hown hK hP (41 + v5) (atC_Aut h3) rfl 0 (by decide) (hts _ gw_78) (fun _ h9 => h9) rfl d_CA_probe_115 ?_
    refine xt_ret ?_
    refine W.widen (k := 2) (n := 12) (Nat.le_of_ble_eq_true rfl) (Nat.le_of_ble_eq_true rfl) ?_
    exact W.iret (v := X1 30 v5) hx hb hr (fun t ht _ => ⟨⟨X1 30 v5, X1, rfl, hw, by show va_P _ _ _ t.heap; rw [ht]; exact hP⟩, hS.F ht⟩) hS.2.2 d_CA_probe_118
  unfold wp_CA_probe at hw
  refine lv_aload_n hx hb d_CA_probe_0 rfl (lv_at hl 0 rfl) ?_
  refine lv_iload_n hx hb d_CA_probe_1 rfl (lv_at hl 1 rfl) ?_
  refine lv_iload_n hx hb d_CA_probe_2 rfl (lv_at hl 2 rfl) ?_
  refine xt_callr (xt_runV (As := [.int a1, .int a2]) (rest := []) ⟨hx, hb, hml, hown, hts⟩ (mt_CA_challengeOf l hl9 dC dI cA ad hI _ hw) (cwV 2 hts (gV gw_145 gw_146 gw_147 gw_13 gw_144) rfl rfl rfl (by decide +kernel) ⟨Nat.le_of_ble_eq_true rfl, Nat.le_of_ble_eq_true rfl⟩) ⟨zwC_blind, va_recv hK hP (ci := 0) (q0 := 0) rfl atC_CA, zwC_pre hP hS hG9⟩ rfl rfl hl.1 rfl (lv_room (Nat.le_of_ble_eq_true rfl)) d_CA_probe_3 ⟨Nat.le_of_ble_eq_true rfl, Nat.le_of_ble_eq_true rfl⟩) hS (fun q _ h => CA_le hS.1 q h) (fun q h => CA_le hS.1 q h) (fun q _ h => CA_le hS.1 q h) (fun E ce q9 u9 t H locs ht ha hw hB hz1 hk1 hS hce hcv hcl => ?_) (fun u9 ra t H locs ht hvm hw hP hz1 hk1 hS => ?_)
  · obtain ⟨E9, X9⟩ := u9
    obtain ⟨rfl, hP⟩ := hB
    exact xt_out (E := E9) (fun x hx => (hEx x hx).elim) hlocks hce hcv hcl (fun t9 ht9 ha9 => ⟨(E9, X9), hw, ⟨rfl, by show va_P _ _ _ t9.heap; rw [ht9, ← ht]; exact hP⟩, hS.F ht9⟩) hS.2.2 (Nat.le_of_ble_eq_true rfl) (Nat.le_of_ble_eq_true rfl)
  obtain ⟨i6, X4⟩ := u9
  obtain ⟨rfl, hP⟩ := hP
  have hP : va_P (dC, dI) vwCl (wdC cA ad X4) H := by rw [← ht]; exact hP
  try dsimp only at hw
  refine lv_astore (lv' := [(4, .ref (ad (65 + i6))), (0, .ref (ad 0)), (1, .int a1), (2, .int a2), (3, .int a3)]) hx hb d_CA_probe_6 hl (by decide) rfl (fun ls hl => ?_)
  refine lv_aload_n hx hb d_CA_probe_8 rfl (lv_at hl 1 rfl) ?_
  refine va_get (D := (dC, dI)) (ci := 0) (v := .ref (ad 3)) (C := R_CA) (T := T_CA) (N := 14) hx hb hts in_CA hown hK hP (0) atC_CA rfl 8 (by decide) (hts _ gw_75) (fun _ h9 => h9) rfl d_CA_probe_9 ?_
  refine lv_iload_n hx hb d_CA_probe_12 rfl (lv_at hl 2 rfl) ?_
  obtain ⟨h7, hw⟩ := hw
  refine va_aldq hx hb hK hP (3) 2 atC_aAut rfl h7 d_CA_probe_13 ?_
  refine W.eq (g2 := F0 m 14 ls [.ref (ad (41 + a1.toNatClampNeg))]) rfl ?_
  refine lv_astore (lv' := [(5, .ref (ad (41 + a1.toNatClampNeg))), (4, .ref (ad (65 + i6))), (0, .ref (ad 0)), (1, .int a1), (2, .int a2), (3, .int a3)]) hx hb d_CA_probe_14 hl (by decide) rfl (fun ls hl => ?_)
  refine lv_aload hx hb d_CA_probe_16 (lv_at hl 1 rfl) ?_
  obtain ⟨h8, hw⟩ := hw
  refine va_get (D := (dC, dI)) (ci := 7) (v := .int (X4 40 i6)) (C := R_Cha) (T := T_Cha) (N := 3) hx hb hts in_Cha hown hK hP (65 + i6) (atC_Cha h8) rfl 0 (by decide) (hts _ gw_148) (fun _ h9 => h9) rfl d_CA_probe_18 ?_
  refine lv_iconst (v := (1 : Int32)) hx hb d_CA_probe_21 (by decide) ?_
  refine lv_icmp_ne (tgt := 33) hx hb d_CA_probe_22 (by decide) (fun c9 => ?_) (fun c9 => ?_)
  · have hw := hw.2 c9
    exact xt_throw0 (cls := "java/lang/IllegalStateException") (names := ["java/lang/RuntimeException", "java/lang/Exception"]) (ic := 122) hx hb hl9 hown (by decide +kernel) (by decide +kernel) (hts _ gw_60) (hts _ gw_61) (hts _ gw_62) (xc_hat xa_2 hts hG9 hP hS) (hl.1.trans hml.symm) d_CA_probe_33 d_CA_probe_36 d_CA_probe_37 d_CA_probe_40 (fun x hx => (hEx x hx).elim) hlocks (fun t ha hz hk => ⟨("java/lang/IllegalStateException", X4), hw, ⟨rfl, zw_keep hP hk⟩, zw_F hS hz hk⟩) hS.2.2 (Nat.le_of_ble_eq_true rfl) (Nat.le_of_ble_eq_true rfl) (Nat.le_of_ble_eq_true rfl) (Nat.le_of_ble_eq_true rfl) (Nat.le_of_ble_eq_true rfl) (Nat.le_of_ble_eq_true rfl)
  · have hw := hw.1 c9
    refine lv_aload hx hb d_CA_probe_25 (lv_at hl 0 rfl) ?_
    refine va_get (D := (dC, dI)) (ci := 6) (v := .int (X4 30 a1.toNatClampNeg)) (C := R_Aut) (T := T_Aut) (N := 4) hx hb hts in_Aut hown hK hP (41 + a1.toNatClampNeg) (atC_Aut (zw_lt h7)) rfl 0 (by decide) (hts _ gw_78) (fun _ h9 => h9) rfl d_CA_probe_27 ?_
    refine lv_if_eq (tgt := 41) hx hb d_CA_probe_30 (by decide) (fun c10 => ?_) (fun c10 => ?_)
    · have hw := hw.1 c10
      refine lv_aload_n hx hb d_CA_probe_41 rfl (lv_at hl 2 rfl) ?_
      refine va_get (D := (dC, dI)) (ci := 0) (v := .ref (ad 1)) (C := R_CA) (T := T_CA) (N := 14) hx hb hts in_CA hown hK hP (0) atC_CA rfl 6 (by decide) (hts _ gw_33) (fun _ h9 => h9) rfl d_CA_probe_42 ?_
      refine lv_aload hx hb d_CA_probe_45 (lv_at hl 0 rfl) ?_
      refine va_get (D := (dC, dI)) (ci := 6) (v := .int (X4 31 a1.toNatClampNeg)) (C := R_Aut) (T := T_Aut) (N := 4) hx hb hts in_Aut hown hK hP (41 + a1.toNatClampNeg) (atC_Aut (zw_lt h7)) rfl 1 (by decide) (hts _ gw_76) (fun _ h9 => h9) rfl d_CA_probe_47 ?_
      obtain ⟨h11, hw⟩ := hw
      refine va_aldq hx hb hK hP (1) 0 atC_aAcc rfl h11 d_CA_probe_50 ?_
      refine W.eq (g2 := F0 m 51 ls [.ref (ad (11 + ((X4 31 a1.toNatClampNeg).toNatClampNeg)))]) rfl ?_
      refine va_get (D := (dC, dI)) (ci := 4) (v := .int (X4 11 ((X4 31 a1.toNatClampNeg).toNatClampNeg))) (C := R_Acc) (T := T_Acc) (N := 2) hx hb hts in_Acc hown hK hP (11 + ((X4 31 a1.toNatClampNeg).toNatClampNeg)) (atC_Acc (zw_lt h11)) rfl 1 (by decide) (hts _ gw_34) (fun _ h9 => h9) rfl d_CA_probe_51 ?_
      refine lv_istore (lv' := [(6, .int (X4 11 ((X4 31 a1.toNatClampNeg).toNatClampNeg))), (5, .ref (ad (41 + a1.toNatClampNeg))), (4, .ref (ad (65 + i6))), (0, .ref (ad 0)), (1, .int a1), (2, .int a2), (3, .int a3)]) hx hb d_CA_probe_54 hl (by decide) rfl (fun ls hl => ?_)
      refine lv_iload_n hx hb d_CA_probe_56 rfl (lv_at hl 6 rfl) ?_
      refine lv_aload_n hx hb d_CA_probe_57 rfl (lv_at hl 3 rfl) ?_
      refine lv_bipush (v := (8 : Int32)) hx hb d_CA_probe_58 (by decide) ?_
      refine lv_aload hx hb d_CA_probe_60 (lv_at hl 2 rfl) ?_
      refine va_get (D := (dC, dI)) (ci := 7) (v := .int (X4 41 i6)) (C := R_Cha) (T := T_Cha) (N := 3) hx hb hts in_Cha hown hK hP (65 + i6) (atC_Cha h8) rfl 1 (by decide) (hts _ gw_88) (fun _ h9 => h9) rfl d_CA_probe_62 ?_
      refine lv_iload hx hb d_CA_probe_65 (lv_at hl 0 rfl) ?_
      refine lv_iconst (v := (0 : Int32)) hx hb d_CA_probe_67 (by decide) ?_
      refine lv_iconst (v := (0 : Int32)) hx hb d_CA_probe_68 (by decide) ?_
      refine va_calli (va_runV (As := [.int (8 : Int32), .int (X4 41 i6), .int (X4 11 ((X4 31 a1.toNatClampNeg).toNatClampNeg)), .int (0 : Int32), .int (0 : Int32)]) (rest := [.int a3]) ⟨hx, hb, hml, hown, hts⟩ (mt_CA_digest l hl9 dC dI cA ad hI _ hw) (cwV 5 hts (gV gw_43 gw_44 gw_45 gw_13 gw_42) rfl rfl rfl (by decide +kernel) ⟨Nat.le_of_ble_eq_true rfl, Nat.le_of_ble_eq_true rfl⟩) ⟨zwC_blind, va_recv hK hP (ci := 0) (q0 := 0) rfl atC_CA, zwC_pre hP hS hG9⟩ rfl rfl hl.1 rfl (lv_room (Nat.le_of_ble_eq_true rfl)) d_CA_probe_69 ⟨Nat.le_of_ble_eq_true rfl, Nat.le_of_ble_eq_true rfl⟩) hS (fun q _ h => CA_le hS.1 q h) (fun q h => CA_le hS.1 q h) (fun r13 X12 t H locs ht hvm hw hP hz1 hk1 hS => ?_)
      have hP : va_P (dC, dI) vwCl (wdC cA ad X12) H := by rw [← ht]; exact hP
      try dsimp only at hw
      refine lv_icmp_ne (tgt := 102) hx hb d_CA_probe_72 (by decide) (fun c14 => ?_) (fun c14 => ?_)
      · have hw := hw.2 c14
        refine lv_aload hx hb d_CA_probe_102 (lv_at hl 2 rfl) ?_
        refine lv_aload hx hb d_CA_probe_104 (lv_at hl 1 rfl) ?_
        refine va_callv (va_runS (As := [.ref (ad (65 + i6)), .ref (ad (41 + a1.toNatClampNeg))]) (rest := []) ⟨hx, hb, hml, hown, hts⟩ (mt_CA_countWrong l hl9 dC dI cA ad hI _ hw) (va_cwS 2 hts (gS gw_151 gw_152 gw_13 gw_150) rfl rfl rfl (by decide +kernel) ⟨Nat.le_of_ble_eq_true rfl, Nat.le_of_ble_eq_true rfl⟩) ⟨zwC_blind, zwC_pre hP hS hG9⟩ rfl rfl hl.1 rfl (lv_room (Nat.le_of_ble_eq_true rfl)) d_CA_probe_106 ⟨Nat.le_of_ble_eq_true rfl, Nat.le_of_ble_eq_true rfl⟩) hS (fun q _ h => CA_le hS.1 q h) (fun q h => CA_le hS.1 q h) (fun X15 t H locs ht hvm hw hP hz1 hk1 hS => ?_)
        have hP : va_P (dC, dI) vwCl (wdC cA ad X15) H := by rw [← ht]; exact hP
        try dsimp only at hw
        have hl := lv_sub hl (l' := [(0, .ref (ad 0)), (5, .ref (ad (41 + a1.toNatClampNeg)))]) [3, 1] rfl
        exact L109 _ _ _ _ _ hw hP hS hl
      · have hw := hw.1 c14
        refine lv_aload hx hb d_CA_probe_75 (lv_at hl 2 rfl) ?_
        refine lv_iconst (v := (2 : Int32)) hx hb d_CA_probe_77 (by decide) ?_
        refine va_put (D := (dC, dI)) (ci := 7) (v := .int (2 : Int32)) (ty := .int) (C := R_Cha) (T := T_Cha) (N := 3) hx hb hts in_Cha ty_Cha ty_Cha_ok nm_Cha hown hK hP (hD0 _) hS (65 + i6) (atC_Cha h8) rfl 0 (by decide) (hts _ gw_148) (fun _ h9 => h9) rfl (by decide +kernel) rfl rfl (Nat.le_of_ble_eq_true rfl) d_CA_probe_78 (fun H locs hP _ hS => ?_)
        have hP : va_P (dC, dI) vwCl (wdC cA ad (up X12 40 i6 (2 : Int32))) H := by rw [← stC_Cha_0 h8]; exact hP
        refine lv_aload hx hb d_CA_probe_81 (lv_at hl 1 rfl) ?_
        refine lv_iconst (v := (1 : Int32)) hx hb d_CA_probe_83 (by decide) ?_
        refine va_put (D := (dC, dI)) (ci := 6) (v := .int (1 : Int32)) (ty := .int) (C := R_Aut) (T := T_Aut) (N := 4) hx hb hts in_Aut ty_Aut ty_Aut_ok nm_Aut hown hK hP (hD0 _) hS (41 + a1.toNatClampNeg) (atC_Aut (zw_lt h7)) rfl 0 (by decide) (hts _ gw_78) (fun _ h9 => h9) rfl (by decide +kernel) rfl rfl (Nat.le_of_ble_eq_true rfl) d_CA_probe_84 (fun H locs hP _ hS => ?_)
        have hP : va_P (dC, dI) vwCl (wdC cA ad (up (up X12 40 i6 (2 : Int32)) 30 a1.toNatClampNeg (1 : Int32))) H := by rw [← stC_Aut_0 (zw_lt h7)]; exact hP
        refine lv_aload hx hb d_CA_probe_87 (lv_at hl 1 rfl) ?_
        refine lv_aload_n hx hb d_CA_probe_89 rfl (lv_at hl 3 rfl) ?_
        refine va_get (D := (dC, dI)) (ci := 0) (v := .int (X12 1 0)) (C := R_CA) (T := T_CA) (N := 14) hx hb hts in_CA hown hK hP (0) atC_CA rfl 1 (by decide) (hts _ gw_135) (fun _ h9 => h9) rfl d_CA_probe_90 ?_
        refine lv_bipush (v := (40 : Int32)) hx hb d_CA_probe_93 (by decide) ?_
        refine lv_iadd hx hb d_CA_probe_95 ?_
        refine va_put (D := (dC, dI)) (ci := 6) (v := .int ((X12 1 0) + (40 : Int32))) (ty := .int) (C := R_Aut) (T := T_Aut) (N := 4) hx hb hts in_Aut ty_Aut ty_Aut_ok nm_Aut hown hK hP (hD0 _) hS (41 + a1.toNatClampNeg) (atC_Aut (zw_lt h7)) rfl 3 (by decide) (hts _ gw_89) (fun _ h9 => h9) rfl (by decide +kernel) rfl rfl (Nat.le_of_ble_eq_true rfl) d_CA_probe_96 (fun H locs hP _ hS => ?_)
        have hP : va_P (dC, dI) vwCl (wdC cA ad (up (up (up X12 40 i6 (2 : Int32)) 30 a1.toNatClampNeg (1 : Int32)) 33 a1.toNatClampNeg ((X12 1 0) + (40 : Int32)))) H := by rw [← stC_Aut_3 (zw_lt h7)]; exact hP
        refine lv_goto (tgt := 109) hx hb d_CA_probe_99 (by decide) ?_
        have hl := lv_sub hl (l' := [(0, .ref (ad 0)), (5, .ref (ad (41 + a1.toNatClampNeg)))]) [3, 1] rfl
        exact L109 _ _ _ _ _ hw hP hS hl
    · have hw := hw.2 c10
      exact xt_throw0 (cls := "java/lang/IllegalStateException") (names := ["java/lang/RuntimeException", "java/lang/Exception"]) (ic := 122) hx hb hl9 hown (by decide +kernel) (by decide +kernel) (hts _ gw_60) (hts _ gw_61) (hts _ gw_62) (xc_hat xa_2 hts hG9 hP hS) (hl.1.trans hml.symm) d_CA_probe_33 d_CA_probe_36 d_CA_probe_37 d_CA_probe_40 (fun x hx => (hEx x hx).elim) hlocks (fun t ha hz hk => ⟨("java/lang/IllegalStateException", X4), hw, ⟨rfl, zw_keep hP hk⟩, zw_F hS hz hk⟩) hS.2.2 (Nat.le_of_ble_eq_true rfl) (Nat.le_of_ble_eq_true rfl) (Nat.le_of_ble_eq_true rfl) (Nat.le_of_ble_eq_true rfl) (Nat.le_of_ble_eq_true rfl) (Nat.le_of_ble_eq_true rfl)
def ws_CA_csr : List Cond := Cond.code y_CA_csr c_CA_csr 4 (Option.some Jvm.ClassFile.FieldType.int) :: GW
theorem d_CA_csr_0 : decode c_CA_csr 0 = .ok (.lconst 0, 1) := by decide +kernel
theorem d_CA_csr_1 : decode c_CA_csr 1 = .ok (.lstore_n 1, 1) := by decide +kernel
theorem d_CA_csr_2 : decode c_CA_csr 2 = .ok (.iconst 0, 1) := by decide +kernel
theorem d_CA_csr_3 : decode c_CA_csr 3 = .ok (.istore_n 3, 1) := by decide +kernel
theorem d_CA_csr_4 : decode c_CA_csr 4 = .ok (.iload_n 3, 1) := by decide +kernel
theorem d_CA_csr_5 : decode c_CA_csr 5 = .ok (.aload_n 0, 1) := by decide +kernel
theorem d_CA_csr_6 : decode c_CA_csr 6 = .ok (.getfield 49, 3) := by decide +kernel
theorem d_CA_csr_9 : decode c_CA_csr 9 = .ok (.getfield 221, 3) := by decide +kernel
theorem d_CA_csr_12 : decode c_CA_csr 12 = .ok (.if_icmp .ge 23, 3) := by decide +kernel
theorem d_CA_csr_15 : decode c_CA_csr 15 = .ok (.lload_n 1, 1) := by decide +kernel
theorem d_CA_csr_16 : decode c_CA_csr 16 = .ok (.aload_n 0, 1) := by decide +kernel
theorem d_CA_csr_17 : decode c_CA_csr 17 = .ok (.getfield 49, 3) := by decide +kernel
theorem d_CA_csr_20 : decode c_CA_csr 20 = .ok (.getfield 224, 3) := by decide +kernel
theorem d_CA_csr_23 : decode c_CA_csr 23 = .ok (.iload_n 3, 1) := by decide +kernel
theorem d_CA_csr_24 : decode c_CA_csr 24 = .ok (.iaload, 1) := by decide +kernel
theorem d_CA_csr_25 : decode c_CA_csr 25 = .ok (.invokestatic 85, 3) := by decide +kernel
theorem d_CA_csr_28 : decode c_CA_csr 28 = .ok (.lstore_n 1, 1) := by decide +kernel
theorem d_CA_csr_29 : decode c_CA_csr 29 = .ok (.iinc 3 1, 3) := by decide +kernel
theorem d_CA_csr_32 : decode c_CA_csr 32 = .ok (.goto (-28), 3) := by decide +kernel
theorem d_CA_csr_35 : decode c_CA_csr 35 = .ok (.lload_n 1, 1) := by decide +kernel
theorem d_CA_csr_36 : decode c_CA_csr 36 = .ok (.invokestatic 89, 3) := by decide +kernel
theorem d_CA_csr_39 : decode c_CA_csr 39 = .ok (.ireturn, 1) := by decide +kernel
def wq_CA_csr_4 (post : Int32 → ST → Prop) : Nat → Int64 → Int32 → ST → Prop
  | 0 => fun _ _ _ => False
  | n + 1 => fun v1 v3 X => (((X 7 0) ≤ v3 → wp_CA_digestEnd (fun (r3 : Int32) (X2 : ST) => post r3 X2) X v1) ∧ (¬ (X 7 0) ≤ v3 → (vp_in v3 96 ∧ wp_CA_mix (fun (r6 : Int64) (X5 : ST) => wq_CA_csr_4 post n r6 (v3 + (1 : Int32)) X5) X v1 (X 63 v3.toNatClampNeg))))
def wp_CA_csr (post : Int32 → ST → Prop) (X : ST) : Prop := (∃ n9, wq_CA_csr_4 post n9 (0 : Int64) (0 : Int32) X)
set_option maxHeartbeats 4000000 in
set_option maxRecDepth 100000 in
theorem mt_CA_csr (l : Launch) (hl9 : l.stackTraces = false) (dC : Nat → ClassId) (dI : Nat → Nat → Nat) (cA : Nat → ClassId) (ad : Nat → Nat) (hI : INJ ad 125) (sz : Nat) {X : ST} {post : Int32 → ST → Prop} (hw : wp_CA_csr post X) : Met l y_CA_csr ws_CA_csr ({ frames := 1, cells := 0, slots := 0, locals := 24 } : Room) (va_Pc [.ref (ad 0)] (fun U => PC dC dI cA ad sz X U)) (va_Qi (fun r (u : ST) => post r u) (fun (u : ST) t => va_P (dC, dI) vwCl (wdC cA ad u) t.heap) (CA ad 125 sz)) 0 0 (CA ad 125 sz) := by
  refine Met.ofW (cc := c_CA_csr) (maxL := 4) (ret := (some .int)) (by decide) rfl ?_
  intro p e s m args below meth c s₁ B hml hv
  obtain ⟨rfl, hsz, hP, hG⟩ := hv
  have hx := B.exec
  have hb := B.bytes
  have hr := B.returns
  have hts : ∀ w ∈ GW, w.before (([.ref (ad 0)] : List Value).toArray) s = true := fun w h => atoms_spec (ws := ws_CA_csr) B.pre w (List.mem_cons_of_mem _ h)
  have hown : s.vm.findClass R_CA = some m.cls := findClass_of_methodNamed B.named
  have hlocks := B.notSynchronized
  subst hsz
  have hK := hG.1
  have hG9 := hG
  have hNW := hG.2.1
  have hD0 : ∀ (X : ST), va_D (CA ad 125 s.heap.size) (wdC cA ad X) := fun _ => zwC_D hI
  have hS : va_S (CA ad 125 s.heap.size) s.heap s.heap [] := va_S.rf
  have hl := lv_entry ([.ref (ad 0)]) (n := 4) (Nat.le_of_ble_eq_true rfl)
  rw [lg_entry_eq]
  generalize (lg_sl ([.ref (ad 0)]) ++ List.replicate (4 - (lg_sl ([.ref (ad 0)])).length) Slot.unset).toArray = ls at hl ⊢
  have hl : lv_has ls 4 [(0, .ref (ad 0))] := hl
  have L4 : ∀ (n : Nat), ∀ (v1 : Int64) (v3 : Int32) (X : ST) (H : Heap) (locs : List Loc) (ls : Array Slot), wq_CA_csr_4 post n v1 v3 X → va_P (dC, dI) vwCl (wdC cA ad X) H → va_S (CA ad 125 s.heap.size) s.heap H locs → lv_has ls 4 [(0, .ref (ad 0)), (1, .long v1), (3, .int v3)] → W p l e (headSpec ws_CA_csr ({ frames := 1, cells := 0, slots := 0, locals := 24 } : Room)).room s m (([.ref (ad 0)] : List Value).toArray) below meth c H locs 0 0 (MQ below (va_Qi (fun r (u : ST) => post r u) (fun (u : ST) t => va_P (dC, dI) vwCl (wdC cA ad u) t.heap) (CA ad 125 s.heap.size)) (([.ref (ad 0)] : List Value).toArray) s 0 0 (CA ad 125 s.heap.size)) (F0 m 4 ls []) := by
    intro n
    induction n with
    | zero => intro v1 v3 X H locs ls hw hP hS hl; exact False.elim hw
    | succ n ih =>
      intro v1 v3 X H locs ls hw hP hS hl
      dsimp only [wq_CA_csr_4] at hw
      refine lv_iload_n hx hb d_CA_csr_4 rfl (lv_at hl 2 rfl) ?_
      refine lv_aload_n hx hb d_CA_csr_5 rfl (lv_at hl 0 rfl) ?_
      refine va_get (D := (dC, dI)) (ci := 0) (v := .ref (ad 8)) (C := R_CA) (T := T_CA) (N := 14) hx hb hts in_CA hown hK hP (0) atC_CA rfl 12 (by decide) (hts _ gw_153) (fun _ h9 => h9) rfl d_CA_csr_6 ?_
      refine va_get (D := (dC, dI)) (ci := 2) (v := .int (X 7 0)) (C := R_Txt) (T := T_Txt) (N := 2) hx hb hts in_Txt hown hK hP (8) atC_Txt rfl 0 (by decide) (hts _ gw_154) (fun _ h9 => h9) rfl d_CA_csr_9 ?_
      refine lv_icmp_ge (tgt := 35) hx hb d_CA_csr_12 (by decide) (fun c1 => ?_) (fun c1 => ?_)
      · have hw := hw.1 c1
        refine lv_lload_n hx hb d_CA_csr_35 rfl (lv_at hl 1 rfl) ?_
        refine va_calli (va_runS (As := [.long v1]) (rest := []) ⟨hx, hb, hml, hown, hts⟩ (mt_CA_digestEnd l hl9 dC dI cA ad hI _ hw) (va_cwS 1 hts (gS gw_30 gw_31 gw_13 gw_29) rfl rfl rfl (by decide +kernel) ⟨Nat.le_of_ble_eq_true rfl, Nat.le_of_ble_eq_true rfl⟩) ⟨zwC_blind, zwC_pre hP hS hG9⟩ rfl rfl hl.1 rfl (lv_room (Nat.le_of_ble_eq_true rfl)) d_CA_csr_36 ⟨Nat.le_of_ble_eq_true rfl, Nat.le_of_ble_eq_true rfl⟩) hS (fun q _ h => CA_le hS.1 q h) (fun q h => CA_le hS.1 q h) (fun r3 X2 t H locs ht hvm hw hP hz1 hk1 hS => ?_)
        have hP : va_P (dC, dI) vwCl (wdC cA ad X2) H := by rw [← ht]; exact hP
        try dsimp only at hw
        exact W.iret (v := r3) hx hb hr (fun t ht _ => ⟨⟨r3, X2, rfl, hw, by show va_P _ _ _ t.heap; rw [ht]; exact hP⟩, hS.F ht⟩) hS.2.2 d_CA_csr_39
      · have hw := hw.2 c1
        refine lv_lload_n hx hb d_CA_csr_15 rfl (lv_at hl 1 rfl) ?_
        refine lv_aload_n hx hb d_CA_csr_16 rfl (lv_at hl 0 rfl) ?_
        refine va_get (D := (dC, dI)) (ci := 0) (v := .ref (ad 8)) (C := R_CA) (T := T_CA) (N := 14) hx hb hts in_CA hown hK hP (0) atC_CA rfl 12 (by decide) (hts _ gw_153) (fun _ h9 => h9) rfl d_CA_csr_17 ?_
        refine va_get (D := (dC, dI)) (ci := 2) (v := .ref (ad 9)) (C := R_Txt) (T := T_Txt) (N := 2) hx hb hts in_Txt hown hK hP (8) atC_Txt rfl 1 (by decide) (hts _ gw_155) (fun _ h9 => h9) rfl d_CA_csr_20 ?_
        refine lv_iload_n hx hb d_CA_csr_23 rfl (lv_at hl 2 rfl) ?_
        obtain ⟨h4, hw⟩ := hw
        refine va_iald hx hb hK hP (9) 6 atC_iTxt rfl h4 d_CA_csr_24 ?_
        refine va_calll (va_runS (As := [.long v1, .int (X 63 v3.toNatClampNeg)]) (rest := []) ⟨hx, hb, hml, hown, hts⟩ (mt_CA_mix l hl9 dC dI cA ad hI _ hw) (va_cwS 2 hts (gS gw_27 gw_28 gw_13 gw_26) rfl rfl rfl (by decide +kernel) ⟨Nat.le_of_ble_eq_true rfl, Nat.le_of_ble_eq_true rfl⟩) ⟨zwC_blind, zwC_pre hP hS hG9⟩ rfl rfl hl.1 rfl (lv_room (Nat.le_of_ble_eq_true rfl)) d_CA_csr_25 ⟨Nat.le_of_ble_eq_true rfl, Nat.le_of_ble_eq_true rfl⟩) hS (fun q _ h => CA_le hS.1 q h) (fun q h => CA_le hS.1 q h) (fun r6 X5 t H locs ht hvm hw hP hz1 hk1 hS => ?_)
        have hP : va_P (dC, dI) vwCl (wdC cA ad X5) H := by rw [← ht]; exact hP
        try dsimp only at hw
        refine lv_lstore_n (lv' := [(1, .long r6), (0, .ref (ad 0)), (3, .int v3)]) hx hb d_CA_csr_28 rfl hl (by decide) rfl (fun ls hl => ?_)
        refine lv_iinc (k := 2) (v := v3 + (1 : Int32)) (lv' := [(3, .int (v3 + (1 : Int32))), (1, .long r6), (0, .ref (ad 0))]) hx hb d_CA_csr_29 hl rfl rfl (by decide) rfl (fun ls hl => ?_)
        refine lv_goto (tgt := 4) hx hb d_CA_csr_32 (by decide) ?_
        have hl := lv_sub hl (l' := [(0, .ref (ad 0)), (1, .long r6), (3, .int (v3 + (1 : Int32)))]) [2, 1, 0] rfl
        exact ih _ _ _ _ _ _ hw hP hS hl
  unfold wp_CA_csr at hw
  refine lv_lconst (v := (0 : Int64)) hx hb d_CA_csr_0 (by decide) ?_
  refine lv_lstore_n (lv' := [(1, .long (0 : Int64)), (0, .ref (ad 0))]) hx hb d_CA_csr_1 rfl hl (by decide) rfl (fun ls hl => ?_)
  refine lv_iconst (v := (0 : Int32)) hx hb d_CA_csr_2 (by decide) ?_
  refine lv_istore_n (lv' := [(3, .int (0 : Int32)), (1, .long (0 : Int64)), (0, .ref (ad 0))]) hx hb d_CA_csr_3 rfl hl (by decide) rfl (fun ls hl => ?_)
  have hl := lv_sub hl (l' := [(0, .ref (ad 0)), (1, .long (0 : Int64)), (3, .int (0 : Int32))]) [2, 1, 0] rfl
  obtain ⟨n9, hw⟩ := hw
  exact L4 n9 _ _ _ _ _ _ hw hP hS hl
def ws_Req_readByte : List Cond := Cond.code y_Req_readByte c_Req_readByte 3 (Option.some Jvm.ClassFile.FieldType.int) :: GW
theorem d_Req_readByte_0 : decode c_Req_readByte 0 = .ok (.aload_n 0, 1) := by decide +kernel
theorem d_Req_readByte_1 : decode c_Req_readByte 1 = .ok (.aload_n 0, 1) := by decide +kernel
theorem d_Req_readByte_2 : decode c_Req_readByte 2 = .ok (.getfield 15, 3) := by decide +kernel
theorem d_Req_readByte_5 : decode c_Req_readByte 5 = .ok (.ifCond .eq 26, 3) := by decide +kernel
theorem d_Req_readByte_8 : decode c_Req_readByte 8 = .ok (.aload_n 0, 1) := by decide +kernel
theorem d_Req_readByte_9 : decode c_Req_readByte 9 = .ok (.getfield 9, 3) := by decide +kernel
theorem d_Req_readByte_12 : decode c_Req_readByte 12 = .ok (.iload_n 2, 1) := by decide +kernel
theorem d_Req_readByte_13 : decode c_Req_readByte 13 = .ok (.if_icmp .ge 18, 3) := by decide +kernel
theorem d_Req_readByte_16 : decode c_Req_readByte 16 = .ok (.aload_n 0, 1) := by decide +kernel
theorem d_Req_readByte_17 : decode c_Req_readByte 17 = .ok (.getfield 9, 3) := by decide +kernel
theorem d_Req_readByte_20 : decode c_Req_readByte 20 = .ok (.aload_n 1, 1) := by decide +kernel
theorem d_Req_readByte_21 : decode c_Req_readByte 21 = .ok (.getfield 19, 3) := by decide +kernel
theorem d_Req_readByte_24 : decode c_Req_readByte 24 = .ok (.if_icmp .ge 7, 3) := by decide +kernel
theorem d_Req_readByte_27 : decode c_Req_readByte 27 = .ok (.iconst 1, 1) := by decide +kernel
theorem d_Req_readByte_28 : decode c_Req_readByte 28 = .ok (.goto 4, 3) := by decide +kernel
theorem d_Req_readByte_31 : decode c_Req_readByte 31 = .ok (.iconst 0, 1) := by decide +kernel
theorem d_Req_readByte_32 : decode c_Req_readByte 32 = .ok (.putfield 15, 3) := by decide +kernel
theorem d_Req_readByte_35 : decode c_Req_readByte 35 = .ok (.aload_n 0, 1) := by decide +kernel
theorem d_Req_readByte_36 : decode c_Req_readByte 36 = .ok (.getfield 15, 3) := by decide +kernel
theorem d_Req_readByte_39 : decode c_Req_readByte 39 = .ok (.ifCond .eq 22, 3) := by decide +kernel
theorem d_Req_readByte_42 : decode c_Req_readByte 42 = .ok (.aload_n 1, 1) := by decide +kernel
theorem d_Req_readByte_43 : decode c_Req_readByte 43 = .ok (.getfield 70, 3) := by decide +kernel
theorem d_Req_readByte_46 : decode c_Req_readByte 46 = .ok (.aload_n 0, 1) := by decide +kernel
theorem d_Req_readByte_47 : decode c_Req_readByte 47 = .ok (.dup, 1) := by decide +kernel
theorem d_Req_readByte_48 : decode c_Req_readByte 48 = .ok (.getfield 9, 3) := by decide +kernel
theorem d_Req_readByte_51 : decode c_Req_readByte 51 = .ok (.dup_x1, 1) := by decide +kernel
theorem d_Req_readByte_52 : decode c_Req_readByte 52 = .ok (.iconst 1, 1) := by decide +kernel
theorem d_Req_readByte_53 : decode c_Req_readByte 53 = .ok (.iadd, 1) := by decide +kernel
theorem d_Req_readByte_54 : decode c_Req_readByte 54 = .ok (.putfield 9, 3) := by decide +kernel
theorem d_Req_readByte_57 : decode c_Req_readByte 57 = .ok (.iaload, 1) := by decide +kernel
theorem d_Req_readByte_58 : decode c_Req_readByte 58 = .ok (.goto 4, 3) := by decide +kernel
theorem d_Req_readByte_61 : decode c_Req_readByte 61 = .ok (.iconst 0, 1) := by decide +kernel
theorem d_Req_readByte_62 : decode c_Req_readByte 62 = .ok (.ireturn, 1) := by decide +kernel
def wq_Req_readByte_32 (post : Int32 → ST → Prop) (s0 : Int32) (X : ST) : Prop := ((s0 = 0 ∨ s0 = 1) ∧ ((s0 = 0 → post (0 : Int32) (up X 67 0 s0)) ∧ (¬ s0 = 0 → (vp_in (X 66 0) 96 ∧ post (X 63 (X 66 0).toNatClampNeg) (up (up X 67 0 s0) 66 0 ((X 66 0) + (1 : Int32)))))))
def wp_Req_readByte (post : Int32 → ST → Prop) (X : ST) (a2 : Int32) : Prop := (((X 67 0) = 0 → wq_Req_readByte_32 post (0 : Int32) X) ∧ (¬ (X 67 0) = 0 → ((a2 ≤ (X 66 0) → wq_Req_readByte_32 post (0 : Int32) X) ∧ (¬ a2 ≤ (X 66 0) → (((X 7 0) ≤ (X 66 0) → wq_Req_readByte_32 post (0 : Int32) X) ∧ (¬ (X 7 0) ≤ (X 66 0) → wq_Req_readByte_32 post (1 : Int32) X))))))
set_option maxHeartbeats 4000000 in
set_option maxRecDepth 100000 in
theorem mt_Req_readByte (l : Launch) (hl9 : l.stackTraces = false) (dC : Nat → ClassId) (dI : Nat → Nat → Nat) (cA : Nat → ClassId) (ad : Nat → Nat) (hI : INJ ad 125) (sz : Nat) {X : ST} {a2 : Int32} {post : Int32 → ST → Prop} (hw : wp_Req_readByte post X a2) : Met l y_Req_readByte ws_Req_readByte ({ frames := 0, cells := 0, slots := 0, locals := 0 } : Room) (va_Pc [.ref (ad 10), .ref (ad 8), .int a2] (fun U => PC dC dI cA ad sz X U)) (va_Qi (fun r (u : ST) => post r u) (fun (u : ST) t => va_P (dC, dI) vwCl (wdC cA ad u) t.heap) (CA ad 125 sz)) 0 0 (CA ad 125 sz) := by
  refine Met.ofW (cc := c_Req_readByte) (maxL := 3) (ret := (some .int)) (by decide) rfl ?_
  intro p e s m args below meth c s₁ B hml hv
  obtain ⟨rfl, hsz, hP, hG⟩ := hv
  have hx := B.exec
  have hb := B.bytes
  have hr := B.returns
  have hts : ∀ w ∈ GW, w.before (([.ref (ad 10), .ref (ad 8), .int a2] : List Value).toArray) s = true := fun w h => atoms_spec (ws := ws_Req_readByte) B.pre w (List.mem_cons_of_mem _ h)
  have hown : s.vm.findClass R_Req = some m.cls := findClass_of_methodNamed B.named
  have hlocks := B.notSynchronized
  subst hsz
  have hK := hG.1
  have hG9 := hG
  have hNW := hG.2.1
  have hD0 : ∀ (X : ST), va_D (CA ad 125 s.heap.size) (wdC cA ad X) := fun _ => zwC_D hI
  have hS : va_S (CA ad 125 s.heap.size) s.heap s.heap [] := va_S.rf
  have hl := lv_entry ([.ref (ad 10), .ref (ad 8), .int a2]) (n := 3) (Nat.le_of_ble_eq_true rfl)
  rw [lg_entry_eq]
  generalize (lg_sl ([.ref (ad 10), .ref (ad 8), .int a2]) ++ List.replicate (3 - (lg_sl ([.ref (ad 10), .ref (ad 8), .int a2])).length) Slot.unset).toArray = ls at hl ⊢
  have hl : lv_has ls 3 [(0, .ref (ad 10)), (1, .ref (ad 8)), (2, .int a2)] := hl
  have L32 : ∀ (s0 : Int32) (X : ST) (H : Heap) (locs : List Loc) (ls : Array Slot), wq_Req_readByte_32 post s0 X → va_P (dC, dI) vwCl (wdC cA ad X) H → va_S (CA ad 125 s.heap.size) s.heap H locs → lv_has ls 3 [(0, .ref (ad 10)), (1, .ref (ad 8))] → W p l e (headSpec ws_Req_readByte ({ frames := 0, cells := 0, slots := 0, locals := 0 } : Room)).room s m (([.ref (ad 10), .ref (ad 8), .int a2] : List Value).toArray) below meth c H locs 0 0 (MQ below (va_Qi (fun r (u : ST) => post r u) (fun (u : ST) t => va_P (dC, dI) vwCl (wdC cA ad u) t.heap) (CA ad 125 s.heap.size)) (([.ref (ad 10), .ref (ad 8), .int a2] : List Value).toArray) s 0 0 (CA ad 125 s.heap.size)) (F0 m 32 ls [.int s0, .ref (ad 10)]) := by
    intro s0 X H locs ls hw hP hS hl
    unfold wq_Req_readByte_32 at hw
    obtain ⟨h1, hw⟩ := hw
    refine va_put (D := (dC, dI)) (ci := 3) (v := .int s0) (ty := .boolean) (C := R_Req) (T := T_Req) (N := 4) hx hb hts in_Req ty_Req ty_Req_ok nm_Req hown hK hP (hD0 _) hS (10) atC_Req rfl 3 (by decide) (hts _ gw_156) (fun _ h9 => h9) rfl (by decide +kernel) (zw_bn h1) (zw_bf h1) (Nat.le_of_ble_eq_true rfl) d_Req_readByte_32 (fun H locs hP _ hS => ?_)
    have hP : va_P (dC, dI) vwCl (wdC cA ad (up X 67 0 s0)) H := by rw [← stC_Req_3]; exact hP
    refine lv_aload_n hx hb d_Req_readByte_35 rfl (lv_at hl 0 rfl) ?_
    refine va_get (D := (dC, dI)) (ci := 3) (v := .int s0) (C := R_Req) (T := T_Req) (N := 4) hx hb hts in_Req hown hK hP (10) atC_Req rfl 3 (by decide) (hts _ gw_156) (fun _ h9 => h9) rfl d_Req_readByte_36 ?_
    refine lv_if_eq (tgt := 61) hx hb d_Req_readByte_39 (by decide) (fun c2 => ?_) (fun c2 => ?_)
    · have hw := hw.1 c2
      refine lv_iconst (v := (0 : Int32)) hx hb d_Req_readByte_61 (by decide) ?_
      exact W.iret (v := (0 : Int32)) hx hb hr (fun t ht _ => ⟨⟨(0 : Int32), up X 67 0 s0, rfl, hw, by show va_P _ _ _ t.heap; rw [ht]; exact hP⟩, hS.F ht⟩) hS.2.2 d_Req_readByte_62
    · have hw := hw.2 c2
      refine lv_aload_n hx hb d_Req_readByte_42 rfl (lv_at hl 1 rfl) ?_
      refine va_get (D := (dC, dI)) (ci := 2) (v := .ref (ad 9)) (C := R_Txt) (T := T_Txt) (N := 2) hx hb hts in_Txt hown hK hP (8) atC_Txt rfl 1 (by decide) (hts _ gw_157) (fun _ h9 => h9) rfl d_Req_readByte_43 ?_
      refine lv_aload_n hx hb d_Req_readByte_46 rfl (lv_at hl 0 rfl) ?_
      refine lv_dup hx hb d_Req_readByte_47 rfl ?_
      refine va_get (D := (dC, dI)) (ci := 3) (v := .int (X 66 0)) (C := R_Req) (T := T_Req) (N := 4) hx hb hts in_Req hown hK hP (10) atC_Req rfl 2 (by decide) (hts _ gw_158) (fun _ h9 => h9) rfl d_Req_readByte_48 ?_
      refine lv_dup_x1 hx hb d_Req_readByte_51 rfl rfl ?_
      refine lv_iconst (v := (1 : Int32)) hx hb d_Req_readByte_52 (by decide) ?_
      refine lv_iadd hx hb d_Req_readByte_53 ?_
      refine va_put (D := (dC, dI)) (ci := 3) (v := .int ((X 66 0) + (1 : Int32))) (ty := .int) (C := R_Req) (T := T_Req) (N := 4) hx hb hts in_Req ty_Req ty_Req_ok nm_Req hown hK hP (hD0 _) hS (10) atC_Req rfl 2 (by decide) (hts _ gw_158) (fun _ h9 => h9) rfl (by decide +kernel) rfl rfl (Nat.le_of_ble_eq_true rfl) d_Req_readByte_54 (fun H locs hP _ hS => ?_)
      have hP : va_P (dC, dI) vwCl (wdC cA ad (up (up X 67 0 s0) 66 0 ((X 66 0) + (1 : Int32)))) H := by rw [← stC_Req_2]; exact hP
      obtain ⟨h3, hw⟩ := hw
      refine va_iald hx hb hK hP (9) 6 atC_iTxt rfl h3 d_Req_readByte_57 ?_
      refine W.eq (g2 := F0 m 58 ls [.int (X 63 (X 66 0).toNatClampNeg)]) rfl ?_
      refine lv_goto (tgt := 62) hx hb d_Req_readByte_58 (by decide) ?_
      exact W.iret (v := X 63 (X 66 0).toNatClampNeg) hx hb hr (fun t ht _ => ⟨⟨X 63 (X 66 0).toNatClampNeg, up (up X 67 0 s0) 66 0 ((X 66 0) + (1 : Int32)), rfl, hw, by show va_P _ _ _ t.heap; rw [ht]; exact hP⟩, hS.F ht⟩) hS.2.2 d_Req_readByte_62
  unfold wp_Req_readByte at hw
  refine lv_aload_n hx hb d_Req_readByte_0 rfl (lv_at hl 0 rfl) ?_
  refine lv_aload_n hx hb d_Req_readByte_1 rfl (lv_at hl 0 rfl) ?_
  refine va_get (D := (dC, dI)) (ci := 3) (v := .int (X 67 0)) (C := R_Req) (T := T_Req) (N := 4) hx hb hts in_Req hown hK hP (10) atC_Req rfl 3 (by decide) (hts _ gw_156) (fun _ h9 => h9) rfl d_Req_readByte_2 ?_
  refine lv_if_eq (tgt := 31) hx hb d_Req_readByte_5 (by decide) (fun c4 => ?_) (fun c4 => ?_)
  · have hw := hw.1 c4
    refine lv_iconst (v := (0 : Int32)) hx hb d_Req_readByte_31 (by decide) ?_
    have hl := lv_sub hl (l' := [(0, .ref (ad 10)), (1, .ref (ad 8))]) [0, 1] rfl
    exact L32 _ _ _ _ _ hw hP hS hl
  · have hw := hw.2 c4
    refine lv_aload_n hx hb d_Req_readByte_8 rfl (lv_at hl 0 rfl) ?_
    refine va_get (D := (dC, dI)) (ci := 3) (v := .int (X 66 0)) (C := R_Req) (T := T_Req) (N := 4) hx hb hts in_Req hown hK hP (10) atC_Req rfl 2 (by decide) (hts _ gw_158) (fun _ h9 => h9) rfl d_Req_readByte_9 ?_
    refine lv_iload_n hx hb d_Req_readByte_12 rfl (lv_at hl 2 rfl) ?_
    refine lv_icmp_ge (tgt := 31) hx hb d_Req_readByte_13 (by decide) (fun c5 => ?_) (fun c5 => ?_)
    · have hw := hw.1 c5
      refine lv_iconst (v := (0 : Int32)) hx hb d_Req_readByte_31 (by decide) ?_
      have hl := lv_sub hl (l' := [(0, .ref (ad 10)), (1, .ref (ad 8))]) [0, 1] rfl
      exact L32 _ _ _ _ _ hw hP hS hl
    · have hw := hw.2 c5
      refine lv_aload_n hx hb d_Req_readByte_16 rfl (lv_at hl 0 rfl) ?_
      refine va_get (D := (dC, dI)) (ci := 3) (v := .int (X 66 0)) (C := R_Req) (T := T_Req) (N := 4) hx hb hts in_Req hown hK hP (10) atC_Req rfl 2 (by decide) (hts _ gw_158) (fun _ h9 => h9) rfl d_Req_readByte_17 ?_
      refine lv_aload_n hx hb d_Req_readByte_20 rfl (lv_at hl 1 rfl) ?_
      refine va_get (D := (dC, dI)) (ci := 2) (v := .int (X 7 0)) (C := R_Txt) (T := T_Txt) (N := 2) hx hb hts in_Txt hown hK hP (8) atC_Txt rfl 0 (by decide) (hts _ gw_159) (fun _ h9 => h9) rfl d_Req_readByte_21 ?_
      refine lv_icmp_ge (tgt := 31) hx hb d_Req_readByte_24 (by decide) (fun c6 => ?_) (fun c6 => ?_)
      · have hw := hw.1 c6
        refine lv_iconst (v := (0 : Int32)) hx hb d_Req_readByte_31 (by decide) ?_
        have hl := lv_sub hl (l' := [(0, .ref (ad 10)), (1, .ref (ad 8))]) [0, 1] rfl
        exact L32 _ _ _ _ _ hw hP hS hl
      · have hw := hw.2 c6
        refine lv_iconst (v := (1 : Int32)) hx hb d_Req_readByte_27 (by decide) ?_
        refine lv_goto (tgt := 32) hx hb d_Req_readByte_28 (by decide) ?_
        have hl := lv_sub hl (l' := [(0, .ref (ad 10)), (1, .ref (ad 8))]) [0, 1] rfl
        exact L32 _ _ _ _ _ hw hP hS hl
