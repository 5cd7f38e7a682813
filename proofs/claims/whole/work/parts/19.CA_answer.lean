def ws_CA_answer : List Cond := Cond.code y_CA_answer c_CA_answer 8 (Option.some Jvm.ClassFile.FieldType.int) :: GW
theorem d_CA_answer_0 : decode c_CA_answer 0 = .ok (.aload_n 0, 1) := by decide +kernel
theorem d_CA_answer_1 : decode c_CA_answer 1 = .ok (.iload_n 1, 1) := by decide +kernel
theorem d_CA_answer_2 : decode c_CA_answer 2 = .ok (.iload_n 2, 1) := by decide +kernel
theorem d_CA_answer_3 : decode c_CA_answer 3 = .ok (.aload_n 0, 1) := by decide +kernel
theorem d_CA_answer_4 : decode c_CA_answer 4 = .ok (.iconst 3, 1) := by decide +kernel
theorem d_CA_answer_5 : decode c_CA_answer 5 = .ok (.iload_n 1, 1) := by decide +kernel
theorem d_CA_answer_6 : decode c_CA_answer 6 = .ok (.iload_n 2, 1) := by decide +kernel
theorem d_CA_answer_7 : decode c_CA_answer 7 = .ok (.iload_n 3, 1) := by decide +kernel
theorem d_CA_answer_8 : decode c_CA_answer 8 = .ok (.iload 4, 2) := by decide +kernel
theorem d_CA_answer_10 : decode c_CA_answer 10 = .ok (.invokevirtual 96, 3) := by decide +kernel
theorem d_CA_answer_13 : decode c_CA_answer 13 = .ok (.iload 5, 2) := by decide +kernel
theorem d_CA_answer_15 : decode c_CA_answer 15 = .ok (.invokevirtual 126, 3) := by decide +kernel
theorem d_CA_answer_18 : decode c_CA_answer 18 = .ok (.aload_n 0, 1) := by decide +kernel
theorem d_CA_answer_19 : decode c_CA_answer 19 = .ok (.iload_n 3, 1) := by decide +kernel
theorem d_CA_answer_20 : decode c_CA_answer 20 = .ok (.iload 4, 2) := by decide +kernel
theorem d_CA_answer_22 : decode c_CA_answer 22 = .ok (.invokevirtual 152, 3) := by decide +kernel
theorem d_CA_answer_25 : decode c_CA_answer 25 = .ok (.astore 6, 2) := by decide +kernel
theorem d_CA_answer_27 : decode c_CA_answer 27 = .ok (.aload_n 0, 1) := by decide +kernel
theorem d_CA_answer_28 : decode c_CA_answer 28 = .ok (.getfield 23, 3) := by decide +kernel
theorem d_CA_answer_31 : decode c_CA_answer 31 = .ok (.iload_n 3, 1) := by decide +kernel
theorem d_CA_answer_32 : decode c_CA_answer 32 = .ok (.aaload, 1) := by decide +kernel
theorem d_CA_answer_33 : decode c_CA_answer 33 = .ok (.astore 7, 2) := by decide +kernel
theorem d_CA_answer_35 : decode c_CA_answer 35 = .ok (.aload 7, 2) := by decide +kernel
theorem d_CA_answer_37 : decode c_CA_answer 37 = .ok (.getfield 156, 3) := by decide +kernel
theorem d_CA_answer_40 : decode c_CA_answer 40 = .ok (.iload_n 1, 1) := by decide +kernel
theorem d_CA_answer_41 : decode c_CA_answer 41 = .ok (.if_icmp .eq 11, 3) := by decide +kernel
theorem d_CA_answer_44 : decode c_CA_answer 44 = .ok (.new 104, 3) := by decide +kernel
theorem d_CA_answer_47 : decode c_CA_answer 47 = .ok (.dup, 1) := by decide +kernel
theorem d_CA_answer_48 : decode c_CA_answer 48 = .ok (.invokespecial 106, 3) := by decide +kernel
theorem d_CA_answer_51 : decode c_CA_answer 51 = .ok (.athrow, 1) := by decide +kernel
theorem d_CA_answer_52 : decode c_CA_answer 52 = .ok (.aload 7, 2) := by decide +kernel
theorem d_CA_answer_54 : decode c_CA_answer 54 = .ok (.getfield 159, 3) := by decide +kernel
theorem d_CA_answer_57 : decode c_CA_answer 57 = .ok (.ifCond .ne 11, 3) := by decide +kernel
theorem d_CA_answer_60 : decode c_CA_answer 60 = .ok (.aload 6, 2) := by decide +kernel
theorem d_CA_answer_62 : decode c_CA_answer 62 = .ok (.getfield 160, 3) := by decide +kernel
theorem d_CA_answer_65 : decode c_CA_answer 65 = .ok (.ifCond .eq 11, 3) := by decide +kernel
theorem d_CA_answer_68 : decode c_CA_answer 68 = .ok (.new 120, 3) := by decide +kernel
theorem d_CA_answer_71 : decode c_CA_answer 71 = .ok (.dup, 1) := by decide +kernel
theorem d_CA_answer_72 : decode c_CA_answer 72 = .ok (.invokespecial 122, 3) := by decide +kernel
theorem d_CA_answer_75 : decode c_CA_answer 75 = .ok (.athrow, 1) := by decide +kernel
theorem d_CA_answer_76 : decode c_CA_answer 76 = .ok (.aload 6, 2) := by decide +kernel
theorem d_CA_answer_78 : decode c_CA_answer 78 = .ok (.iconst 1, 1) := by decide +kernel
theorem d_CA_answer_79 : decode c_CA_answer 79 = .ok (.putfield 160, 3) := by decide +kernel
theorem d_CA_answer_82 : decode c_CA_answer 82 = .ok (.aload 6, 2) := by decide +kernel
theorem d_CA_answer_84 : decode c_CA_answer 84 = .ok (.getfield 161, 3) := by decide +kernel
theorem d_CA_answer_87 : decode c_CA_answer 87 = .ok (.ireturn, 1) := by decide +kernel
def wp_CA_answer (post : Int32 → ST → Prop) (px : String → ST → Prop) (X : ST) (a1 : Int32) (a2 : Int32) (a3 : Int32) (a4 : Int32) (a5 : Int32) : Prop := wp_CA_digest (fun (r2 : Int32) (X1 : ST) => wp_CA_acceptSigned (fun (X3 : ST) => wp_CA_challengeOf (fun (i7 : Nat) (X5 : ST) => (vp_in a3 24 ∧ (((X5 31 a3.toNatClampNeg) = a1 → (((X5 30 a3.toNatClampNeg) = 0 → (i7 < 48 ∧ (((X5 40 i7) = 0 → post (X5 41 i7) (up X5 40 i7 (1 : Int32))) ∧ (¬ (X5 40 i7) = 0 → px "java/lang/IllegalStateException" X5)))) ∧ (¬ (X5 30 a3.toNatClampNeg) = 0 → px "java/lang/IllegalStateException" X5))) ∧ (¬ (X5 31 a3.toNatClampNeg) = a1 → px "java/lang/UnsupportedOperationException" X5)))) px X3 a3 a4) px X1 a1 a2 r2 a5) X (3 : Int32) a1 a2 a3 a4
set_option maxHeartbeats 4000000 in
set_option maxRecDepth 100000 in
theorem mt_CA_answer (l : Launch) (hl9 : l.stackTraces = false) (dC : Nat → ClassId) (dI : Nat → Nat → Nat) (cA : Nat → ClassId) (ad : Nat → Nat) (hI : INJ ad 125) (sz : Nat) {X : ST} {a1 : Int32} {a2 : Int32} {a3 : Int32} {a4 : Int32} {a5 : Int32} {post : Int32 → ST → Prop} {px : String → ST → Prop} (hw : wp_CA_answer post px X a1 a2 a3 a4 a5) : xt_Met l y_CA_answer ws_CA_answer ({ frames := 7, cells := 3, slots := 18, locals := 114 } : Room) (va_Pc [.ref (ad 0), .int a1, .int a2, .int a3, .int a4, .int a5] (fun U => PC dC dI cA ad sz X U)) (va_Qi (fun r (u : ST) => post r u) (fun (u : ST) t => va_P (dC, dI) vwCl (wdC cA ad u) t.heap) (CA ad 125 sz)) (xt_X (fun (u : String × ST) => px u.1 u.2) (fun E (u : String × ST) t => u.1 = E ∧ va_P (dC, dI) vwCl (wdC cA ad u.2) t.heap) (CA ad 125 sz)) 3 18 (CA ad 125 sz) := by
  refine xt_ofW (cc := c_CA_answer) (maxL := 8) (ret := (some .int)) (by decide) rfl ?_
  intro p e s m args below meth c s₁ B hml hEx hv
  obtain ⟨rfl, hsz, hP, hG⟩ := hv
  have hx := B.exec
  have hb := B.bytes
  have hr := B.returns
  have hts : ∀ w ∈ GW, w.before (([.ref (ad 0), .int a1, .int a2, .int a3, .int a4, .int a5] : List Value).toArray) s = true := fun w h => atoms_spec (ws := ws_CA_answer) B.pre w (List.mem_cons_of_mem _ h)
  have hown : s.vm.findClass R_CA = some m.cls := findClass_of_methodNamed B.named
  have hlocks := B.notSynchronized
  subst hsz
  have hK := hG.1
  have hG9 := hG
  have hNW := hG.2.1
  have hD0 : ∀ (X : ST), va_D (CA ad 125 s.heap.size) (wdC cA ad X) := fun _ => zwC_D hI
  have hS : va_S (CA ad 125 s.heap.size) s.heap s.heap [] := va_S.rf
  have hl := lv_entry ([.ref (ad 0), .int a1, .int a2, .int a3, .int a4, .int a5]) (n := 8) (Nat.le_of_ble_eq_true rfl)
  rw [lg_entry_eq]
  generalize (lg_sl ([.ref (ad 0), .int a1, .int a2, .int a3, .int a4, .int a5]) ++ List.replicate (8 - (lg_sl ([.ref (ad 0), .int a1, .int a2, .int a3, .int a4, .int a5])).length) Slot.unset).toArray = ls at hl ⊢
  have hl : lv_has ls 8 [(0, .ref (ad 0)), (1, .int a1), (2, .int a2), (3, .int a3), (4, .int a4), (5, .int a5)] := hl
  unfold wp_CA_answer at hw
  refine lv_aload_n hx hb d_CA_answer_0 rfl (lv_at hl 0 rfl) ?_
  refine lv_iload_n hx hb d_CA_answer_1 rfl (lv_at hl 1 rfl) ?_
  refine lv_iload_n hx hb d_CA_answer_2 rfl (lv_at hl 2 rfl) ?_
  refine lv_aload_n hx hb d_CA_answer_3 rfl (lv_at hl 0 rfl) ?_
  refine lv_iconst (v := (3 : Int32)) hx hb d_CA_answer_4 (by decide) ?_
  refine lv_iload_n hx hb d_CA_answer_5 rfl (lv_at hl 1 rfl) ?_
  refine lv_iload_n hx hb d_CA_answer_6 rfl (lv_at hl 2 rfl) ?_
  refine lv_iload_n hx hb d_CA_answer_7 rfl (lv_at hl 3 rfl) ?_
  refine lv_iload hx hb d_CA_answer_8 (lv_at hl 4 rfl) ?_
  refine va_calli (va_runV (As := [.int (3 : Int32), .int a1, .int a2, .int a3, .int a4]) (rest := [.int a2, .int a1, .ref (ad 0)]) ⟨hx, hb, hml, hown, hts⟩ (mt_CA_digest l hl9 dC dI cA ad hI _ hw) (cwV 5 hts (gV gw_43 gw_44 gw_45 gw_13 gw_42) rfl rfl rfl (by decide +kernel) ⟨Nat.le_of_ble_eq_true rfl, Nat.le_of_ble_eq_true rfl⟩) ⟨zwC_blind, va_recv hK hP (ci := 0) (q0 := 0) rfl atC_CA, zwC_pre hP hS hG9⟩ rfl rfl hl.1 rfl (lv_room (Nat.le_of_ble_eq_true rfl)) d_CA_answer_10 ⟨Nat.le_of_ble_eq_true rfl, Nat.le_of_ble_eq_true rfl⟩) hS (fun q _ h => CA_le hS.1 q h) (fun q h => CA_le hS.1 q h) (fun r2 X1 t H locs ht hvm hw hP hz1 hk1 hS => ?_)
  have hP : va_P (dC, dI) vwCl (wdC cA ad X1) H := by rw [← ht]; exact hP
  try dsimp only at hw
  refine lv_iload hx hb d_CA_answer_13 (lv_at hl 5 rfl) ?_
  refine xt_callv (xt_runV (As := [.int a1, .int a2, .int r2, .int a5]) (rest := []) ⟨hx, hb, hml, hown, hts⟩ (mt_CA_acceptSigned l hl9 dC dI cA ad hI _ hw) (cwV 4 hts (gV gw_125 gw_126 gw_127 gw_13 gw_124) rfl rfl rfl (by decide +kernel) ⟨Nat.le_of_ble_eq_true rfl, Nat.le_of_ble_eq_true rfl⟩) ⟨zwC_blind, va_recv hK hP (ci := 0) (q0 := 0) rfl atC_CA, zwC_pre hP hS hG9⟩ rfl rfl hl.1 rfl (lv_room (Nat.le_of_ble_eq_true rfl)) d_CA_answer_15 ⟨Nat.le_of_ble_eq_true rfl, Nat.le_of_ble_eq_true rfl⟩) hS (fun q _ h => CA_le hS.1 q h) (fun q h => CA_le hS.1 q h) (fun q _ h => CA_le hS.1 q h) (fun E ce q9 u9 t H locs ht ha hw hB hz1 hk1 hS hce hcv hcl => ?_) (fun X3 t H locs ht hvm hw hP hz1 hk1 hS => ?_)
  · obtain ⟨E9, X9⟩ := u9
    obtain ⟨rfl, hP⟩ := hB
    exact xt_out (E := E9) (fun x hx => (hEx x hx).elim) hlocks hce hcv hcl (fun t9 ht9 ha9 => ⟨(E9, X9), hw, ⟨rfl, by show va_P _ _ _ t9.heap; rw [ht9, ← ht]; exact hP⟩, hS.F ht9⟩) hS.2.2 (Nat.le_of_ble_eq_true rfl) (Nat.le_of_ble_eq_true rfl)
  have hP : va_P (dC, dI) vwCl (wdC cA ad X3) H := by rw [← ht]; exact hP
  try dsimp only at hw
  refine lv_aload_n hx hb d_CA_answer_18 rfl (lv_at hl 0 rfl) ?_
  refine lv_iload_n hx hb d_CA_answer_19 rfl (lv_at hl 3 rfl) ?_
  refine lv_iload hx hb d_CA_answer_20 (lv_at hl 4 rfl) ?_
  refine xt_callr (xt_runV (As := [.int a3, .int a4]) (rest := []) ⟨hx, hb, hml, hown, hts⟩ (mt_CA_challengeOf l hl9 dC dI cA ad hI _ hw) (cwV 2 hts (gV gw_145 gw_146 gw_147 gw_13 gw_144) rfl rfl rfl (by decide +kernel) ⟨Nat.le_of_ble_eq_true rfl, Nat.le_of_ble_eq_true rfl⟩) ⟨zwC_blind, va_recv hK hP (ci := 0) (q0 := 0) rfl atC_CA, zwC_pre hP hS hG9⟩ rfl rfl hl.1 rfl (lv_room (Nat.le_of_ble_eq_true rfl)) d_CA_answer_22 ⟨Nat.le_of_ble_eq_true rfl, Nat.le_of_ble_eq_true rfl⟩) hS (fun q _ h => CA_le hS.1 q h) (fun q h => CA_le hS.1 q h) (fun q _ h => CA_le hS.1 q h) (fun E ce q9 u9 t H locs ht ha hw hB hz1 hk1 hS hce hcv hcl => ?_) (fun u9 ra t H locs ht hvm hw hP hz1 hk1 hS => ?_)
  · obtain ⟨E9, X9⟩ := u9
    obtain ⟨rfl, hP⟩ := hB
    exact xt_out (E := E9) (fun x hx => (hEx x hx).elim) hlocks hce hcv hcl (fun t9 ht9 ha9 => ⟨(E9, X9), hw, ⟨rfl, by show va_P _ _ _ t9.heap; rw [ht9, ← ht]; exact hP⟩, hS.F ht9⟩) hS.2.2 (Nat.le_of_ble_eq_true rfl) (Nat.le_of_ble_eq_true rfl)
  obtain ⟨i7, X5⟩ := u9
  obtain ⟨rfl, hP⟩ := hP
  have hP : va_P (dC, dI) vwCl (wdC cA ad X5) H := by rw [← ht]; exact hP
  try dsimp only at hw
  refine lv_astore (lv' := [(6, .ref (ad (65 + i7))), (0, .ref (ad 0)), (1, .int a1), (2, .int a2), (3, .int a3), (4, .int a4), (5, .int a5)]) hx hb d_CA_answer_25 hl (by decide) rfl (fun ls hl => ?_)
  refine lv_aload_n hx hb d_CA_answer_27 rfl (lv_at hl 1 rfl) ?_
  refine va_get (D := (dC, dI)) (ci := 0) (v := .ref (ad 3)) (C := R_CA) (T := T_CA) (N := 14) hx hb hts in_CA hown hK hP (0) atC_CA rfl 8 (by decide) (hts _ gw_75) (fun _ h9 => h9) rfl d_CA_answer_28 ?_
  refine lv_iload_n hx hb d_CA_answer_31 rfl (lv_at hl 4 rfl) ?_
  obtain ⟨h8, hw⟩ := hw
  refine va_aldq hx hb hK hP (3) 2 atC_aAut rfl h8 d_CA_answer_32 ?_
  refine W.eq (g2 := F0 m 33 ls [.ref (ad (41 + a3.toNatClampNeg))]) rfl ?_
  refine lv_astore (lv' := [(7, .ref (ad (41 + a3.toNatClampNeg))), (6, .ref (ad (65 + i7))), (0, .ref (ad 0)), (1, .int a1), (2, .int a2), (3, .int a3), (4, .int a4), (5, .int a5)]) hx hb d_CA_answer_33 hl (by decide) rfl (fun ls hl => ?_)
  refine lv_aload hx hb d_CA_answer_35 (lv_at hl 0 rfl) ?_
  refine va_get (D := (dC, dI)) (ci := 6) (v := .int (X5 31 a3.toNatClampNeg)) (C := R_Aut) (T := T_Aut) (N := 4) hx hb hts in_Aut hown hK hP (41 + a3.toNatClampNeg) (atC_Aut (zw_lt h8)) rfl 1 (by decide) (hts _ gw_76) (fun _ h9 => h9) rfl d_CA_answer_37 ?_
  refine lv_iload_n hx hb d_CA_answer_40 rfl (lv_at hl 3 rfl) ?_
  refine lv_icmp_eq (tgt := 52) hx hb d_CA_answer_41 (by decide) (fun c9 => ?_) (fun c9 => ?_)
  · have hw := hw.1 c9
    refine lv_aload hx hb d_CA_answer_52 (lv_at hl 0 rfl) ?_
    refine va_get (D := (dC, dI)) (ci := 6) (v := .int (X5 30 a3.toNatClampNeg)) (C := R_Aut) (T := T_Aut) (N := 4) hx hb hts in_Aut hown hK hP (41 + a3.toNatClampNeg) (atC_Aut (zw_lt h8)) rfl 0 (by decide) (hts _ gw_78) (fun _ h9 => h9) rfl d_CA_answer_54 ?_
    refine lv_if_ne (tgt := 68) hx hb d_CA_answer_57 (by decide) (fun c10 => ?_) (fun c10 => ?_)
    · have hw := hw.2 c10
      exact xt_throw0 (cls := "java/lang/IllegalStateException") (names := ["java/lang/RuntimeException", "java/lang/Exception"]) (ic := 122) hx hb hl9 hown (by decide +kernel) (by decide +kernel) (hts _ gw_60) (hts _ gw_61) (hts _ gw_62) (xc_hat xa_2 hts hG9 hP hS) (hl.1.trans hml.symm) d_CA_answer_68 d_CA_answer_71 d_CA_answer_72 d_CA_answer_75 (fun x hx => (hEx x hx).elim) hlocks (fun t ha hz hk => ⟨("java/lang/IllegalStateException", X5), hw, ⟨rfl, zw_keep hP hk⟩, zw_F hS hz hk⟩) hS.2.2 (Nat.le_of_ble_eq_true rfl) (Nat.le_of_ble_eq_true rfl) (Nat.le_of_ble_eq_true rfl) (Nat.le_of_ble_eq_true rfl) (Nat.le_of_ble_eq_true rfl) (Nat.le_of_ble_eq_true rfl)
    · have hw := hw.1 c10
      refine lv_aload hx hb d_CA_answer_60 (lv_at hl 1 rfl) ?_
      obtain ⟨h11, hw⟩ := hw
      refine va_get (D := (dC, dI)) (ci := 7) (v := .int (X5 40 i7)) (C := R_Cha) (T := T_Cha) (N := 3) hx hb hts in_Cha hown hK hP (65 + i7) (atC_Cha h11) rfl 0 (by decide) (hts _ gw_148) (fun _ h9 => h9) rfl d_CA_answer_62 ?_
      refine lv_if_eq (tgt := 76) hx hb d_CA_answer_65 (by decide) (fun c12 => ?_) (fun c12 => ?_)
      · have hw := hw.1 c12
        refine lv_aload hx hb d_CA_answer_76 (lv_at hl 1 rfl) ?_
        refine lv_iconst (v := (1 : Int32)) hx hb d_CA_answer_78 (by decide) ?_
        refine va_put (D := (dC, dI)) (ci := 7) (v := .int (1 : Int32)) (ty := .int) (C := R_Cha) (T := T_Cha) (N := 3) hx hb hts in_Cha ty_Cha ty_Cha_ok nm_Cha hown hK hP (hD0 _) hS (65 + i7) (atC_Cha h11) rfl 0 (by decide) (hts _ gw_148) (fun _ h9 => h9) rfl (by decide +kernel) rfl rfl (Nat.le_of_ble_eq_true rfl) d_CA_answer_79 (fun H locs hP _ hS => ?_)
        have hP : va_P (dC, dI) vwCl (wdC cA ad (up X5 40 i7 (1 : Int32))) H := by rw [← stC_Cha_0 h11]; exact hP
        refine lv_aload hx hb d_CA_answer_82 (lv_at hl 1 rfl) ?_
        refine va_get (D := (dC, dI)) (ci := 7) (v := .int (X5 41 i7)) (C := R_Cha) (T := T_Cha) (N := 3) hx hb hts in_Cha hown hK hP (65 + i7) (atC_Cha h11) rfl 1 (by decide) (hts _ gw_88) (fun _ h9 => h9) rfl d_CA_answer_84 ?_
        refine xt_ret ?_
        refine W.widen (k := 3) (n := 18) (Nat.le_of_ble_eq_true rfl) (Nat.le_of_ble_eq_true rfl) ?_
        exact W.iret (v := X5 41 i7) hx hb hr (fun t ht _ => ⟨⟨X5 41 i7, up X5 40 i7 (1 : Int32), rfl, hw, by show va_P _ _ _ t.heap; rw [ht]; exact hP⟩, hS.F ht⟩) hS.2.2 d_CA_answer_87
      · have hw := hw.2 c12
        exact xt_throw0 (cls := "java/lang/IllegalStateException") (names := ["java/lang/RuntimeException", "java/lang/Exception"]) (ic := 122) hx hb hl9 hown (by decide +kernel) (by decide +kernel) (hts _ gw_60) (hts _ gw_61) (hts _ gw_62) (xc_hat xa_2 hts hG9 hP hS) (hl.1.trans hml.symm) d_CA_answer_68 d_CA_answer_71 d_CA_answer_72 d_CA_answer_75 (fun x hx => (hEx x hx).elim) hlocks (fun t ha hz hk => ⟨("java/lang/IllegalStateException", X5), hw, ⟨rfl, zw_keep hP hk⟩, zw_F hS hz hk⟩) hS.2.2 (Nat.le_of_ble_eq_true rfl) (Nat.le_of_ble_eq_true rfl) (Nat.le_of_ble_eq_true rfl) (Nat.le_of_ble_eq_true rfl) (Nat.le_of_ble_eq_true rfl) (Nat.le_of_ble_eq_true rfl)
  · have hw := hw.2 c9
    exact xt_throw0 (cls := "java/lang/UnsupportedOperationException") (names := ["java/lang/RuntimeException", "java/lang/Exception"]) (ic := 106) hx hb hl9 hown (by decide +kernel) (by decide +kernel) (hts _ gw_49) (hts _ gw_50) (hts _ gw_51) (xc_hat xa_1 hts hG9 hP hS) (hl.1.trans hml.symm) d_CA_answer_44 d_CA_answer_47 d_CA_answer_48 d_CA_answer_51 (fun x hx => (hEx x hx).elim) hlocks (fun t ha hz hk => ⟨("java/lang/UnsupportedOperationException", X5), hw, ⟨rfl, zw_keep hP hk⟩, zw_F hS hz hk⟩) hS.2.2 (Nat.le_of_ble_eq_true rfl) (Nat.le_of_ble_eq_true rfl) (Nat.le_of_ble_eq_true rfl) (Nat.le_of_ble_eq_true rfl) (Nat.le_of_ble_eq_true rfl) (Nat.le_of_ble_eq_true rfl)
def ws_CA_countWrong : List Cond := Cond.code y_CA_countWrong c_CA_countWrong 2 (Option.none : Option Jvm.ClassFile.FieldType) :: GW
theorem d_CA_countWrong_0 : decode c_CA_countWrong 0 = .ok (.aload_n 0, 1) := by decide +kernel
theorem d_CA_countWrong_1 : decode c_CA_countWrong 1 = .ok (.dup, 1) := by decide +kernel
theorem d_CA_countWrong_2 : decode c_CA_countWrong 2 = .ok (.getfield 274, 3) := by decide +kernel
theorem d_CA_countWrong_5 : decode c_CA_countWrong 5 = .ok (.iconst 1, 1) := by decide +kernel
theorem d_CA_countWrong_6 : decode c_CA_countWrong 6 = .ok (.iadd, 1) := by decide +kernel
theorem d_CA_countWrong_7 : decode c_CA_countWrong 7 = .ok (.putfield 274, 3) := by decide +kernel
theorem d_CA_countWrong_10 : decode c_CA_countWrong 10 = .ok (.aload_n 0, 1) := by decide +kernel
theorem d_CA_countWrong_11 : decode c_CA_countWrong 11 = .ok (.getfield 274, 3) := by decide +kernel
theorem d_CA_countWrong_14 : decode c_CA_countWrong 14 = .ok (.iconst 3, 1) := by decide +kernel
theorem d_CA_countWrong_15 : decode c_CA_countWrong 15 = .ok (.if_icmp .lt 13, 3) := by decide +kernel
theorem d_CA_countWrong_18 : decode c_CA_countWrong 18 = .ok (.aload_n 0, 1) := by decide +kernel
theorem d_CA_countWrong_19 : decode c_CA_countWrong 19 = .ok (.iconst 3, 1) := by decide +kernel
theorem d_CA_countWrong_20 : decode c_CA_countWrong 20 = .ok (.putfield 160, 3) := by decide +kernel
theorem d_CA_countWrong_23 : decode c_CA_countWrong 23 = .ok (.aload_n 1, 1) := by decide +kernel
theorem d_CA_countWrong_24 : decode c_CA_countWrong 24 = .ok (.iconst 2, 1) := by decide +kernel
theorem d_CA_countWrong_25 : decode c_CA_countWrong 25 = .ok (.putfield 159, 3) := by decide +kernel
theorem d_CA_countWrong_28 : decode c_CA_countWrong 28 = .ok (.return_, 1) := by decide +kernel
def wp_CA_countWrong (post : ST → Prop) (X : ST) (i1 : Nat) (i2 : Nat) : Prop := (i1 < 48 ∧ ((((up X 42 i1 ((X 42 i1) + (1 : Int32))) 42 i1) < (3 : Int32) → post (up X 42 i1 ((X 42 i1) + (1 : Int32)))) ∧ (¬ ((up X 42 i1 ((X 42 i1) + (1 : Int32))) 42 i1) < (3 : Int32) → (i2 < 24 ∧ post (up (up (up X 42 i1 ((X 42 i1) + (1 : Int32))) 40 i1 (3 : Int32)) 30 i2 (2 : Int32))))))
set_option maxHeartbeats 4000000 in
set_option maxRecDepth 100000 in
theorem mt_CA_countWrong (l : Launch) (hl9 : l.stackTraces = false) (dC : Nat → ClassId) (dI : Nat → Nat → Nat) (cA : Nat → ClassId) (ad : Nat → Nat) (hI : INJ ad 125) (sz : Nat) {X : ST} {i1 : Nat} {i2 : Nat} {post : ST → Prop} (hw : wp_CA_countWrong post X i1 i2) : Met l y_CA_countWrong ws_CA_countWrong ({ frames := 0, cells := 0, slots := 0, locals := 0 } : Room) (va_Pc [.ref (ad (65 + i1)), .ref (ad (41 + i2))] (fun U => PC dC dI cA ad sz X U)) (va_Qv (fun (u : ST) => post u) (fun (u : ST) t => va_P (dC, dI) vwCl (wdC cA ad u) t.heap) (CA ad 125 sz)) 0 0 (CA ad 125 sz) := by
  refine Met.ofW (cc := c_CA_countWrong) (maxL := 2) (ret := none) (by decide) rfl ?_
  intro p e s m args below meth c s₁ B hml hv
  obtain ⟨rfl, hsz, hP, hG⟩ := hv
  have hx := B.exec
  have hb := B.bytes
  have hr := B.returns
  have hts : ∀ w ∈ GW, w.before (([.ref (ad (65 + i1)), .ref (ad (41 + i2))] : List Value).toArray) s = true := fun w h => atoms_spec (ws := ws_CA_countWrong) B.pre w (List.mem_cons_of_mem _ h)
  have hown : s.vm.findClass R_CA = some m.cls := findClass_of_methodNamed B.named
  have hlocks := B.notSynchronized
  subst hsz
  have hK := hG.1
  have hG9 := hG
  have hNW := hG.2.1
  have hD0 : ∀ (X : ST), va_D (CA ad 125 s.heap.size) (wdC cA ad X) := fun _ => zwC_D hI
  have hS : va_S (CA ad 125 s.heap.size) s.heap s.heap [] := va_S.rf
  have hl := lv_entry ([.ref (ad (65 + i1)), .ref (ad (41 + i2))]) (n := 2) (Nat.le_of_ble_eq_true rfl)
  rw [lg_entry_eq]
  generalize (lg_sl ([.ref (ad (65 + i1)), .ref (ad (41 + i2))]) ++ List.replicate (2 - (lg_sl ([.ref (ad (65 + i1)), .ref (ad (41 + i2))])).length) Slot.unset).toArray = ls at hl ⊢
  have hl : lv_has ls 2 [(0, .ref (ad (65 + i1))), (1, .ref (ad (41 + i2)))] := hl
  unfold wp_CA_countWrong at hw
  refine lv_aload_n hx hb d_CA_countWrong_0 rfl (lv_at hl 0 rfl) ?_
  refine lv_dup hx hb d_CA_countWrong_1 rfl ?_
  obtain ⟨h1, hw⟩ := hw
  refine va_get (D := (dC, dI)) (ci := 7) (v := .int (X 42 i1)) (C := R_Cha) (T := T_Cha) (N := 3) hx hb hts in_Cha hown hK hP (65 + i1) (atC_Cha h1) rfl 2 (by decide) (hts _ gw_149) (fun _ h9 => h9) rfl d_CA_countWrong_2 ?_
  refine lv_iconst (v := (1 : Int32)) hx hb d_CA_countWrong_5 (by decide) ?_
  refine lv_iadd hx hb d_CA_countWrong_6 ?_
  refine va_put (D := (dC, dI)) (ci := 7) (v := .int ((X 42 i1) + (1 : Int32))) (ty := .int) (C := R_Cha) (T := T_Cha) (N := 3) hx hb hts in_Cha ty_Cha ty_Cha_ok nm_Cha hown hK hP (hD0 _) hS (65 + i1) (atC_Cha h1) rfl 2 (by decide) (hts _ gw_149) (fun _ h9 => h9) rfl (by decide +kernel) rfl rfl (Nat.le_of_ble_eq_true rfl) d_CA_countWrong_7 (fun H locs hP _ hS => ?_)
  have hP : va_P (dC, dI) vwCl (wdC cA ad (up X 42 i1 ((X 42 i1) + (1 : Int32)))) H := by rw [← stC_Cha_2 h1]; exact hP
  refine lv_aload_n hx hb d_CA_countWrong_10 rfl (lv_at hl 0 rfl) ?_
  refine va_get (D := (dC, dI)) (ci := 7) (v := .int ((up X 42 i1 ((X 42 i1) + (1 : Int32))) 42 i1)) (C := R_Cha) (T := T_Cha) (N := 3) hx hb hts in_Cha hown hK hP (65 + i1) (atC_Cha h1) rfl 2 (by decide) (hts _ gw_149) (fun _ h9 => h9) rfl d_CA_countWrong_11 ?_
  refine lv_iconst (v := (3 : Int32)) hx hb d_CA_countWrong_14 (by decide) ?_
  refine lv_icmp_lt (tgt := 28) hx hb d_CA_countWrong_15 (by decide) (fun c2 => ?_) (fun c2 => ?_)
  · have hw := hw.1 c2
    exact W.vret hx hb hr (fun t ht _ => ⟨⟨up X 42 i1 ((X 42 i1) + (1 : Int32)), rfl, hw, by show va_P _ _ _ t.heap; rw [ht]; exact hP⟩, hS.F ht⟩) hS.2.2 d_CA_countWrong_28
  · have hw := hw.2 c2
    refine lv_aload_n hx hb d_CA_countWrong_18 rfl (lv_at hl 0 rfl) ?_
    refine lv_iconst (v := (3 : Int32)) hx hb d_CA_countWrong_19 (by decide) ?_
    refine va_put (D := (dC, dI)) (ci := 7) (v := .int (3 : Int32)) (ty := .int) (C := R_Cha) (T := T_Cha) (N := 3) hx hb hts in_Cha ty_Cha ty_Cha_ok nm_Cha hown hK hP (hD0 _) hS (65 + i1) (atC_Cha h1) rfl 0 (by decide) (hts _ gw_148) (fun _ h9 => h9) rfl (by decide +kernel) rfl rfl (Nat.le_of_ble_eq_true rfl) d_CA_countWrong_20 (fun H locs hP _ hS => ?_)
    have hP : va_P (dC, dI) vwCl (wdC cA ad (up (up X 42 i1 ((X 42 i1) + (1 : Int32))) 40 i1 (3 : Int32))) H := by rw [← stC_Cha_0 h1]; exact hP
    refine lv_aload_n hx hb d_CA_countWrong_23 rfl (lv_at hl 1 rfl) ?_
    refine lv_iconst (v := (2 : Int32)) hx hb d_CA_countWrong_24 (by decide) ?_
    obtain ⟨h3, hw⟩ := hw
    refine va_put (D := (dC, dI)) (ci := 6) (v := .int (2 : Int32)) (ty := .int) (C := R_Aut) (T := T_Aut) (N := 4) hx hb hts in_Aut ty_Aut ty_Aut_ok nm_Aut hown hK hP (hD0 _) hS (41 + i2) (atC_Aut h3) rfl 0 (by decide) (hts _ gw_78) (fun _ h9 => h9) rfl (by decide +kernel) rfl rfl (Nat.le_of_ble_eq_true rfl) d_CA_countWrong_25 (fun H locs hP _ hS => ?_)
    have hP : va_P (dC, dI) vwCl (wdC cA ad (up (up (up X 42 i1 ((X 42 i1) + (1 : Int32))) 40 i1 (3 : Int32)) 30 i2 (2 : Int32))) H := by rw [← stC_Aut_0 h3]; exact hP
    exact W.vret hx hb hr (fun t ht _ => ⟨⟨up (up (up X 42 i1 ((X 42 i1) + (1 : Int32))) 40 i1 (3 : Int32)) 30 i2 (2 : Int32), rfl, hw, by show va_P _ _ _ t.heap; rw [ht]; exact hP⟩, hS.F ht⟩) hS.2.2 d_CA_countWrong_28
