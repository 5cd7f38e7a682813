def ws_CA_order : List Cond := Cond.code y_CA_order c_CA_order 7 (Option.some Jvm.ClassFile.FieldType.int) :: GW
theorem d_CA_order_0 : decode c_CA_order 0 = .ok (.aload_n 0, 1) := by decide +kernel
theorem d_CA_order_1 : decode c_CA_order 1 = .ok (.iload_n 1, 1) := by decide +kernel
theorem d_CA_order_2 : decode c_CA_order 2 = .ok (.iload_n 2, 1) := by decide +kernel
theorem d_CA_order_3 : decode c_CA_order 3 = .ok (.aload_n 0, 1) := by decide +kernel
theorem d_CA_order_4 : decode c_CA_order 4 = .ok (.iconst 2, 1) := by decide +kernel
theorem d_CA_order_5 : decode c_CA_order 5 = .ok (.iload_n 1, 1) := by decide +kernel
theorem d_CA_order_6 : decode c_CA_order 6 = .ok (.iload_n 2, 1) := by decide +kernel
theorem d_CA_order_7 : decode c_CA_order 7 = .ok (.iload_n 3, 1) := by decide +kernel
theorem d_CA_order_8 : decode c_CA_order 8 = .ok (.iload 4, 2) := by decide +kernel
theorem d_CA_order_10 : decode c_CA_order 10 = .ok (.invokevirtual 96, 3) := by decide +kernel
theorem d_CA_order_13 : decode c_CA_order 13 = .ok (.iload 5, 2) := by decide +kernel
theorem d_CA_order_15 : decode c_CA_order 15 = .ok (.invokevirtual 126, 3) := by decide +kernel
theorem d_CA_order_18 : decode c_CA_order 18 = .ok (.iload_n 3, 1) := by decide +kernel
theorem d_CA_order_19 : decode c_CA_order 19 = .ok (.invokestatic 130, 3) := by decide +kernel
theorem d_CA_order_22 : decode c_CA_order 22 = .ok (.ifCond .eq 16, 3) := by decide +kernel
theorem d_CA_order_25 : decode c_CA_order 25 = .ok (.iload 4, 2) := by decide +kernel
theorem d_CA_order_27 : decode c_CA_order 27 = .ok (.iconst 1, 1) := by decide +kernel
theorem d_CA_order_28 : decode c_CA_order 28 = .ok (.if_icmp .lt 10, 3) := by decide +kernel
theorem d_CA_order_31 : decode c_CA_order 31 = .ok (.iload 4, 2) := by decide +kernel
theorem d_CA_order_33 : decode c_CA_order 33 = .ok (.bipush 100, 2) := by decide +kernel
theorem d_CA_order_35 : decode c_CA_order 35 = .ok (.if_icmp .le 11, 3) := by decide +kernel
theorem d_CA_order_38 : decode c_CA_order 38 = .ok (.new 93, 3) := by decide +kernel
theorem d_CA_order_41 : decode c_CA_order 41 = .ok (.dup, 1) := by decide +kernel
theorem d_CA_order_42 : decode c_CA_order 42 = .ok (.invokespecial 95, 3) := by decide +kernel
theorem d_CA_order_45 : decode c_CA_order 45 = .ok (.athrow, 1) := by decide +kernel
theorem d_CA_order_46 : decode c_CA_order 46 = .ok (.aload_n 0, 1) := by decide +kernel
theorem d_CA_order_47 : decode c_CA_order 47 = .ok (.getfield 133, 3) := by decide +kernel
theorem d_CA_order_50 : decode c_CA_order 50 = .ok (.bipush 12, 2) := by decide +kernel
theorem d_CA_order_52 : decode c_CA_order 52 = .ok (.if_icmp .ge 19, 3) := by decide +kernel
theorem d_CA_order_55 : decode c_CA_order 55 = .ok (.aload_n 0, 1) := by decide +kernel
theorem d_CA_order_56 : decode c_CA_order 56 = .ok (.getfield 136, 3) := by decide +kernel
theorem d_CA_order_59 : decode c_CA_order 59 = .ok (.aload_n 0, 1) := by decide +kernel
theorem d_CA_order_60 : decode c_CA_order 60 = .ok (.iload_n 1, 1) := by decide +kernel
theorem d_CA_order_61 : decode c_CA_order 61 = .ok (.iload_n 3, 1) := by decide +kernel
theorem d_CA_order_62 : decode c_CA_order 62 = .ok (.invokevirtual 139, 3) := by decide +kernel
theorem d_CA_order_65 : decode c_CA_order 65 = .ok (.iadd, 1) := by decide +kernel
theorem d_CA_order_66 : decode c_CA_order 66 = .ok (.bipush 24, 2) := by decide +kernel
theorem d_CA_order_68 : decode c_CA_order 68 = .ok (.if_icmp .le 11, 3) := by decide +kernel
theorem d_CA_order_71 : decode c_CA_order 71 = .ok (.new 120, 3) := by decide +kernel
theorem d_CA_order_74 : decode c_CA_order 74 = .ok (.dup, 1) := by decide +kernel
theorem d_CA_order_75 : decode c_CA_order 75 = .ok (.invokespecial 122, 3) := by decide +kernel
theorem d_CA_order_78 : decode c_CA_order 78 = .ok (.athrow, 1) := by decide +kernel
theorem d_CA_order_79 : decode c_CA_order 79 = .ok (.aload_n 0, 1) := by decide +kernel
theorem d_CA_order_80 : decode c_CA_order 80 = .ok (.iload_n 1, 1) := by decide +kernel
theorem d_CA_order_81 : decode c_CA_order 81 = .ok (.iload_n 3, 1) := by decide +kernel
theorem d_CA_order_82 : decode c_CA_order 82 = .ok (.aload_n 0, 1) := by decide +kernel
theorem d_CA_order_83 : decode c_CA_order 83 = .ok (.getfield 143, 3) := by decide +kernel
theorem d_CA_order_86 : decode c_CA_order 86 = .ok (.iload 4, 2) := by decide +kernel
theorem d_CA_order_88 : decode c_CA_order 88 = .ok (.iadd, 1) := by decide +kernel
theorem d_CA_order_89 : decode c_CA_order 89 = .ok (.invokevirtual 146, 3) := by decide +kernel
theorem d_CA_order_92 : decode c_CA_order 92 = .ok (.istore 6, 2) := by decide +kernel
theorem d_CA_order_94 : decode c_CA_order 94 = .ok (.aload_n 0, 1) := by decide +kernel
theorem d_CA_order_95 : decode c_CA_order 95 = .ok (.invokevirtual 149, 3) := by decide +kernel
theorem d_CA_order_98 : decode c_CA_order 98 = .ok (.iload 6, 2) := by decide +kernel
theorem d_CA_order_100 : decode c_CA_order 100 = .ok (.ireturn, 1) := by decide +kernel
def wp_CA_order (post : Int32 → ST → Prop) (px : String → ST → Prop) (X : ST) (a1 : Int32) (a2 : Int32) (a3 : Int32) (a4 : Int32) (a5 : Int32) : Prop := wp_CA_digest (fun (r2 : Int32) (X1 : ST) => wp_CA_acceptSigned (fun (X3 : ST) => wp_CA_canBeOrdered (fun (r6 : Int32) (X5 : ST) => ((r6 = 0 → px "java/lang/IllegalArgumentException" X5) ∧ (¬ r6 = 0 → ((a4 < (1 : Int32) → px "java/lang/IllegalArgumentException" X5) ∧ (¬ a4 < (1 : Int32) → ((a4 ≤ (100 : Int32) → (((12 : Int32) ≤ (X5 3 0) → px "java/lang/IllegalStateException" X5) ∧ (¬ (12 : Int32) ≤ (X5 3 0) → wp_CA_missingAuthorizations (fun (r12 : Int32) (X11 : ST) => ((((X5 4 0) + r12) ≤ (24 : Int32) → wp_CA_makeOrder (fun (r15 : Int32) (X14 : ST) => wp_CA_settleOrders (fun (X16 : ST) => post r15 X16) X14) X11 a1 a3 ((X11 1 0) + a4)) ∧ (¬ ((X5 4 0) + r12) ≤ (24 : Int32) → px "java/lang/IllegalStateException" X11))) X5 a1 a3))) ∧ (¬ a4 ≤ (100 : Int32) → px "java/lang/IllegalArgumentException" X5))))))) X3 a3) px X1 a1 a2 r2 a5) X (2 : Int32) a1 a2 a3 a4
set_option maxHeartbeats 4000000 in
set_option maxRecDepth 100000 in
theorem mt_CA_order (l : Launch) (hl9 : l.stackTraces = false) (dC : Nat → ClassId) (dI : Nat → Nat → Nat) (cA : Nat → ClassId) (ad : Nat → Nat) (hI : INJ ad 125) (sz : Nat) {X : ST} {a1 : Int32} {a2 : Int32} {a3 : Int32} {a4 : Int32} {a5 : Int32} {post : Int32 → ST → Prop} {px : String → ST → Prop} (hw : wp_CA_order post px X a1 a2 a3 a4 a5) : xt_Met l y_CA_order ws_CA_order ({ frames := 7, cells := 2, slots := 12, locals := 114 } : Room) (va_Pc [.ref (ad 0), .int a1, .int a2, .int a3, .int a4, .int a5] (fun U => PC dC dI cA ad sz X U)) (va_Qi (fun r (u : ST) => post r u) (fun (u : ST) t => va_P (dC, dI) vwCl (wdC cA ad u) t.heap) (CA ad 125 sz)) (xt_X (fun (u : String × ST) => px u.1 u.2) (fun E (u : String × ST) t => u.1 = E ∧ va_P (dC, dI) vwCl (wdC cA ad u.2) t.heap) (CA ad 125 sz)) 2 12 (CA ad 125 sz) := by
  refine xt_ofW (cc := c_CA_order) (maxL := 7) (ret := (some .int)) (by decide) rfl ?_
  intro p e s m args below meth c s₁ B hml hEx hv
  obtain ⟨rfl, hsz, hP, hG⟩ := hv
  have hx := B.exec
  have hb := B.bytes
  have hr := B.returns
  have hts : ∀ w ∈ GW, w.before (([.ref (ad 0), .int a1, .int a2, .int a3, .int a4, .int a5] : List Value).toArray) s = true := fun w h => atoms_spec (ws := ws_CA_order) B.pre w (List.mem_cons_of_mem _ h)
  have hown : s.vm.findClass R_CA = some m.cls := findClass_of_methodNamed B.named
  have hlocks := B.notSynchronized
  subst hsz
  have hK := hG.1
  have hG9 := hG
  have hNW := hG.2.1
  have hD0 : ∀ (X : ST), va_D (CA ad 125 s.heap.size) (wdC cA ad X) := fun _ => zwC_D hI
  have hS : va_S (CA ad 125 s.heap.size) s.heap s.heap [] := va_S.rf
  have hl := lv_entry ([.ref (ad 0), .int a1, .int a2, .int a3, .int a4, .int a5]) (n := 7) (Nat.le_of_ble_eq_true rfl)
  rw [lg_entry_eq]
  generalize (lg_sl ([.ref (ad 0), .int a1, .int a2, .int a3, .int a4, .int a5]) ++ List.replicate (7 - (lg_sl ([.ref (ad 0), .int a1, .int a2, .int a3, .int a4, .int a5])).length) Slot.unset).toArray = ls at hl ⊢
  have hl : lv_has ls 7 [(0, .ref (ad 0)), (1, .int a1), (2, .int a2), (3, .int a3), (4, .int a4), (5, .int a5)] := hl
  unfold wp_CA_order at hw
  refine lv_aload_n hx hb d_CA_order_0 rfl (lv_at hl 0 rfl) ?_
  refine lv_iload_n hx hb d_CA_order_1 rfl (lv_at hl 1 rfl) ?_
  refine lv_iload_n hx hb d_CA_order_2 rfl (lv_at hl 2 rfl) ?_
  refine lv_aload_n hx hb d_CA_order_3 rfl (lv_at hl 0 rfl) ?_
  refine lv_iconst (v := (2 : Int32)) hx hb d_CA_order_4 (by decide) ?_
  refine lv_iload_n hx hb d_CA_order_5 rfl (lv_at hl 1 rfl) ?_
  refine lv_iload_n hx hb d_CA_order_6 rfl (lv_at hl 2 rfl) ?_
  refine lv_iload_n hx hb d_CA_order_7 rfl (lv_at hl 3 rfl) ?_
  refine lv_iload hx hb d_CA_order_8 (lv_at hl 4 rfl) ?_
  refine va_calli (va_runV (As := [.int (2 : Int32), .int a1, .int a2, .int a3, .int a4]) (rest := [.int a2, .int a1, .ref (ad 0)]) ⟨hx, hb, hml, hown, hts⟩ (mt_CA_digest l hl9 dC dI cA ad hI _ hw) (cwV 5 hts (gV gw_43 gw_44 gw_45 gw_13 gw_42) rfl rfl rfl (by decide +kernel) ⟨Nat.le_of_ble_eq_true rfl, Nat.le_of_ble_eq_true rfl⟩) ⟨zwC_blind, va_recv hK hP (ci := 0) (q0 := 0) rfl atC_CA, zwC_pre hP hS hG9⟩ rfl rfl hl.1 rfl (lv_room (Nat.le_of_ble_eq_true rfl)) d_CA_order_10 ⟨Nat.le_of_ble_eq_true rfl, Nat.le_of_ble_eq_true rfl⟩) hS (fun q _ h => CA_le hS.1 q h) (fun q h => CA_le hS.1 q h) (fun r2 X1 t H locs ht hvm hw hP hz1 hk1 hS => ?_)
  have hP : va_P (dC, dI) vwCl (wdC cA ad X1) H := by rw [← ht]; exact hP
  try dsimp only at hw
  refine lv_iload hx hb d_CA_order_13 (lv_at hl 5 rfl) ?_
  refine xt_callv (xt_runV (As := [.int a1, .int a2, .int r2, .int a5]) (rest := []) ⟨hx, hb, hml, hown, hts⟩ (mt_CA_acceptSigned l hl9 dC dI cA ad hI _ hw) (cwV 4 hts (gV gw_125 gw_126 gw_127 gw_13 gw_124) rfl rfl rfl (by decide +kernel) ⟨Nat.le_of_ble_eq_true rfl, Nat.le_of_ble_eq_true rfl⟩) ⟨zwC_blind, va_recv hK hP (ci := 0) (q0 := 0) rfl atC_CA, zwC_pre hP hS hG9⟩ rfl rfl hl.1 rfl (lv_room (Nat.le_of_ble_eq_true rfl)) d_CA_order_15 ⟨Nat.le_of_ble_eq_true rfl, Nat.le_of_ble_eq_true rfl⟩) hS (fun q _ h => CA_le hS.1 q h) (fun q h => CA_le hS.1 q h) (fun q _ h => CA_le hS.1 q h) (fun E ce q9 u9 t H locs ht ha hw hB hz1 hk1 hS hce hcv hcl => ?_) (fun X3 t H locs ht hvm hw hP hz1 hk1 hS => ?_)
  · obtain ⟨E9, X9⟩ := u9
    obtain ⟨rfl, hP⟩ := hB
    exact xt_out (E := E9) (fun x hx => (hEx x hx).elim) hlocks hce hcv hcl (fun t9 ht9 ha9 => ⟨(E9, X9), hw, ⟨rfl, by show va_P _ _ _ t9.heap; rw [ht9, ← ht]; exact hP⟩, hS.F ht9⟩) hS.2.2 (Nat.le_of_ble_eq_true rfl) (Nat.le_of_ble_eq_true rfl)
  have hP : va_P (dC, dI) vwCl (wdC cA ad X3) H := by rw [← ht]; exact hP
  try dsimp only at hw
  refine lv_iload_n hx hb d_CA_order_18 rfl (lv_at hl 3 rfl) ?_
  refine va_calli (va_runS (As := [.int a3]) (rest := []) ⟨hx, hb, hml, hown, hts⟩ (mt_CA_canBeOrdered l hl9 dC dI cA ad hI _ hw) (va_cwS 1 hts (gS gw_129 gw_130 gw_13 gw_128) rfl rfl rfl (by decide +kernel) ⟨Nat.le_of_ble_eq_true rfl, Nat.le_of_ble_eq_true rfl⟩) ⟨zwC_blind, zwC_pre hP hS hG9⟩ rfl rfl hl.1 rfl (lv_room (Nat.le_of_ble_eq_true rfl)) d_CA_order_19 ⟨Nat.le_of_ble_eq_true rfl, Nat.le_of_ble_eq_true rfl⟩) hS (fun q _ h => CA_le hS.1 q h) (fun q h => CA_le hS.1 q h) (fun r6 X5 t H locs ht hvm hw hP hz1 hk1 hS => ?_)
  have hP : va_P (dC, dI) vwCl (wdC cA ad X5) H := by rw [← ht]; exact hP
  try dsimp only at hw
  refine lv_if_eq (tgt := 38) hx hb d_CA_order_22 (by decide) (fun c7 => ?_) (fun c7 => ?_)
  · have hw := hw.1 c7
    exact xt_throw0 (cls := "java/lang/IllegalArgumentException") (names := ["java/lang/RuntimeException", "java/lang/Exception"]) (ic := 95) hx hb hl9 hown (by decide +kernel) (by decide +kernel) (hts _ gw_39) (hts _ gw_40) (hts _ gw_41) (xc_hat xa_0 hts hG9 hP hS) (hl.1.trans hml.symm) d_CA_order_38 d_CA_order_41 d_CA_order_42 d_CA_order_45 (fun x hx => (hEx x hx).elim) hlocks (fun t ha hz hk => ⟨("java/lang/IllegalArgumentException", X5), hw, ⟨rfl, zw_keep hP hk⟩, zw_F hS hz hk⟩) hS.2.2 (Nat.le_of_ble_eq_true rfl) (Nat.le_of_ble_eq_true rfl) (Nat.le_of_ble_eq_true rfl) (Nat.le_of_ble_eq_true rfl) (Nat.le_of_ble_eq_true rfl) (Nat.le_of_ble_eq_true rfl)
  · have hw := hw.2 c7
    refine lv_iload hx hb d_CA_order_25 (lv_at hl 4 rfl) ?_
    refine lv_iconst (v := (1 : Int32)) hx hb d_CA_order_27 (by decide) ?_
    refine lv_icmp_lt (tgt := 38) hx hb d_CA_order_28 (by decide) (fun c8 => ?_) (fun c8 => ?_)
    · have hw := hw.1 c8
      exact xt_throw0 (cls := "java/lang/IllegalArgumentException") (names := ["java/lang/RuntimeException", "java/lang/Exception"]) (ic := 95) hx hb hl9 hown (by decide +kernel) (by decide +kernel) (hts _ gw_39) (hts _ gw_40) (hts _ gw_41) (xc_hat xa_0 hts hG9 hP hS) (hl.1.trans hml.symm) d_CA_order_38 d_CA_order_41 d_CA_order_42 d_CA_order_45 (fun x hx => (hEx x hx).elim) hlocks (fun t ha hz hk => ⟨("java/lang/IllegalArgumentException", X5), hw, ⟨rfl, zw_keep hP hk⟩, zw_F hS hz hk⟩) hS.2.2 (Nat.le_of_ble_eq_true rfl) (Nat.le_of_ble_eq_true rfl) (Nat.le_of_ble_eq_true rfl) (Nat.le_of_ble_eq_true rfl) (Nat.le_of_ble_eq_true rfl) (Nat.le_of_ble_eq_true rfl)
    · have hw := hw.2 c8
      refine lv_iload hx hb d_CA_order_31 (lv_at hl 4 rfl) ?_
      refine lv_bipush (v := (100 : Int32)) hx hb d_CA_order_33 (by decide) ?_
      refine lv_icmp_le (tgt := 46) hx hb d_CA_order_35 (by decide) (fun c9 => ?_) (fun c9 => ?_)
      · have hw := hw.1 c9
        refine lv_aload_n hx hb d_CA_order_46 rfl (lv_at hl 0 rfl) ?_
        refine va_get (D := (dC, dI)) (ci := 0) (v := .int (X5 3 0)) (C := R_CA) (T := T_CA) (N := 14) hx hb hts in_CA hown hK hP (0) atC_CA rfl 3 (by decide) (hts _ gw_97) (fun _ h9 => h9) rfl d_CA_order_47 ?_
        refine lv_bipush (v := (12 : Int32)) hx hb d_CA_order_50 (by decide) ?_
        refine lv_icmp_ge (tgt := 71) hx hb d_CA_order_52 (by decide) (fun c10 => ?_) (fun c10 => ?_)
        · have hw := hw.1 c10
          exact xt_throw0 (cls := "java/lang/IllegalStateException") (names := ["java/lang/RuntimeException", "java/lang/Exception"]) (ic := 122) hx hb hl9 hown (by decide +kernel) (by decide +kernel) (hts _ gw_60) (hts _ gw_61) (hts _ gw_62) (xc_hat xa_2 hts hG9 hP hS) (hl.1.trans hml.symm) d_CA_order_71 d_CA_order_74 d_CA_order_75 d_CA_order_78 (fun x hx => (hEx x hx).elim) hlocks (fun t ha hz hk => ⟨("java/lang/IllegalStateException", X5), hw, ⟨rfl, zw_keep hP hk⟩, zw_F hS hz hk⟩) hS.2.2 (Nat.le_of_ble_eq_true rfl) (Nat.le_of_ble_eq_true rfl) (Nat.le_of_ble_eq_true rfl) (Nat.le_of_ble_eq_true rfl) (Nat.le_of_ble_eq_true rfl) (Nat.le_of_ble_eq_true rfl)
        · have hw := hw.2 c10
          refine lv_aload_n hx hb d_CA_order_55 rfl (lv_at hl 0 rfl) ?_
          refine va_get (D := (dC, dI)) (ci := 0) (v := .int (X5 4 0)) (C := R_CA) (T := T_CA) (N := 14) hx hb hts in_CA hown hK hP (0) atC_CA rfl 4 (by decide) (hts _ gw_79) (fun _ h9 => h9) rfl d_CA_order_56 ?_
          refine lv_aload_n hx hb d_CA_order_59 rfl (lv_at hl 0 rfl) ?_
          refine lv_iload_n hx hb d_CA_order_60 rfl (lv_at hl 1 rfl) ?_
          refine lv_iload_n hx hb d_CA_order_61 rfl (lv_at hl 3 rfl) ?_
          refine va_calli (va_runV (As := [.int a1, .int a3]) (rest := [.int (X5 4 0)]) ⟨hx, hb, hml, hown, hts⟩ (mt_CA_missingAuthorizations l hl9 dC dI cA ad hI _ hw) (cwV 2 hts (gV gw_132 gw_133 gw_134 gw_13 gw_131) rfl rfl rfl (by decide +kernel) ⟨Nat.le_of_ble_eq_true rfl, Nat.le_of_ble_eq_true rfl⟩) ⟨zwC_blind, va_recv hK hP (ci := 0) (q0 := 0) rfl atC_CA, zwC_pre hP hS hG9⟩ rfl rfl hl.1 rfl (lv_room (Nat.le_of_ble_eq_true rfl)) d_CA_order_62 ⟨Nat.le_of_ble_eq_true rfl, Nat.le_of_ble_eq_true rfl⟩) hS (fun q _ h => CA_le hS.1 q h) (fun q h => CA_le hS.1 q h) (fun r12 X11 t H locs ht hvm hw hP hz1 hk1 hS => ?_)
          have hP : va_P (dC, dI) vwCl (wdC cA ad X11) H := by rw [← ht]; exact hP
          try dsimp only at hw
          refine lv_iadd hx hb d_CA_order_65 ?_
          refine lv_bipush (v := (24 : Int32)) hx hb d_CA_order_66 (by decide) ?_
          refine lv_icmp_le (tgt := 79) hx hb d_CA_order_68 (by decide) (fun c13 => ?_) (fun c13 => ?_)
          · have hw := hw.1 c13
            refine lv_aload_n hx hb d_CA_order_79 rfl (lv_at hl 0 rfl) ?_
            refine lv_iload_n hx hb d_CA_order_80 rfl (lv_at hl 1 rfl) ?_
            refine lv_iload_n hx hb d_CA_order_81 rfl (lv_at hl 3 rfl) ?_
            refine lv_aload_n hx hb d_CA_order_82 rfl (lv_at hl 0 rfl) ?_
            refine va_get (D := (dC, dI)) (ci := 0) (v := .int (X11 1 0)) (C := R_CA) (T := T_CA) (N := 14) hx hb hts in_CA hown hK hP (0) atC_CA rfl 1 (by decide) (hts _ gw_135) (fun _ h9 => h9) rfl d_CA_order_83 ?_
            refine lv_iload hx hb d_CA_order_86 (lv_at hl 4 rfl) ?_
            refine lv_iadd hx hb d_CA_order_88 ?_
            refine va_calli (va_runV (As := [.int a1, .int a3, .int ((X11 1 0) + a4)]) (rest := []) ⟨hx, hb, hml, hown, hts⟩ (mt_CA_makeOrder l hl9 dC dI cA ad hI _ hw) (cwV 3 hts (gV gw_137 gw_138 gw_139 gw_13 gw_136) rfl rfl rfl (by decide +kernel) ⟨Nat.le_of_ble_eq_true rfl, Nat.le_of_ble_eq_true rfl⟩) ⟨zwC_blind, va_recv hK hP (ci := 0) (q0 := 0) rfl atC_CA, zwC_pre hP hS hG9⟩ rfl rfl hl.1 rfl (lv_room (Nat.le_of_ble_eq_true rfl)) d_CA_order_89 ⟨Nat.le_of_ble_eq_true rfl, Nat.le_of_ble_eq_true rfl⟩) hS (fun q _ h => CA_le hS.1 q h) (fun q h => CA_le hS.1 q h) (fun r15 X14 t H locs ht hvm hw hP hz1 hk1 hS => ?_)
            have hP : va_P (dC, dI) vwCl (wdC cA ad X14) H := by rw [← ht]; exact hP
            try dsimp only at hw
            refine lv_istore (lv' := [(6, .int r15), (0, .ref (ad 0)), (1, .int a1), (2, .int a2), (3, .int a3), (4, .int a4), (5, .int a5)]) hx hb d_CA_order_92 hl (by decide) rfl (fun ls hl => ?_)
            refine lv_aload_n hx hb d_CA_order_94 rfl (lv_at hl 1 rfl) ?_
            refine va_callv (va_runV (As := []) (rest := []) ⟨hx, hb, hml, hown, hts⟩ (mt_CA_settleOrders l hl9 dC dI cA ad hI _ hw) (cwV 0 hts (gV gw_141 gw_142 gw_143 gw_13 gw_140) rfl rfl rfl (by decide +kernel) ⟨Nat.le_of_ble_eq_true rfl, Nat.le_of_ble_eq_true rfl⟩) ⟨zwC_blind, va_recv hK hP (ci := 0) (q0 := 0) rfl atC_CA, zwC_pre hP hS hG9⟩ rfl rfl hl.1 rfl (lv_room (Nat.le_of_ble_eq_true rfl)) d_CA_order_95 ⟨Nat.le_of_ble_eq_true rfl, Nat.le_of_ble_eq_true rfl⟩) hS (fun q _ h => CA_le hS.1 q h) (fun q h => CA_le hS.1 q h) (fun X16 t H locs ht hvm hw hP hz1 hk1 hS => ?_)
            have hP : va_P (dC, dI) vwCl (wdC cA ad X16) H := by rw [← ht]; exact hP
            try dsimp only at hw
            refine lv_iload hx hb d_CA_order_98 (lv_at hl 0 rfl) ?_
            refine xt_ret ?_
            refine W.widen (k := 2) (n := 12) (Nat.le_of_ble_eq_true rfl) (Nat.le_of_ble_eq_true rfl) ?_
            exact W.iret (v := r15) hx hb hr (fun t ht _ => ⟨⟨r15, X16, rfl, hw, by show va_P _ _ _ t.heap; rw [ht]; exact hP⟩, hS.F ht⟩) hS.2.2 d_CA_order_100
          · have hw := hw.2 c13
            exact xt_throw0 (cls := "java/lang/IllegalStateException") (names := ["java/lang/RuntimeException", "java/lang/Exception"]) (ic := 122) hx hb hl9 hown (by decide +kernel) (by decide +kernel) (hts _ gw_60) (hts _ gw_61) (hts _ gw_62) (xc_hat xa_2 hts hG9 hP hS) (hl.1.trans hml.symm) d_CA_order_71 d_CA_order_74 d_CA_order_75 d_CA_order_78 (fun x hx => (hEx x hx).elim) hlocks (fun t ha hz hk => ⟨("java/lang/IllegalStateException", X11), hw, ⟨rfl, zw_keep hP hk⟩, zw_F hS hz hk⟩) hS.2.2 (Nat.le_of_ble_eq_true rfl) (Nat.le_of_ble_eq_true rfl) (Nat.le_of_ble_eq_true rfl) (Nat.le_of_ble_eq_true rfl) (Nat.le_of_ble_eq_true rfl) (Nat.le_of_ble_eq_true rfl)
      · have hw := hw.2 c9
        exact xt_throw0 (cls := "java/lang/IllegalArgumentException") (names := ["java/lang/RuntimeException", "java/lang/Exception"]) (ic := 95) hx hb hl9 hown (by decide +kernel) (by decide +kernel) (hts _ gw_39) (hts _ gw_40) (hts _ gw_41) (xc_hat xa_0 hts hG9 hP hS) (hl.1.trans hml.symm) d_CA_order_38 d_CA_order_41 d_CA_order_42 d_CA_order_45 (fun x hx => (hEx x hx).elim) hlocks (fun t ha hz hk => ⟨("java/lang/IllegalArgumentException", X5), hw, ⟨rfl, zw_keep hP hk⟩, zw_F hS hz hk⟩) hS.2.2 (Nat.le_of_ble_eq_true rfl) (Nat.le_of_ble_eq_true rfl) (Nat.le_of_ble_eq_true rfl) (Nat.le_of_ble_eq_true rfl) (Nat.le_of_ble_eq_true rfl) (Nat.le_of_ble_eq_true rfl)
def ws_CA_challengeOf : List Cond := Cond.code y_CA_challengeOf c_CA_challengeOf 3 (Option.some (Jvm.ClassFile.FieldType.object "ChallengeAuthority$Challenge")) :: GW
theorem d_CA_challengeOf_0 : decode c_CA_challengeOf 0 = .ok (.iload_n 1, 1) := by decide +kernel
theorem d_CA_challengeOf_1 : decode c_CA_challengeOf 1 = .ok (.ifCond .lt 20, 3) := by decide +kernel
theorem d_CA_challengeOf_4 : decode c_CA_challengeOf 4 = .ok (.iload_n 1, 1) := by decide +kernel
theorem d_CA_challengeOf_5 : decode c_CA_challengeOf 5 = .ok (.aload_n 0, 1) := by decide +kernel
theorem d_CA_challengeOf_6 : decode c_CA_challengeOf 6 = .ok (.getfield 136, 3) := by decide +kernel
theorem d_CA_challengeOf_9 : decode c_CA_challengeOf 9 = .ok (.if_icmp .ge 12, 3) := by decide +kernel
theorem d_CA_challengeOf_12 : decode c_CA_challengeOf 12 = .ok (.iload_n 2, 1) := by decide +kernel
theorem d_CA_challengeOf_13 : decode c_CA_challengeOf 13 = .ok (.ifCond .lt 8, 3) := by decide +kernel
theorem d_CA_challengeOf_16 : decode c_CA_challengeOf 16 = .ok (.iload_n 2, 1) := by decide +kernel
theorem d_CA_challengeOf_17 : decode c_CA_challengeOf 17 = .ok (.iconst 2, 1) := by decide +kernel
theorem d_CA_challengeOf_18 : decode c_CA_challengeOf 18 = .ok (.if_icmp .lt 11, 3) := by decide +kernel
theorem d_CA_challengeOf_21 : decode c_CA_challengeOf 21 = .ok (.new 177, 3) := by decide +kernel
theorem d_CA_challengeOf_24 : decode c_CA_challengeOf 24 = .ok (.dup, 1) := by decide +kernel
theorem d_CA_challengeOf_25 : decode c_CA_challengeOf 25 = .ok (.invokespecial 179, 3) := by decide +kernel
theorem d_CA_challengeOf_28 : decode c_CA_challengeOf 28 = .ok (.athrow, 1) := by decide +kernel
theorem d_CA_challengeOf_29 : decode c_CA_challengeOf 29 = .ok (.aload_n 0, 1) := by decide +kernel
theorem d_CA_challengeOf_30 : decode c_CA_challengeOf 30 = .ok (.getfield 29, 3) := by decide +kernel
theorem d_CA_challengeOf_33 : decode c_CA_challengeOf 33 = .ok (.iconst 2, 1) := by decide +kernel
theorem d_CA_challengeOf_34 : decode c_CA_challengeOf 34 = .ok (.iload_n 1, 1) := by decide +kernel
theorem d_CA_challengeOf_35 : decode c_CA_challengeOf 35 = .ok (.imul, 1) := by decide +kernel
theorem d_CA_challengeOf_36 : decode c_CA_challengeOf 36 = .ok (.iload_n 2, 1) := by decide +kernel
theorem d_CA_challengeOf_37 : decode c_CA_challengeOf 37 = .ok (.iadd, 1) := by decide +kernel
theorem d_CA_challengeOf_38 : decode c_CA_challengeOf 38 = .ok (.aaload, 1) := by decide +kernel
theorem d_CA_challengeOf_39 : decode c_CA_challengeOf 39 = .ok (.areturn, 1) := by decide +kernel
def wp_CA_challengeOf (post : Nat → ST → Prop) (px : String → ST → Prop) (X : ST) (a1 : Int32) (a2 : Int32) : Prop := ((a1 < 0 → px "java/util/NoSuchElementException" X) ∧ (¬ a1 < 0 → (((X 4 0) ≤ a1 → px "java/util/NoSuchElementException" X) ∧ (¬ (X 4 0) ≤ a1 → ((a2 < 0 → px "java/util/NoSuchElementException" X) ∧ (¬ a2 < 0 → ((a2 < (2 : Int32) → (vp_in (((2 : Int32) * a1) + a2) 48 ∧ post ((((2 : Int32) * a1) + a2).toNatClampNeg) X)) ∧ (¬ a2 < (2 : Int32) → px "java/util/NoSuchElementException" X))))))))
set_option maxHeartbeats 4000000 in
set_option maxRecDepth 100000 in
theorem mt_CA_challengeOf (l : Launch) (hl9 : l.stackTraces = false) (dC : Nat → ClassId) (dI : Nat → Nat → Nat) (cA : Nat → ClassId) (ad : Nat → Nat) (hI : INJ ad 125) (sz : Nat) {X : ST} {a1 : Int32} {a2 : Int32} {post : Nat → ST → Prop} {px : String → ST → Prop} (hw : wp_CA_challengeOf post px X a1 a2) : xt_Met l y_CA_challengeOf ws_CA_challengeOf ({ frames := 6, cells := 1, slots := 6, locals := 90 } : Room) (va_Pc [.ref (ad 0), .int a1, .int a2] (fun U => PC dC dI cA ad sz X U)) (va_Qr (fun (u : Nat × ST) => post u.1 u.2) (fun (u : Nat × ST) a t => a = ad (65 + u.1) ∧ va_P (dC, dI) vwCl (wdC cA ad u.2) t.heap) (CA ad 125 sz)) (xt_X (fun (u : String × ST) => px u.1 u.2) (fun E (u : String × ST) t => u.1 = E ∧ va_P (dC, dI) vwCl (wdC cA ad u.2) t.heap) (CA ad 125 sz)) 1 6 (CA ad 125 sz) := by
  refine xt_ofW (cc := c_CA_challengeOf) (maxL := 3) (ret := (some (.object "ChallengeAuthority$Challenge"))) (by decide) rfl ?_
  intro p e s m args below meth c s₁ B hml hEx hv
  obtain ⟨rfl, hsz, hP, hG⟩ := hv
  have hx := B.exec
  have hb := B.bytes
  have hr := B.returns
  have hts : ∀ w ∈ GW, w.before (([.ref (ad 0), .int a1, .int a2] : List Value).toArray) s = true := fun w h => atoms_spec (ws := ws_CA_challengeOf) B.pre w (List.mem_cons_of_mem _ h)
  have hown : s.vm.findClass R_CA = some m.cls := findClass_of_methodNamed B.named
  have hlocks := B.notSynchronized
  subst hsz
  have hK := hG.1
  have hG9 := hG
  have hNW := hG.2.1
  have hD0 : ∀ (X : ST), va_D (CA ad 125 s.heap.size) (wdC cA ad X) := fun _ => zwC_D hI
  have hS : va_S (CA ad 125 s.heap.size) s.heap s.heap [] := va_S.rf
  have hl := lv_entry ([.ref (ad 0), .int a1, .int a2]) (n := 3) (Nat.le_of_ble_eq_true rfl)
  rw [lg_entry_eq]
  generalize (lg_sl ([.ref (ad 0), .int a1, .int a2]) ++ List.replicate (3 - (lg_sl ([.ref (ad 0), .int a1, .int a2])).length) Slot.unset).toArray = ls at hl ⊢
  have hl : lv_has ls 3 [(0, .ref (ad 0)), (1, .int a1), (2, .int a2)] := hl
  unfold wp_CA_challengeOf at hw
  refine lv_iload_n hx hb d_CA_challengeOf_0 rfl (lv_at hl 1 rfl) ?_
  refine lv_if_lt (tgt := 21) hx hb d_CA_challengeOf_1 (by decide) (fun c1 => ?_) (fun c1 => ?_)
  · have hw := hw.1 c1
    exact xt_throw0 (cls := "java/util/NoSuchElementException") (names := ["java/lang/RuntimeException", "java/lang/Exception"]) (ic := 179) hx hb hl9 hown (by decide +kernel) (by decide +kernel) (hts _ gw_64) (hts _ gw_65) (hts _ gw_66) (xc_hat xa_3 hts hG9 hP hS) (hl.1.trans hml.symm) d_CA_challengeOf_21 d_CA_challengeOf_24 d_CA_challengeOf_25 d_CA_challengeOf_28 (fun x hx => (hEx x hx).elim) hlocks (fun t ha hz hk => ⟨("java/util/NoSuchElementException", X), hw, ⟨rfl, zw_keep hP hk⟩, zw_F hS hz hk⟩) hS.2.2 (Nat.le_of_ble_eq_true rfl) (Nat.le_of_ble_eq_true rfl) (Nat.le_of_ble_eq_true rfl) (Nat.le_of_ble_eq_true rfl) (Nat.le_of_ble_eq_true rfl) (Nat.le_of_ble_eq_true rfl)
  · have hw := hw.2 c1
    refine lv_iload_n hx hb d_CA_challengeOf_4 rfl (lv_at hl 1 rfl) ?_
    refine lv_aload_n hx hb d_CA_challengeOf_5 rfl (lv_at hl 0 rfl) ?_
    refine va_get (D := (dC, dI)) (ci := 0) (v := .int (X 4 0)) (C := R_CA) (T := T_CA) (N := 14) hx hb hts in_CA hown hK hP (0) atC_CA rfl 4 (by decide) (hts _ gw_79) (fun _ h9 => h9) rfl d_CA_challengeOf_6 ?_
    refine lv_icmp_ge (tgt := 21) hx hb d_CA_challengeOf_9 (by decide) (fun c2 => ?_) (fun c2 => ?_)
    · have hw := hw.1 c2
      exact xt_throw0 (cls := "java/util/NoSuchElementException") (names := ["java/lang/RuntimeException", "java/lang/Exception"]) (ic := 179) hx hb hl9 hown (by decide +kernel) (by decide +kernel) (hts _ gw_64) (hts _ gw_65) (hts _ gw_66) (xc_hat xa_3 hts hG9 hP hS) (hl.1.trans hml.symm) d_CA_challengeOf_21 d_CA_challengeOf_24 d_CA_challengeOf_25 d_CA_challengeOf_28 (fun x hx => (hEx x hx).elim) hlocks (fun t ha hz hk => ⟨("java/util/NoSuchElementException", X), hw, ⟨rfl, zw_keep hP hk⟩, zw_F hS hz hk⟩) hS.2.2 (Nat.le_of_ble_eq_true rfl) (Nat.le_of_ble_eq_true rfl) (Nat.le_of_ble_eq_true rfl) (Nat.le_of_ble_eq_true rfl) (Nat.le_of_ble_eq_true rfl) (Nat.le_of_ble_eq_true rfl)
    · have hw := hw.2 c2
      refine lv_iload_n hx hb d_CA_challengeOf_12 rfl (lv_at hl 2 rfl) ?_
      refine lv_if_lt (tgt := 21) hx hb d_CA_challengeOf_13 (by decide) (fun c3 => ?_) (fun c3 => ?_)
      · have hw := hw.1 c3
        exact xt_throw0 (cls := "java/util/NoSuchElementException") (names := ["java/lang/RuntimeException", "java/lang/Exception"]) (ic := 179) hx hb hl9 hown (by decide +kernel) (by decide +kernel) (hts _ gw_64) (hts _ gw_65) (hts _ gw_66) (xc_hat xa_3 hts hG9 hP hS) (hl.1.trans hml.symm) d_CA_challengeOf_21 d_CA_challengeOf_24 d_CA_challengeOf_25 d_CA_challengeOf_28 (fun x hx => (hEx x hx).elim) hlocks (fun t ha hz hk => ⟨("java/util/NoSuchElementException", X), hw, ⟨rfl, zw_keep hP hk⟩, zw_F hS hz hk⟩) hS.2.2 (Nat.le_of_ble_eq_true rfl) (Nat.le_of_ble_eq_true rfl) (Nat.le_of_ble_eq_true rfl) (Nat.le_of_ble_eq_true rfl) (Nat.le_of_ble_eq_true rfl) (Nat.le_of_ble_eq_true rfl)
      · have hw := hw.2 c3
        refine lv_iload_n hx hb d_CA_challengeOf_16 rfl (lv_at hl 2 rfl) ?_
        refine lv_iconst (v := (2 : Int32)) hx hb d_CA_challengeOf_17 (by decide) ?_
        refine lv_icmp_lt (tgt := 29) hx hb d_CA_challengeOf_18 (by decide) (fun c4 => ?_) (fun c4 => ?_)
        · have hw := hw.1 c4
          refine lv_aload_n hx hb d_CA_challengeOf_29 rfl (lv_at hl 0 rfl) ?_
          refine va_get (D := (dC, dI)) (ci := 0) (v := .ref (ad 4)) (C := R_CA) (T := T_CA) (N := 14) hx hb hts in_CA hown hK hP (0) atC_CA rfl 9 (by decide) (hts _ gw_87) (fun _ h9 => h9) rfl d_CA_challengeOf_30 ?_
          refine lv_iconst (v := (2 : Int32)) hx hb d_CA_challengeOf_33 (by decide) ?_
          refine lv_iload_n hx hb d_CA_challengeOf_34 rfl (lv_at hl 1 rfl) ?_
          refine lv_imul hx hb d_CA_challengeOf_35 ?_
          refine lv_iload_n hx hb d_CA_challengeOf_36 rfl (lv_at hl 2 rfl) ?_
          refine lv_iadd hx hb d_CA_challengeOf_37 ?_
          obtain ⟨h5, hw⟩ := hw
          refine va_aldq hx hb hK hP (4) 3 atC_aCha rfl h5 d_CA_challengeOf_38 ?_
          refine W.eq (g2 := F0 m 39 ls [.ref (ad (65 + ((((2 : Int32) * a1) + a2).toNatClampNeg)))]) rfl ?_
          refine xt_ret ?_
          refine W.widen (k := 1) (n := 6) (Nat.le_of_ble_eq_true rfl) (Nat.le_of_ble_eq_true rfl) ?_
          exact W.aret (v := .ref (ad (65 + ((((2 : Int32) * a1) + a2).toNatClampNeg)))) hx hb hr (Or.inl ⟨_, rfl⟩) (Or.inr ⟨_, rfl⟩) (fun t ht _ => ⟨⟨((((2 : Int32) * a1) + a2).toNatClampNeg, X), _, rfl, hw, rfl, by show va_P _ _ _ t.heap; rw [ht]; exact hP⟩, hS.F ht⟩) hS.2.2 d_CA_challengeOf_39
        · have hw := hw.2 c4
          exact xt_throw0 (cls := "java/util/NoSuchElementException") (names := ["java/lang/RuntimeException", "java/lang/Exception"]) (ic := 179) hx hb hl9 hown (by decide +kernel) (by decide +kernel) (hts _ gw_64) (hts _ gw_65) (hts _ gw_66) (xc_hat xa_3 hts hG9 hP hS) (hl.1.trans hml.symm) d_CA_challengeOf_21 d_CA_challengeOf_24 d_CA_challengeOf_25 d_CA_challengeOf_28 (fun x hx => (hEx x hx).elim) hlocks (fun t ha hz hk => ⟨("java/util/NoSuchElementException", X), hw, ⟨rfl, zw_keep hP hk⟩, zw_F hS hz hk⟩) hS.2.2 (Nat.le_of_ble_eq_true rfl) (Nat.le_of_ble_eq_true rfl) (Nat.le_of_ble_eq_true rfl) (Nat.le_of_ble_eq_true rfl) (Nat.le_of_ble_eq_true rfl) (Nat.le_of_ble_eq_true rfl)
