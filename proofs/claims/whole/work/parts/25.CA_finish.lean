def ws_CA_finish : List Cond := Cond.code y_CA_finish c_CA_finish 6 (Option.some Jvm.ClassFile.FieldType.int) :: GW
theorem d_CA_finish_0 : decode c_CA_finish 0 = .ok (.aload_n 0, 1) := by decide +kernel
theorem d_CA_finish_1 : decode c_CA_finish 1 = .ok (.iload_n 1, 1) := by decide +kernel
theorem d_CA_finish_2 : decode c_CA_finish 2 = .ok (.iload_n 2, 1) := by decide +kernel
theorem d_CA_finish_3 : decode c_CA_finish 3 = .ok (.aload_n 0, 1) := by decide +kernel
theorem d_CA_finish_4 : decode c_CA_finish 4 = .ok (.iconst 4, 1) := by decide +kernel
theorem d_CA_finish_5 : decode c_CA_finish 5 = .ok (.iload_n 1, 1) := by decide +kernel
theorem d_CA_finish_6 : decode c_CA_finish 6 = .ok (.iload_n 2, 1) := by decide +kernel
theorem d_CA_finish_7 : decode c_CA_finish 7 = .ok (.iload_n 3, 1) := by decide +kernel
theorem d_CA_finish_8 : decode c_CA_finish 8 = .ok (.aload_n 0, 1) := by decide +kernel
theorem d_CA_finish_9 : decode c_CA_finish 9 = .ok (.invokevirtual 174, 3) := by decide +kernel
theorem d_CA_finish_12 : decode c_CA_finish 12 = .ok (.invokevirtual 96, 3) := by decide +kernel
theorem d_CA_finish_15 : decode c_CA_finish 15 = .ok (.iload 4, 2) := by decide +kernel
theorem d_CA_finish_17 : decode c_CA_finish 17 = .ok (.invokevirtual 126, 3) := by decide +kernel
theorem d_CA_finish_20 : decode c_CA_finish 20 = .ok (.iload_n 3, 1) := by decide +kernel
theorem d_CA_finish_21 : decode c_CA_finish 21 = .ok (.ifCond .lt 11, 3) := by decide +kernel
theorem d_CA_finish_24 : decode c_CA_finish 24 = .ok (.iload_n 3, 1) := by decide +kernel
theorem d_CA_finish_25 : decode c_CA_finish 25 = .ok (.aload_n 0, 1) := by decide +kernel
theorem d_CA_finish_26 : decode c_CA_finish 26 = .ok (.getfield 133, 3) := by decide +kernel
theorem d_CA_finish_29 : decode c_CA_finish 29 = .ok (.if_icmp .lt 11, 3) := by decide +kernel
theorem d_CA_finish_32 : decode c_CA_finish 32 = .ok (.new 177, 3) := by decide +kernel
theorem d_CA_finish_35 : decode c_CA_finish 35 = .ok (.dup, 1) := by decide +kernel
theorem d_CA_finish_36 : decode c_CA_finish 36 = .ok (.invokespecial 179, 3) := by decide +kernel
theorem d_CA_finish_39 : decode c_CA_finish 39 = .ok (.athrow, 1) := by decide +kernel
theorem d_CA_finish_40 : decode c_CA_finish 40 = .ok (.aload_n 0, 1) := by decide +kernel
theorem d_CA_finish_41 : decode c_CA_finish 41 = .ok (.getfield 17, 3) := by decide +kernel
theorem d_CA_finish_44 : decode c_CA_finish 44 = .ok (.iload_n 3, 1) := by decide +kernel
theorem d_CA_finish_45 : decode c_CA_finish 45 = .ok (.aaload, 1) := by decide +kernel
theorem d_CA_finish_46 : decode c_CA_finish 46 = .ok (.astore 5, 2) := by decide +kernel
theorem d_CA_finish_48 : decode c_CA_finish 48 = .ok (.aload 5, 2) := by decide +kernel
theorem d_CA_finish_50 : decode c_CA_finish 50 = .ok (.getfield 180, 3) := by decide +kernel
theorem d_CA_finish_53 : decode c_CA_finish 53 = .ok (.iload_n 1, 1) := by decide +kernel
theorem d_CA_finish_54 : decode c_CA_finish 54 = .ok (.if_icmp .eq 11, 3) := by decide +kernel
theorem d_CA_finish_57 : decode c_CA_finish 57 = .ok (.new 104, 3) := by decide +kernel
theorem d_CA_finish_60 : decode c_CA_finish 60 = .ok (.dup, 1) := by decide +kernel
theorem d_CA_finish_61 : decode c_CA_finish 61 = .ok (.invokespecial 106, 3) := by decide +kernel
theorem d_CA_finish_64 : decode c_CA_finish 64 = .ok (.athrow, 1) := by decide +kernel
theorem d_CA_finish_65 : decode c_CA_finish 65 = .ok (.aload 5, 2) := by decide +kernel
theorem d_CA_finish_67 : decode c_CA_finish 67 = .ok (.getfield 181, 3) := by decide +kernel
theorem d_CA_finish_70 : decode c_CA_finish 70 = .ok (.iconst 1, 1) := by decide +kernel
theorem d_CA_finish_71 : decode c_CA_finish 71 = .ok (.if_icmp .ne 12, 3) := by decide +kernel
theorem d_CA_finish_74 : decode c_CA_finish 74 = .ok (.aload_n 0, 1) := by decide +kernel
theorem d_CA_finish_75 : decode c_CA_finish 75 = .ok (.getfield 182, 3) := by decide +kernel
theorem d_CA_finish_78 : decode c_CA_finish 78 = .ok (.bipush 12, 2) := by decide +kernel
theorem d_CA_finish_80 : decode c_CA_finish 80 = .ok (.if_icmp .lt 11, 3) := by decide +kernel
theorem d_CA_finish_83 : decode c_CA_finish 83 = .ok (.new 120, 3) := by decide +kernel
theorem d_CA_finish_86 : decode c_CA_finish 86 = .ok (.dup, 1) := by decide +kernel
theorem d_CA_finish_87 : decode c_CA_finish 87 = .ok (.invokespecial 122, 3) := by decide +kernel
theorem d_CA_finish_90 : decode c_CA_finish 90 = .ok (.athrow, 1) := by decide +kernel
theorem d_CA_finish_91 : decode c_CA_finish 91 = .ok (.aload_n 0, 1) := by decide +kernel
theorem d_CA_finish_92 : decode c_CA_finish 92 = .ok (.getfield 56, 3) := by decide +kernel
theorem d_CA_finish_95 : decode c_CA_finish 95 = .ok (.aload_n 0, 1) := by decide +kernel
theorem d_CA_finish_96 : decode c_CA_finish 96 = .ok (.getfield 49, 3) := by decide +kernel
theorem d_CA_finish_99 : decode c_CA_finish 99 = .ok (.invokevirtual 185, 3) := by decide +kernel
theorem d_CA_finish_102 : decode c_CA_finish 102 = .ok (.ifCond .eq 37, 3) := by decide +kernel
theorem d_CA_finish_105 : decode c_CA_finish 105 = .ok (.aload_n 0, 1) := by decide +kernel
theorem d_CA_finish_106 : decode c_CA_finish 106 = .ok (.getfield 56, 3) := by decide +kernel
theorem d_CA_finish_109 : decode c_CA_finish 109 = .ok (.getfield 189, 3) := by decide +kernel
theorem d_CA_finish_112 : decode c_CA_finish 112 = .ok (.aload 5, 2) := by decide +kernel
theorem d_CA_finish_114 : decode c_CA_finish 114 = .ok (.getfield 192, 3) := by decide +kernel
theorem d_CA_finish_117 : decode c_CA_finish 117 = .ok (.if_icmp .ne 22, 3) := by decide +kernel
theorem d_CA_finish_120 : decode c_CA_finish 120 = .ok (.aload_n 0, 1) := by decide +kernel
theorem d_CA_finish_121 : decode c_CA_finish 121 = .ok (.getfield 56, 3) := by decide +kernel
theorem d_CA_finish_124 : decode c_CA_finish 124 = .ok (.getfield 193, 3) := by decide +kernel
theorem d_CA_finish_127 : decode c_CA_finish 127 = .ok (.aload_n 0, 1) := by decide +kernel
theorem d_CA_finish_128 : decode c_CA_finish 128 = .ok (.getfield 11, 3) := by decide +kernel
theorem d_CA_finish_131 : decode c_CA_finish 131 = .ok (.iload_n 1, 1) := by decide +kernel
theorem d_CA_finish_132 : decode c_CA_finish 132 = .ok (.aaload, 1) := by decide +kernel
theorem d_CA_finish_133 : decode c_CA_finish 133 = .ok (.getfield 164, 3) := by decide +kernel
theorem d_CA_finish_136 : decode c_CA_finish 136 = .ok (.if_icmp .ne 11, 3) := by decide +kernel
theorem d_CA_finish_139 : decode c_CA_finish 139 = .ok (.new 93, 3) := by decide +kernel
theorem d_CA_finish_142 : decode c_CA_finish 142 = .ok (.dup, 1) := by decide +kernel
theorem d_CA_finish_143 : decode c_CA_finish 143 = .ok (.invokespecial 95, 3) := by decide +kernel
theorem d_CA_finish_146 : decode c_CA_finish 146 = .ok (.athrow, 1) := by decide +kernel
theorem d_CA_finish_147 : decode c_CA_finish 147 = .ok (.aload 5, 2) := by decide +kernel
theorem d_CA_finish_149 : decode c_CA_finish 149 = .ok (.iconst 2, 1) := by decide +kernel
theorem d_CA_finish_150 : decode c_CA_finish 150 = .ok (.putfield 181, 3) := by decide +kernel
theorem d_CA_finish_153 : decode c_CA_finish 153 = .ok (.aload 5, 2) := by decide +kernel
theorem d_CA_finish_155 : decode c_CA_finish 155 = .ok (.aload_n 0, 1) := by decide +kernel
theorem d_CA_finish_156 : decode c_CA_finish 156 = .ok (.iload_n 3, 1) := by decide +kernel
theorem d_CA_finish_157 : decode c_CA_finish 157 = .ok (.aload 5, 2) := by decide +kernel
theorem d_CA_finish_159 : decode c_CA_finish 159 = .ok (.getfield 192, 3) := by decide +kernel
theorem d_CA_finish_162 : decode c_CA_finish 162 = .ok (.aload_n 0, 1) := by decide +kernel
theorem d_CA_finish_163 : decode c_CA_finish 163 = .ok (.getfield 56, 3) := by decide +kernel
theorem d_CA_finish_166 : decode c_CA_finish 166 = .ok (.getfield 193, 3) := by decide +kernel
theorem d_CA_finish_169 : decode c_CA_finish 169 = .ok (.invokevirtual 194, 3) := by decide +kernel
theorem d_CA_finish_172 : decode c_CA_finish 172 = .ok (.putfield 197, 3) := by decide +kernel
theorem d_CA_finish_175 : decode c_CA_finish 175 = .ok (.aload 5, 2) := by decide +kernel
theorem d_CA_finish_177 : decode c_CA_finish 177 = .ok (.getfield 197, 3) := by decide +kernel
theorem d_CA_finish_180 : decode c_CA_finish 180 = .ok (.ireturn, 1) := by decide +kernel
def wp_CA_finish (post : Int32 → ST → Prop) (px : String → ST → Prop) (X : ST) (a1 : Int32) (a2 : Int32) (a3 : Int32) (a4 : Int32) : Prop := wp_CA_csr (fun (r2 : Int32) (X1 : ST) => wp_CA_digest (fun (r4 : Int32) (X3 : ST) => wp_CA_acceptSigned (fun (X5 : ST) => ((a3 < 0 → px "java/util/NoSuchElementException" X5) ∧ (¬ a3 < 0 → ((a3 < (X5 3 0) → (vp_in a3 12 ∧ (((X5 21 a3.toNatClampNeg) = a1 → (((X5 20 a3.toNatClampNeg) = (1 : Int32) → (((X5 5 0) < (12 : Int32) → wp_Req_readFrom (fun (r14 : Int32) (X13 : ST) => ((r14 = 0 → px "java/lang/IllegalArgumentException" X13) ∧ (¬ r14 = 0 → (((X13 65 0) = (X13 22 a3.toNatClampNeg) → (vp_in a1 6 ∧ (((X13 64 0) = (X13 11 a1.toNatClampNeg) → px "java/lang/IllegalArgumentException" X13) ∧ (¬ (X13 64 0) = (X13 11 a1.toNatClampNeg) → wp_CA_makeCertificate (fun (r20 : Int32) (X19 : ST) => post ((up X19 24 a3.toNatClampNeg r20) 24 a3.toNatClampNeg) (up X19 24 a3.toNatClampNeg r20)) (up X13 20 a3.toNatClampNeg (2 : Int32)) a3 (X13 22 a3.toNatClampNeg) (X13 64 0))))) ∧ (¬ (X13 65 0) = (X13 22 a3.toNatClampNeg) → px "java/lang/IllegalArgumentException" X13))))) X5) ∧ (¬ (X5 5 0) < (12 : Int32) → px "java/lang/IllegalStateException" X5))) ∧ (¬ (X5 20 a3.toNatClampNeg) = (1 : Int32) → px "java/lang/IllegalStateException" X5))) ∧ (¬ (X5 21 a3.toNatClampNeg) = a1 → px "java/lang/UnsupportedOperationException" X5)))) ∧ (¬ a3 < (X5 3 0) → px "java/util/NoSuchElementException" X5))))) px X3 a1 a2 r4 a4) X1 (4 : Int32) a1 a2 a3 r2) X
set_option maxHeartbeats 4000000 in
set_option maxRecDepth 100000 in
theorem mt_CA_finish (l : Launch) (hl9 : l.stackTraces = false) (dC : Nat → ClassId) (dI : Nat → Nat → Nat) (cA : Nat → ClassId) (ad : Nat → Nat) (hI : INJ ad 125) (sz : Nat) {X : ST} {a1 : Int32} {a2 : Int32} {a3 : Int32} {a4 : Int32} {post : Int32 → ST → Prop} {px : String → ST → Prop} (hw : wp_CA_finish post px X a1 a2 a3 a4) : xt_Met l y_CA_finish ws_CA_finish ({ frames := 7, cells := 2, slots := 12, locals := 122 } : Room) (va_Pc [.ref (ad 0), .int a1, .int a2, .int a3, .int a4] (fun U => PC dC dI cA ad sz X U)) (va_Qi (fun r (u : ST) => post r u) (fun (u : ST) t => va_P (dC, dI) vwCl (wdC cA ad u) t.heap) (CA ad 125 sz)) (xt_X (fun (u : String × ST) => px u.1 u.2) (fun E (u : String × ST) t => u.1 = E ∧ va_P (dC, dI) vwCl (wdC cA ad u.2) t.heap) (CA ad 125 sz)) 2 12 (CA ad 125 sz) := by
  refine xt_ofW (cc := c_CA_finish) (maxL := 6) (ret := (some .int)) (by decide) rfl ?_
  intro p e s m args below meth c s₁ B hml hEx hv
  obtain ⟨rfl, hsz, hP, hG⟩ := hv
  have hx := B.exec
  have hb := B.bytes
  have hr := B.returns
  have hts : ∀ w ∈ GW, w.before (([.ref (ad 0), .int a1, .int a2, .int a3, .int a4] : List Value).toArray) s = true := fun w h => atoms_spec (ws := ws_CA_finish) B.pre w (List.mem_cons_of_mem _ h)
  have hown : s.vm.findClass R_CA = some m.cls := findClass_of_methodNamed B.named
  have hlocks := B.notSynchronized
  subst hsz
  have hK := hG.1
  have hG9 := hG
  have hNW := hG.2.1
  have hD0 : ∀ (X : ST), va_D (CA ad 125 s.heap.size) (wdC cA ad X) := fun _ => zwC_D hI
  have hS : va_S (CA ad 125 s.heap.size) s.heap s.heap [] := va_S.rf
  have hl := lv_entry ([.ref (ad 0), .int a1, .int a2, .int a3, .int a4]) (n := 6) (Nat.le_of_ble_eq_true rfl)
  rw [lg_entry_eq]
  generalize (lg_sl ([.ref (ad 0), .int a1, .int a2, .int a3, .int a4]) ++ List.replicate (6 - (lg_sl ([.ref (ad 0), .int a1, .int a2, .int a3, .int a4])).length) Slot.unset).toArray = ls at hl ⊢
  have hl : lv_has ls 6 [(0, .ref (ad 0)), (1, .int a1), (2, .int a2), (3, .int a3), (4, .int a4)] := hl
  unfold wp_CA_finish at hw
  refine lv_aload_n hx hb d_CA_finish_0 rfl (lv_at hl 0 rfl) ?_
  refine lv_iload_n hx hb d_CA_finish_1 rfl (lv_at hl 1 rfl) ?_
  refine lv_iload_n hx hb d_CA_finish_2 rfl (lv_at hl 2 rfl) ?_
  refine lv_aload_n hx hb d_CA_finish_3 rfl (lv_at hl 0 rfl) ?_
  refine lv_iconst (v := (4 : Int32)) hx hb d_CA_finish_4 (by decide) ?_
  refine lv_iload_n hx hb d_CA_finish_5 rfl (lv_at hl 1 rfl) ?_
  refine lv_iload_n hx hb d_CA_finish_6 rfl (lv_at hl 2 rfl) ?_
  refine lv_iload_n hx hb d_CA_finish_7 rfl (lv_at hl 3 rfl) ?_
  refine lv_aload_n hx hb d_CA_finish_8 rfl (lv_at hl 0 rfl) ?_
  refine va_calli (va_runV (As := []) (rest := [.int a3, .int a2, .int a1, .int (4 : Int32), .ref (ad 0), .int a2, .int a1, .ref (ad 0)]) ⟨hx, hb, hml, hown, hts⟩ (mt_CA_csr l hl9 dC dI cA ad hI _ hw) (cwV 0 hts (gV gw_198 gw_199 gw_200 gw_13 gw_197) rfl rfl rfl (by decide +kernel) ⟨Nat.le_of_ble_eq_true rfl, Nat.le_of_ble_eq_true rfl⟩) ⟨zwC_blind, va_recv hK hP (ci := 0) (q0 := 0) rfl atC_CA, zwC_pre hP hS hG9⟩ rfl rfl hl.1 rfl (lv_room (Nat.le_of_ble_eq_true rfl)) d_CA_finish_9 ⟨Nat.le_of_ble_eq_true rfl, Nat.le_of_ble_eq_true rfl⟩) hS (fun q _ h => CA_le hS.1 q h) (fun q h => CA_le hS.1 q h) (fun r2 X1 t H locs ht hvm hw hP hz1 hk1 hS => ?_)
  have hP : va_P (dC, dI) vwCl (wdC cA ad X1) H := by rw [← ht]; exact hP
  try dsimp only at hw
  refine va_calli (va_runV (As := [.int (4 : Int32), .int a1, .int a2, .int a3, .int r2]) (rest := [.int a2, .int a1, .ref (ad 0)]) ⟨hx, hb, hml, hown, hts⟩ (mt_CA_digest l hl9 dC dI cA ad hI _ hw) (cwV 5 hts (gV gw_43 gw_44 gw_45 gw_13 gw_42) rfl rfl rfl (by decide +kernel) ⟨Nat.le_of_ble_eq_true rfl, Nat.le_of_ble_eq_true rfl⟩) ⟨zwC_blind, va_recv hK hP (ci := 0) (q0 := 0) rfl atC_CA, zwC_pre hP hS hG9⟩ rfl rfl hl.1 rfl (lv_room (Nat.le_of_ble_eq_true rfl)) d_CA_finish_12 ⟨Nat.le_of_ble_eq_true rfl, Nat.le_of_ble_eq_true rfl⟩) hS (fun q _ h => CA_le hS.1 q h) (fun q h => CA_le hS.1 q h) (fun r4 X3 t H locs ht hvm hw hP hz1 hk1 hS => ?_)
  have hP : va_P (dC, dI) vwCl (wdC cA ad X3) H := by rw [← ht]; exact hP
  try dsimp only at hw
  refine lv_iload hx hb d_CA_finish_15 (lv_at hl 4 rfl) ?_
  refine xt_callv (xt_runV (As := [.int a1, .int a2, .int r4, .int a4]) (rest := []) ⟨hx, hb, hml, hown, hts⟩ (mt_CA_acceptSigned l hl9 dC dI cA ad hI _ hw) (cwV 4 hts (gV gw_125 gw_126 gw_127 gw_13 gw_124) rfl rfl rfl (by decide +kernel) ⟨Nat.le_of_ble_eq_true rfl, Nat.le_of_ble_eq_true rfl⟩) ⟨zwC_blind, va_recv hK hP (ci := 0) (q0 := 0) rfl atC_CA, zwC_pre hP hS hG9⟩ rfl rfl hl.1 rfl (lv_room (Nat.le_of_ble_eq_true rfl)) d_CA_finish_17 ⟨Nat.le_of_ble_eq_true rfl, Nat.le_of_ble_eq_true rfl⟩) hS (fun q _ h => CA_le hS.1 q h) (fun q h => CA_le hS.1 q h) (fun q _ h => CA_le hS.1 q h) (fun E ce q9 u9 t H locs ht ha hw hB hz1 hk1 hS hce hcv hcl => ?_) (fun X5 t H locs ht hvm hw hP hz1 hk1 hS => ?_)
  · obtain ⟨E9, X9⟩ := u9
    obtain ⟨rfl, hP⟩ := hB
    exact xt_out (E := E9) (fun x hx => (hEx x hx).elim) hlocks hce hcv hcl (fun t9 ht9 ha9 => ⟨(E9, X9), hw, ⟨rfl, by show va_P _ _ _ t9.heap; rw [ht9, ← ht]; exact hP⟩, hS.F ht9⟩) hS.2.2 (Nat.le_of_ble_eq_true rfl) (Nat.le_of_ble_eq_true rfl)
  have hP : va_P (dC, dI) vwCl (wdC cA ad X5) H := by rw [← ht]; exact hP
  try dsimp only at hw
  refine lv_iload_n hx hb d_CA_finish_20 rfl (lv_at hl 3 rfl) ?_
  refine lv_if_lt (tgt := 32) hx hb d_CA_finish_21 (by decide) (fun c7 => ?_) (fun c7 => ?_)
  · have hw := hw.1 c7
    exact xt_throw0 (cls := "java/util/NoSuchElementException") (names := ["java/lang/RuntimeException", "java/lang/Exception"]) (ic := 179) hx hb hl9 hown (by decide +kernel) (by decide +kernel) (hts _ gw_64) (hts _ gw_65) (hts _ gw_66) (xc_hat xa_3 hts hG9 hP hS) (hl.1.trans hml.symm) d_CA_finish_32 d_CA_finish_35 d_CA_finish_36 d_CA_finish_39 (fun x hx => (hEx x hx).elim) hlocks (fun t ha hz hk => ⟨("java/util/NoSuchElementException", X5), hw, ⟨rfl, zw_keep hP hk⟩, zw_F hS hz hk⟩) hS.2.2 (Nat.le_of_ble_eq_true rfl) (Nat.le_of_ble_eq_true rfl) (Nat.le_of_ble_eq_true rfl) (Nat.le_of_ble_eq_true rfl) (Nat.le_of_ble_eq_true rfl) (Nat.le_of_ble_eq_true rfl)
  · have hw := hw.2 c7
    refine lv_iload_n hx hb d_CA_finish_24 rfl (lv_at hl 3 rfl) ?_
    refine lv_aload_n hx hb d_CA_finish_25 rfl (lv_at hl 0 rfl) ?_
    refine va_get (D := (dC, dI)) (ci := 0) (v := .int (X5 3 0)) (C := R_CA) (T := T_CA) (N := 14) hx hb hts in_CA hown hK hP (0) atC_CA rfl 3 (by decide) (hts _ gw_97) (fun _ h9 => h9) rfl d_CA_finish_26 ?_
    refine lv_icmp_lt (tgt := 40) hx hb d_CA_finish_29 (by decide) (fun c8 => ?_) (fun c8 => ?_)
    · have hw := hw.1 c8
      refine lv_aload_n hx hb d_CA_finish_40 rfl (lv_at hl 0 rfl) ?_
      refine va_get (D := (dC, dI)) (ci := 0) (v := .ref (ad 2)) (C := R_CA) (T := T_CA) (N := 14) hx hb hts in_CA hown hK hP (0) atC_CA rfl 7 (by decide) (hts _ gw_102) (fun _ h9 => h9) rfl d_CA_finish_41 ?_
      refine lv_iload_n hx hb d_CA_finish_44 rfl (lv_at hl 3 rfl) ?_
      obtain ⟨h9, hw⟩ := hw
      refine va_aldq hx hb hK hP (2) 1 atC_aOrd rfl h9 d_CA_finish_45 ?_
      refine W.eq (g2 := F0 m 46 ls [.ref (ad (17 + a3.toNatClampNeg))]) rfl ?_
      refine lv_astore (lv' := [(5, .ref (ad (17 + a3.toNatClampNeg))), (0, .ref (ad 0)), (1, .int a1), (2, .int a2), (3, .int a3), (4, .int a4)]) hx hb d_CA_finish_46 hl (by decide) rfl (fun ls hl => ?_)
      refine lv_aload hx hb d_CA_finish_48 (lv_at hl 0 rfl) ?_
      refine va_get (D := (dC, dI)) (ci := 5) (v := .int (X5 21 a3.toNatClampNeg)) (C := R_Ord) (T := T_Ord) (N := 7) hx hb hts in_Ord hown hK hP (17 + a3.toNatClampNeg) (atC_Ord (zw_lt h9)) rfl 1 (by decide) (hts _ gw_103) (fun _ h9 => h9) rfl d_CA_finish_50 ?_
      refine lv_iload_n hx hb d_CA_finish_53 rfl (lv_at hl 2 rfl) ?_
      refine lv_icmp_eq (tgt := 65) hx hb d_CA_finish_54 (by decide) (fun c10 => ?_) (fun c10 => ?_)
      · have hw := hw.1 c10
        refine lv_aload hx hb d_CA_finish_65 (lv_at hl 0 rfl) ?_
        refine va_get (D := (dC, dI)) (ci := 5) (v := .int (X5 20 a3.toNatClampNeg)) (C := R_Ord) (T := T_Ord) (N := 7) hx hb hts in_Ord hown hK hP (17 + a3.toNatClampNeg) (atC_Ord (zw_lt h9)) rfl 0 (by decide) (hts _ gw_109) (fun _ h9 => h9) rfl d_CA_finish_67 ?_
        refine lv_iconst (v := (1 : Int32)) hx hb d_CA_finish_70 (by decide) ?_
        refine lv_icmp_ne (tgt := 83) hx hb d_CA_finish_71 (by decide) (fun c11 => ?_) (fun c11 => ?_)
        · have hw := hw.2 c11
          exact xt_throw0 (cls := "java/lang/IllegalStateException") (names := ["java/lang/RuntimeException", "java/lang/Exception"]) (ic := 122) hx hb hl9 hown (by decide +kernel) (by decide +kernel) (hts _ gw_60) (hts _ gw_61) (hts _ gw_62) (xc_hat xa_2 hts hG9 hP hS) (hl.1.trans hml.symm) d_CA_finish_83 d_CA_finish_86 d_CA_finish_87 d_CA_finish_90 (fun x hx => (hEx x hx).elim) hlocks (fun t ha hz hk => ⟨("java/lang/IllegalStateException", X5), hw, ⟨rfl, zw_keep hP hk⟩, zw_F hS hz hk⟩) hS.2.2 (Nat.le_of_ble_eq_true rfl) (Nat.le_of_ble_eq_true rfl) (Nat.le_of_ble_eq_true rfl) (Nat.le_of_ble_eq_true rfl) (Nat.le_of_ble_eq_true rfl) (Nat.le_of_ble_eq_true rfl)
        · have hw := hw.1 c11
          refine lv_aload_n hx hb d_CA_finish_74 rfl (lv_at hl 1 rfl) ?_
          refine va_get (D := (dC, dI)) (ci := 0) (v := .int (X5 5 0)) (C := R_CA) (T := T_CA) (N := 14) hx hb hts in_CA hown hK hP (0) atC_CA rfl 5 (by decide) (hts _ gw_192) (fun _ h9 => h9) rfl d_CA_finish_75 ?_
          refine lv_bipush (v := (12 : Int32)) hx hb d_CA_finish_78 (by decide) ?_
          refine lv_icmp_lt (tgt := 91) hx hb d_CA_finish_80 (by decide) (fun c12 => ?_) (fun c12 => ?_)
          · have hw := hw.1 c12
            refine lv_aload_n hx hb d_CA_finish_91 rfl (lv_at hl 1 rfl) ?_
            refine va_get (D := (dC, dI)) (ci := 0) (v := .ref (ad 10)) (C := R_CA) (T := T_CA) (N := 14) hx hb hts in_CA hown hK hP (0) atC_CA rfl 13 (by decide) (hts _ gw_201) (fun _ h9 => h9) rfl d_CA_finish_92 ?_
            refine lv_aload_n hx hb d_CA_finish_95 rfl (lv_at hl 1 rfl) ?_
            refine va_get (D := (dC, dI)) (ci := 0) (v := .ref (ad 8)) (C := R_CA) (T := T_CA) (N := 14) hx hb hts in_CA hown hK hP (0) atC_CA rfl 12 (by decide) (hts _ gw_153) (fun _ h9 => h9) rfl d_CA_finish_96 ?_
            refine va_calli (va_runV (As := [.ref (ad 8)]) (rest := []) ⟨hx, hb, hml, hown, hts⟩ (mt_Req_readFrom l hl9 dC dI cA ad hI _ hw) (cwV 1 hts (gV gw_203 gw_204 gw_205 gw_164 gw_202) rfl rfl rfl (by decide +kernel) ⟨Nat.le_of_ble_eq_true rfl, Nat.le_of_ble_eq_true rfl⟩) ⟨zwC_blind, va_recv hK hP (ci := 3) (q0 := 10) rfl atC_Req, zwC_pre hP hS hG9⟩ rfl rfl hl.1 rfl (lv_room (Nat.le_of_ble_eq_true rfl)) d_CA_finish_99 ⟨Nat.le_of_ble_eq_true rfl, Nat.le_of_ble_eq_true rfl⟩) hS (fun q _ h => CA_le hS.1 q h) (fun q h => CA_le hS.1 q h) (fun r14 X13 t H locs ht hvm hw hP hz1 hk1 hS => ?_)
            have hP : va_P (dC, dI) vwCl (wdC cA ad X13) H := by rw [← ht]; exact hP
            try dsimp only at hw
            refine lv_if_eq (tgt := 139) hx hb d_CA_finish_102 (by decide) (fun c15 => ?_) (fun c15 => ?_)
            · have hw := hw.1 c15
              exact xt_throw0 (cls := "java/lang/IllegalArgumentException") (names := ["java/lang/RuntimeException", "java/lang/Exception"]) (ic := 95) hx hb hl9 hown (by decide +kernel) (by decide +kernel) (hts _ gw_39) (hts _ gw_40) (hts _ gw_41) (xc_hat xa_0 hts hG9 hP hS) (hl.1.trans hml.symm) d_CA_finish_139 d_CA_finish_142 d_CA_finish_143 d_CA_finish_146 (fun x hx => (hEx x hx).elim) hlocks (fun t ha hz hk => ⟨("java/lang/IllegalArgumentException", X13), hw, ⟨rfl, zw_keep hP hk⟩, zw_F hS hz hk⟩) hS.2.2 (Nat.le_of_ble_eq_true rfl) (Nat.le_of_ble_eq_true rfl) (Nat.le_of_ble_eq_true rfl) (Nat.le_of_ble_eq_true rfl) (Nat.le_of_ble_eq_true rfl) (Nat.le_of_ble_eq_true rfl)
            · have hw := hw.2 c15
              refine lv_aload_n hx hb d_CA_finish_105 rfl (lv_at hl 1 rfl) ?_
              refine va_get (D := (dC, dI)) (ci := 0) (v := .ref (ad 10)) (C := R_CA) (T := T_CA) (N := 14) hx hb hts in_CA hown hK hP (0) atC_CA rfl 13 (by decide) (hts _ gw_201) (fun _ h9 => h9) rfl d_CA_finish_106 ?_
              refine va_get (D := (dC, dI)) (ci := 3) (v := .int (X13 65 0)) (C := R_Req) (T := T_Req) (N := 4) hx hb hts in_Req hown hK hP (10) atC_Req rfl 1 (by decide) (hts _ gw_206) (fun _ h9 => h9) rfl d_CA_finish_109 ?_
              refine lv_aload hx hb d_CA_finish_112 (lv_at hl 0 rfl) ?_
              refine va_get (D := (dC, dI)) (ci := 5) (v := .int (X13 22 a3.toNatClampNeg)) (C := R_Ord) (T := T_Ord) (N := 7) hx hb hts in_Ord hown hK hP (17 + a3.toNatClampNeg) (atC_Ord (zw_lt h9)) rfl 2 (by decide) (hts _ gw_104) (fun _ h9 => h9) rfl d_CA_finish_114 ?_
              refine lv_icmp_ne (tgt := 139) hx hb d_CA_finish_117 (by decide) (fun c16 => ?_) (fun c16 => ?_)
              · have hw := hw.2 c16
                exact xt_throw0 (cls := "java/lang/IllegalArgumentException") (names := ["java/lang/RuntimeException", "java/lang/Exception"]) (ic := 95) hx hb hl9 hown (by decide +kernel) (by decide +kernel) (hts _ gw_39) (hts _ gw_40) (hts _ gw_41) (xc_hat xa_0 hts hG9 hP hS) (hl.1.trans hml.symm) d_CA_finish_139 d_CA_finish_142 d_CA_finish_143 d_CA_finish_146 (fun x hx => (hEx x hx).elim) hlocks (fun t ha hz hk => ⟨("java/lang/IllegalArgumentException", X13), hw, ⟨rfl, zw_keep hP hk⟩, zw_F hS hz hk⟩) hS.2.2 (Nat.le_of_ble_eq_true rfl) (Nat.le_of_ble_eq_true rfl) (Nat.le_of_ble_eq_true rfl) (Nat.le_of_ble_eq_true rfl) (Nat.le_of_ble_eq_true rfl) (Nat.le_of_ble_eq_true rfl)
              · have hw := hw.1 c16
                refine lv_aload_n hx hb d_CA_finish_120 rfl (lv_at hl 1 rfl) ?_
                refine va_get (D := (dC, dI)) (ci := 0) (v := .ref (ad 10)) (C := R_CA) (T := T_CA) (N := 14) hx hb hts in_CA hown hK hP (0) atC_CA rfl 13 (by decide) (hts _ gw_201) (fun _ h9 => h9) rfl d_CA_finish_121 ?_
                refine va_get (D := (dC, dI)) (ci := 3) (v := .int (X13 64 0)) (C := R_Req) (T := T_Req) (N := 4) hx hb hts in_Req hown hK hP (10) atC_Req rfl 0 (by decide) (hts _ gw_207) (fun _ h9 => h9) rfl d_CA_finish_124 ?_
                refine lv_aload_n hx hb d_CA_finish_127 rfl (lv_at hl 1 rfl) ?_
                refine va_get (D := (dC, dI)) (ci := 0) (v := .ref (ad 1)) (C := R_CA) (T := T_CA) (N := 14) hx hb hts in_CA hown hK hP (0) atC_CA rfl 6 (by decide) (hts _ gw_33) (fun _ h9 => h9) rfl d_CA_finish_128 ?_
                refine lv_iload_n hx hb d_CA_finish_131 rfl (lv_at hl 2 rfl) ?_
                obtain ⟨h17, hw⟩ := hw
                refine va_aldq hx hb hK hP (1) 0 atC_aAcc rfl h17 d_CA_finish_132 ?_
                refine W.eq (g2 := F0 m 133 ls [.ref (ad (11 + a1.toNatClampNeg)), .int (X13 64 0)]) rfl ?_
                refine va_get (D := (dC, dI)) (ci := 4) (v := .int (X13 11 a1.toNatClampNeg)) (C := R_Acc) (T := T_Acc) (N := 2) hx hb hts in_Acc hown hK hP (11 + a1.toNatClampNeg) (atC_Acc (zw_lt h17)) rfl 1 (by decide) (hts _ gw_34) (fun _ h9 => h9) rfl d_CA_finish_133 ?_
                refine lv_icmp_ne (tgt := 147) hx hb d_CA_finish_136 (by decide) (fun c18 => ?_) (fun c18 => ?_)
                · have hw := hw.2 c18
                  refine lv_aload hx hb d_CA_finish_147 (lv_at hl 0 rfl) ?_
                  refine lv_iconst (v := (2 : Int32)) hx hb d_CA_finish_149 (by decide) ?_
                  refine va_put (D := (dC, dI)) (ci := 5) (v := .int (2 : Int32)) (ty := .int) (C := R_Ord) (T := T_Ord) (N := 7) hx hb hts in_Ord ty_Ord ty_Ord_ok nm_Ord hown hK hP (hD0 _) hS (17 + a3.toNatClampNeg) (atC_Ord (zw_lt h9)) rfl 0 (by decide) (hts _ gw_109) (fun _ h9 => h9) rfl (by decide +kernel) rfl rfl (Nat.le_of_ble_eq_true rfl) d_CA_finish_150 (fun H locs hP _ hS => ?_)
                  have hP : va_P (dC, dI) vwCl (wdC cA ad (up X13 20 a3.toNatClampNeg (2 : Int32))) H := by rw [← stC_Ord_0 (zw_lt h9)]; exact hP
                  refine lv_aload hx hb d_CA_finish_153 (lv_at hl 0 rfl) ?_
                  refine lv_aload_n hx hb d_CA_finish_155 rfl (lv_at hl 1 rfl) ?_
                  refine lv_iload_n hx hb d_CA_finish_156 rfl (lv_at hl 4 rfl) ?_
                  refine lv_aload hx hb d_CA_finish_157 (lv_at hl 0 rfl) ?_
                  refine va_get (D := (dC, dI)) (ci := 5) (v := .int (X13 22 a3.toNatClampNeg)) (C := R_Ord) (T := T_Ord) (N := 7) hx hb hts in_Ord hown hK hP (17 + a3.toNatClampNeg) (atC_Ord (zw_lt h9)) rfl 2 (by decide) (hts _ gw_104) (fun _ h9 => h9) rfl d_CA_finish_159 ?_
                  refine lv_aload_n hx hb d_CA_finish_162 rfl (lv_at hl 1 rfl) ?_
                  refine va_get (D := (dC, dI)) (ci := 0) (v := .ref (ad 10)) (C := R_CA) (T := T_CA) (N := 14) hx hb hts in_CA hown hK hP (0) atC_CA rfl 13 (by decide) (hts _ gw_201) (fun _ h9 => h9) rfl d_CA_finish_163 ?_
                  refine va_get (D := (dC, dI)) (ci := 3) (v := .int (X13 64 0)) (C := R_Req) (T := T_Req) (N := 4) hx hb hts in_Req hown hK hP (10) atC_Req rfl 0 (by decide) (hts _ gw_207) (fun _ h9 => h9) rfl d_CA_finish_166 ?_
                  refine va_calli (va_runV (As := [.int a3, .int (X13 22 a3.toNatClampNeg), .int (X13 64 0)]) (rest := [.ref (ad (17 + a3.toNatClampNeg))]) ⟨hx, hb, hml, hown, hts⟩ (mt_CA_makeCertificate l hl9 dC dI cA ad hI _ hw) (cwV 3 hts (gV gw_209 gw_210 gw_211 gw_13 gw_208) rfl rfl rfl (by decide +kernel) ⟨Nat.le_of_ble_eq_true rfl, Nat.le_of_ble_eq_true rfl⟩) ⟨zwC_blind, va_recv hK hP (ci := 0) (q0 := 0) rfl atC_CA, zwC_pre hP hS hG9⟩ rfl rfl hl.1 rfl (lv_room (Nat.le_of_ble_eq_true rfl)) d_CA_finish_169 ⟨Nat.le_of_ble_eq_true rfl, Nat.le_of_ble_eq_true rfl⟩) hS (fun q _ h => CA_le hS.1 q h) (fun q h => CA_le hS.1 q h) (fun r20 X19 t H locs ht hvm hw hP hz1 hk1 hS => ?_)
                  have hP : va_P (dC, dI) vwCl (wdC cA ad X19) H := by rw [← ht]; exact hP
                  try dsimp only at hw
                  refine va_put (D := (dC, dI)) (ci := 5) (v := .int r20) (ty := .int) (C := R_Ord) (T := T_Ord) (N := 7) hx hb hts in_Ord ty_Ord ty_Ord_ok nm_Ord hown hK hP (hD0 _) hS (17 + a3.toNatClampNeg) (atC_Ord (zw_lt h9)) rfl 4 (by decide) (hts _ gw_212) (fun _ h9 => h9) rfl (by decide +kernel) rfl rfl (Nat.le_of_ble_eq_true rfl) d_CA_finish_172 (fun H locs hP _ hS => ?_)
                  have hP : va_P (dC, dI) vwCl (wdC cA ad (up X19 24 a3.toNatClampNeg r20)) H := by rw [← stC_Ord_4 (zw_lt h9)]; exact hP
                  refine lv_aload hx hb d_CA_finish_175 (lv_at hl 0 rfl) ?_
                  refine va_get (D := (dC, dI)) (ci := 5) (v := .int ((up X19 24 a3.toNatClampNeg r20) 24 a3.toNatClampNeg)) (C := R_Ord) (T := T_Ord) (N := 7) hx hb hts in_Ord hown hK hP (17 + a3.toNatClampNeg) (atC_Ord (zw_lt h9)) rfl 4 (by decide) (hts _ gw_212) (fun _ h9 => h9) rfl d_CA_finish_177 ?_
                  refine xt_ret ?_
                  refine W.widen (k := 2) (n := 12) (Nat.le_of_ble_eq_true rfl) (Nat.le_of_ble_eq_true rfl) ?_
                  exact W.iret (v := (up X19 24 a3.toNatClampNeg r20) 24 a3.toNatClampNeg) hx hb hr (fun t ht _ => ⟨⟨(up X19 24 a3.toNatClampNeg r20) 24 a3.toNatClampNeg, up X19 24 a3.toNatClampNeg r20, rfl, hw, by show va_P _ _ _ t.heap; rw [ht]; exact hP⟩, hS.F ht⟩) hS.2.2 d_CA_finish_180
                · have hw := hw.1 c18
                  exact xt_throw0 (cls := "java/lang/IllegalArgumentException") (names := ["java/lang/RuntimeException", "java/lang/Exception"]) (ic := 95) hx hb hl9 hown (by decide +kernel) (by decide +kernel) (hts _ gw_39) (hts _ gw_40) (hts _ gw_41) (xc_hat xa_0 hts hG9 hP hS) (hl.1.trans hml.symm) d_CA_finish_139 d_CA_finish_142 d_CA_finish_143 d_CA_finish_146 (fun x hx => (hEx x hx).elim) hlocks (fun t ha hz hk => ⟨("java/lang/IllegalArgumentException", X13), hw, ⟨rfl, zw_keep hP hk⟩, zw_F hS hz hk⟩) hS.2.2 (Nat.le_of_ble_eq_true rfl) (Nat.le_of_ble_eq_true rfl) (Nat.le_of_ble_eq_true rfl) (Nat.le_of_ble_eq_true rfl) (Nat.le_of_ble_eq_true rfl) (Nat.le_of_ble_eq_true rfl)
          · have hw := hw.2 c12
            exact xt_throw0 (cls := "java/lang/IllegalStateException") (names := ["java/lang/RuntimeException", "java/lang/Exception"]) (ic := 122) hx hb hl9 hown (by decide +kernel) (by decide +kernel) (hts _ gw_60) (hts _ gw_61) (hts _ gw_62) (xc_hat xa_2 hts hG9 hP hS) (hl.1.trans hml.symm) d_CA_finish_83 d_CA_finish_86 d_CA_finish_87 d_CA_finish_90 (fun x hx => (hEx x hx).elim) hlocks (fun t ha hz hk => ⟨("java/lang/IllegalStateException", X5), hw, ⟨rfl, zw_keep hP hk⟩, zw_F hS hz hk⟩) hS.2.2 (Nat.le_of_ble_eq_true rfl) (Nat.le_of_ble_eq_true rfl) (Nat.le_of_ble_eq_true rfl) (Nat.le_of_ble_eq_true rfl) (Nat.le_of_ble_eq_true rfl) (Nat.le_of_ble_eq_true rfl)
      · have hw := hw.2 c10
        exact xt_throw0 (cls := "java/lang/UnsupportedOperationException") (names := ["java/lang/RuntimeException", "java/lang/Exception"]) (ic := 106) hx hb hl9 hown (by decide +kernel) (by decide +kernel) (hts _ gw_49) (hts _ gw_50) (hts _ gw_51) (xc_hat xa_1 hts hG9 hP hS) (hl.1.trans hml.symm) d_CA_finish_57 d_CA_finish_60 d_CA_finish_61 d_CA_finish_64 (fun x hx => (hEx x hx).elim) hlocks (fun t ha hz hk => ⟨("java/lang/UnsupportedOperationException", X5), hw, ⟨rfl, zw_keep hP hk⟩, zw_F hS hz hk⟩) hS.2.2 (Nat.le_of_ble_eq_true rfl) (Nat.le_of_ble_eq_true rfl) (Nat.le_of_ble_eq_true rfl) (Nat.le_of_ble_eq_true rfl) (Nat.le_of_ble_eq_true rfl) (Nat.le_of_ble_eq_true rfl)
    · have hw := hw.2 c8
      exact xt_throw0 (cls := "java/util/NoSuchElementException") (names := ["java/lang/RuntimeException", "java/lang/Exception"]) (ic := 179) hx hb hl9 hown (by decide +kernel) (by decide +kernel) (hts _ gw_64) (hts _ gw_65) (hts _ gw_66) (xc_hat xa_3 hts hG9 hP hS) (hl.1.trans hml.symm) d_CA_finish_32 d_CA_finish_35 d_CA_finish_36 d_CA_finish_39 (fun x hx => (hEx x hx).elim) hlocks (fun t ha hz hk => ⟨("java/util/NoSuchElementException", X5), hw, ⟨rfl, zw_keep hP hk⟩, zw_F hS hz hk⟩) hS.2.2 (Nat.le_of_ble_eq_true rfl) (Nat.le_of_ble_eq_true rfl) (Nat.le_of_ble_eq_true rfl) (Nat.le_of_ble_eq_true rfl) (Nat.le_of_ble_eq_true rfl) (Nat.le_of_ble_eq_true rfl)
def ws_CA_publish : List Cond := Cond.code y_CA_publish c_CA_publish 3 (Option.some Jvm.ClassFile.FieldType.int) :: GW
theorem d_CA_publish_0 : decode c_CA_publish 0 = .ok (.iconst 0, 1) := by decide +kernel
theorem d_CA_publish_1 : decode c_CA_publish 1 = .ok (.istore_n 1, 1) := by decide +kernel
theorem d_CA_publish_2 : decode c_CA_publish 2 = .ok (.iconst 0, 1) := by decide +kernel
theorem d_CA_publish_3 : decode c_CA_publish 3 = .ok (.istore_n 2, 1) := by decide +kernel
theorem d_CA_publish_4 : decode c_CA_publish 4 = .ok (.iload_n 2, 1) := by decide +kernel
theorem d_CA_publish_5 : decode c_CA_publish 5 = .ok (.aload_n 0, 1) := by decide +kernel
theorem d_CA_publish_6 : decode c_CA_publish 6 = .ok (.getfield 133, 3) := by decide +kernel
theorem d_CA_publish_9 : decode c_CA_publish 9 = .ok (.if_icmp .ge 35, 3) := by decide +kernel
theorem d_CA_publish_12 : decode c_CA_publish 12 = .ok (.aload_n 0, 1) := by decide +kernel
theorem d_CA_publish_13 : decode c_CA_publish 13 = .ok (.getfield 17, 3) := by decide +kernel
theorem d_CA_publish_16 : decode c_CA_publish 16 = .ok (.iload_n 2, 1) := by decide +kernel
theorem d_CA_publish_17 : decode c_CA_publish 17 = .ok (.aaload, 1) := by decide +kernel
theorem d_CA_publish_18 : decode c_CA_publish 18 = .ok (.getfield 181, 3) := by decide +kernel
theorem d_CA_publish_21 : decode c_CA_publish 21 = .ok (.iconst 2, 1) := by decide +kernel
theorem d_CA_publish_22 : decode c_CA_publish 22 = .ok (.if_icmp .ne 16, 3) := by decide +kernel
theorem d_CA_publish_25 : decode c_CA_publish 25 = .ok (.aload_n 0, 1) := by decide +kernel
theorem d_CA_publish_26 : decode c_CA_publish 26 = .ok (.getfield 17, 3) := by decide +kernel
theorem d_CA_publish_29 : decode c_CA_publish 29 = .ok (.iload_n 2, 1) := by decide +kernel
theorem d_CA_publish_30 : decode c_CA_publish 30 = .ok (.aaload, 1) := by decide +kernel
theorem d_CA_publish_31 : decode c_CA_publish 31 = .ok (.iconst 3, 1) := by decide +kernel
theorem d_CA_publish_32 : decode c_CA_publish 32 = .ok (.putfield 181, 3) := by decide +kernel
theorem d_CA_publish_35 : decode c_CA_publish 35 = .ok (.iinc 1 1, 3) := by decide +kernel
theorem d_CA_publish_38 : decode c_CA_publish 38 = .ok (.iinc 2 1, 3) := by decide +kernel
theorem d_CA_publish_41 : decode c_CA_publish 41 = .ok (.goto (-37), 3) := by decide +kernel
theorem d_CA_publish_44 : decode c_CA_publish 44 = .ok (.iload_n 1, 1) := by decide +kernel
theorem d_CA_publish_45 : decode c_CA_publish 45 = .ok (.ireturn, 1) := by decide +kernel
def wq_CA_publish_4 (post : Int32 → ST → Prop) : Nat → Int32 → Int32 → ST → Prop
  | 0 => fun _ _ _ => False
  | n + 1 => fun v1 v2 X => (((X 3 0) ≤ v2 → post v1 X) ∧ (¬ (X 3 0) ≤ v2 → (vp_in v2 12 ∧ (((X 20 v2.toNatClampNeg) = (2 : Int32) → wq_CA_publish_4 post n (v1 + (1 : Int32)) (v2 + (1 : Int32)) (up X 20 v2.toNatClampNeg (3 : Int32))) ∧ (¬ (X 20 v2.toNatClampNeg) = (2 : Int32) → wq_CA_publish_4 post n v1 (v2 + (1 : Int32)) X)))))
def wp_CA_publish (post : Int32 → ST → Prop) (X : ST) : Prop := (∃ n9, wq_CA_publish_4 post n9 (0 : Int32) (0 : Int32) X)
set_option maxHeartbeats 4000000 in
set_option maxRecDepth 100000 in
theorem mt_CA_publish (l : Launch) (hl9 : l.stackTraces = false) (dC : Nat → ClassId) (dI : Nat → Nat → Nat) (cA : Nat → ClassId) (ad : Nat → Nat) (hI : INJ ad 125) (sz : Nat) {X : ST} {post : Int32 → ST → Prop} (hw : wp_CA_publish post X) : Met l y_CA_publish ws_CA_publish ({ frames := 0, cells := 0, slots := 0, locals := 0 } : Room) (va_Pc [.ref (ad 0)] (fun U => PC dC dI cA ad sz X U)) (va_Qi (fun r (u : ST) => post r u) (fun (u : ST) t => va_P (dC, dI) vwCl (wdC cA ad u) t.heap) (CA ad 125 sz)) 0 0 (CA ad 125 sz) := by
  refine Met.ofW (cc := c_CA_publish) (maxL := 3) (ret := (some .int)) (by decide) rfl ?_
  intro p e s m args below meth c s₁ B hml hv
  obtain ⟨rfl, hsz, hP, hG⟩ := hv
  have hx := B.exec
  have hb := B.bytes
  have hr := B.returns
  have hts : ∀ w ∈ GW, w.before (([.ref (ad 0)] : List Value).toArray) s = true := fun w h => atoms_spec (ws := ws_CA_publish) B.pre w (List.mem_cons_of_mem _ h)
  have hown : s.vm.findClass R_CA = some m.cls := findClass_of_methodNamed B.named
  have hlocks := B.notSynchronized
  subst hsz
  have hK := hG.1
  have hG9 := hG
  have hNW := hG.2.1
  have hD0 : ∀ (X : ST), va_D (CA ad 125 s.heap.size) (wdC cA ad X) := fun _ => zwC_D hI
  have hS : va_S (CA ad 125 s.heap.size) s.heap s.heap [] := va_S.rf
  have hl := lv_entry ([.ref (ad 0)]) (n := 3) (Nat.le_of_ble_eq_true rfl)
  rw [lg_entry_eq]
  generalize (lg_sl ([.ref (ad 0)]) ++ List.replicate (3 - (lg_sl ([.ref (ad 0)])).length) Slot.unset).toArray = ls at hl ⊢
  have hl : lv_has ls 3 [(0, .ref (ad 0))] := hl
  have L4 : ∀ (n : Nat), ∀ (v1 : Int32) (v2 : Int32) (X : ST) (H : Heap) (locs : List Loc) (ls : Array Slot), wq_CA_publish_4 post n v1 v2 X → va_P (dC, dI) vwCl (wdC cA ad X) H → va_S (CA ad 125 s.heap.size) s.heap H locs → lv_has ls 3 [(0, .ref (ad 0)), (1, .int v1), (2, .int v2)] → W p l e (headSpec ws_CA_publish ({ frames := 0, cells := 0, slots := 0, locals := 0 } : Room)).room s m (([.ref (ad 0)] : List Value).toArray) below meth c H locs 0 0 (MQ below (va_Qi (fun r (u : ST) => post r u) (fun (u : ST) t => va_P (dC, dI) vwCl (wdC cA ad u) t.heap) (CA ad 125 s.heap.size)) (([.ref (ad 0)] : List Value).toArray) s 0 0 (CA ad 125 s.heap.size)) (F0 m 4 ls []) := by
    intro n
    induction n with
    | zero => intro v1 v2 X H locs ls hw hP hS hl; exact False.elim hw
    | succ n ih =>
      intro v1 v2 X H locs ls hw hP hS hl
      dsimp only [wq_CA_publish_4] at hw
      refine lv_iload_n hx hb d_CA_publish_4 rfl (lv_at hl 2 rfl) ?_
      refine lv_aload_n hx hb d_CA_publish_5 rfl (lv_at hl 0 rfl) ?_
      refine va_get (D := (dC, dI)) (ci := 0) (v := .int (X 3 0)) (C := R_CA) (T := T_CA) (N := 14) hx hb hts in_CA hown hK hP (0) atC_CA rfl 3 (by decide) (hts _ gw_97) (fun _ h9 => h9) rfl d_CA_publish_6 ?_
      refine lv_icmp_ge (tgt := 44) hx hb d_CA_publish_9 (by decide) (fun c1 => ?_) (fun c1 => ?_)
      · have hw := hw.1 c1
        refine lv_iload_n hx hb d_CA_publish_44 rfl (lv_at hl 1 rfl) ?_
        exact W.iret (v := v1) hx hb hr (fun t ht _ => ⟨⟨v1, X, rfl, hw, by show va_P _ _ _ t.heap; rw [ht]; exact hP⟩, hS.F ht⟩) hS.2.2 d_CA_publish_45
      · have hw := hw.2 c1
        refine lv_aload_n hx hb d_CA_publish_12 rfl (lv_at hl 0 rfl) ?_
        refine va_get (D := (dC, dI)) (ci := 0) (v := .ref (ad 2)) (C := R_CA) (T := T_CA) (N := 14) hx hb hts in_CA hown hK hP (0) atC_CA rfl 7 (by decide) (hts _ gw_102) (fun _ h9 => h9) rfl d_CA_publish_13 ?_
        refine lv_iload_n hx hb d_CA_publish_16 rfl (lv_at hl 2 rfl) ?_
        obtain ⟨h2, hw⟩ := hw
        refine va_aldq hx hb hK hP (2) 1 atC_aOrd rfl h2 d_CA_publish_17 ?_
        refine W.eq (g2 := F0 m 18 ls [.ref (ad (17 + v2.toNatClampNeg))]) rfl ?_
        refine va_get (D := (dC, dI)) (ci := 5) (v := .int (X 20 v2.toNatClampNeg)) (C := R_Ord) (T := T_Ord) (N := 7) hx hb hts in_Ord hown hK hP (17 + v2.toNatClampNeg) (atC_Ord (zw_lt h2)) rfl 0 (by decide) (hts _ gw_109) (fun _ h9 => h9) rfl d_CA_publish_18 ?_
        refine lv_iconst (v := (2 : Int32)) hx hb d_CA_publish_21 (by decide) ?_
        refine lv_icmp_ne (tgt := 38) hx hb d_CA_publish_22 (by decide) (fun c3 => ?_) (fun c3 => ?_)
        · have hw := hw.2 c3
          refine lv_iinc (k := 2) (v := v2 + (1 : Int32)) (lv' := [(2, .int (v2 + (1 : Int32))), (0, .ref (ad 0)), (1, .int v1)]) hx hb d_CA_publish_38 hl rfl rfl (by decide) rfl (fun ls hl => ?_)
          refine lv_goto (tgt := 4) hx hb d_CA_publish_41 (by decide) ?_
          have hl := lv_sub hl (l' := [(0, .ref (ad 0)), (1, .int v1), (2, .int (v2 + (1 : Int32)))]) [1, 2, 0] rfl
          exact ih _ _ _ _ _ _ hw hP hS hl
        · have hw := hw.1 c3
          refine lv_aload_n hx hb d_CA_publish_25 rfl (lv_at hl 0 rfl) ?_
          refine va_get (D := (dC, dI)) (ci := 0) (v := .ref (ad 2)) (C := R_CA) (T := T_CA) (N := 14) hx hb hts in_CA hown hK hP (0) atC_CA rfl 7 (by decide) (hts _ gw_102) (fun _ h9 => h9) rfl d_CA_publish_26 ?_
          refine lv_iload_n hx hb d_CA_publish_29 rfl (lv_at hl 2 rfl) ?_
          refine va_aldq hx hb hK hP (2) 1 atC_aOrd rfl h2 d_CA_publish_30 ?_
          refine W.eq (g2 := F0 m 31 ls [.ref (ad (17 + v2.toNatClampNeg))]) rfl ?_
          refine lv_iconst (v := (3 : Int32)) hx hb d_CA_publish_31 (by decide) ?_
          refine va_put (D := (dC, dI)) (ci := 5) (v := .int (3 : Int32)) (ty := .int) (C := R_Ord) (T := T_Ord) (N := 7) hx hb hts in_Ord ty_Ord ty_Ord_ok nm_Ord hown hK hP (hD0 _) hS (17 + v2.toNatClampNeg) (atC_Ord (zw_lt h2)) rfl 0 (by decide) (hts _ gw_109) (fun _ h9 => h9) rfl (by decide +kernel) rfl rfl (Nat.le_of_ble_eq_true rfl) d_CA_publish_32 (fun H locs hP _ hS => ?_)
          have hP : va_P (dC, dI) vwCl (wdC cA ad (up X 20 v2.toNatClampNeg (3 : Int32))) H := by rw [← stC_Ord_0 (zw_lt h2)]; exact hP
          refine lv_iinc (k := 1) (v := v1 + (1 : Int32)) (lv' := [(1, .int (v1 + (1 : Int32))), (0, .ref (ad 0)), (2, .int v2)]) hx hb d_CA_publish_35 hl rfl rfl (by decide) rfl (fun ls hl => ?_)
          refine lv_iinc (k := 2) (v := v2 + (1 : Int32)) (lv' := [(2, .int (v2 + (1 : Int32))), (1, .int (v1 + (1 : Int32))), (0, .ref (ad 0))]) hx hb d_CA_publish_38 hl rfl rfl (by decide) rfl (fun ls hl => ?_)
          refine lv_goto (tgt := 4) hx hb d_CA_publish_41 (by decide) ?_
          have hl := lv_sub hl (l' := [(0, .ref (ad 0)), (1, .int (v1 + (1 : Int32))), (2, .int (v2 + (1 : Int32)))]) [2, 1, 0] rfl
          exact ih _ _ _ _ _ _ hw hP hS hl
  unfold wp_CA_publish at hw
  refine lv_iconst (v := (0 : Int32)) hx hb d_CA_publish_0 (by decide) ?_
  refine lv_istore_n (lv' := [(1, .int (0 : Int32)), (0, .ref (ad 0))]) hx hb d_CA_publish_1 rfl hl (by decide) rfl (fun ls hl => ?_)
  refine lv_iconst (v := (0 : Int32)) hx hb d_CA_publish_2 (by decide) ?_
  refine lv_istore_n (lv' := [(2, .int (0 : Int32)), (1, .int (0 : Int32)), (0, .ref (ad 0))]) hx hb d_CA_publish_3 rfl hl (by decide) rfl (fun ls hl => ?_)
  have hl := lv_sub hl (l' := [(0, .ref (ad 0)), (1, .int (0 : Int32)), (2, .int (0 : Int32))]) [2, 1, 0] rfl
  obtain ⟨n9, hw⟩ := hw
  exact L4 n9 _ _ _ _ _ _ hw hP hS hl
