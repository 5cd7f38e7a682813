def ws_CA_makeAuthorization : List Cond := Cond.code y_CA_makeAuthorization c_CA_makeAuthorization 6 (Option.some Jvm.ClassFile.FieldType.int) :: GW
theorem d_CA_makeAuthorization_0 : decode c_CA_makeAuthorization 0 = .ok (.aload_n 0, 1) := by decide +kernel
theorem d_CA_makeAuthorization_1 : decode c_CA_makeAuthorization 1 = .ok (.getfield 23, 3) := by decide +kernel
theorem d_CA_makeAuthorization_4 : decode c_CA_makeAuthorization 4 = .ok (.aload_n 0, 1) := by decide +kernel
theorem d_CA_makeAuthorization_5 : decode c_CA_makeAuthorization 5 = .ok (.getfield 136, 3) := by decide +kernel
theorem d_CA_makeAuthorization_8 : decode c_CA_makeAuthorization 8 = .ok (.aaload, 1) := by decide +kernel
theorem d_CA_makeAuthorization_9 : decode c_CA_makeAuthorization 9 = .ok (.astore 4, 2) := by decide +kernel
theorem d_CA_makeAuthorization_11 : decode c_CA_makeAuthorization 11 = .ok (.aload 4, 2) := by decide +kernel
theorem d_CA_makeAuthorization_13 : decode c_CA_makeAuthorization 13 = .ok (.iload_n 1, 1) := by decide +kernel
theorem d_CA_makeAuthorization_14 : decode c_CA_makeAuthorization 14 = .ok (.putfield 156, 3) := by decide +kernel
theorem d_CA_makeAuthorization_17 : decode c_CA_makeAuthorization 17 = .ok (.aload 4, 2) := by decide +kernel
theorem d_CA_makeAuthorization_19 : decode c_CA_makeAuthorization 19 = .ok (.iload_n 2, 1) := by decide +kernel
theorem d_CA_makeAuthorization_20 : decode c_CA_makeAuthorization 20 = .ok (.putfield 257, 3) := by decide +kernel
theorem d_CA_makeAuthorization_23 : decode c_CA_makeAuthorization 23 = .ok (.aload 4, 2) := by decide +kernel
theorem d_CA_makeAuthorization_25 : decode c_CA_makeAuthorization 25 = .ok (.iload_n 3, 1) := by decide +kernel
theorem d_CA_makeAuthorization_26 : decode c_CA_makeAuthorization 26 = .ok (.putfield 167, 3) := by decide +kernel
theorem d_CA_makeAuthorization_29 : decode c_CA_makeAuthorization 29 = .ok (.iconst 0, 1) := by decide +kernel
theorem d_CA_makeAuthorization_30 : decode c_CA_makeAuthorization 30 = .ok (.istore 5, 2) := by decide +kernel
theorem d_CA_makeAuthorization_32 : decode c_CA_makeAuthorization 32 = .ok (.iload 5, 2) := by decide +kernel
theorem d_CA_makeAuthorization_34 : decode c_CA_makeAuthorization 34 = .ok (.iconst 2, 1) := by decide +kernel
theorem d_CA_makeAuthorization_35 : decode c_CA_makeAuthorization 35 = .ok (.if_icmp .ge 30, 3) := by decide +kernel
theorem d_CA_makeAuthorization_38 : decode c_CA_makeAuthorization 38 = .ok (.aload_n 0, 1) := by decide +kernel
theorem d_CA_makeAuthorization_39 : decode c_CA_makeAuthorization 39 = .ok (.getfield 29, 3) := by decide +kernel
theorem d_CA_makeAuthorization_42 : decode c_CA_makeAuthorization 42 = .ok (.iconst 2, 1) := by decide +kernel
theorem d_CA_makeAuthorization_43 : decode c_CA_makeAuthorization 43 = .ok (.aload_n 0, 1) := by decide +kernel
theorem d_CA_makeAuthorization_44 : decode c_CA_makeAuthorization 44 = .ok (.getfield 136, 3) := by decide +kernel
theorem d_CA_makeAuthorization_47 : decode c_CA_makeAuthorization 47 = .ok (.imul, 1) := by decide +kernel
theorem d_CA_makeAuthorization_48 : decode c_CA_makeAuthorization 48 = .ok (.iload 5, 2) := by decide +kernel
theorem d_CA_makeAuthorization_50 : decode c_CA_makeAuthorization 50 = .ok (.iadd, 1) := by decide +kernel
theorem d_CA_makeAuthorization_51 : decode c_CA_makeAuthorization 51 = .ok (.aaload, 1) := by decide +kernel
theorem d_CA_makeAuthorization_52 : decode c_CA_makeAuthorization 52 = .ok (.aload_n 0, 1) := by decide +kernel
theorem d_CA_makeAuthorization_53 : decode c_CA_makeAuthorization 53 = .ok (.invokevirtual 69, 3) := by decide +kernel
theorem d_CA_makeAuthorization_56 : decode c_CA_makeAuthorization 56 = .ok (.putfield 161, 3) := by decide +kernel
theorem d_CA_makeAuthorization_59 : decode c_CA_makeAuthorization 59 = .ok (.iinc 5 1, 3) := by decide +kernel
theorem d_CA_makeAuthorization_62 : decode c_CA_makeAuthorization 62 = .ok (.goto (-30), 3) := by decide +kernel
theorem d_CA_makeAuthorization_65 : decode c_CA_makeAuthorization 65 = .ok (.aload_n 0, 1) := by decide +kernel
theorem d_CA_makeAuthorization_66 : decode c_CA_makeAuthorization 66 = .ok (.dup, 1) := by decide +kernel
theorem d_CA_makeAuthorization_67 : decode c_CA_makeAuthorization 67 = .ok (.getfield 136, 3) := by decide +kernel
theorem d_CA_makeAuthorization_70 : decode c_CA_makeAuthorization 70 = .ok (.dup_x1, 1) := by decide +kernel
theorem d_CA_makeAuthorization_71 : decode c_CA_makeAuthorization 71 = .ok (.iconst 1, 1) := by decide +kernel
theorem d_CA_makeAuthorization_72 : decode c_CA_makeAuthorization 72 = .ok (.iadd, 1) := by decide +kernel
theorem d_CA_makeAuthorization_73 : decode c_CA_makeAuthorization 73 = .ok (.putfield 136, 3) := by decide +kernel
theorem d_CA_makeAuthorization_76 : decode c_CA_makeAuthorization 76 = .ok (.ireturn, 1) := by decide +kernel
def wq_CA_makeAuthorization_32 (post : Int32 → ST → Prop) : Nat → Int32 → ST → Prop
  | 0 => fun _ _ => False
  | n + 1 => fun v5 X => (((2 : Int32) ≤ v5 → post (X 4 0) (up X 4 0 ((X 4 0) + (1 : Int32)))) ∧ (¬ (2 : Int32) ≤ v5 → (vp_in (((2 : Int32) * (X 4 0)) + v5) 48 ∧ wp_CA_draw (fun (r4 : Int32) (X3 : ST) => wq_CA_makeAuthorization_32 post n (v5 + (1 : Int32)) (up X3 41 ((((2 : Int32) * (X 4 0)) + v5).toNatClampNeg) r4)) X)))
def wp_CA_makeAuthorization (post : Int32 → ST → Prop) (X : ST) (a1 : Int32) (a2 : Int32) (a3 : Int32) : Prop := (vp_in (X 4 0) 24 ∧ (∃ n9, wq_CA_makeAuthorization_32 post n9 (0 : Int32) (up (up (up X 31 ((X 4 0).toNatClampNeg) a1) 32 ((X 4 0).toNatClampNeg) a2) 33 ((X 4 0).toNatClampNeg) a3)))
set_option maxHeartbeats 4000000 in
set_option maxRecDepth 100000 in
theorem mt_CA_makeAuthorization (l : Launch) (hl9 : l.stackTraces = false) (dC : Nat → ClassId) (dI : Nat → Nat → Nat) (cA : Nat → ClassId) (ad : Nat → Nat) (hI : INJ ad 125) (sz : Nat) {X : ST} {a1 : Int32} {a2 : Int32} {a3 : Int32} {post : Int32 → ST → Prop} (hw : wp_CA_makeAuthorization post X a1 a2 a3) : Met l y_CA_makeAuthorization ws_CA_makeAuthorization ({ frames := 1, cells := 0, slots := 0, locals := 20 } : Room) (va_Pc [.ref (ad 0), .int a1, .int a2, .int a3] (fun U => PC dC dI cA ad sz X U)) (va_Qi (fun r (u : ST) => post r u) (fun (u : ST) t => va_P (dC, dI) vwCl (wdC cA ad u) t.heap) (CA ad 125 sz)) 0 0 (CA ad 125 sz) := by
  refine Met.ofW (cc := c_CA_makeAuthorization) (maxL := 6) (ret := (some .int)) (by decide) rfl ?_
  intro p e s m args below meth c s₁ B hml hv
  obtain ⟨rfl, hsz, hP, hG⟩ := hv
  have hx := B.exec
  have hb := B.bytes
  have hr := B.returns
  have hts : ∀ w ∈ GW, w.before (([.ref (ad 0), .int a1, .int a2, .int a3] : List Value).toArray) s = true := fun w h => atoms_spec (ws := ws_CA_makeAuthorization) B.pre w (List.mem_cons_of_mem _ h)
  have hown : s.vm.findClass R_CA = some m.cls := findClass_of_methodNamed B.named
  have hlocks := B.notSynchronized
  subst hsz
  have hK := hG.1
  have hG9 := hG
  have hNW := hG.2.1
  have hD0 : ∀ (X : ST), va_D (CA ad 125 s.heap.size) (wdC cA ad X) := fun _ => zwC_D hI
  have hS : va_S (CA ad 125 s.heap.size) s.heap s.heap [] := va_S.rf
  have hl := lv_entry ([.ref (ad 0), .int a1, .int a2, .int a3]) (n := 6) (Nat.le_of_ble_eq_true rfl)
  rw [lg_entry_eq]
  generalize (lg_sl ([.ref (ad 0), .int a1, .int a2, .int a3]) ++ List.replicate (6 - (lg_sl ([.ref (ad 0), .int a1, .int a2, .int a3])).length) Slot.unset).toArray = ls at hl ⊢
  have hl : lv_has ls 6 [(0, .ref (ad 0)), (1, .int a1), (2, .int a2), (3, .int a3)] := hl
  have L32 : ∀ (n : Nat), ∀ (v5 : Int32) (X : ST) (H : Heap) (locs : List Loc) (ls : Array Slot), wq_CA_makeAuthorization_32 post n v5 X → va_P (dC, dI) vwCl (wdC cA ad X) H → va_S (CA ad 125 s.heap.size) s.heap H locs → lv_has ls 6 [(0, .ref (ad 0)), (5, .int v5)] → W p l e (headSpec ws_CA_makeAuthorization ({ frames := 1, cells := 0, slots := 0, locals := 20 } : Room)).room s m (([.ref (ad 0), .int a1, .int a2, .int a3] : List Value).toArray) below meth c H locs 0 0 (MQ below (va_Qi (fun r (u : ST) => post r u) (fun (u : ST) t => va_P (dC, dI) vwCl (wdC cA ad u) t.heap) (CA ad 125 s.heap.size)) (([.ref (ad 0), .int a1, .int a2, .int a3] : List Value).toArray) s 0 0 (CA ad 125 s.heap.size)) (F0 m 32 ls []) := by
    intro n
    induction n with
    | zero => intro v5 X H locs ls hw hP hS hl; exact False.elim hw
    | succ n ih =>
      intro v5 X H locs ls hw hP hS hl
      dsimp only [wq_CA_makeAuthorization_32] at hw
      refine lv_iload hx hb d_CA_makeAuthorization_32 (lv_at hl 1 rfl) ?_
      refine lv_iconst (v := (2 : Int32)) hx hb d_CA_makeAuthorization_34 (by decide) ?_
      refine lv_icmp_ge (tgt := 65) hx hb d_CA_makeAuthorization_35 (by decide) (fun c1 => ?_) (fun c1 => ?_)
      · have hw := hw.1 c1
        refine lv_aload_n hx hb d_CA_makeAuthorization_65 rfl (lv_at hl 0 rfl) ?_
        refine lv_dup hx hb d_CA_makeAuthorization_66 rfl ?_
        refine va_get (D := (dC, dI)) (ci := 0) (v := .int (X 4 0)) (C := R_CA) (T := T_CA) (N := 14) hx hb hts in_CA hown hK hP (0) atC_CA rfl 4 (by decide) (hts _ gw_79) (fun _ h9 => h9) rfl d_CA_makeAuthorization_67 ?_
        refine lv_dup_x1 hx hb d_CA_makeAuthorization_70 rfl rfl ?_
        refine lv_iconst (v := (1 : Int32)) hx hb d_CA_makeAuthorization_71 (by decide) ?_
        refine lv_iadd hx hb d_CA_makeAuthorization_72 ?_
        refine va_put (D := (dC, dI)) (ci := 0) (v := .int ((X 4 0) + (1 : Int32))) (ty := .int) (C := R_CA) (T := T_CA) (N := 14) hx hb hts in_CA ty_CA ty_CA_ok nm_CA hown hK hP (hD0 _) hS (0) atC_CA rfl 4 (by decide) (hts _ gw_79) (fun _ h9 => h9) rfl (by decide +kernel) rfl rfl (Nat.le_of_ble_eq_true rfl) d_CA_makeAuthorization_73 (fun H locs hP _ hS => ?_)
        have hP : va_P (dC, dI) vwCl (wdC cA ad (up X 4 0 ((X 4 0) + (1 : Int32)))) H := by rw [← stC_CA_4]; exact hP
        exact W.iret (v := X 4 0) hx hb hr (fun t ht _ => ⟨⟨X 4 0, up X 4 0 ((X 4 0) + (1 : Int32)), rfl, hw, by show va_P _ _ _ t.heap; rw [ht]; exact hP⟩, hS.F ht⟩) hS.2.2 d_CA_makeAuthorization_76
      · have hw := hw.2 c1
        refine lv_aload_n hx hb d_CA_makeAuthorization_38 rfl (lv_at hl 0 rfl) ?_
        refine va_get (D := (dC, dI)) (ci := 0) (v := .ref (ad 4)) (C := R_CA) (T := T_CA) (N := 14) hx hb hts in_CA hown hK hP (0) atC_CA rfl 9 (by decide) (hts _ gw_87) (fun _ h9 => h9) rfl d_CA_makeAuthorization_39 ?_
        refine lv_iconst (v := (2 : Int32)) hx hb d_CA_makeAuthorization_42 (by decide) ?_
        refine lv_aload_n hx hb d_CA_makeAuthorization_43 rfl (lv_at hl 0 rfl) ?_
        refine va_get (D := (dC, dI)) (ci := 0) (v := .int (X 4 0)) (C := R_CA) (T := T_CA) (N := 14) hx hb hts in_CA hown hK hP (0) atC_CA rfl 4 (by decide) (hts _ gw_79) (fun _ h9 => h9) rfl d_CA_makeAuthorization_44 ?_
        refine lv_imul hx hb d_CA_makeAuthorization_47 ?_
        refine lv_iload hx hb d_CA_makeAuthorization_48 (lv_at hl 1 rfl) ?_
        refine lv_iadd hx hb d_CA_makeAuthorization_50 ?_
        obtain ⟨h2, hw⟩ := hw
        refine va_aldq hx hb hK hP (4) 3 atC_aCha rfl h2 d_CA_makeAuthorization_51 ?_
        refine W.eq (g2 := F0 m 52 ls [.ref (ad (65 + ((((2 : Int32) * (X 4 0)) + v5).toNatClampNeg)))]) rfl ?_
        refine lv_aload_n hx hb d_CA_makeAuthorization_52 rfl (lv_at hl 0 rfl) ?_
        refine va_calli (va_runV (As := []) (rest := [.ref (ad (65 + ((((2 : Int32) * (X 4 0)) + v5).toNatClampNeg)))]) ⟨hx, hb, hml, hown, hts⟩ (mt_CA_draw l hl9 dC dI cA ad hI _ hw) (cwV 0 hts (gV gw_10 gw_11 gw_12 gw_13 gw_9) rfl rfl rfl (by decide +kernel) ⟨Nat.le_of_ble_eq_true rfl, Nat.le_of_ble_eq_true rfl⟩) ⟨zwC_blind, va_recv hK hP (ci := 0) (q0 := 0) rfl atC_CA, zwC_pre hP hS hG9⟩ rfl rfl hl.1 rfl (lv_room (Nat.le_of_ble_eq_true rfl)) d_CA_makeAuthorization_53 ⟨Nat.le_of_ble_eq_true rfl, Nat.le_of_ble_eq_true rfl⟩) hS (fun q _ h => CA_le hS.1 q h) (fun q h => CA_le hS.1 q h) (fun r4 X3 t H locs ht hvm hw hP hz1 hk1 hS => ?_)
        have hP : va_P (dC, dI) vwCl (wdC cA ad X3) H := by rw [← ht]; exact hP
        try dsimp only at hw
        refine va_put (D := (dC, dI)) (ci := 7) (v := .int r4) (ty := .int) (C := R_Cha) (T := T_Cha) (N := 3) hx hb hts in_Cha ty_Cha ty_Cha_ok nm_Cha hown hK hP (hD0 _) hS (65 + ((((2 : Int32) * (X 4 0)) + v5).toNatClampNeg)) (atC_Cha (zw_lt h2)) rfl 1 (by decide) (hts _ gw_88) (fun _ h9 => h9) rfl (by decide +kernel) rfl rfl (Nat.le_of_ble_eq_true rfl) d_CA_makeAuthorization_56 (fun H locs hP _ hS => ?_)
        have hP : va_P (dC, dI) vwCl (wdC cA ad (up X3 41 ((((2 : Int32) * (X 4 0)) + v5).toNatClampNeg) r4)) H := by rw [← stC_Cha_1 (zw_lt h2)]; exact hP
        refine lv_iinc (k := 1) (v := v5 + (1 : Int32)) (lv' := [(5, .int (v5 + (1 : Int32))), (0, .ref (ad 0))]) hx hb d_CA_makeAuthorization_59 hl rfl rfl (by decide) rfl (fun ls hl => ?_)
        refine lv_goto (tgt := 32) hx hb d_CA_makeAuthorization_62 (by decide) ?_
        have hl := lv_sub hl (l' := [(0, .ref (ad 0)), (5, .int (v5 + (1 : Int32)))]) [1, 0] rfl
        exact ih _ _ _ _ _ hw hP hS hl
  unfold wp_CA_makeAuthorization at hw
  refine lv_aload_n hx hb d_CA_makeAuthorization_0 rfl (lv_at hl 0 rfl) ?_
  refine va_get (D := (dC, dI)) (ci := 0) (v := .ref (ad 3)) (C := R_CA) (T := T_CA) (N := 14) hx hb hts in_CA hown hK hP (0) atC_CA rfl 8 (by decide) (hts _ gw_75) (fun _ h9 => h9) rfl d_CA_makeAuthorization_1 ?_
  refine lv_aload_n hx hb d_CA_makeAuthorization_4 rfl (lv_at hl 0 rfl) ?_
  refine va_get (D := (dC, dI)) (ci := 0) (v := .int (X 4 0)) (C := R_CA) (T := T_CA) (N := 14) hx hb hts in_CA hown hK hP (0) atC_CA rfl 4 (by decide) (hts _ gw_79) (fun _ h9 => h9) rfl d_CA_makeAuthorization_5 ?_
  obtain ⟨h5, hw⟩ := hw
  refine va_aldq hx hb hK hP (3) 2 atC_aAut rfl h5 d_CA_makeAuthorization_8 ?_
  refine W.eq (g2 := F0 m 9 ls [.ref (ad (41 + ((X 4 0).toNatClampNeg)))]) rfl ?_
  refine lv_astore (lv' := [(4, .ref (ad (41 + ((X 4 0).toNatClampNeg)))), (0, .ref (ad 0)), (1, .int a1), (2, .int a2), (3, .int a3)]) hx hb d_CA_makeAuthorization_9 hl (by decide) rfl (fun ls hl => ?_)
  refine lv_aload hx hb d_CA_makeAuthorization_11 (lv_at hl 0 rfl) ?_
  refine lv_iload_n hx hb d_CA_makeAuthorization_13 rfl (lv_at hl 2 rfl) ?_
  refine va_put (D := (dC, dI)) (ci := 6) (v := .int a1) (ty := .int) (C := R_Aut) (T := T_Aut) (N := 4) hx hb hts in_Aut ty_Aut ty_Aut_ok nm_Aut hown hK hP (hD0 _) hS (41 + ((X 4 0).toNatClampNeg)) (atC_Aut (zw_lt h5)) rfl 1 (by decide) (hts _ gw_76) (fun _ h9 => h9) rfl (by decide +kernel) rfl rfl (Nat.le_of_ble_eq_true rfl) d_CA_makeAuthorization_14 (fun H locs hP _ hS => ?_)
  have hP : va_P (dC, dI) vwCl (wdC cA ad (up X 31 ((X 4 0).toNatClampNeg) a1)) H := by rw [← stC_Aut_1 (zw_lt h5)]; exact hP
  refine lv_aload hx hb d_CA_makeAuthorization_17 (lv_at hl 0 rfl) ?_
  refine lv_iload_n hx hb d_CA_makeAuthorization_19 rfl (lv_at hl 3 rfl) ?_
  refine va_put (D := (dC, dI)) (ci := 6) (v := .int a2) (ty := .int) (C := R_Aut) (T := T_Aut) (N := 4) hx hb hts in_Aut ty_Aut ty_Aut_ok nm_Aut hown hK hP (hD0 _) hS (41 + ((X 4 0).toNatClampNeg)) (atC_Aut (zw_lt h5)) rfl 2 (by decide) (hts _ gw_77) (fun _ h9 => h9) rfl (by decide +kernel) rfl rfl (Nat.le_of_ble_eq_true rfl) d_CA_makeAuthorization_20 (fun H locs hP _ hS => ?_)
  have hP : va_P (dC, dI) vwCl (wdC cA ad (up (up X 31 ((X 4 0).toNatClampNeg) a1) 32 ((X 4 0).toNatClampNeg) a2)) H := by rw [← stC_Aut_2 (zw_lt h5)]; exact hP
  refine lv_aload hx hb d_CA_makeAuthorization_23 (lv_at hl 0 rfl) ?_
  refine lv_iload_n hx hb d_CA_makeAuthorization_25 rfl (lv_at hl 4 rfl) ?_
  refine va_put (D := (dC, dI)) (ci := 6) (v := .int a3) (ty := .int) (C := R_Aut) (T := T_Aut) (N := 4) hx hb hts in_Aut ty_Aut ty_Aut_ok nm_Aut hown hK hP (hD0 _) hS (41 + ((X 4 0).toNatClampNeg)) (atC_Aut (zw_lt h5)) rfl 3 (by decide) (hts _ gw_89) (fun _ h9 => h9) rfl (by decide +kernel) rfl rfl (Nat.le_of_ble_eq_true rfl) d_CA_makeAuthorization_26 (fun H locs hP _ hS => ?_)
  have hP : va_P (dC, dI) vwCl (wdC cA ad (up (up (up X 31 ((X 4 0).toNatClampNeg) a1) 32 ((X 4 0).toNatClampNeg) a2) 33 ((X 4 0).toNatClampNeg) a3)) H := by rw [← stC_Aut_3 (zw_lt h5)]; exact hP
  refine lv_iconst (v := (0 : Int32)) hx hb d_CA_makeAuthorization_29 (by decide) ?_
  refine lv_istore (lv' := [(5, .int (0 : Int32)), (4, .ref (ad (41 + ((X 4 0).toNatClampNeg)))), (0, .ref (ad 0)), (1, .int a1), (2, .int a2), (3, .int a3)]) hx hb d_CA_makeAuthorization_30 hl (by decide) rfl (fun ls hl => ?_)
  have hl := lv_sub hl (l' := [(0, .ref (ad 0)), (5, .int (0 : Int32))]) [2, 0] rfl
  obtain ⟨n9, hw⟩ := hw
  exact L32 n9 _ _ _ _ _ hw hP hS hl
def ws_Ord_attach : List Cond := Cond.code y_Ord_attach c_Ord_attach 2 (Option.none : Option Jvm.ClassFile.FieldType) :: GW
theorem d_Ord_attach_0 : decode c_Ord_attach 0 = .ok (.aload_n 0, 1) := by decide +kernel
theorem d_Ord_attach_1 : decode c_Ord_attach 1 = .ok (.getfield 22, 3) := by decide +kernel
theorem d_Ord_attach_4 : decode c_Ord_attach 4 = .ok (.iconst 4, 1) := by decide +kernel
theorem d_Ord_attach_5 : decode c_Ord_attach 5 = .ok (.if_icmp .ge 23, 3) := by decide +kernel
theorem d_Ord_attach_8 : decode c_Ord_attach 8 = .ok (.aload_n 0, 1) := by decide +kernel
theorem d_Ord_attach_9 : decode c_Ord_attach 9 = .ok (.getfield 15, 3) := by decide +kernel
theorem d_Ord_attach_12 : decode c_Ord_attach 12 = .ok (.aload_n 0, 1) := by decide +kernel
theorem d_Ord_attach_13 : decode c_Ord_attach 13 = .ok (.getfield 22, 3) := by decide +kernel
theorem d_Ord_attach_16 : decode c_Ord_attach 16 = .ok (.iload_n 1, 1) := by decide +kernel
theorem d_Ord_attach_17 : decode c_Ord_attach 17 = .ok (.iastore, 1) := by decide +kernel
theorem d_Ord_attach_18 : decode c_Ord_attach 18 = .ok (.aload_n 0, 1) := by decide +kernel
theorem d_Ord_attach_19 : decode c_Ord_attach 19 = .ok (.dup, 1) := by decide +kernel
theorem d_Ord_attach_20 : decode c_Ord_attach 20 = .ok (.getfield 22, 3) := by decide +kernel
theorem d_Ord_attach_23 : decode c_Ord_attach 23 = .ok (.iconst 1, 1) := by decide +kernel
theorem d_Ord_attach_24 : decode c_Ord_attach 24 = .ok (.iadd, 1) := by decide +kernel
theorem d_Ord_attach_25 : decode c_Ord_attach 25 = .ok (.putfield 22, 3) := by decide +kernel
theorem d_Ord_attach_28 : decode c_Ord_attach 28 = .ok (.return_, 1) := by decide +kernel
def wp_Ord_attach (post : ST → Prop) (X : ST) (i0 : Nat) (a1 : Int32) : Prop := (i0 < 12 ∧ (((4 : Int32) ≤ (X 25 i0) → post X) ∧ (¬ (4 : Int32) ≤ (X 25 i0) → (vp_in (X 25 i0) 4 ∧ post (up (up X (1000 + (X 25 i0).toNatClampNeg) i0 a1) 25 i0 (((up X (1000 + (X 25 i0).toNatClampNeg) i0 a1) 25 i0) + (1 : Int32)))))))
set_option maxHeartbeats 4000000 in
set_option maxRecDepth 100000 in
theorem mt_Ord_attach (l : Launch) (hl9 : l.stackTraces = false) (dC : Nat → ClassId) (dI : Nat → Nat → Nat) (cA : Nat → ClassId) (ad : Nat → Nat) (hI : INJ ad 125) (sz : Nat) {X : ST} {i0 : Nat} {a1 : Int32} {post : ST → Prop} (hw : wp_Ord_attach post X i0 a1) : Met l y_Ord_attach ws_Ord_attach ({ frames := 0, cells := 0, slots := 0, locals := 0 } : Room) (va_Pc [.ref (ad (17 + i0)), .int a1] (fun U => PC dC dI cA ad sz X U)) (va_Qv (fun (u : ST) => post u) (fun (u : ST) t => va_P (dC, dI) vwCl (wdC cA ad u) t.heap) (CA ad 125 sz)) 0 0 (CA ad 125 sz) := by
  refine Met.ofW (cc := c_Ord_attach) (maxL := 2) (ret := none) (by decide) rfl ?_
  intro p e s m args below meth c s₁ B hml hv
  obtain ⟨rfl, hsz, hP, hG⟩ := hv
  have hx := B.exec
  have hb := B.bytes
  have hr := B.returns
  have hts : ∀ w ∈ GW, w.before (([.ref (ad (17 + i0)), .int a1] : List Value).toArray) s = true := fun w h => atoms_spec (ws := ws_Ord_attach) B.pre w (List.mem_cons_of_mem _ h)
  have hown : s.vm.findClass R_Ord = some m.cls := findClass_of_methodNamed B.named
  have hlocks := B.notSynchronized
  subst hsz
  have hK := hG.1
  have hG9 := hG
  have hNW := hG.2.1
  have hD0 : ∀ (X : ST), va_D (CA ad 125 s.heap.size) (wdC cA ad X) := fun _ => zwC_D hI
  have hS : va_S (CA ad 125 s.heap.size) s.heap s.heap [] := va_S.rf
  have hl := lv_entry ([.ref (ad (17 + i0)), .int a1]) (n := 2) (Nat.le_of_ble_eq_true rfl)
  rw [lg_entry_eq]
  generalize (lg_sl ([.ref (ad (17 + i0)), .int a1]) ++ List.replicate (2 - (lg_sl ([.ref (ad (17 + i0)), .int a1])).length) Slot.unset).toArray = ls at hl ⊢
  have hl : lv_has ls 2 [(0, .ref (ad (17 + i0))), (1, .int a1)] := hl
  unfold wp_Ord_attach at hw
  refine lv_aload_n hx hb d_Ord_attach_0 rfl (lv_at hl 0 rfl) ?_
  obtain ⟨h1, hw⟩ := hw
  refine va_get (D := (dC, dI)) (ci := 5) (v := .int (X 25 i0)) (C := R_Ord) (T := T_Ord) (N := 7) hx hb hts in_Ord hown hK hP (17 + i0) (atC_Ord h1) rfl 5 (by decide) (hts _ gw_90) (fun _ h9 => h9) rfl d_Ord_attach_1 ?_
  refine lv_iconst (v := (4 : Int32)) hx hb d_Ord_attach_4 (by decide) ?_
  refine lv_icmp_ge (tgt := 28) hx hb d_Ord_attach_5 (by decide) (fun c2 => ?_) (fun c2 => ?_)
  · have hw := hw.1 c2
    exact W.vret hx hb hr (fun t ht _ => ⟨⟨X, rfl, hw, by show va_P _ _ _ t.heap; rw [ht]; exact hP⟩, hS.F ht⟩) hS.2.2 d_Ord_attach_28
  · have hw := hw.2 c2
    refine lv_aload_n hx hb d_Ord_attach_8 rfl (lv_at hl 0 rfl) ?_
    refine va_get (D := (dC, dI)) (ci := 5) (v := .ref (ad (29 + i0))) (C := R_Ord) (T := T_Ord) (N := 7) hx hb hts in_Ord hown hK hP (17 + i0) (atC_Ord h1) rfl 6 (by decide) (hts _ gw_91) (fun _ h9 => h9) rfl d_Ord_attach_9 ?_
    refine lv_aload_n hx hb d_Ord_attach_12 rfl (lv_at hl 0 rfl) ?_
    refine va_get (D := (dC, dI)) (ci := 5) (v := .int (X 25 i0)) (C := R_Ord) (T := T_Ord) (N := 7) hx hb hts in_Ord hown hK hP (17 + i0) (atC_Ord h1) rfl 5 (by decide) (hts _ gw_90) (fun _ h9 => h9) rfl d_Ord_attach_13 ?_
    refine lv_iload_n hx hb d_Ord_attach_16 rfl (lv_at hl 1 rfl) ?_
    obtain ⟨h3, hw⟩ := hw
    refine va_iast hx hb hK hP (hD0 _) hS (29 + i0) 7 (atC_iOrd h1) rfl h3 d_Ord_attach_17 (fun H locs hP _ hS => ?_)
    have hP : va_P (dC, dI) vwCl (wdC cA ad (up X (1000 + (X 25 i0).toNatClampNeg) i0 a1)) H := by rw [← stC_iOrd h1]; exact hP
    refine lv_aload_n hx hb d_Ord_attach_18 rfl (lv_at hl 0 rfl) ?_
    refine lv_dup hx hb d_Ord_attach_19 rfl ?_
    refine va_get (D := (dC, dI)) (ci := 5) (v := .int ((up X (1000 + (X 25 i0).toNatClampNeg) i0 a1) 25 i0)) (C := R_Ord) (T := T_Ord) (N := 7) hx hb hts in_Ord hown hK hP (17 + i0) (atC_Ord h1) rfl 5 (by decide) (hts _ gw_90) (fun _ h9 => h9) rfl d_Ord_attach_20 ?_
    refine lv_iconst (v := (1 : Int32)) hx hb d_Ord_attach_23 (by decide) ?_
    refine lv_iadd hx hb d_Ord_attach_24 ?_
    refine va_put (D := (dC, dI)) (ci := 5) (v := .int (((up X (1000 + (X 25 i0).toNatClampNeg) i0 a1) 25 i0) + (1 : Int32))) (ty := .int) (C := R_Ord) (T := T_Ord) (N := 7) hx hb hts in_Ord ty_Ord ty_Ord_ok nm_Ord hown hK hP (hD0 _) hS (17 + i0) (atC_Ord h1) rfl 5 (by decide) (hts _ gw_90) (fun _ h9 => h9) rfl (by decide +kernel) rfl rfl (Nat.le_of_ble_eq_true rfl) d_Ord_attach_25 (fun H locs hP _ hS => ?_)
    have hP : va_P (dC, dI) vwCl (wdC cA ad (up (up X (1000 + (X 25 i0).toNatClampNeg) i0 a1) 25 i0 (((up X (1000 + (X 25 i0).toNatClampNeg) i0 a1) 25 i0) + (1 : Int32)))) H := by rw [← stC_Ord_5 h1]; exact hP
    exact W.vret hx hb hr (fun t ht _ => ⟨⟨up (up X (1000 + (X 25 i0).toNatClampNeg) i0 a1) 25 i0 (((up X (1000 + (X 25 i0).toNatClampNeg) i0 a1) 25 i0) + (1 : Int32)), rfl, hw, by show va_P _ _ _ t.heap; rw [ht]; exact hP⟩, hS.F ht⟩) hS.2.2 d_Ord_attach_28
