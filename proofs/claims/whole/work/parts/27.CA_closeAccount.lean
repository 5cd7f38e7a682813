def ws_CA_closeAccount : List Cond := Cond.code y_CA_closeAccount c_CA_closeAccount 4 (Option.some Jvm.ClassFile.FieldType.int) :: GW
theorem d_CA_closeAccount_0 : decode c_CA_closeAccount 0 = .ok (.aload_n 0, 1) := by decide +kernel
theorem d_CA_closeAccount_1 : decode c_CA_closeAccount 1 = .ok (.getfield 11, 3) := by decide +kernel
theorem d_CA_closeAccount_4 : decode c_CA_closeAccount 4 = .ok (.iload_n 1, 1) := by decide +kernel
theorem d_CA_closeAccount_5 : decode c_CA_closeAccount 5 = .ok (.aaload, 1) := by decide +kernel
theorem d_CA_closeAccount_6 : decode c_CA_closeAccount 6 = .ok (.iconst 1, 1) := by decide +kernel
theorem d_CA_closeAccount_7 : decode c_CA_closeAccount 7 = .ok (.putfield 117, 3) := by decide +kernel
theorem d_CA_closeAccount_10 : decode c_CA_closeAccount 10 = .ok (.iconst 0, 1) := by decide +kernel
theorem d_CA_closeAccount_11 : decode c_CA_closeAccount 11 = .ok (.istore_n 2, 1) := by decide +kernel
theorem d_CA_closeAccount_12 : decode c_CA_closeAccount 12 = .ok (.iconst 0, 1) := by decide +kernel
theorem d_CA_closeAccount_13 : decode c_CA_closeAccount 13 = .ok (.istore_n 3, 1) := by decide +kernel
theorem d_CA_closeAccount_14 : decode c_CA_closeAccount 14 = .ok (.iload_n 3, 1) := by decide +kernel
theorem d_CA_closeAccount_15 : decode c_CA_closeAccount 15 = .ok (.aload_n 0, 1) := by decide +kernel
theorem d_CA_closeAccount_16 : decode c_CA_closeAccount 16 = .ok (.getfield 136, 3) := by decide +kernel
theorem d_CA_closeAccount_19 : decode c_CA_closeAccount 19 = .ok (.if_icmp .ge 47, 3) := by decide +kernel
theorem d_CA_closeAccount_22 : decode c_CA_closeAccount 22 = .ok (.aload_n 0, 1) := by decide +kernel
theorem d_CA_closeAccount_23 : decode c_CA_closeAccount 23 = .ok (.getfield 23, 3) := by decide +kernel
theorem d_CA_closeAccount_26 : decode c_CA_closeAccount 26 = .ok (.iload_n 3, 1) := by decide +kernel
theorem d_CA_closeAccount_27 : decode c_CA_closeAccount 27 = .ok (.aaload, 1) := by decide +kernel
theorem d_CA_closeAccount_28 : decode c_CA_closeAccount 28 = .ok (.getfield 156, 3) := by decide +kernel
theorem d_CA_closeAccount_31 : decode c_CA_closeAccount 31 = .ok (.iload_n 1, 1) := by decide +kernel
theorem d_CA_closeAccount_32 : decode c_CA_closeAccount 32 = .ok (.if_icmp .ne 28, 3) := by decide +kernel
theorem d_CA_closeAccount_35 : decode c_CA_closeAccount 35 = .ok (.aload_n 0, 1) := by decide +kernel
theorem d_CA_closeAccount_36 : decode c_CA_closeAccount 36 = .ok (.getfield 23, 3) := by decide +kernel
theorem d_CA_closeAccount_39 : decode c_CA_closeAccount 39 = .ok (.iload_n 3, 1) := by decide +kernel
theorem d_CA_closeAccount_40 : decode c_CA_closeAccount 40 = .ok (.aaload, 1) := by decide +kernel
theorem d_CA_closeAccount_41 : decode c_CA_closeAccount 41 = .ok (.invokevirtual 281, 3) := by decide +kernel
theorem d_CA_closeAccount_44 : decode c_CA_closeAccount 44 = .ok (.ifCond .eq 16, 3) := by decide +kernel
theorem d_CA_closeAccount_47 : decode c_CA_closeAccount 47 = .ok (.aload_n 0, 1) := by decide +kernel
theorem d_CA_closeAccount_48 : decode c_CA_closeAccount 48 = .ok (.getfield 23, 3) := by decide +kernel
theorem d_CA_closeAccount_51 : decode c_CA_closeAccount 51 = .ok (.iload_n 3, 1) := by decide +kernel
theorem d_CA_closeAccount_52 : decode c_CA_closeAccount 52 = .ok (.aaload, 1) := by decide +kernel
theorem d_CA_closeAccount_53 : decode c_CA_closeAccount 53 = .ok (.iconst 3, 1) := by decide +kernel
theorem d_CA_closeAccount_54 : decode c_CA_closeAccount 54 = .ok (.putfield 159, 3) := by decide +kernel
theorem d_CA_closeAccount_57 : decode c_CA_closeAccount 57 = .ok (.iinc 2 1, 3) := by decide +kernel
theorem d_CA_closeAccount_60 : decode c_CA_closeAccount 60 = .ok (.iinc 3 1, 3) := by decide +kernel
theorem d_CA_closeAccount_63 : decode c_CA_closeAccount 63 = .ok (.goto (-49), 3) := by decide +kernel
theorem d_CA_closeAccount_66 : decode c_CA_closeAccount 66 = .ok (.iload_n 2, 1) := by decide +kernel
theorem d_CA_closeAccount_67 : decode c_CA_closeAccount 67 = .ok (.ireturn, 1) := by decide +kernel
def wq_CA_closeAccount_14 (post : Int32 → ST → Prop) (v1 : Int32) : Nat → Int32 → Int32 → ST → Prop
  | 0 => fun _ _ _ => False
  | n + 1 => fun v2 v3 X => (((X 4 0) ≤ v3 → post v2 X) ∧ (¬ (X 4 0) ≤ v3 → (vp_in v3 24 ∧ (((X 31 v3.toNatClampNeg) = v1 → wp_Aut_isLive (fun (r5 : Int32) (X4 : ST) => ((r5 = 0 → wq_CA_closeAccount_14 post v1 n v2 (v3 + (1 : Int32)) X4) ∧ (¬ r5 = 0 → wq_CA_closeAccount_14 post v1 n (v2 + (1 : Int32)) (v3 + (1 : Int32)) (up X4 30 v3.toNatClampNeg (3 : Int32))))) X v3.toNatClampNeg) ∧ (¬ (X 31 v3.toNatClampNeg) = v1 → wq_CA_closeAccount_14 post v1 n v2 (v3 + (1 : Int32)) X)))))
def wp_CA_closeAccount (post : Int32 → ST → Prop) (X : ST) (a1 : Int32) : Prop := (vp_in a1 6 ∧ (∃ n9, wq_CA_closeAccount_14 post a1 n9 (0 : Int32) (0 : Int32) (up X 10 a1.toNatClampNeg (1 : Int32))))
set_option maxHeartbeats 4000000 in
set_option maxRecDepth 100000 in
theorem mt_CA_closeAccount (l : Launch) (hl9 : l.stackTraces = false) (dC : Nat → ClassId) (dI : Nat → Nat → Nat) (cA : Nat → ClassId) (ad : Nat → Nat) (hI : INJ ad 125) (sz : Nat) {X : ST} {a1 : Int32} {post : Int32 → ST → Prop} (hw : wp_CA_closeAccount post X a1) : Met l y_CA_closeAccount ws_CA_closeAccount ({ frames := 1, cells := 0, slots := 0, locals := 20 } : Room) (va_Pc [.ref (ad 0), .int a1] (fun U => PC dC dI cA ad sz X U)) (va_Qi (fun r (u : ST) => post r u) (fun (u : ST) t => va_P (dC, dI) vwCl (wdC cA ad u) t.heap) (CA ad 125 sz)) 0 0 (CA ad 125 sz) := by
  refine Met.ofW (cc := c_CA_closeAccount) (maxL := 4) (ret := (some .int)) (by decide) rfl ?_
  intro p e s m args below meth c s₁ B hml hv
  obtain ⟨rfl, hsz, hP, hG⟩ := hv
  have hx := B.exec
  have hb := B.bytes
  have hr := B.returns
  have hts : ∀ w ∈ GW, w.before (([.ref (ad 0), .int a1] : List Value).toArray) s = true := fun w h => atoms_spec (ws := ws_CA_closeAccount) B.pre w (List.mem_cons_of_mem _ h)
  have hown : s.vm.findClass R_CA = some m.cls := findClass_of_methodNamed B.named
  have hlocks := B.notSynchronized
  subst hsz
  have hK := hG.1
  have hG9 := hG
  have hNW := hG.2.1
  have hD0 : ∀ (X : ST), va_D (CA ad 125 s.heap.size) (wdC cA ad X) := fun _ => zwC_D hI
  have hS : va_S (CA ad 125 s.heap.size) s.heap s.heap [] := va_S.rf
  have hl := lv_entry ([.ref (ad 0), .int a1]) (n := 4) (Nat.le_of_ble_eq_true rfl)
  rw [lg_entry_eq]
  generalize (lg_sl ([.ref (ad 0), .int a1]) ++ List.replicate (4 - (lg_sl ([.ref (ad 0), .int a1])).length) Slot.unset).toArray = ls at hl ⊢
  have hl : lv_has ls 4 [(0, .ref (ad 0)), (1, .int a1)] := hl
  have L14 : ∀ (v1 : Int32), ∀ (n : Nat), ∀ (v2 : Int32) (v3 : Int32) (X : ST) (H : Heap) (locs : List Loc) (ls : Array Slot), wq_CA_closeAccount_14 post v1 n v2 v3 X → va_P (dC, dI) vwCl (wdC cA ad X) H → va_S (CA ad 125 s.heap.size) s.heap H locs → lv_has ls 4 [(0, .ref (ad 0)), (1, .int v1), (2, .int v2), (3, .int v3)] → W p l e (headSpec ws_CA_closeAccount ({ frames := 1, cells := 0, slots := 0, locals := 20 } : Room)).room s m (([.ref (ad 0), .int a1] : List Value).toArray) below meth c H locs 0 0 (MQ below (va_Qi (fun r (u : ST) => post r u) (fun (u : ST) t => va_P (dC, dI) vwCl (wdC cA ad u) t.heap) (CA ad 125 s.heap.size)) (([.ref (ad 0), .int a1] : List Value).toArray) s 0 0 (CA ad 125 s.heap.size)) (F0 m 14 ls []) := by
    intro v1 n
    induction n with
    | zero => intro v2 v3 X H locs ls hw hP hS hl; exact False.elim hw
    | succ n ih =>
      intro v2 v3 X H locs ls hw hP hS hl
      dsimp only [wq_CA_closeAccount_14] at hw
      refine lv_iload_n hx hb d_CA_closeAccount_14 rfl (lv_at hl 3 rfl) ?_
      refine lv_aload_n hx hb d_CA_closeAccount_15 rfl (lv_at hl 0 rfl) ?_
      refine va_get (D := (dC, dI)) (ci := 0) (v := .int (X 4 0)) (C := R_CA) (T := T_CA) (N := 14) hx hb hts in_CA hown hK hP (0) atC_CA rfl 4 (by decide) (hts _ gw_79) (fun _ h9 => h9) rfl d_CA_closeAccount_16 ?_
      refine lv_icmp_ge (tgt := 66) hx hb d_CA_closeAccount_19 (by decide) (fun c1 => ?_) (fun c1 => ?_)
      · have hw := hw.1 c1
        refine lv_iload_n hx hb d_CA_closeAccount_66 rfl (lv_at hl 2 rfl) ?_
        exact W.iret (v := v2) hx hb hr (fun t ht _ => ⟨⟨v2, X, rfl, hw, by show va_P _ _ _ t.heap; rw [ht]; exact hP⟩, hS.F ht⟩) hS.2.2 d_CA_closeAccount_67
      · have hw := hw.2 c1
        refine lv_aload_n hx hb d_CA_closeAccount_22 rfl (lv_at hl 0 rfl) ?_
        refine va_get (D := (dC, dI)) (ci := 0) (v := .ref (ad 3)) (C := R_CA) (T := T_CA) (N := 14) hx hb hts in_CA hown hK hP (0) atC_CA rfl 8 (by decide) (hts _ gw_75) (fun _ h9 => h9) rfl d_CA_closeAccount_23 ?_
        refine lv_iload_n hx hb d_CA_closeAccount_26 rfl (lv_at hl 3 rfl) ?_
        obtain ⟨h2, hw⟩ := hw
        refine va_aldq hx hb hK hP (3) 2 atC_aAut rfl h2 d_CA_closeAccount_27 ?_
        refine W.eq (g2 := F0 m 28 ls [.ref (ad (41 + v3.toNatClampNeg))]) rfl ?_
        refine va_get (D := (dC, dI)) (ci := 6) (v := .int (X 31 v3.toNatClampNeg)) (C := R_Aut) (T := T_Aut) (N := 4) hx hb hts in_Aut hown hK hP (41 + v3.toNatClampNeg) (atC_Aut (zw_lt h2)) rfl 1 (by decide) (hts _ gw_76) (fun _ h9 => h9) rfl d_CA_closeAccount_28 ?_
        refine lv_iload_n hx hb d_CA_closeAccount_31 rfl (lv_at hl 1 rfl) ?_
        refine lv_icmp_ne (tgt := 60) hx hb d_CA_closeAccount_32 (by decide) (fun c3 => ?_) (fun c3 => ?_)
        · have hw := hw.2 c3
          refine lv_iinc (k := 3) (v := v3 + (1 : Int32)) (lv' := [(3, .int (v3 + (1 : Int32))), (0, .ref (ad 0)), (1, .int v1), (2, .int v2)]) hx hb d_CA_closeAccount_60 hl rfl rfl (by decide) rfl (fun ls hl => ?_)
          refine lv_goto (tgt := 14) hx hb d_CA_closeAccount_63 (by decide) ?_
          have hl := lv_sub hl (l' := [(0, .ref (ad 0)), (1, .int v1), (2, .int v2), (3, .int (v3 + (1 : Int32)))]) [1, 2, 3, 0] rfl
          exact ih _ _ _ _ _ _ hw hP hS hl
        · have hw := hw.1 c3
          refine lv_aload_n hx hb d_CA_closeAccount_35 rfl (lv_at hl 0 rfl) ?_
          refine va_get (D := (dC, dI)) (ci := 0) (v := .ref (ad 3)) (C := R_CA) (T := T_CA) (N := 14) hx hb hts in_CA hown hK hP (0) atC_CA rfl 8 (by decide) (hts _ gw_75) (fun _ h9 => h9) rfl d_CA_closeAccount_36 ?_
          refine lv_iload_n hx hb d_CA_closeAccount_39 rfl (lv_at hl 3 rfl) ?_
          refine va_aldq hx hb hK hP (3) 2 atC_aAut rfl h2 d_CA_closeAccount_40 ?_
          refine W.eq (g2 := F0 m 41 ls [.ref (ad (41 + v3.toNatClampNeg))]) rfl ?_
          refine va_calli (va_runV (As := []) (rest := []) ⟨hx, hb, hml, hown, hts⟩ (mt_Aut_isLive l hl9 dC dI cA ad hI _ hw) (cwV 0 hts (gV gw_112 gw_113 gw_114 gw_115 gw_111) rfl rfl rfl (by decide +kernel) ⟨Nat.le_of_ble_eq_true rfl, Nat.le_of_ble_eq_true rfl⟩) ⟨zwC_blind, va_recv hK hP (ci := 6) (q0 := 41 + v3.toNatClampNeg) rfl (atC_Aut (zw_lt h2)), zwC_pre hP hS hG9⟩ rfl rfl hl.1 rfl (lv_room (Nat.le_of_ble_eq_true rfl)) d_CA_closeAccount_41 ⟨Nat.le_of_ble_eq_true rfl, Nat.le_of_ble_eq_true rfl⟩) hS (fun q _ h => CA_le hS.1 q h) (fun q h => CA_le hS.1 q h) (fun r5 X4 t H locs ht hvm hw hP hz1 hk1 hS => ?_)
          have hP : va_P (dC, dI) vwCl (wdC cA ad X4) H := by rw [← ht]; exact hP
          try dsimp only at hw
          refine lv_if_eq (tgt := 60) hx hb d_CA_closeAccount_44 (by decide) (fun c6 => ?_) (fun c6 => ?_)
          · have hw := hw.1 c6
            refine lv_iinc (k := 3) (v := v3 + (1 : Int32)) (lv' := [(3, .int (v3 + (1 : Int32))), (0, .ref (ad 0)), (1, .int v1), (2, .int v2)]) hx hb d_CA_closeAccount_60 hl rfl rfl (by decide) rfl (fun ls hl => ?_)
            refine lv_goto (tgt := 14) hx hb d_CA_closeAccount_63 (by decide) ?_
            have hl := lv_sub hl (l' := [(0, .ref (ad 0)), (1, .int v1), (2, .int v2), (3, .int (v3 + (1 : Int32)))]) [1, 2, 3, 0] rfl
            exact ih _ _ _ _ _ _ hw hP hS hl
          · have hw := hw.2 c6
            refine lv_aload_n hx hb d_CA_closeAccount_47 rfl (lv_at hl 0 rfl) ?_
            refine va_get (D := (dC, dI)) (ci := 0) (v := .ref (ad 3)) (C := R_CA) (T := T_CA) (N := 14) hx hb hts in_CA hown hK hP (0) atC_CA rfl 8 (by decide) (hts _ gw_75) (fun _ h9 => h9) rfl d_CA_closeAccount_48 ?_
            refine lv_iload_n hx hb d_CA_closeAccount_51 rfl (lv_at hl 3 rfl) ?_
            refine va_aldq hx hb hK hP (3) 2 atC_aAut rfl h2 d_CA_closeAccount_52 ?_
            refine W.eq (g2 := F0 m 53 ls [.ref (ad (41 + v3.toNatClampNeg))]) rfl ?_
            refine lv_iconst (v := (3 : Int32)) hx hb d_CA_closeAccount_53 (by decide) ?_
            refine va_put (D := (dC, dI)) (ci := 6) (v := .int (3 : Int32)) (ty := .int) (C := R_Aut) (T := T_Aut) (N := 4) hx hb hts in_Aut ty_Aut ty_Aut_ok nm_Aut hown hK hP (hD0 _) hS (41 + v3.toNatClampNeg) (atC_Aut (zw_lt h2)) rfl 0 (by decide) (hts _ gw_78) (fun _ h9 => h9) rfl (by decide +kernel) rfl rfl (Nat.le_of_ble_eq_true rfl) d_CA_closeAccount_54 (fun H locs hP _ hS => ?_)
            have hP : va_P (dC, dI) vwCl (wdC cA ad (up X4 30 v3.toNatClampNeg (3 : Int32))) H := by rw [← stC_Aut_0 (zw_lt h2)]; exact hP
            refine lv_iinc (k := 2) (v := v2 + (1 : Int32)) (lv' := [(2, .int (v2 + (1 : Int32))), (0, .ref (ad 0)), (1, .int v1), (3, .int v3)]) hx hb d_CA_closeAccount_57 hl rfl rfl (by decide) rfl (fun ls hl => ?_)
            refine lv_iinc (k := 3) (v := v3 + (1 : Int32)) (lv' := [(3, .int (v3 + (1 : Int32))), (2, .int (v2 + (1 : Int32))), (0, .ref (ad 0)), (1, .int v1)]) hx hb d_CA_closeAccount_60 hl rfl rfl (by decide) rfl (fun ls hl => ?_)
            refine lv_goto (tgt := 14) hx hb d_CA_closeAccount_63 (by decide) ?_
            have hl := lv_sub hl (l' := [(0, .ref (ad 0)), (1, .int v1), (2, .int (v2 + (1 : Int32))), (3, .int (v3 + (1 : Int32)))]) [2, 3, 1, 0] rfl
            exact ih _ _ _ _ _ _ hw hP hS hl
  unfold wp_CA_closeAccount at hw
  refine lv_aload_n hx hb d_CA_closeAccount_0 rfl (lv_at hl 0 rfl) ?_
  refine va_get (D := (dC, dI)) (ci := 0) (v := .ref (ad 1)) (C := R_CA) (T := T_CA) (N := 14) hx hb hts in_CA hown hK hP (0) atC_CA rfl 6 (by decide) (hts _ gw_33) (fun _ h9 => h9) rfl d_CA_closeAccount_1 ?_
  refine lv_iload_n hx hb d_CA_closeAccount_4 rfl (lv_at hl 1 rfl) ?_
  obtain ⟨h7, hw⟩ := hw
  refine va_aldq hx hb hK hP (1) 0 atC_aAcc rfl h7 d_CA_closeAccount_5 ?_
  refine W.eq (g2 := F0 m 6 ls [.ref (ad (11 + a1.toNatClampNeg))]) rfl ?_
  refine lv_iconst (v := (1 : Int32)) hx hb d_CA_closeAccount_6 (by decide) ?_
  refine va_put (D := (dC, dI)) (ci := 4) (v := .int (1 : Int32)) (ty := .int) (C := R_Acc) (T := T_Acc) (N := 2) hx hb hts in_Acc ty_Acc ty_Acc_ok nm_Acc hown hK hP (hD0 _) hS (11 + a1.toNatClampNeg) (atC_Acc (zw_lt h7)) rfl 0 (by decide) (hts _ gw_63) (fun _ h9 => h9) rfl (by decide +kernel) rfl rfl (Nat.le_of_ble_eq_true rfl) d_CA_closeAccount_7 (fun H locs hP _ hS => ?_)
  have hP : va_P (dC, dI) vwCl (wdC cA ad (up X 10 a1.toNatClampNeg (1 : Int32))) H := by rw [← stC_Acc_0 (zw_lt h7)]; exact hP
  refine lv_iconst (v := (0 : Int32)) hx hb d_CA_closeAccount_10 (by decide) ?_
  refine lv_istore_n (lv' := [(2, .int (0 : Int32)), (0, .ref (ad 0)), (1, .int a1)]) hx hb d_CA_closeAccount_11 rfl hl (by decide) rfl (fun ls hl => ?_)
  refine lv_iconst (v := (0 : Int32)) hx hb d_CA_closeAccount_12 (by decide) ?_
  refine lv_istore_n (lv' := [(3, .int (0 : Int32)), (2, .int (0 : Int32)), (0, .ref (ad 0)), (1, .int a1)]) hx hb d_CA_closeAccount_13 rfl hl (by decide) rfl (fun ls hl => ?_)
  have hl := lv_sub hl (l' := [(0, .ref (ad 0)), (1, .int a1), (2, .int (0 : Int32)), (3, .int (0 : Int32))]) [2, 3, 1, 0] rfl
  obtain ⟨n9, hw⟩ := hw
  exact L14 _ n9 _ _ _ _ _ _ hw hP hS hl
def ws_CA_deactivateOne : List Cond := Cond.code y_CA_deactivateOne c_CA_deactivateOne 3 (Option.some Jvm.ClassFile.FieldType.int) :: GW
theorem d_CA_deactivateOne_0 : decode c_CA_deactivateOne 0 = .ok (.iload_n 2, 1) := by decide +kernel
theorem d_CA_deactivateOne_1 : decode c_CA_deactivateOne 1 = .ok (.ifCond .lt 11, 3) := by decide +kernel
theorem d_CA_deactivateOne_4 : decode c_CA_deactivateOne 4 = .ok (.iload_n 2, 1) := by decide +kernel
theorem d_CA_deactivateOne_5 : decode c_CA_deactivateOne 5 = .ok (.aload_n 0, 1) := by decide +kernel
theorem d_CA_deactivateOne_6 : decode c_CA_deactivateOne 6 = .ok (.getfield 136, 3) := by decide +kernel
theorem d_CA_deactivateOne_9 : decode c_CA_deactivateOne 9 = .ok (.if_icmp .lt 11, 3) := by decide +kernel
theorem d_CA_deactivateOne_12 : decode c_CA_deactivateOne 12 = .ok (.new 177, 3) := by decide +kernel
theorem d_CA_deactivateOne_15 : decode c_CA_deactivateOne 15 = .ok (.dup, 1) := by decide +kernel
theorem d_CA_deactivateOne_16 : decode c_CA_deactivateOne 16 = .ok (.invokespecial 179, 3) := by decide +kernel
theorem d_CA_deactivateOne_19 : decode c_CA_deactivateOne 19 = .ok (.athrow, 1) := by decide +kernel
theorem d_CA_deactivateOne_20 : decode c_CA_deactivateOne 20 = .ok (.aload_n 0, 1) := by decide +kernel
theorem d_CA_deactivateOne_21 : decode c_CA_deactivateOne 21 = .ok (.getfield 23, 3) := by decide +kernel
theorem d_CA_deactivateOne_24 : decode c_CA_deactivateOne 24 = .ok (.iload_n 2, 1) := by decide +kernel
theorem d_CA_deactivateOne_25 : decode c_CA_deactivateOne 25 = .ok (.aaload, 1) := by decide +kernel
theorem d_CA_deactivateOne_26 : decode c_CA_deactivateOne 26 = .ok (.getfield 156, 3) := by decide +kernel
theorem d_CA_deactivateOne_29 : decode c_CA_deactivateOne 29 = .ok (.iload_n 1, 1) := by decide +kernel
theorem d_CA_deactivateOne_30 : decode c_CA_deactivateOne 30 = .ok (.if_icmp .eq 11, 3) := by decide +kernel
theorem d_CA_deactivateOne_33 : decode c_CA_deactivateOne 33 = .ok (.new 104, 3) := by decide +kernel
theorem d_CA_deactivateOne_36 : decode c_CA_deactivateOne 36 = .ok (.dup, 1) := by decide +kernel
theorem d_CA_deactivateOne_37 : decode c_CA_deactivateOne 37 = .ok (.invokespecial 106, 3) := by decide +kernel
theorem d_CA_deactivateOne_40 : decode c_CA_deactivateOne 40 = .ok (.athrow, 1) := by decide +kernel
theorem d_CA_deactivateOne_41 : decode c_CA_deactivateOne 41 = .ok (.aload_n 0, 1) := by decide +kernel
theorem d_CA_deactivateOne_42 : decode c_CA_deactivateOne 42 = .ok (.getfield 23, 3) := by decide +kernel
theorem d_CA_deactivateOne_45 : decode c_CA_deactivateOne 45 = .ok (.iload_n 2, 1) := by decide +kernel
theorem d_CA_deactivateOne_46 : decode c_CA_deactivateOne 46 = .ok (.aaload, 1) := by decide +kernel
theorem d_CA_deactivateOne_47 : decode c_CA_deactivateOne 47 = .ok (.invokevirtual 281, 3) := by decide +kernel
theorem d_CA_deactivateOne_50 : decode c_CA_deactivateOne 50 = .ok (.ifCond .ne 11, 3) := by decide +kernel
theorem d_CA_deactivateOne_53 : decode c_CA_deactivateOne 53 = .ok (.new 120, 3) := by decide +kernel
theorem d_CA_deactivateOne_56 : decode c_CA_deactivateOne 56 = .ok (.dup, 1) := by decide +kernel
theorem d_CA_deactivateOne_57 : decode c_CA_deactivateOne 57 = .ok (.invokespecial 122, 3) := by decide +kernel
theorem d_CA_deactivateOne_60 : decode c_CA_deactivateOne 60 = .ok (.athrow, 1) := by decide +kernel
theorem d_CA_deactivateOne_61 : decode c_CA_deactivateOne 61 = .ok (.aload_n 0, 1) := by decide +kernel
theorem d_CA_deactivateOne_62 : decode c_CA_deactivateOne 62 = .ok (.getfield 23, 3) := by decide +kernel
theorem d_CA_deactivateOne_65 : decode c_CA_deactivateOne 65 = .ok (.iload_n 2, 1) := by decide +kernel
theorem d_CA_deactivateOne_66 : decode c_CA_deactivateOne 66 = .ok (.aaload, 1) := by decide +kernel
theorem d_CA_deactivateOne_67 : decode c_CA_deactivateOne 67 = .ok (.iconst 3, 1) := by decide +kernel
theorem d_CA_deactivateOne_68 : decode c_CA_deactivateOne 68 = .ok (.putfield 159, 3) := by decide +kernel
theorem d_CA_deactivateOne_71 : decode c_CA_deactivateOne 71 = .ok (.iconst 1, 1) := by decide +kernel
theorem d_CA_deactivateOne_72 : decode c_CA_deactivateOne 72 = .ok (.ireturn, 1) := by decide +kernel
def wp_CA_deactivateOne (post : Int32 → ST → Prop) (px : String → ST → Prop) (X : ST) (a1 : Int32) (a2 : Int32) : Prop := ((a2 < 0 → px "java/util/NoSuchElementException" X) ∧ (¬ a2 < 0 → ((a2 < (X 4 0) → (vp_in a2 24 ∧ (((X 31 a2.toNatClampNeg) = a1 → wp_Aut_isLive (fun (r6 : Int32) (X5 : ST) => ((r6 = 0 → px "java/lang/IllegalStateException" X5) ∧ (¬ r6 = 0 → post (1 : Int32) (up X5 30 a2.toNatClampNeg (3 : Int32))))) X a2.toNatClampNeg) ∧ (¬ (X 31 a2.toNatClampNeg) = a1 → px "java/lang/UnsupportedOperationException" X)))) ∧ (¬ a2 < (X 4 0) → px "java/util/NoSuchElementException" X))))
set_option maxHeartbeats 4000000 in
set_option maxRecDepth 100000 in
theorem mt_CA_deactivateOne (l : Launch) (hl9 : l.stackTraces = false) (dC : Nat → ClassId) (dI : Nat → Nat → Nat) (cA : Nat → ClassId) (ad : Nat → Nat) (hI : INJ ad 125) (sz : Nat) {X : ST} {a1 : Int32} {a2 : Int32} {post : Int32 → ST → Prop} {px : String → ST → Prop} (hw : wp_CA_deactivateOne post px X a1 a2) : xt_Met l y_CA_deactivateOne ws_CA_deactivateOne ({ frames := 6, cells := 1, slots := 6, locals := 90 } : Room) (va_Pc [.ref (ad 0), .int a1, .int a2] (fun U => PC dC dI cA ad sz X U)) (va_Qi (fun r (u : ST) => post r u) (fun (u : ST) t => va_P (dC, dI) vwCl (wdC cA ad u) t.heap) (CA ad 125 sz)) (xt_X (fun (u : String × ST) => px u.1 u.2) (fun E (u : String × ST) t => u.1 = E ∧ va_P (dC, dI) vwCl (wdC cA ad u.2) t.heap) (CA ad 125 sz)) 1 6 (CA ad 125 sz) := by
  refine xt_ofW (cc := c_CA_deactivateOne) (maxL := 3) (ret := (some .int)) (by decide) rfl ?_
  intro p e s m args below meth c s₁ B hml hEx hv
  obtain ⟨rfl, hsz, hP, hG⟩ := hv
  have hx := B.exec
  have hb := B.bytes
  have hr := B.returns
  have hts : ∀ w ∈ GW, w.before (([.ref (ad 0), .int a1, .int a2] : List Value).toArray) s = true := fun w h => atoms_spec (ws := ws_CA_deactivateOne) B.pre w (List.mem_cons_of_mem _ h)
  have hown : s.vm.findClass R_CA = some m.cls := findClass_of_methodNamed B.named
  have hlocks := B.notSynchronized
  subst hsz
  have hK := hG.1
  have hG9 := hG
  have hNW := hG.2.1
  have hD0 : ∀ (X : ST), va_D (CA ad 125 s.heap.size) (wdC cA ad X) := fun _ => zwC_D hI
  have hS : va_S (CA ad 125 s.heap.size) s.heap s.heap [] := va_S.rf
  have hl := lv_entry ([.ref (ad 0), .int a1, .int a2]) (n := 3) (Nat.le_of_ble_eq_true rfl)
  rw [lg_entry_eq]
  generalize (lg_sl ([.ref (ad 0), .int a1, .int a2]) ++ List.replicate (3 - (lg_sl ([.ref (ad 0), .int a1, .int a2])).length) Slot.unset).toArray = ls at hl ⊢
  have hl : lv_has ls 3 [(0, .ref (ad 0)), (1, .int a1), (2, .int a2)] := hl
  unfold wp_CA_deactivateOne at hw
  refine lv_iload_n hx hb d_CA_deactivateOne_0 rfl (lv_at hl 2 rfl) ?_
  refine lv_if_lt (tgt := 12) hx hb d_CA_deactivateOne_1 (by decide) (fun c1 => ?_) (fun c1 => ?_)
  · have hw := hw.1 c1
    exact xt_throw0 (cls := "java/util/NoSuchElementException") (names := ["java/lang/RuntimeException", "java/lang/Exception"]) (ic := 179) hx hb hl9 hown (by decide +kernel) (by decide +kernel) (hts _ gw_64) (hts _ gw_65) (hts _ gw_66) (xc_hat xa_3 hts hG9 hP hS) (hl.1.trans hml.symm) d_CA_deactivateOne_12 d_CA_deactivateOne_15 d_CA_deactivateOne_16 d_CA_deactivateOne_19 (fun x hx => (hEx x hx).elim) hlocks (fun t ha hz hk => ⟨("java/util/NoSuchElementException", X), hw, ⟨rfl, zw_keep hP hk⟩, zw_F hS hz hk⟩) hS.2.2 (Nat.le_of_ble_eq_true rfl) (Nat.le_of_ble_eq_true rfl) (Nat.le_of_ble_eq_true rfl) (Nat.le_of_ble_eq_true rfl) (Nat.le_of_ble_eq_true rfl) (Nat.le_of_ble_eq_true rfl)
  · have hw := hw.2 c1
    refine lv_iload_n hx hb d_CA_deactivateOne_4 rfl (lv_at hl 2 rfl) ?_
    refine lv_aload_n hx hb d_CA_deactivateOne_5 rfl (lv_at hl 0 rfl) ?_
    refine va_get (D := (dC, dI)) (ci := 0) (v := .int (X 4 0)) (C := R_CA) (T := T_CA) (N := 14) hx hb hts in_CA hown hK hP (0) atC_CA rfl 4 (by decide) (hts _ gw_79) (fun _ h9 => h9) rfl d_CA_deactivateOne_6 ?_
    refine lv_icmp_lt (tgt := 20) hx hb d_CA_deactivateOne_9 (by decide) (fun c2 => ?_) (fun c2 => ?_)
    · have hw := hw.1 c2
      refine lv_aload_n hx hb d_CA_deactivateOne_20 rfl (lv_at hl 0 rfl) ?_
      refine va_get (D := (dC, dI)) (ci := 0) (v := .ref (ad 3)) (C := R_CA) (T := T_CA) (N := 14) hx hb hts in_CA hown hK hP (0) atC_CA rfl 8 (by decide) (hts _ gw_75) (fun _ h9 => h9) rfl d_CA_deactivateOne_21 ?_
      refine lv_iload_n hx hb d_CA_deactivateOne_24 rfl (lv_at hl 2 rfl) ?_
      obtain ⟨h3, hw⟩ := hw
      refine va_aldq hx hb hK hP (3) 2 atC_aAut rfl h3 d_CA_deactivateOne_25 ?_
      refine W.eq (g2 := F0 m 26 ls [.ref (ad (41 + a2.toNatClampNeg))]) rfl ?_
      refine va_get (D := (dC, dI)) (ci := 6) (v := .int (X 31 a2.toNatClampNeg)) (C := R_Aut) (T := T_Aut) (N := 4) hx hb hts in_Aut hown hK hP (41 + a2.toNatClampNeg) (atC_Aut (zw_lt h3)) rfl 1 (by decide) (hts _ gw_76) (fun _ h9 => h9) rfl d_CA_deactivateOne_26 ?_
      refine lv_iload_n hx hb d_CA_deactivateOne_29 rfl (lv_at hl 1 rfl) ?_
      refine lv_icmp_eq (tgt := 41) hx hb d_CA_deactivateOne_30 (by decide) (fun c4 => ?_) (fun c4 => ?_)
      · have hw := hw.1 c4
        refine lv_aload_n hx hb d_CA_deactivateOne_41 rfl (lv_at hl 0 rfl) ?_
        refine va_get (D := (dC, dI)) (ci := 0) (v := .ref (ad 3)) (C := R_CA) (T := T_CA) (N := 14) hx hb hts in_CA hown hK hP (0) atC_CA rfl 8 (by decide) (hts _ gw_75) (fun _ h9 => h9) rfl d_CA_deactivateOne_42 ?_
        refine lv_iload_n hx hb d_CA_deactivateOne_45 rfl (lv_at hl 2 rfl) ?_
        refine va_aldq hx hb hK hP (3) 2 atC_aAut rfl h3 d_CA_deactivateOne_46 ?_
        refine W.eq (g2 := F0 m 47 ls [.ref (ad (41 + a2.toNatClampNeg))]) rfl ?_
        refine va_calli (va_runV (As := []) (rest := []) ⟨hx, hb, hml, hown, hts⟩ (mt_Aut_isLive l hl9 dC dI cA ad hI _ hw) (cwV 0 hts (gV gw_112 gw_113 gw_114 gw_115 gw_111) rfl rfl rfl (by decide +kernel) ⟨Nat.le_of_ble_eq_true rfl, Nat.le_of_ble_eq_true rfl⟩) ⟨zwC_blind, va_recv hK hP (ci := 6) (q0 := 41 + a2.toNatClampNeg) rfl (atC_Aut (zw_lt h3)), zwC_pre hP hS hG9⟩ rfl rfl hl.1 rfl (lv_room (Nat.le_of_ble_eq_true rfl)) d_CA_deactivateOne_47 ⟨Nat.le_of_ble_eq_true rfl, Nat.le_of_ble_eq_true rfl⟩) hS (fun q _ h => CA_le hS.1 q h) (fun q h => CA_le hS.1 q h) (fun r6 X5 t H locs ht hvm hw hP hz1 hk1 hS => ?_)
        have hP : va_P (dC, dI) vwCl (wdC cA ad X5) H := by rw [← ht]; exact hP
        try dsimp only at hw
        refine lv_if_ne (tgt := 61) hx hb d_CA_deactivateOne_50 (by decide) (fun c7 => ?_) (fun c7 => ?_)
        · have hw := hw.2 c7
          refine lv_aload_n hx hb d_CA_deactivateOne_61 rfl (lv_at hl 0 rfl) ?_
          refine va_get (D := (dC, dI)) (ci := 0) (v := .ref (ad 3)) (C := R_CA) (T := T_CA) (N := 14) hx hb hts in_CA hown hK hP (0) atC_CA rfl 8 (by decide) (hts _ gw_75) (fun _ h9 => h9) rfl d_CA_deactivateOne_62 ?_
          refine lv_iload_n hx hb d_CA_deactivateOne_65 rfl (lv_at hl 2 rfl) ?_
          refine va_aldq hx hb hK hP (3) 2 atC_aAut rfl h3 d_CA_deactivateOne_66 ?_
          refine W.eq (g2 := F0 m 67 ls [.ref (ad (41 + a2.toNatClampNeg))]) rfl ?_
          refine lv_iconst (v := (3 : Int32)) hx hb d_CA_deactivateOne_67 (by decide) ?_
          refine va_put (D := (dC, dI)) (ci := 6) (v := .int (3 : Int32)) (ty := .int) (C := R_Aut) (T := T_Aut) (N := 4) hx hb hts in_Aut ty_Aut ty_Aut_ok nm_Aut hown hK hP (hD0 _) hS (41 + a2.toNatClampNeg) (atC_Aut (zw_lt h3)) rfl 0 (by decide) (hts _ gw_78) (fun _ h9 => h9) rfl (by decide +kernel) rfl rfl (Nat.le_of_ble_eq_true rfl) d_CA_deactivateOne_68 (fun H locs hP _ hS => ?_)
          have hP : va_P (dC, dI) vwCl (wdC cA ad (up X5 30 a2.toNatClampNeg (3 : Int32))) H := by rw [← stC_Aut_0 (zw_lt h3)]; exact hP
          refine lv_iconst (v := (1 : Int32)) hx hb d_CA_deactivateOne_71 (by decide) ?_
          refine xt_ret ?_
          refine W.widen (k := 1) (n := 6) (Nat.le_of_ble_eq_true rfl) (Nat.le_of_ble_eq_true rfl) ?_
          exact W.iret (v := (1 : Int32)) hx hb hr (fun t ht _ => ⟨⟨(1 : Int32), up X5 30 a2.toNatClampNeg (3 : Int32), rfl, hw, by show va_P _ _ _ t.heap; rw [ht]; exact hP⟩, hS.F ht⟩) hS.2.2 d_CA_deactivateOne_72
        · have hw := hw.1 c7
          exact xt_throw0 (cls := "java/lang/IllegalStateException") (names := ["java/lang/RuntimeException", "java/lang/Exception"]) (ic := 122) hx hb hl9 hown (by decide +kernel) (by decide +kernel) (hts _ gw_60) (hts _ gw_61) (hts _ gw_62) (xc_hat xa_2 hts hG9 hP hS) (hl.1.trans hml.symm) d_CA_deactivateOne_53 d_CA_deactivateOne_56 d_CA_deactivateOne_57 d_CA_deactivateOne_60 (fun x hx => (hEx x hx).elim) hlocks (fun t ha hz hk => ⟨("java/lang/IllegalStateException", X5), hw, ⟨rfl, zw_keep hP hk⟩, zw_F hS hz hk⟩) hS.2.2 (Nat.le_of_ble_eq_true rfl) (Nat.le_of_ble_eq_true rfl) (Nat.le_of_ble_eq_true rfl) (Nat.le_of_ble_eq_true rfl) (Nat.le_of_ble_eq_true rfl) (Nat.le_of_ble_eq_true rfl)
      · have hw := hw.2 c4
        exact xt_throw0 (cls := "java/lang/UnsupportedOperationException") (names := ["java/lang/RuntimeException", "java/lang/Exception"]) (ic := 106) hx hb hl9 hown (by decide +kernel) (by decide +kernel) (hts _ gw_49) (hts _ gw_50) (hts _ gw_51) (xc_hat xa_1 hts hG9 hP hS) (hl.1.trans hml.symm) d_CA_deactivateOne_33 d_CA_deactivateOne_36 d_CA_deactivateOne_37 d_CA_deactivateOne_40 (fun x hx => (hEx x hx).elim) hlocks (fun t ha hz hk => ⟨("java/lang/UnsupportedOperationException", X), hw, ⟨rfl, zw_keep hP hk⟩, zw_F hS hz hk⟩) hS.2.2 (Nat.le_of_ble_eq_true rfl) (Nat.le_of_ble_eq_true rfl) (Nat.le_of_ble_eq_true rfl) (Nat.le_of_ble_eq_true rfl) (Nat.le_of_ble_eq_true rfl) (Nat.le_of_ble_eq_true rfl)
    · have hw := hw.2 c2
      exact xt_throw0 (cls := "java/util/NoSuchElementException") (names := ["java/lang/RuntimeException", "java/lang/Exception"]) (ic := 179) hx hb hl9 hown (by decide +kernel) (by decide +kernel) (hts _ gw_64) (hts _ gw_65) (hts _ gw_66) (xc_hat xa_3 hts hG9 hP hS) (hl.1.trans hml.symm) d_CA_deactivateOne_12 d_CA_deactivateOne_15 d_CA_deactivateOne_16 d_CA_deactivateOne_19 (fun x hx => (hEx x hx).elim) hlocks (fun t ha hz hk => ⟨("java/util/NoSuchElementException", X), hw, ⟨rfl, zw_keep hP hk⟩, zw_F hS hz hk⟩) hS.2.2 (Nat.le_of_ble_eq_true rfl) (Nat.le_of_ble_eq_true rfl) (Nat.le_of_ble_eq_true rfl) (Nat.le_of_ble_eq_true rfl) (Nat.le_of_ble_eq_true rfl) (Nat.le_of_ble_eq_true rfl)
def ws_CA_deactivate : List Cond := Cond.code y_CA_deactivate c_CA_deactivate 6 (Option.some Jvm.ClassFile.FieldType.int) :: GW
theorem d_CA_deactivate_0 : decode c_CA_deactivate 0 = .ok (.aload_n 0, 1) := by decide +kernel
theorem d_CA_deactivate_1 : decode c_CA_deactivate 1 = .ok (.iload_n 1, 1) := by decide +kernel
theorem d_CA_deactivate_2 : decode c_CA_deactivate 2 = .ok (.iload_n 2, 1) := by decide +kernel
theorem d_CA_deactivate_3 : decode c_CA_deactivate 3 = .ok (.aload_n 0, 1) := by decide +kernel
theorem d_CA_deactivate_4 : decode c_CA_deactivate 4 = .ok (.bipush 6, 2) := by decide +kernel
theorem d_CA_deactivate_6 : decode c_CA_deactivate 6 = .ok (.iload_n 1, 1) := by decide +kernel
theorem d_CA_deactivate_7 : decode c_CA_deactivate 7 = .ok (.iload_n 2, 1) := by decide +kernel
theorem d_CA_deactivate_8 : decode c_CA_deactivate 8 = .ok (.iload_n 3, 1) := by decide +kernel
theorem d_CA_deactivate_9 : decode c_CA_deactivate 9 = .ok (.iconst 0, 1) := by decide +kernel
theorem d_CA_deactivate_10 : decode c_CA_deactivate 10 = .ok (.invokevirtual 96, 3) := by decide +kernel
theorem d_CA_deactivate_13 : decode c_CA_deactivate 13 = .ok (.iload 4, 2) := by decide +kernel
theorem d_CA_deactivate_15 : decode c_CA_deactivate 15 = .ok (.invokevirtual 126, 3) := by decide +kernel
theorem d_CA_deactivate_18 : decode c_CA_deactivate 18 = .ok (.iload_n 3, 1) := by decide +kernel
theorem d_CA_deactivate_19 : decode c_CA_deactivate 19 = .ok (.iconst (-1), 1) := by decide +kernel
theorem d_CA_deactivate_20 : decode c_CA_deactivate 20 = .ok (.if_icmp .ne 11, 3) := by decide +kernel
theorem d_CA_deactivate_23 : decode c_CA_deactivate 23 = .ok (.aload_n 0, 1) := by decide +kernel
theorem d_CA_deactivate_24 : decode c_CA_deactivate 24 = .ok (.iload_n 1, 1) := by decide +kernel
theorem d_CA_deactivate_25 : decode c_CA_deactivate 25 = .ok (.invokevirtual 211, 3) := by decide +kernel
theorem d_CA_deactivate_28 : decode c_CA_deactivate 28 = .ok (.goto 9, 3) := by decide +kernel
theorem d_CA_deactivate_31 : decode c_CA_deactivate 31 = .ok (.aload_n 0, 1) := by decide +kernel
theorem d_CA_deactivate_32 : decode c_CA_deactivate 32 = .ok (.iload_n 1, 1) := by decide +kernel
theorem d_CA_deactivate_33 : decode c_CA_deactivate 33 = .ok (.iload_n 3, 1) := by decide +kernel
theorem d_CA_deactivate_34 : decode c_CA_deactivate 34 = .ok (.invokevirtual 214, 3) := by decide +kernel
theorem d_CA_deactivate_37 : decode c_CA_deactivate 37 = .ok (.istore 5, 2) := by decide +kernel
theorem d_CA_deactivate_39 : decode c_CA_deactivate 39 = .ok (.aload_n 0, 1) := by decide +kernel
theorem d_CA_deactivate_40 : decode c_CA_deactivate 40 = .ok (.invokevirtual 149, 3) := by decide +kernel
theorem d_CA_deactivate_43 : decode c_CA_deactivate 43 = .ok (.iload 5, 2) := by decide +kernel
theorem d_CA_deactivate_45 : decode c_CA_deactivate 45 = .ok (.ireturn, 1) := by decide +kernel
def wq_CA_deactivate_37 (post : Int32 → ST → Prop) (px : String → ST → Prop) (s0 : Int32) (X : ST) : Prop := wp_CA_settleOrders (fun (X1 : ST) => post s0 X1) X
def wp_CA_deactivate (post : Int32 → ST → Prop) (px : String → ST → Prop) (X : ST) (a1 : Int32) (a2 : Int32) (a3 : Int32) (a4 : Int32) : Prop := wp_CA_digest (fun (r4 : Int32) (X3 : ST) => wp_CA_acceptSigned (fun (X5 : ST) => ((a3 = (-1 : Int32) → wp_CA_closeAccount (fun (r9 : Int32) (X8 : ST) => wq_CA_deactivate_37 post px r9 X8) X5 a1) ∧ (¬ a3 = (-1 : Int32) → wp_CA_deactivateOne (fun (r11 : Int32) (X10 : ST) => wq_CA_deactivate_37 post px r11 X10) px X5 a1 a3))) px X3 a1 a2 r4 a4) X (6 : Int32) a1 a2 a3 (0 : Int32)
set_option maxHeartbeats 4000000 in
set_option maxRecDepth 100000 in
theorem mt_CA_deactivate (l : Launch) (hl9 : l.stackTraces = false) (dC : Nat → ClassId) (dI : Nat → Nat → Nat) (cA : Nat → ClassId) (ad : Nat → Nat) (hI : INJ ad 125) (sz : Nat) {X : ST} {a1 : Int32} {a2 : Int32} {a3 : Int32} {a4 : Int32} {post : Int32 → ST → Prop} {px : String → ST → Prop} (hw : wp_CA_deactivate post px X a1 a2 a3 a4) : xt_Met l y_CA_deactivate ws_CA_deactivate ({ frames := 7, cells := 2, slots := 12, locals := 114 } : Room) (va_Pc [.ref (ad 0), .int a1, .int a2, .int a3, .int a4] (fun U => PC dC dI cA ad sz X U)) (va_Qi (fun r (u : ST) => post r u) (fun (u : ST) t => va_P (dC, dI) vwCl (wdC cA ad u) t.heap) (CA ad 125 sz)) (xt_X (fun (u : String × ST) => px u.1 u.2) (fun E (u : String × ST) t => u.1 = E ∧ va_P (dC, dI) vwCl (wdC cA ad u.2) t.heap) (CA ad 125 sz)) 2 12 (CA ad 125 sz) := by
  refine xt_ofW (cc := c_CA_deactivate) (maxL := 6) (ret := (some .int)) (by decide) rfl ?_
  intro p e s m args below meth c s₁ B hml hEx hv
  obtain ⟨rfl, hsz, hP, hG⟩ := hv
  have hx := B.exec
  have hb := B.bytes
  have hr := B.returns
  have hts : ∀ w ∈ GW, w.before (([.ref (ad 0), .int a1, .int a2, .int a3, .int a4] : List Value).toArray) s = true := fun w h => atoms_spec (ws := ws_CA_deactivate) B.pre w (List.mem_cons_of_mem _ h)
  have hown : s.vm.findClass R_CA = some m.cls := findClass_of_methodNamed B.named
  have hlocks := B.notSynchronized
  subst hsz
  have hK := hG.1
  have hG9 := hG
  have hNW := hG.2.1
  have hD0 : ∀ (X : ST), va_D (CA ad 125 s.heap.size) (wdC cA ad X) := fun _ => zwC_D hI
  have hS : va_S (CA ad 125 s.heap.size) s.heap s.heap [] := va_S.rf
  have hl := lv_entry ([.ref (ad 0), .int a1, .int a2, .int a3, .int a4]) (n := 6) (Nat.le_of_ble_eq_true rfl)
  rw [lg_entry_eq]
  generalize (lg_sl ([.ref (ad 0), .int a1, .int a2, .int a3, .int a4]) ++ List.replicate (6 - (lg_sl ([.ref (ad 0), .int a1, .int a2, .int a3, .int a4])).length) Slot.unset).toArray = ls at hl ⊢
  have hl : lv_has ls 6 [(0, .ref (ad 0)), (1, .int a1), (2, .int a2), (3, .int a3), (4, .int a4)] := hl
  have L37 : ∀ (s0 : Int32) (X : ST) (H : Heap) (locs : List Loc) (ls : Array Slot), wq_CA_deactivate_37 post px s0 X → va_P (dC, dI) vwCl (wdC cA ad X) H → va_S (CA ad 125 s.heap.size) s.heap H locs → lv_has ls 6 [(0, .ref (ad 0))] → W p l e (headSpec ws_CA_deactivate ({ frames := 7, cells := 2, slots := 12, locals := 114 } : Room)).room s m (([.ref (ad 0), .int a1, .int a2, .int a3, .int a4] : List Value).toArray) below meth c H locs 2 12 (xt_Q below (va_Qi (fun r (u : ST) => post r u) (fun (u : ST) t => va_P (dC, dI) vwCl (wdC cA ad u) t.heap) (CA ad 125 s.heap.size)) (xt_X (fun (u : String × ST) => px u.1 u.2) (fun E (u : String × ST) t => u.1 = E ∧ va_P (dC, dI) vwCl (wdC cA ad u.2) t.heap) (CA ad 125 s.heap.size)) (([.ref (ad 0), .int a1, .int a2, .int a3, .int a4] : List Value).toArray) s 2 12 (CA ad 125 s.heap.size)) (F0 m 37 ls [.int s0]) := by
    intro s0 X H locs ls hw hP hS hl
    unfold wq_CA_deactivate_37 at hw
    refine lv_istore (lv' := [(5, .int s0), (0, .ref (ad 0))]) hx hb d_CA_deactivate_37 hl (by decide) rfl (fun ls hl => ?_)
    refine lv_aload_n hx hb d_CA_deactivate_39 rfl (lv_at hl 1 rfl) ?_
    refine va_callv (va_runV (As := []) (rest := []) ⟨hx, hb, hml, hown, hts⟩ (mt_CA_settleOrders l hl9 dC dI cA ad hI _ hw) (cwV 0 hts (gV gw_141 gw_142 gw_143 gw_13 gw_140) rfl rfl rfl (by decide +kernel) ⟨Nat.le_of_ble_eq_true rfl, Nat.le_of_ble_eq_true rfl⟩) ⟨zwC_blind, va_recv hK hP (ci := 0) (q0 := 0) rfl atC_CA, zwC_pre hP hS hG9⟩ rfl rfl hl.1 rfl (lv_room (Nat.le_of_ble_eq_true rfl)) d_CA_deactivate_40 ⟨Nat.le_of_ble_eq_true rfl, Nat.le_of_ble_eq_true rfl⟩) hS (fun q _ h => CA_le hS.1 q h) (fun q h => CA_le hS.1 q h) (fun X1 t H locs ht hvm hw hP hz1 hk1 hS => ?_)
    have hP : va_P (dC, dI) vwCl (wdC cA ad X1) H := by rw [← ht]; exact hP
    try dsimp only at hw
    refine lv_iload hx hb d_CA_deactivate_43 (lv_at hl 0 rfl) ?_
    refine xt_ret ?_
    exact W.iret (v := s0) hx hb hr (fun t ht _ => ⟨⟨s0, X1, rfl, hw, by show va_P _ _ _ t.heap; rw [ht]; exact hP⟩, hS.F ht⟩) hS.2.2 d_CA_deactivate_45
  unfold wp_CA_deactivate at hw
  refine lv_aload_n hx hb d_CA_deactivate_0 rfl (lv_at hl 0 rfl) ?_
  refine lv_iload_n hx hb d_CA_deactivate_1 rfl (lv_at hl 1 rfl) ?_
  refine lv_iload_n hx hb d_CA_deactivate_2 rfl (lv_at hl 2 rfl) ?_
  refine lv_aload_n hx hb d_CA_deactivate_3 rfl (lv_at hl 0 rfl) ?_
  refine lv_bipush (v := (6 : Int32)) hx hb d_CA_deactivate_4 (by decide) ?_
  refine lv_iload_n hx hb d_CA_deactivate_6 rfl (lv_at hl 1 rfl) ?_
  refine lv_iload_n hx hb d_CA_deactivate_7 rfl (lv_at hl 2 rfl) ?_
  refine lv_iload_n hx hb d_CA_deactivate_8 rfl (lv_at hl 3 rfl) ?_
  refine lv_iconst (v := (0 : Int32)) hx hb d_CA_deactivate_9 (by decide) ?_
  refine va_calli (va_runV (As := [.int (6 : Int32), .int a1, .int a2, .int a3, .int (0 : Int32)]) (rest := [.int a2, .int a1, .ref (ad 0)]) ⟨hx, hb, hml, hown, hts⟩ (mt_CA_digest l hl9 dC dI cA ad hI _ hw) (cwV 5 hts (gV gw_43 gw_44 gw_45 gw_13 gw_42) rfl rfl rfl (by decide +kernel) ⟨Nat.le_of_ble_eq_true rfl, Nat.le_of_ble_eq_true rfl⟩) ⟨zwC_blind, va_recv hK hP (ci := 0) (q0 := 0) rfl atC_CA, zwC_pre hP hS hG9⟩ rfl rfl hl.1 rfl (lv_room (Nat.le_of_ble_eq_true rfl)) d_CA_deactivate_10 ⟨Nat.le_of_ble_eq_true rfl, Nat.le_of_ble_eq_true rfl⟩) hS (fun q _ h => CA_le hS.1 q h) (fun q h => CA_le hS.1 q h) (fun r4 X3 t H locs ht hvm hw hP hz1 hk1 hS => ?_)
  have hP : va_P (dC, dI) vwCl (wdC cA ad X3) H := by rw [← ht]; exact hP
  try dsimp only at hw
  refine lv_iload hx hb d_CA_deactivate_13 (lv_at hl 4 rfl) ?_
  refine xt_callv (xt_runV (As := [.int a1, .int a2, .int r4, .int a4]) (rest := []) ⟨hx, hb, hml, hown, hts⟩ (mt_CA_acceptSigned l hl9 dC dI cA ad hI _ hw) (cwV 4 hts (gV gw_125 gw_126 gw_127 gw_13 gw_124) rfl rfl rfl (by decide +kernel) ⟨Nat.le_of_ble_eq_true rfl, Nat.le_of_ble_eq_true rfl⟩) ⟨zwC_blind, va_recv hK hP (ci := 0) (q0 := 0) rfl atC_CA, zwC_pre hP hS hG9⟩ rfl rfl hl.1 rfl (lv_room (Nat.le_of_ble_eq_true rfl)) d_CA_deactivate_15 ⟨Nat.le_of_ble_eq_true rfl, Nat.le_of_ble_eq_true rfl⟩) hS (fun q _ h => CA_le hS.1 q h) (fun q h => CA_le hS.1 q h) (fun q _ h => CA_le hS.1 q h) (fun E ce q9 u9 t H locs ht ha hw hB hz1 hk1 hS hce hcv hcl => ?_) (fun X5 t H locs ht hvm hw hP hz1 hk1 hS => ?_)
  · obtain ⟨E9, X9⟩ := u9
    obtain ⟨rfl, hP⟩ := hB
    exact xt_out (E := E9) (fun x hx => (hEx x hx).elim) hlocks hce hcv hcl (fun t9 ht9 ha9 => ⟨(E9, X9), hw, ⟨rfl, by show va_P _ _ _ t9.heap; rw [ht9, ← ht]; exact hP⟩, hS.F ht9⟩) hS.2.2 (Nat.le_of_ble_eq_true rfl) (Nat.le_of_ble_eq_true rfl)
  have hP : va_P (dC, dI) vwCl (wdC cA ad X5) H := by rw [← ht]; exact hP
  try dsimp only at hw
  refine lv_iload_n hx hb d_CA_deactivate_18 rfl (lv_at hl 3 rfl) ?_
  refine lv_iconst (v := (-1 : Int32)) hx hb d_CA_deactivate_19 (by decide) ?_
  refine lv_icmp_ne (tgt := 31) hx hb d_CA_deactivate_20 (by decide) (fun c7 => ?_) (fun c7 => ?_)
  · have hw := hw.2 c7
    refine lv_aload_n hx hb d_CA_deactivate_31 rfl (lv_at hl 0 rfl) ?_
    refine lv_iload_n hx hb d_CA_deactivate_32 rfl (lv_at hl 1 rfl) ?_
    refine lv_iload_n hx hb d_CA_deactivate_33 rfl (lv_at hl 3 rfl) ?_
    refine xt_calli (xt_runV (As := [.int a1, .int a3]) (rest := []) ⟨hx, hb, hml, hown, hts⟩ (mt_CA_deactivateOne l hl9 dC dI cA ad hI _ hw) (cwV 2 hts (gV gw_224 gw_225 gw_226 gw_13 gw_223) rfl rfl rfl (by decide +kernel) ⟨Nat.le_of_ble_eq_true rfl, Nat.le_of_ble_eq_true rfl⟩) ⟨zwC_blind, va_recv hK hP (ci := 0) (q0 := 0) rfl atC_CA, zwC_pre hP hS hG9⟩ rfl rfl hl.1 rfl (lv_room (Nat.le_of_ble_eq_true rfl)) d_CA_deactivate_34 ⟨Nat.le_of_ble_eq_true rfl, Nat.le_of_ble_eq_true rfl⟩) hS (fun q _ h => CA_le hS.1 q h) (fun q h => CA_le hS.1 q h) (fun q _ h => CA_le hS.1 q h) (fun E ce q9 u9 t H locs ht ha hw hB hz1 hk1 hS hce hcv hcl => ?_) (fun r11 X10 t H locs ht hvm hw hP hz1 hk1 hS => ?_)
    · obtain ⟨E9, X9⟩ := u9
      obtain ⟨rfl, hP⟩ := hB
      exact xt_out (E := E9) (fun x hx => (hEx x hx).elim) hlocks hce hcv hcl (fun t9 ht9 ha9 => ⟨(E9, X9), hw, ⟨rfl, by show va_P _ _ _ t9.heap; rw [ht9, ← ht]; exact hP⟩, hS.F ht9⟩) hS.2.2 (Nat.le_of_ble_eq_true rfl) (Nat.le_of_ble_eq_true rfl)
    have hP : va_P (dC, dI) vwCl (wdC cA ad X10) H := by rw [← ht]; exact hP
    try dsimp only at hw
    have hl := lv_sub hl (l' := [(0, .ref (ad 0))]) [0] rfl
    exact L37 _ _ _ _ _ hw hP hS hl
  · have hw := hw.1 c7
    refine lv_aload_n hx hb d_CA_deactivate_23 rfl (lv_at hl 0 rfl) ?_
    refine lv_iload_n hx hb d_CA_deactivate_24 rfl (lv_at hl 1 rfl) ?_
    refine va_calli (va_runV (As := [.int a1]) (rest := []) ⟨hx, hb, hml, hown, hts⟩ (mt_CA_closeAccount l hl9 dC dI cA ad hI _ hw) (cwV 1 hts (gV gw_220 gw_221 gw_222 gw_13 gw_219) rfl rfl rfl (by decide +kernel) ⟨Nat.le_of_ble_eq_true rfl, Nat.le_of_ble_eq_true rfl⟩) ⟨zwC_blind, va_recv hK hP (ci := 0) (q0 := 0) rfl atC_CA, zwC_pre hP hS hG9⟩ rfl rfl hl.1 rfl (lv_room (Nat.le_of_ble_eq_true rfl)) d_CA_deactivate_25 ⟨Nat.le_of_ble_eq_true rfl, Nat.le_of_ble_eq_true rfl⟩) hS (fun q _ h => CA_le hS.1 q h) (fun q h => CA_le hS.1 q h) (fun r9 X8 t H locs ht hvm hw hP hz1 hk1 hS => ?_)
    have hP : va_P (dC, dI) vwCl (wdC cA ad X8) H := by rw [← ht]; exact hP
    try dsimp only at hw
    refine lv_goto (tgt := 37) hx hb d_CA_deactivate_28 (by decide) ?_
    have hl := lv_sub hl (l' := [(0, .ref (ad 0))]) [0] rfl
    refine W.widen (k := 2) (n := 12) (Nat.le_of_ble_eq_true rfl) (Nat.le_of_ble_eq_true rfl) ?_
    exact L37 _ _ _ _ _ hw hP hS hl
