def ws_CA_settle : List Cond := Cond.code y_CA_settle c_CA_settle 5 (Option.none : Option Jvm.ClassFile.FieldType) :: GW
theorem d_CA_settle_0 : decode c_CA_settle 0 = .ok (.iconst 1, 1) := by decide +kernel
theorem d_CA_settle_1 : decode c_CA_settle 1 = .ok (.istore_n 2, 1) := by decide +kernel
theorem d_CA_settle_2 : decode c_CA_settle 2 = .ok (.iconst 0, 1) := by decide +kernel
theorem d_CA_settle_3 : decode c_CA_settle 3 = .ok (.istore_n 3, 1) := by decide +kernel
theorem d_CA_settle_4 : decode c_CA_settle 4 = .ok (.iload_n 3, 1) := by decide +kernel
theorem d_CA_settle_5 : decode c_CA_settle 5 = .ok (.aload_n 1, 1) := by decide +kernel
theorem d_CA_settle_6 : decode c_CA_settle 6 = .ok (.getfield 292, 3) := by decide +kernel
theorem d_CA_settle_9 : decode c_CA_settle 9 = .ok (.if_icmp .ge 55, 3) := by decide +kernel
theorem d_CA_settle_12 : decode c_CA_settle 12 = .ok (.aload_n 0, 1) := by decide +kernel
theorem d_CA_settle_13 : decode c_CA_settle 13 = .ok (.getfield 23, 3) := by decide +kernel
theorem d_CA_settle_16 : decode c_CA_settle 16 = .ok (.aload_n 1, 1) := by decide +kernel
theorem d_CA_settle_17 : decode c_CA_settle 17 = .ok (.getfield 295, 3) := by decide +kernel
theorem d_CA_settle_20 : decode c_CA_settle 20 = .ok (.iload_n 3, 1) := by decide +kernel
theorem d_CA_settle_21 : decode c_CA_settle 21 = .ok (.iaload, 1) := by decide +kernel
theorem d_CA_settle_22 : decode c_CA_settle 22 = .ok (.aaload, 1) := by decide +kernel
theorem d_CA_settle_23 : decode c_CA_settle 23 = .ok (.astore 4, 2) := by decide +kernel
theorem d_CA_settle_25 : decode c_CA_settle 25 = .ok (.aload 4, 2) := by decide +kernel
theorem d_CA_settle_27 : decode c_CA_settle 27 = .ok (.invokevirtual 281, 3) := by decide +kernel
theorem d_CA_settle_30 : decode c_CA_settle 30 = .ok (.ifCond .ne 9, 3) := by decide +kernel
theorem d_CA_settle_33 : decode c_CA_settle 33 = .ok (.aload_n 1, 1) := by decide +kernel
theorem d_CA_settle_34 : decode c_CA_settle 34 = .ok (.iconst 4, 1) := by decide +kernel
theorem d_CA_settle_35 : decode c_CA_settle 35 = .ok (.putfield 181, 3) := by decide +kernel
theorem d_CA_settle_38 : decode c_CA_settle 38 = .ok (.return_, 1) := by decide +kernel
theorem d_CA_settle_39 : decode c_CA_settle 39 = .ok (.iload_n 2, 1) := by decide +kernel
theorem d_CA_settle_40 : decode c_CA_settle 40 = .ok (.ifCond .eq 16, 3) := by decide +kernel
theorem d_CA_settle_43 : decode c_CA_settle 43 = .ok (.aload 4, 2) := by decide +kernel
theorem d_CA_settle_45 : decode c_CA_settle 45 = .ok (.getfield 159, 3) := by decide +kernel
theorem d_CA_settle_48 : decode c_CA_settle 48 = .ok (.iconst 1, 1) := by decide +kernel
theorem d_CA_settle_49 : decode c_CA_settle 49 = .ok (.if_icmp .ne 7, 3) := by decide +kernel
theorem d_CA_settle_52 : decode c_CA_settle 52 = .ok (.iconst 1, 1) := by decide +kernel
theorem d_CA_settle_53 : decode c_CA_settle 53 = .ok (.goto 4, 3) := by decide +kernel
theorem d_CA_settle_56 : decode c_CA_settle 56 = .ok (.iconst 0, 1) := by decide +kernel
theorem d_CA_settle_57 : decode c_CA_settle 57 = .ok (.istore_n 2, 1) := by decide +kernel
theorem d_CA_settle_58 : decode c_CA_settle 58 = .ok (.iinc 3 1, 3) := by decide +kernel
theorem d_CA_settle_61 : decode c_CA_settle 61 = .ok (.goto (-57), 3) := by decide +kernel
theorem d_CA_settle_64 : decode c_CA_settle 64 = .ok (.iload_n 2, 1) := by decide +kernel
theorem d_CA_settle_65 : decode c_CA_settle 65 = .ok (.ifCond .eq 8, 3) := by decide +kernel
theorem d_CA_settle_68 : decode c_CA_settle 68 = .ok (.aload_n 1, 1) := by decide +kernel
theorem d_CA_settle_69 : decode c_CA_settle 69 = .ok (.iconst 1, 1) := by decide +kernel
theorem d_CA_settle_70 : decode c_CA_settle 70 = .ok (.putfield 181, 3) := by decide +kernel
theorem d_CA_settle_73 : decode c_CA_settle 73 = .ok (.return_, 1) := by decide +kernel
def wq_CA_settle_4 (post : ST → Prop) (v1 : Nat) : Nat → Int32 → Int32 → ST → Prop
  | 0 => fun _ _ _ => False
  | n + 1 => fun v2 v3 X => (v1 < 12 ∧ (((X 25 v1) ≤ v3 → ((v2 = 0 → post X) ∧ (¬ v2 = 0 → post (up X 20 v1 (1 : Int32))))) ∧ (¬ (X 25 v1) ≤ v3 → (vp_in v3 4 ∧ (vp_in (X (1000 + v3.toNatClampNeg) v1) 24 ∧ wp_Aut_isLive (fun (r7 : Int32) (X6 : ST) => ((r7 = 0 → post (up X6 20 v1 (4 : Int32))) ∧ (¬ r7 = 0 → ((v2 = 0 → wq_CA_settle_4 post v1 n (0 : Int32) (v3 + (1 : Int32)) X6) ∧ (¬ v2 = 0 → (((X6 30 ((X (1000 + v3.toNatClampNeg) v1).toNatClampNeg)) = (1 : Int32) → wq_CA_settle_4 post v1 n (1 : Int32) (v3 + (1 : Int32)) X6) ∧ (¬ (X6 30 ((X (1000 + v3.toNatClampNeg) v1).toNatClampNeg)) = (1 : Int32) → wq_CA_settle_4 post v1 n (0 : Int32) (v3 + (1 : Int32)) X6))))))) X ((X (1000 + v3.toNatClampNeg) v1).toNatClampNeg))))))
def wp_CA_settle (post : ST → Prop) (X : ST) (i1 : Nat) : Prop := (∃ n9, wq_CA_settle_4 post i1 n9 (1 : Int32) (0 : Int32) X)
set_option maxHeartbeats 4000000 in
set_option maxRecDepth 100000 in
theorem mt_CA_settle (l : Launch) (hl9 : l.stackTraces = false) (dC : Nat → ClassId) (dI : Nat → Nat → Nat) (cA : Nat → ClassId) (ad : Nat → Nat) (hI : INJ ad 125) (sz : Nat) {X : ST} {i1 : Nat} {post : ST → Prop} (hw : wp_CA_settle post X i1) : Met l y_CA_settle ws_CA_settle ({ frames := 1, cells := 0, slots := 0, locals := 20 } : Room) (va_Pc [.ref (ad 0), .ref (ad (17 + i1))] (fun U => PC dC dI cA ad sz X U)) (va_Qv (fun (u : ST) => post u) (fun (u : ST) t => va_P (dC, dI) vwCl (wdC cA ad u) t.heap) (CA ad 125 sz)) 0 0 (CA ad 125 sz) := by
  refine Met.ofW (cc := c_CA_settle) (maxL := 5) (ret := none) (by decide) rfl ?_
  intro p e s m args below meth c s₁ B hml hv
  obtain ⟨rfl, hsz, hP, hG⟩ := hv
  have hx := B.exec
  have hb := B.bytes
  have hr := B.returns
  have hts : ∀ w ∈ GW, w.before (([.ref (ad 0), .ref (ad (17 + i1))] : List Value).toArray) s = true := fun w h => atoms_spec (ws := ws_CA_settle) B.pre w (List.mem_cons_of_mem _ h)
  have hown : s.vm.findClass R_CA = some m.cls := findClass_of_methodNamed B.named
  have hlocks := B.notSynchronized
  subst hsz
  have hK := hG.1
  have hG9 := hG
  have hNW := hG.2.1
  have hD0 : ∀ (X : ST), va_D (CA ad 125 s.heap.size) (wdC cA ad X) := fun _ => zwC_D hI
  have hS : va_S (CA ad 125 s.heap.size) s.heap s.heap [] := va_S.rf
  have hl := lv_entry ([.ref (ad 0), .ref (ad (17 + i1))]) (n := 5) (Nat.le_of_ble_eq_true rfl)
  rw [lg_entry_eq]
  generalize (lg_sl ([.ref (ad 0), .ref (ad (17 + i1))]) ++ List.replicate (5 - (lg_sl ([.ref (ad 0), .ref (ad (17 + i1))])).length) Slot.unset).toArray = ls at hl ⊢
  have hl : lv_has ls 5 [(0, .ref (ad 0)), (1, .ref (ad (17 + i1)))] := hl
  have L4 : ∀ (v1 : Nat), ∀ (n : Nat), ∀ (v2 : Int32) (v3 : Int32) (X : ST) (H : Heap) (locs : List Loc) (ls : Array Slot), wq_CA_settle_4 post v1 n v2 v3 X → va_P (dC, dI) vwCl (wdC cA ad X) H → va_S (CA ad 125 s.heap.size) s.heap H locs → lv_has ls 5 [(0, .ref (ad 0)), (1, .ref (ad (17 + v1))), (2, .int v2), (3, .int v3)] → W p l e (headSpec ws_CA_settle ({ frames := 1, cells := 0, slots := 0, locals := 20 } : Room)).room s m (([.ref (ad 0), .ref (ad (17 + i1))] : List Value).toArray) below meth c H locs 0 0 (MQ below (va_Qv (fun (u : ST) => post u) (fun (u : ST) t => va_P (dC, dI) vwCl (wdC cA ad u) t.heap) (CA ad 125 s.heap.size)) (([.ref (ad 0), .ref (ad (17 + i1))] : List Value).toArray) s 0 0 (CA ad 125 s.heap.size)) (F0 m 4 ls []) := by
    intro v1 n
    induction n with
    | zero => intro v2 v3 X H locs ls hw hP hS hl; exact False.elim hw
    | succ n ih =>
      intro v2 v3 X H locs ls hw hP hS hl
      dsimp only [wq_CA_settle_4] at hw
      refine lv_iload_n hx hb d_CA_settle_4 rfl (lv_at hl 3 rfl) ?_
      refine lv_aload_n hx hb d_CA_settle_5 rfl (lv_at hl 1 rfl) ?_
      obtain ⟨h1, hw⟩ := hw
      refine va_get (D := (dC, dI)) (ci := 5) (v := .int (X 25 v1)) (C := R_Ord) (T := T_Ord) (N := 7) hx hb hts in_Ord hown hK hP (17 + v1) (atC_Ord h1) rfl 5 (by decide) (hts _ gw_108) (fun _ h9 => h9) rfl d_CA_settle_6 ?_
      refine lv_icmp_ge (tgt := 64) hx hb d_CA_settle_9 (by decide) (fun c2 => ?_) (fun c2 => ?_)
      · have hw := hw.1 c2
        refine lv_iload_n hx hb d_CA_settle_64 rfl (lv_at hl 2 rfl) ?_
        refine lv_if_eq (tgt := 73) hx hb d_CA_settle_65 (by decide) (fun c3 => ?_) (fun c3 => ?_)
        · have hw := hw.1 c3
          exact W.vret hx hb hr (fun t ht _ => ⟨⟨X, rfl, hw, by show va_P _ _ _ t.heap; rw [ht]; exact hP⟩, hS.F ht⟩) hS.2.2 d_CA_settle_73
        · have hw := hw.2 c3
          refine lv_aload_n hx hb d_CA_settle_68 rfl (lv_at hl 1 rfl) ?_
          refine lv_iconst (v := (1 : Int32)) hx hb d_CA_settle_69 (by decide) ?_
          refine va_put (D := (dC, dI)) (ci := 5) (v := .int (1 : Int32)) (ty := .int) (C := R_Ord) (T := T_Ord) (N := 7) hx hb hts in_Ord ty_Ord ty_Ord_ok nm_Ord hown hK hP (hD0 _) hS (17 + v1) (atC_Ord h1) rfl 0 (by decide) (hts _ gw_109) (fun _ h9 => h9) rfl (by decide +kernel) rfl rfl (Nat.le_of_ble_eq_true rfl) d_CA_settle_70 (fun H locs hP _ hS => ?_)
          have hP : va_P (dC, dI) vwCl (wdC cA ad (up X 20 v1 (1 : Int32))) H := by rw [← stC_Ord_0 h1]; exact hP
          exact W.vret hx hb hr (fun t ht _ => ⟨⟨up X 20 v1 (1 : Int32), rfl, hw, by show va_P _ _ _ t.heap; rw [ht]; exact hP⟩, hS.F ht⟩) hS.2.2 d_CA_settle_73
      · have hw := hw.2 c2
        refine lv_aload_n hx hb d_CA_settle_12 rfl (lv_at hl 0 rfl) ?_
        refine va_get (D := (dC, dI)) (ci := 0) (v := .ref (ad 3)) (C := R_CA) (T := T_CA) (N := 14) hx hb hts in_CA hown hK hP (0) atC_CA rfl 8 (by decide) (hts _ gw_75) (fun _ h9 => h9) rfl d_CA_settle_13 ?_
        refine lv_aload_n hx hb d_CA_settle_16 rfl (lv_at hl 1 rfl) ?_
        refine va_get (D := (dC, dI)) (ci := 5) (v := .ref (ad (29 + v1))) (C := R_Ord) (T := T_Ord) (N := 7) hx hb hts in_Ord hown hK hP (17 + v1) (atC_Ord h1) rfl 6 (by decide) (hts _ gw_110) (fun _ h9 => h9) rfl d_CA_settle_17 ?_
        refine lv_iload_n hx hb d_CA_settle_20 rfl (lv_at hl 3 rfl) ?_
        obtain ⟨h4, hw⟩ := hw
        refine va_iald hx hb hK hP (29 + v1) 7 (atC_iOrd h1) rfl h4 d_CA_settle_21 ?_
        refine W.eq (g2 := F0 m 22 ls [.int (X (1000 + v3.toNatClampNeg) v1), .ref (ad 3)]) rfl ?_
        obtain ⟨h5, hw⟩ := hw
        refine va_aldq hx hb hK hP (3) 2 atC_aAut rfl h5 d_CA_settle_22 ?_
        refine W.eq (g2 := F0 m 23 ls [.ref (ad (41 + ((X (1000 + v3.toNatClampNeg) v1).toNatClampNeg)))]) rfl ?_
        refine lv_astore (lv' := [(4, .ref (ad (41 + ((X (1000 + v3.toNatClampNeg) v1).toNatClampNeg)))), (0, .ref (ad 0)), (1, .ref (ad (17 + v1))), (2, .int v2), (3, .int v3)]) hx hb d_CA_settle_23 hl (by decide) rfl (fun ls hl => ?_)
        refine lv_aload hx hb d_CA_settle_25 (lv_at hl 0 rfl) ?_
        refine va_calli (va_runV (As := []) (rest := []) ⟨hx, hb, hml, hown, hts⟩ (mt_Aut_isLive l hl9 dC dI cA ad hI _ hw) (cwV 0 hts (gV gw_112 gw_113 gw_114 gw_115 gw_111) rfl rfl rfl (by decide +kernel) ⟨Nat.le_of_ble_eq_true rfl, Nat.le_of_ble_eq_true rfl⟩) ⟨zwC_blind, va_recv hK hP (ci := 6) (q0 := 41 + ((X (1000 + v3.toNatClampNeg) v1).toNatClampNeg)) rfl (atC_Aut (zw_lt h5)), zwC_pre hP hS hG9⟩ rfl rfl hl.1 rfl (lv_room (Nat.le_of_ble_eq_true rfl)) d_CA_settle_27 ⟨Nat.le_of_ble_eq_true rfl, Nat.le_of_ble_eq_true rfl⟩) hS (fun q _ h => CA_le hS.1 q h) (fun q h => CA_le hS.1 q h) (fun r7 X6 t H locs ht hvm hw hP hz1 hk1 hS => ?_)
        have hP : va_P (dC, dI) vwCl (wdC cA ad X6) H := by rw [← ht]; exact hP
        try dsimp only at hw
        refine lv_if_ne (tgt := 39) hx hb d_CA_settle_30 (by decide) (fun c8 => ?_) (fun c8 => ?_)
        · have hw := hw.2 c8
          refine lv_iload_n hx hb d_CA_settle_39 rfl (lv_at hl 3 rfl) ?_
          refine lv_if_eq (tgt := 56) hx hb d_CA_settle_40 (by decide) (fun c9 => ?_) (fun c9 => ?_)
          · have hw := hw.1 c9
            refine lv_iconst (v := (0 : Int32)) hx hb d_CA_settle_56 (by decide) ?_
            refine lv_istore_n (lv' := [(2, .int (0 : Int32)), (4, .ref (ad (41 + ((X (1000 + v3.toNatClampNeg) v1).toNatClampNeg)))), (0, .ref (ad 0)), (1, .ref (ad (17 + v1))), (3, .int v3)]) hx hb d_CA_settle_57 rfl hl (by decide) rfl (fun ls hl => ?_)
            refine lv_iinc (k := 4) (v := v3 + (1 : Int32)) (lv' := [(3, .int (v3 + (1 : Int32))), (2, .int (0 : Int32)), (4, .ref (ad (41 + ((X (1000 + v3.toNatClampNeg) v1).toNatClampNeg)))), (0, .ref (ad 0)), (1, .ref (ad (17 + v1)))]) hx hb d_CA_settle_58 hl rfl rfl (by decide) rfl (fun ls hl => ?_)
            refine lv_goto (tgt := 4) hx hb d_CA_settle_61 (by decide) ?_
            have hl := lv_sub hl (l' := [(0, .ref (ad 0)), (1, .ref (ad (17 + v1))), (2, .int (0 : Int32)), (3, .int (v3 + (1 : Int32)))]) [3, 4, 1, 0] rfl
            exact ih _ _ _ _ _ _ hw hP hS hl
          · have hw := hw.2 c9
            refine lv_aload hx hb d_CA_settle_43 (lv_at hl 0 rfl) ?_
            refine va_get (D := (dC, dI)) (ci := 6) (v := .int (X6 30 ((X (1000 + v3.toNatClampNeg) v1).toNatClampNeg))) (C := R_Aut) (T := T_Aut) (N := 4) hx hb hts in_Aut hown hK hP (41 + ((X (1000 + v3.toNatClampNeg) v1).toNatClampNeg)) (atC_Aut (zw_lt h5)) rfl 0 (by decide) (hts _ gw_78) (fun _ h9 => h9) rfl d_CA_settle_45 ?_
            refine lv_iconst (v := (1 : Int32)) hx hb d_CA_settle_48 (by decide) ?_
            refine lv_icmp_ne (tgt := 56) hx hb d_CA_settle_49 (by decide) (fun c10 => ?_) (fun c10 => ?_)
            · have hw := hw.2 c10
              refine lv_iconst (v := (0 : Int32)) hx hb d_CA_settle_56 (by decide) ?_
              refine lv_istore_n (lv' := [(2, .int (0 : Int32)), (4, .ref (ad (41 + ((X (1000 + v3.toNatClampNeg) v1).toNatClampNeg)))), (0, .ref (ad 0)), (1, .ref (ad (17 + v1))), (3, .int v3)]) hx hb d_CA_settle_57 rfl hl (by decide) rfl (fun ls hl => ?_)
              refine lv_iinc (k := 4) (v := v3 + (1 : Int32)) (lv' := [(3, .int (v3 + (1 : Int32))), (2, .int (0 : Int32)), (4, .ref (ad (41 + ((X (1000 + v3.toNatClampNeg) v1).toNatClampNeg)))), (0, .ref (ad 0)), (1, .ref (ad (17 + v1)))]) hx hb d_CA_settle_58 hl rfl rfl (by decide) rfl (fun ls hl => ?_)
              refine lv_goto (tgt := 4) hx hb d_CA_settle_61 (by decide) ?_
              have hl := lv_sub hl (l' := [(0, .ref (ad 0)), (1, .ref (ad (17 + v1))), (2, .int (0 : Int32)), (3, .int (v3 + (1 : Int32)))]) [3, 4, 1, 0] rfl
              exact ih _ _ _ _ _ _ hw hP hS hl
            · have hw := hw.1 c10
              refine lv_iconst (v := (1 : Int32)) hx hb d_CA_settle_52 (by decide) ?_
              refine lv_goto (tgt := 57) hx hb d_CA_settle_53 (by decide) ?_
              refine lv_istore_n (lv' := [(2, .int (1 : Int32)), (4, .ref (ad (41 + ((X (1000 + v3.toNatClampNeg) v1).toNatClampNeg)))), (0, .ref (ad 0)), (1, .ref (ad (17 + v1))), (3, .int v3)]) hx hb d_CA_settle_57 rfl hl (by decide) rfl (fun ls hl => ?_)
              refine lv_iinc (k := 4) (v := v3 + (1 : Int32)) (lv' := [(3, .int (v3 + (1 : Int32))), (2, .int (1 : Int32)), (4, .ref (ad (41 + ((X (1000 + v3.toNatClampNeg) v1).toNatClampNeg)))), (0, .ref (ad 0)), (1, .ref (ad (17 + v1)))]) hx hb d_CA_settle_58 hl rfl rfl (by decide) rfl (fun ls hl => ?_)
              refine lv_goto (tgt := 4) hx hb d_CA_settle_61 (by decide) ?_
              have hl := lv_sub hl (l' := [(0, .ref (ad 0)), (1, .ref (ad (17 + v1))), (2, .int (1 : Int32)), (3, .int (v3 + (1 : Int32)))]) [3, 4, 1, 0] rfl
              exact ih _ _ _ _ _ _ hw hP hS hl
        · have hw := hw.1 c8
          refine lv_aload_n hx hb d_CA_settle_33 rfl (lv_at hl 2 rfl) ?_
          refine lv_iconst (v := (4 : Int32)) hx hb d_CA_settle_34 (by decide) ?_
          refine va_put (D := (dC, dI)) (ci := 5) (v := .int (4 : Int32)) (ty := .int) (C := R_Ord) (T := T_Ord) (N := 7) hx hb hts in_Ord ty_Ord ty_Ord_ok nm_Ord hown hK hP (hD0 _) hS (17 + v1) (atC_Ord h1) rfl 0 (by decide) (hts _ gw_109) (fun _ h9 => h9) rfl (by decide +kernel) rfl rfl (Nat.le_of_ble_eq_true rfl) d_CA_settle_35 (fun H locs hP _ hS => ?_)
          have hP : va_P (dC, dI) vwCl (wdC cA ad (up X6 20 v1 (4 : Int32))) H := by rw [← stC_Ord_0 h1]; exact hP
          exact W.vret hx hb hr (fun t ht _ => ⟨⟨up X6 20 v1 (4 : Int32), rfl, hw, by show va_P _ _ _ t.heap; rw [ht]; exact hP⟩, hS.F ht⟩) hS.2.2 d_CA_settle_38
  unfold wp_CA_settle at hw
  refine lv_iconst (v := (1 : Int32)) hx hb d_CA_settle_0 (by decide) ?_
  refine lv_istore_n (lv' := [(2, .int (1 : Int32)), (0, .ref (ad 0)), (1, .ref (ad (17 + i1)))]) hx hb d_CA_settle_1 rfl hl (by decide) rfl (fun ls hl => ?_)
  refine lv_iconst (v := (0 : Int32)) hx hb d_CA_settle_2 (by decide) ?_
  refine lv_istore_n (lv' := [(3, .int (0 : Int32)), (2, .int (1 : Int32)), (0, .ref (ad 0)), (1, .ref (ad (17 + i1)))]) hx hb d_CA_settle_3 rfl hl (by decide) rfl (fun ls hl => ?_)
  have hl := lv_sub hl (l' := [(0, .ref (ad 0)), (1, .ref (ad (17 + i1))), (2, .int (1 : Int32)), (3, .int (0 : Int32))]) [2, 3, 1, 0] rfl
  obtain ⟨n9, hw⟩ := hw
  exact L4 _ n9 _ _ _ _ _ _ hw hP hS hl
def ws_CA_settleOrders : List Cond := Cond.code y_CA_settleOrders c_CA_settleOrders 2 (Option.none : Option Jvm.ClassFile.FieldType) :: GW
theorem d_CA_settleOrders_0 : decode c_CA_settleOrders 0 = .ok (.iconst 0, 1) := by decide +kernel
theorem d_CA_settleOrders_1 : decode c_CA_settleOrders 1 = .ok (.istore_n 1, 1) := by decide +kernel
theorem d_CA_settleOrders_2 : decode c_CA_settleOrders 2 = .ok (.iload_n 1, 1) := by decide +kernel
theorem d_CA_settleOrders_3 : decode c_CA_settleOrders 3 = .ok (.aload_n 0, 1) := by decide +kernel
theorem d_CA_settleOrders_4 : decode c_CA_settleOrders 4 = .ok (.getfield 133, 3) := by decide +kernel
theorem d_CA_settleOrders_7 : decode c_CA_settleOrders 7 = .ok (.if_icmp .ge 31, 3) := by decide +kernel
theorem d_CA_settleOrders_10 : decode c_CA_settleOrders 10 = .ok (.aload_n 0, 1) := by decide +kernel
theorem d_CA_settleOrders_11 : decode c_CA_settleOrders 11 = .ok (.getfield 17, 3) := by decide +kernel
theorem d_CA_settleOrders_14 : decode c_CA_settleOrders 14 = .ok (.iload_n 1, 1) := by decide +kernel
theorem d_CA_settleOrders_15 : decode c_CA_settleOrders 15 = .ok (.aaload, 1) := by decide +kernel
theorem d_CA_settleOrders_16 : decode c_CA_settleOrders 16 = .ok (.invokevirtual 285, 3) := by decide +kernel
theorem d_CA_settleOrders_19 : decode c_CA_settleOrders 19 = .ok (.ifCond .eq 13, 3) := by decide +kernel
theorem d_CA_settleOrders_22 : decode c_CA_settleOrders 22 = .ok (.aload_n 0, 1) := by decide +kernel
theorem d_CA_settleOrders_23 : decode c_CA_settleOrders 23 = .ok (.aload_n 0, 1) := by decide +kernel
theorem d_CA_settleOrders_24 : decode c_CA_settleOrders 24 = .ok (.getfield 17, 3) := by decide +kernel
theorem d_CA_settleOrders_27 : decode c_CA_settleOrders 27 = .ok (.iload_n 1, 1) := by decide +kernel
theorem d_CA_settleOrders_28 : decode c_CA_settleOrders 28 = .ok (.aaload, 1) := by decide +kernel
theorem d_CA_settleOrders_29 : decode c_CA_settleOrders 29 = .ok (.invokevirtual 288, 3) := by decide +kernel
theorem d_CA_settleOrders_32 : decode c_CA_settleOrders 32 = .ok (.iinc 1 1, 3) := by decide +kernel
theorem d_CA_settleOrders_35 : decode c_CA_settleOrders 35 = .ok (.goto (-33), 3) := by decide +kernel
theorem d_CA_settleOrders_38 : decode c_CA_settleOrders 38 = .ok (.return_, 1) := by decide +kernel
def wq_CA_settleOrders_2 (post : ST → Prop) : Nat → Int32 → ST → Prop
  | 0 => fun _ _ => False
  | n + 1 => fun v1 X => (((X 3 0) ≤ v1 → post X) ∧ (¬ (X 3 0) ≤ v1 → (vp_in v1 12 ∧ wp_Ord_isOpen (fun (r4 : Int32) (X3 : ST) => ((r4 = 0 → wq_CA_settleOrders_2 post n (v1 + (1 : Int32)) X3) ∧ (¬ r4 = 0 → wp_CA_settle (fun (X6 : ST) => wq_CA_settleOrders_2 post n (v1 + (1 : Int32)) X6) X3 v1.toNatClampNeg))) X v1.toNatClampNeg)))
def wp_CA_settleOrders (post : ST → Prop) (X : ST) : Prop := (∃ n9, wq_CA_settleOrders_2 post n9 (0 : Int32) X)
set_option maxHeartbeats 4000000 in
set_option maxRecDepth 100000 in
theorem mt_CA_settleOrders (l : Launch) (hl9 : l.stackTraces = false) (dC : Nat → ClassId) (dI : Nat → Nat → Nat) (cA : Nat → ClassId) (ad : Nat → Nat) (hI : INJ ad 125) (sz : Nat) {X : ST} {post : ST → Prop} (hw : wp_CA_settleOrders post X) : Met l y_CA_settleOrders ws_CA_settleOrders ({ frames := 2, cells := 0, slots := 0, locals := 44 } : Room) (va_Pc [.ref (ad 0)] (fun U => PC dC dI cA ad sz X U)) (va_Qv (fun (u : ST) => post u) (fun (u : ST) t => va_P (dC, dI) vwCl (wdC cA ad u) t.heap) (CA ad 125 sz)) 0 0 (CA ad 125 sz) := by
  refine Met.ofW (cc := c_CA_settleOrders) (maxL := 2) (ret := none) (by decide) rfl ?_
  intro p e s m args below meth c s₁ B hml hv
  obtain ⟨rfl, hsz, hP, hG⟩ := hv
  have hx := B.exec
  have hb := B.bytes
  have hr := B.returns
  have hts : ∀ w ∈ GW, w.before (([.ref (ad 0)] : List Value).toArray) s = true := fun w h => atoms_spec (ws := ws_CA_settleOrders) B.pre w (List.mem_cons_of_mem _ h)
  have hown : s.vm.findClass R_CA = some m.cls := findClass_of_methodNamed B.named
  have hlocks := B.notSynchronized
  subst hsz
  have hK := hG.1
  have hG9 := hG
  have hNW := hG.2.1
  have hD0 : ∀ (X : ST), va_D (CA ad 125 s.heap.size) (wdC cA ad X) := fun _ => zwC_D hI
  have hS : va_S (CA ad 125 s.heap.size) s.heap s.heap [] := va_S.rf
  have hl := lv_entry ([.ref (ad 0)]) (n := 2) (Nat.le_of_ble_eq_true rfl)
  rw [lg_entry_eq]
  generalize (lg_sl ([.ref (ad 0)]) ++ List.replicate (2 - (lg_sl ([.ref (ad 0)])).length) Slot.unset).toArray = ls at hl ⊢
  have hl : lv_has ls 2 [(0, .ref (ad 0))] := hl
  have L2 : ∀ (n : Nat), ∀ (v1 : Int32) (X : ST) (H : Heap) (locs : List Loc) (ls : Array Slot), wq_CA_settleOrders_2 post n v1 X → va_P (dC, dI) vwCl (wdC cA ad X) H → va_S (CA ad 125 s.heap.size) s.heap H locs → lv_has ls 2 [(0, .ref (ad 0)), (1, .int v1)] → W p l e (headSpec ws_CA_settleOrders ({ frames := 2, cells := 0, slots := 0, locals := 44 } : Room)).room s m (([.ref (ad 0)] : List Value).toArray) below meth c H locs 0 0 (MQ below (va_Qv (fun (u : ST) => post u) (fun (u : ST) t => va_P (dC, dI) vwCl (wdC cA ad u) t.heap) (CA ad 125 s.heap.size)) (([.ref (ad 0)] : List Value).toArray) s 0 0 (CA ad 125 s.heap.size)) (F0 m 2 ls []) := by
    intro n
    induction n with
    | zero => intro v1 X H locs ls hw hP hS hl; exact False.elim hw
    | succ n ih =>
      intro v1 X H locs ls hw hP hS hl
      dsimp only [wq_CA_settleOrders_2] at hw
      refine lv_iload_n hx hb d_CA_settleOrders_2 rfl (lv_at hl 1 rfl) ?_
      refine lv_aload_n hx hb d_CA_settleOrders_3 rfl (lv_at hl 0 rfl) ?_
      refine va_get (D := (dC, dI)) (ci := 0) (v := .int (X 3 0)) (C := R_CA) (T := T_CA) (N := 14) hx hb hts in_CA hown hK hP (0) atC_CA rfl 3 (by decide) (hts _ gw_97) (fun _ h9 => h9) rfl d_CA_settleOrders_4 ?_
      refine lv_icmp_ge (tgt := 38) hx hb d_CA_settleOrders_7 (by decide) (fun c1 => ?_) (fun c1 => ?_)
      · have hw := hw.1 c1
        exact W.vret hx hb hr (fun t ht _ => ⟨⟨X, rfl, hw, by show va_P _ _ _ t.heap; rw [ht]; exact hP⟩, hS.F ht⟩) hS.2.2 d_CA_settleOrders_38
      · have hw := hw.2 c1
        refine lv_aload_n hx hb d_CA_settleOrders_10 rfl (lv_at hl 0 rfl) ?_
        refine va_get (D := (dC, dI)) (ci := 0) (v := .ref (ad 2)) (C := R_CA) (T := T_CA) (N := 14) hx hb hts in_CA hown hK hP (0) atC_CA rfl 7 (by decide) (hts _ gw_102) (fun _ h9 => h9) rfl d_CA_settleOrders_11 ?_
        refine lv_iload_n hx hb d_CA_settleOrders_14 rfl (lv_at hl 1 rfl) ?_
        obtain ⟨h2, hw⟩ := hw
        refine va_aldq hx hb hK hP (2) 1 atC_aOrd rfl h2 d_CA_settleOrders_15 ?_
        refine W.eq (g2 := F0 m 16 ls [.ref (ad (17 + v1.toNatClampNeg))]) rfl ?_
        refine va_calli (va_runV (As := []) (rest := []) ⟨hx, hb, hml, hown, hts⟩ (mt_Ord_isOpen l hl9 dC dI cA ad hI _ hw) (cwV 0 hts (gV gw_117 gw_118 gw_119 gw_96 gw_116) rfl rfl rfl (by decide +kernel) ⟨Nat.le_of_ble_eq_true rfl, Nat.le_of_ble_eq_true rfl⟩) ⟨zwC_blind, va_recv hK hP (ci := 5) (q0 := 17 + v1.toNatClampNeg) rfl (atC_Ord (zw_lt h2)), zwC_pre hP hS hG9⟩ rfl rfl hl.1 rfl (lv_room (Nat.le_of_ble_eq_true rfl)) d_CA_settleOrders_16 ⟨Nat.le_of_ble_eq_true rfl, Nat.le_of_ble_eq_true rfl⟩) hS (fun q _ h => CA_le hS.1 q h) (fun q h => CA_le hS.1 q h) (fun r4 X3 t H locs ht hvm hw hP hz1 hk1 hS => ?_)
        have hP : va_P (dC, dI) vwCl (wdC cA ad X3) H := by rw [← ht]; exact hP
        try dsimp only at hw
        refine lv_if_eq (tgt := 32) hx hb d_CA_settleOrders_19 (by decide) (fun c5 => ?_) (fun c5 => ?_)
        · have hw := hw.1 c5
          refine lv_iinc (k := 1) (v := v1 + (1 : Int32)) (lv' := [(1, .int (v1 + (1 : Int32))), (0, .ref (ad 0))]) hx hb d_CA_settleOrders_32 hl rfl rfl (by decide) rfl (fun ls hl => ?_)
          refine lv_goto (tgt := 2) hx hb d_CA_settleOrders_35 (by decide) ?_
          have hl := lv_sub hl (l' := [(0, .ref (ad 0)), (1, .int (v1 + (1 : Int32)))]) [1, 0] rfl
          exact ih _ _ _ _ _ hw hP hS hl
        · have hw := hw.2 c5
          refine lv_aload_n hx hb d_CA_settleOrders_22 rfl (lv_at hl 0 rfl) ?_
          refine lv_aload_n hx hb d_CA_settleOrders_23 rfl (lv_at hl 0 rfl) ?_
          refine va_get (D := (dC, dI)) (ci := 0) (v := .ref (ad 2)) (C := R_CA) (T := T_CA) (N := 14) hx hb hts in_CA hown hK hP (0) atC_CA rfl 7 (by decide) (hts _ gw_102) (fun _ h9 => h9) rfl d_CA_settleOrders_24 ?_
          refine lv_iload_n hx hb d_CA_settleOrders_27 rfl (lv_at hl 1 rfl) ?_
          refine va_aldq hx hb hK hP (2) 1 atC_aOrd rfl h2 d_CA_settleOrders_28 ?_
          refine W.eq (g2 := F0 m 29 ls [.ref (ad (17 + v1.toNatClampNeg)), .ref (ad 0)]) rfl ?_
          refine va_callv (va_runV (As := [.ref (ad (17 + v1.toNatClampNeg))]) (rest := []) ⟨hx, hb, hml, hown, hts⟩ (mt_CA_settle l hl9 dC dI cA ad hI _ hw) (cwV 1 hts (gV gw_121 gw_122 gw_123 gw_13 gw_120) rfl rfl rfl (by decide +kernel) ⟨Nat.le_of_ble_eq_true rfl, Nat.le_of_ble_eq_true rfl⟩) ⟨zwC_blind, va_recv hK hP (ci := 0) (q0 := 0) rfl atC_CA, zwC_pre hP hS hG9⟩ rfl rfl hl.1 rfl (lv_room (Nat.le_of_ble_eq_true rfl)) d_CA_settleOrders_29 ⟨Nat.le_of_ble_eq_true rfl, Nat.le_of_ble_eq_true rfl⟩) hS (fun q _ h => CA_le hS.1 q h) (fun q h => CA_le hS.1 q h) (fun X6 t H locs ht hvm hw hP hz1 hk1 hS => ?_)
          have hP : va_P (dC, dI) vwCl (wdC cA ad X6) H := by rw [← ht]; exact hP
          try dsimp only at hw
          refine lv_iinc (k := 1) (v := v1 + (1 : Int32)) (lv' := [(1, .int (v1 + (1 : Int32))), (0, .ref (ad 0))]) hx hb d_CA_settleOrders_32 hl rfl rfl (by decide) rfl (fun ls hl => ?_)
          refine lv_goto (tgt := 2) hx hb d_CA_settleOrders_35 (by decide) ?_
          have hl := lv_sub hl (l' := [(0, .ref (ad 0)), (1, .int (v1 + (1 : Int32)))]) [1, 0] rfl
          exact ih _ _ _ _ _ hw hP hS hl
  unfold wp_CA_settleOrders at hw
  refine lv_iconst (v := (0 : Int32)) hx hb d_CA_settleOrders_0 (by decide) ?_
  refine lv_istore_n (lv' := [(1, .int (0 : Int32)), (0, .ref (ad 0))]) hx hb d_CA_settleOrders_1 rfl hl (by decide) rfl (fun ls hl => ?_)
  have hl := lv_sub hl (l' := [(0, .ref (ad 0)), (1, .int (0 : Int32))]) [1, 0] rfl
  obtain ⟨n9, hw⟩ := hw
  exact L2 n9 _ _ _ _ _ hw hP hS hl
