def ws_CA_makeOrder : List Cond := Cond.code y_CA_makeOrder c_CA_makeOrder 7 (Option.some Jvm.ClassFile.FieldType.int) :: GW
theorem d_CA_makeOrder_0 : decode c_CA_makeOrder 0 = .ok (.aload_n 0, 1) := by decide +kernel
theorem d_CA_makeOrder_1 : decode c_CA_makeOrder 1 = .ok (.getfield 17, 3) := by decide +kernel
theorem d_CA_makeOrder_4 : decode c_CA_makeOrder 4 = .ok (.aload_n 0, 1) := by decide +kernel
theorem d_CA_makeOrder_5 : decode c_CA_makeOrder 5 = .ok (.getfield 133, 3) := by decide +kernel
theorem d_CA_makeOrder_8 : decode c_CA_makeOrder 8 = .ok (.aaload, 1) := by decide +kernel
theorem d_CA_makeOrder_9 : decode c_CA_makeOrder 9 = .ok (.astore 4, 2) := by decide +kernel
theorem d_CA_makeOrder_11 : decode c_CA_makeOrder 11 = .ok (.aload 4, 2) := by decide +kernel
theorem d_CA_makeOrder_13 : decode c_CA_makeOrder 13 = .ok (.iload_n 1, 1) := by decide +kernel
theorem d_CA_makeOrder_14 : decode c_CA_makeOrder 14 = .ok (.putfield 180, 3) := by decide +kernel
theorem d_CA_makeOrder_17 : decode c_CA_makeOrder 17 = .ok (.aload 4, 2) := by decide +kernel
theorem d_CA_makeOrder_19 : decode c_CA_makeOrder 19 = .ok (.iload_n 2, 1) := by decide +kernel
theorem d_CA_makeOrder_20 : decode c_CA_makeOrder 20 = .ok (.putfield 192, 3) := by decide +kernel
theorem d_CA_makeOrder_23 : decode c_CA_makeOrder 23 = .ok (.aload 4, 2) := by decide +kernel
theorem d_CA_makeOrder_25 : decode c_CA_makeOrder 25 = .ok (.iload_n 3, 1) := by decide +kernel
theorem d_CA_makeOrder_26 : decode c_CA_makeOrder 26 = .ok (.putfield 267, 3) := by decide +kernel
theorem d_CA_makeOrder_29 : decode c_CA_makeOrder 29 = .ok (.iconst 0, 1) := by decide +kernel
theorem d_CA_makeOrder_30 : decode c_CA_makeOrder 30 = .ok (.istore 5, 2) := by decide +kernel
theorem d_CA_makeOrder_32 : decode c_CA_makeOrder 32 = .ok (.iload 5, 2) := by decide +kernel
theorem d_CA_makeOrder_34 : decode c_CA_makeOrder 34 = .ok (.bipush 16, 2) := by decide +kernel
theorem d_CA_makeOrder_36 : decode c_CA_makeOrder 36 = .ok (.if_icmp .ge 51, 3) := by decide +kernel
theorem d_CA_makeOrder_39 : decode c_CA_makeOrder 39 = .ok (.iload_n 2, 1) := by decide +kernel
theorem d_CA_makeOrder_40 : decode c_CA_makeOrder 40 = .ok (.iload 5, 2) := by decide +kernel
theorem d_CA_makeOrder_42 : decode c_CA_makeOrder 42 = .ok (.invokestatic 260, 3) := by decide +kernel
theorem d_CA_makeOrder_45 : decode c_CA_makeOrder 45 = .ok (.ifCond .eq 36, 3) := by decide +kernel
theorem d_CA_makeOrder_48 : decode c_CA_makeOrder 48 = .ok (.aload_n 0, 1) := by decide +kernel
theorem d_CA_makeOrder_49 : decode c_CA_makeOrder 49 = .ok (.iload_n 1, 1) := by decide +kernel
theorem d_CA_makeOrder_50 : decode c_CA_makeOrder 50 = .ok (.iload 5, 2) := by decide +kernel
theorem d_CA_makeOrder_52 : decode c_CA_makeOrder 52 = .ok (.invokevirtual 264, 3) := by decide +kernel
theorem d_CA_makeOrder_55 : decode c_CA_makeOrder 55 = .ok (.istore 6, 2) := by decide +kernel
theorem d_CA_makeOrder_57 : decode c_CA_makeOrder 57 = .ok (.aload 4, 2) := by decide +kernel
theorem d_CA_makeOrder_59 : decode c_CA_makeOrder 59 = .ok (.iload 6, 2) := by decide +kernel
theorem d_CA_makeOrder_61 : decode c_CA_makeOrder 61 = .ok (.iconst (-1), 1) := by decide +kernel
theorem d_CA_makeOrder_62 : decode c_CA_makeOrder 62 = .ok (.if_icmp .ne 14, 3) := by decide +kernel
theorem d_CA_makeOrder_65 : decode c_CA_makeOrder 65 = .ok (.aload_n 0, 1) := by decide +kernel
theorem d_CA_makeOrder_66 : decode c_CA_makeOrder 66 = .ok (.iload_n 1, 1) := by decide +kernel
theorem d_CA_makeOrder_67 : decode c_CA_makeOrder 67 = .ok (.iload 5, 2) := by decide +kernel
theorem d_CA_makeOrder_69 : decode c_CA_makeOrder 69 = .ok (.iload_n 3, 1) := by decide +kernel
theorem d_CA_makeOrder_70 : decode c_CA_makeOrder 70 = .ok (.invokevirtual 268, 3) := by decide +kernel
theorem d_CA_makeOrder_73 : decode c_CA_makeOrder 73 = .ok (.goto 5, 3) := by decide +kernel
theorem d_CA_makeOrder_76 : decode c_CA_makeOrder 76 = .ok (.iload 6, 2) := by decide +kernel
theorem d_CA_makeOrder_78 : decode c_CA_makeOrder 78 = .ok (.invokevirtual 271, 3) := by decide +kernel
theorem d_CA_makeOrder_81 : decode c_CA_makeOrder 81 = .ok (.iinc 5 1, 3) := by decide +kernel
theorem d_CA_makeOrder_84 : decode c_CA_makeOrder 84 = .ok (.goto (-52), 3) := by decide +kernel
theorem d_CA_makeOrder_87 : decode c_CA_makeOrder 87 = .ok (.aload_n 0, 1) := by decide +kernel
theorem d_CA_makeOrder_88 : decode c_CA_makeOrder 88 = .ok (.dup, 1) := by decide +kernel
theorem d_CA_makeOrder_89 : decode c_CA_makeOrder 89 = .ok (.getfield 133, 3) := by decide +kernel
theorem d_CA_makeOrder_92 : decode c_CA_makeOrder 92 = .ok (.dup_x1, 1) := by decide +kernel
theorem d_CA_makeOrder_93 : decode c_CA_makeOrder 93 = .ok (.iconst 1, 1) := by decide +kernel
theorem d_CA_makeOrder_94 : decode c_CA_makeOrder 94 = .ok (.iadd, 1) := by decide +kernel
theorem d_CA_makeOrder_95 : decode c_CA_makeOrder 95 = .ok (.putfield 133, 3) := by decide +kernel
theorem d_CA_makeOrder_98 : decode c_CA_makeOrder 98 = .ok (.ireturn, 1) := by decide +kernel
def wq_CA_makeOrder_78 (post : Int32 → ST → Prop) (J32 : Int32 → ST → Prop) (s0 : Int32) (s1 : Nat) (v1 : Int32) (v2 : Int32) (v3 : Int32) (v4 : Nat) (v5 : Int32) (X : ST) : Prop := (s1 < 12 ∧ wp_Ord_attach (fun (X2 : ST) => J32 (v5 + (1 : Int32)) X2) X s1 s0)
def wq_CA_makeOrder_32 (post : Int32 → ST → Prop) (v1 : Int32) (v2 : Int32) (v3 : Int32) (v4 : Nat) : Nat → Int32 → ST → Prop
  | 0 => fun _ _ => False
  | n + 1 => fun v5 X => (((16 : Int32) ≤ v5 → post (X 3 0) (up X 3 0 ((X 3 0) + (1 : Int32)))) ∧ (¬ (16 : Int32) ≤ v5 → wp_CA_hasName (fun (r6 : Int32) (X5 : ST) => ((r6 = 0 → wq_CA_makeOrder_32 post v1 v2 v3 v4 n (v5 + (1 : Int32)) X5) ∧ (¬ r6 = 0 → wp_CA_newestValid (fun (r9 : Int32) (X8 : ST) => ((r9 = (-1 : Int32) → wp_CA_makeAuthorization (fun (r12 : Int32) (X11 : ST) => wq_CA_makeOrder_78 post (wq_CA_makeOrder_32 post v1 v2 v3 v4 n) r12 v4 v1 v2 v3 v4 v5 X11) X8 v1 v5 v3) ∧ (¬ r9 = (-1 : Int32) → wq_CA_makeOrder_78 post (wq_CA_makeOrder_32 post v1 v2 v3 v4 n) r9 v4 v1 v2 v3 v4 v5 X8))) X5 v1 v5))) X v2 v5))
def wp_CA_makeOrder (post : Int32 → ST → Prop) (X : ST) (a1 : Int32) (a2 : Int32) (a3 : Int32) : Prop := (vp_in (X 3 0) 12 ∧ (∃ n9, wq_CA_makeOrder_32 post a1 a2 a3 ((X 3 0).toNatClampNeg) n9 (0 : Int32) (up (up (up X 21 ((X 3 0).toNatClampNeg) a1) 22 ((X 3 0).toNatClampNeg) a2) 23 ((X 3 0).toNatClampNeg) a3)))
set_option maxHeartbeats 4000000 in
set_option maxRecDepth 100000 in
theorem mt_CA_makeOrder (l : Launch) (hl9 : l.stackTraces = false) (dC : Nat → ClassId) (dI : Nat → Nat → Nat) (cA : Nat → ClassId) (ad : Nat → Nat) (hI : INJ ad 125) (sz : Nat) {X : ST} {a1 : Int32} {a2 : Int32} {a3 : Int32} {post : Int32 → ST → Prop} (hw : wp_CA_makeOrder post X a1 a2 a3) : Met l y_CA_makeOrder ws_CA_makeOrder ({ frames := 2, cells := 0, slots := 0, locals := 45 } : Room) (va_Pc [.ref (ad 0), .int a1, .int a2, .int a3] (fun U => PC dC dI cA ad sz X U)) (va_Qi (fun r (u : ST) => post r u) (fun (u : ST) t => va_P (dC, dI) vwCl (wdC cA ad u) t.heap) (CA ad 125 sz)) 0 0 (CA ad 125 sz) := by
  refine Met.ofW (cc := c_CA_makeOrder) (maxL := 7) (ret := (some .int)) (by decide) rfl ?_
  intro p e s m args below meth c s₁ B hml hv
  obtain ⟨rfl, hsz, hP, hG⟩ := hv
  have hx := B.exec
  have hb := B.bytes
  have hr := B.returns
  have hts : ∀ w ∈ GW, w.before (([.ref (ad 0), .int a1, .int a2, .int a3] : List Value).toArray) s = true := fun w h => atoms_spec (ws := ws_CA_makeOrder) B.pre w (List.mem_cons_of_mem _ h)
  have hown : s.vm.findClass R_CA = some m.cls := findClass_of_methodNamed B.named
  have hlocks := B.notSynchronized
  subst hsz
  have hK := hG.1
  have hG9 := hG
  have hNW := hG.2.1
  have hD0 : ∀ (X : ST), va_D (CA ad 125 s.heap.size) (wdC cA ad X) := fun _ => zwC_D hI
  have hS : va_S (CA ad 125 s.heap.size) s.heap s.heap [] := va_S.rf
  have hl := lv_entry ([.ref (ad 0), .int a1, .int a2, .int a3]) (n := 7) (Nat.le_of_ble_eq_true rfl)
  rw [lg_entry_eq]
  generalize (lg_sl ([.ref (ad 0), .int a1, .int a2, .int a3]) ++ List.replicate (7 - (lg_sl ([.ref (ad 0), .int a1, .int a2, .int a3])).length) Slot.unset).toArray = ls at hl ⊢
  have hl : lv_has ls 7 [(0, .ref (ad 0)), (1, .int a1), (2, .int a2), (3, .int a3)] := hl
  have L78 : ∀ (v1 : Int32) (v2 : Int32) (v3 : Int32) (v4 : Nat), ∀ (J32 : Int32 → ST → Prop), (∀ (v5 : Int32) (X : ST) (H : Heap) (locs : List Loc) (ls : Array Slot), J32 v5 X → va_P (dC, dI) vwCl (wdC cA ad X) H → va_S (CA ad 125 s.heap.size) s.heap H locs → lv_has ls 7 [(0, .ref (ad 0)), (1, .int v1), (2, .int v2), (3, .int v3), (4, .ref (ad (17 + v4))), (5, .int v5)] → W p l e (headSpec ws_CA_makeOrder ({ frames := 2, cells := 0, slots := 0, locals := 45 } : Room)).room s m (([.ref (ad 0), .int a1, .int a2, .int a3] : List Value).toArray) below meth c H locs 0 0 (MQ below (va_Qi (fun r (u : ST) => post r u) (fun (u : ST) t => va_P (dC, dI) vwCl (wdC cA ad u) t.heap) (CA ad 125 s.heap.size)) (([.ref (ad 0), .int a1, .int a2, .int a3] : List Value).toArray) s 0 0 (CA ad 125 s.heap.size)) (F0 m 32 ls [])) → ∀ (s0 : Int32) (s1 : Nat) (v5 : Int32) (X : ST) (H : Heap) (locs : List Loc) (ls : Array Slot), wq_CA_makeOrder_78 post J32 s0 s1 v1 v2 v3 v4 v5 X → va_P (dC, dI) vwCl (wdC cA ad X) H → va_S (CA ad 125 s.heap.size) s.heap H locs → lv_has ls 7 [(0, .ref (ad 0)), (1, .int v1), (2, .int v2), (3, .int v3), (4, .ref (ad (17 + v4))), (5, .int v5)] → W p l e (headSpec ws_CA_makeOrder ({ frames := 2, cells := 0, slots := 0, locals := 45 } : Room)).room s m (([.ref (ad 0), .int a1, .int a2, .int a3] : List Value).toArray) below meth c H locs 0 0 (MQ below (va_Qi (fun r (u : ST) => post r u) (fun (u : ST) t => va_P (dC, dI) vwCl (wdC cA ad u) t.heap) (CA ad 125 s.heap.size)) (([.ref (ad 0), .int a1, .int a2, .int a3] : List Value).toArray) s 0 0 (CA ad 125 s.heap.size)) (F0 m 78 ls [.int s0, .ref (ad (17 + s1))]) := by
    intro v1 v2 v3 v4 J32 hJ32 s0 s1 v5 X H locs ls hw hP hS hl
    unfold wq_CA_makeOrder_78 at hw
    obtain ⟨h1, hw⟩ := hw
    refine va_callv (va_runV (As := [.int s0]) (rest := []) ⟨hx, hb, hml, hown, hts⟩ (mt_Ord_attach l hl9 dC dI cA ad hI _ hw) (cwV 1 hts (gV gw_93 gw_94 gw_95 gw_96 gw_92) rfl rfl rfl (by decide +kernel) ⟨Nat.le_of_ble_eq_true rfl, Nat.le_of_ble_eq_true rfl⟩) ⟨zwC_blind, va_recv hK hP (ci := 5) (q0 := 17 + s1) rfl (atC_Ord h1), zwC_pre hP hS hG9⟩ rfl rfl hl.1 rfl (lv_room (Nat.le_of_ble_eq_true rfl)) d_CA_makeOrder_78 ⟨Nat.le_of_ble_eq_true rfl, Nat.le_of_ble_eq_true rfl⟩) hS (fun q _ h => CA_le hS.1 q h) (fun q h => CA_le hS.1 q h) (fun X2 t H locs ht hvm hw hP hz1 hk1 hS => ?_)
    have hP : va_P (dC, dI) vwCl (wdC cA ad X2) H := by rw [← ht]; exact hP
    try dsimp only at hw
    refine lv_iinc (k := 5) (v := v5 + (1 : Int32)) (lv' := [(5, .int (v5 + (1 : Int32))), (0, .ref (ad 0)), (1, .int v1), (2, .int v2), (3, .int v3), (4, .ref (ad (17 + v4)))]) hx hb d_CA_makeOrder_81 hl rfl rfl (by decide) rfl (fun ls hl => ?_)
    refine lv_goto (tgt := 32) hx hb d_CA_makeOrder_84 (by decide) ?_
    have hl := lv_sub hl (l' := [(0, .ref (ad 0)), (1, .int v1), (2, .int v2), (3, .int v3), (4, .ref (ad (17 + v4))), (5, .int (v5 + (1 : Int32)))]) [1, 2, 3, 4, 5, 0] rfl
    exact hJ32 _ _ _ _ _ hw hP hS hl
  have L32 : ∀ (v1 : Int32) (v2 : Int32) (v3 : Int32) (v4 : Nat), ∀ (n : Nat), ∀ (v5 : Int32) (X : ST) (H : Heap) (locs : List Loc) (ls : Array Slot), wq_CA_makeOrder_32 post v1 v2 v3 v4 n v5 X → va_P (dC, dI) vwCl (wdC cA ad X) H → va_S (CA ad 125 s.heap.size) s.heap H locs → lv_has ls 7 [(0, .ref (ad 0)), (1, .int v1), (2, .int v2), (3, .int v3), (4, .ref (ad (17 + v4))), (5, .int v5)] → W p l e (headSpec ws_CA_makeOrder ({ frames := 2, cells := 0, slots := 0, locals := 45 } : Room)).room s m (([.ref (ad 0), .int a1, .int a2, .int a3] : List Value).toArray) below meth c H locs 0 0 (MQ below (va_Qi (fun r (u : ST) => post r u) (fun (u : ST) t => va_P (dC, dI) vwCl (wdC cA ad u) t.heap) (CA ad 125 s.heap.size)) (([.ref (ad 0), .int a1, .int a2, .int a3] : List Value).toArray) s 0 0 (CA ad 125 s.heap.size)) (F0 m 32 ls []) := by
    intro v1 v2 v3 v4 n
    induction n with
    | zero => intro v5 X H locs ls hw hP hS hl; exact False.elim hw
    | succ n ih =>
      intro v5 X H locs ls hw hP hS hl
      dsimp only [wq_CA_makeOrder_32] at hw
      refine lv_iload hx hb d_CA_makeOrder_32 (lv_at hl 5 rfl) ?_
      refine lv_bipush (v := (16 : Int32)) hx hb d_CA_makeOrder_34 (by decide) ?_
      refine lv_icmp_ge (tgt := 87) hx hb d_CA_makeOrder_36 (by decide) (fun c4 => ?_) (fun c4 => ?_)
      · have hw := hw.1 c4
        refine lv_aload_n hx hb d_CA_makeOrder_87 rfl (lv_at hl 0 rfl) ?_
        refine lv_dup hx hb d_CA_makeOrder_88 rfl ?_
        refine va_get (D := (dC, dI)) (ci := 0) (v := .int (X 3 0)) (C := R_CA) (T := T_CA) (N := 14) hx hb hts in_CA hown hK hP (0) atC_CA rfl 3 (by decide) (hts _ gw_97) (fun _ h9 => h9) rfl d_CA_makeOrder_89 ?_
        refine lv_dup_x1 hx hb d_CA_makeOrder_92 rfl rfl ?_
        refine lv_iconst (v := (1 : Int32)) hx hb d_CA_makeOrder_93 (by decide) ?_
        refine lv_iadd hx hb d_CA_makeOrder_94 ?_
        refine va_put (D := (dC, dI)) (ci := 0) (v := .int ((X 3 0) + (1 : Int32))) (ty := .int) (C := R_CA) (T := T_CA) (N := 14) hx hb hts in_CA ty_CA ty_CA_ok nm_CA hown hK hP (hD0 _) hS (0) atC_CA rfl 3 (by decide) (hts _ gw_97) (fun _ h9 => h9) rfl (by decide +kernel) rfl rfl (Nat.le_of_ble_eq_true rfl) d_CA_makeOrder_95 (fun H locs hP _ hS => ?_)
        have hP : va_P (dC, dI) vwCl (wdC cA ad (up X 3 0 ((X 3 0) + (1 : Int32)))) H := by rw [← stC_CA_3]; exact hP
        exact W.iret (v := X 3 0) hx hb hr (fun t ht _ => ⟨⟨X 3 0, up X 3 0 ((X 3 0) + (1 : Int32)), rfl, hw, by show va_P _ _ _ t.heap; rw [ht]; exact hP⟩, hS.F ht⟩) hS.2.2 d_CA_makeOrder_98
      · have hw := hw.2 c4
        refine lv_iload_n hx hb d_CA_makeOrder_39 rfl (lv_at hl 2 rfl) ?_
        refine lv_iload hx hb d_CA_makeOrder_40 (lv_at hl 5 rfl) ?_
        refine va_calli (va_runS (As := [.int v2, .int v5]) (rest := []) ⟨hx, hb, hml, hown, hts⟩ (mt_CA_hasName l hl9 dC dI cA ad hI _ hw) (va_cwS 2 hts (gS gw_81 gw_82 gw_13 gw_80) rfl rfl rfl (by decide +kernel) ⟨Nat.le_of_ble_eq_true rfl, Nat.le_of_ble_eq_true rfl⟩) ⟨zwC_blind, zwC_pre hP hS hG9⟩ rfl rfl hl.1 rfl (lv_room (Nat.le_of_ble_eq_true rfl)) d_CA_makeOrder_42 ⟨Nat.le_of_ble_eq_true rfl, Nat.le_of_ble_eq_true rfl⟩) hS (fun q _ h => CA_le hS.1 q h) (fun q h => CA_le hS.1 q h) (fun r6 X5 t H locs ht hvm hw hP hz1 hk1 hS => ?_)
        have hP : va_P (dC, dI) vwCl (wdC cA ad X5) H := by rw [← ht]; exact hP
        try dsimp only at hw
        refine lv_if_eq (tgt := 81) hx hb d_CA_makeOrder_45 (by decide) (fun c7 => ?_) (fun c7 => ?_)
        · have hw := hw.1 c7
          refine lv_iinc (k := 5) (v := v5 + (1 : Int32)) (lv' := [(5, .int (v5 + (1 : Int32))), (0, .ref (ad 0)), (1, .int v1), (2, .int v2), (3, .int v3), (4, .ref (ad (17 + v4)))]) hx hb d_CA_makeOrder_81 hl rfl rfl (by decide) rfl (fun ls hl => ?_)
          refine lv_goto (tgt := 32) hx hb d_CA_makeOrder_84 (by decide) ?_
          have hl := lv_sub hl (l' := [(0, .ref (ad 0)), (1, .int v1), (2, .int v2), (3, .int v3), (4, .ref (ad (17 + v4))), (5, .int (v5 + (1 : Int32)))]) [1, 2, 3, 4, 5, 0] rfl
          exact ih _ _ _ _ _ hw hP hS hl
        · have hw := hw.2 c7
          refine lv_aload_n hx hb d_CA_makeOrder_48 rfl (lv_at hl 0 rfl) ?_
          refine lv_iload_n hx hb d_CA_makeOrder_49 rfl (lv_at hl 1 rfl) ?_
          refine lv_iload hx hb d_CA_makeOrder_50 (lv_at hl 5 rfl) ?_
          refine va_calli (va_runV (As := [.int v1, .int v5]) (rest := []) ⟨hx, hb, hml, hown, hts⟩ (mt_CA_newestValid l hl9 dC dI cA ad hI _ hw) (cwV 2 hts (gV gw_84 gw_85 gw_86 gw_13 gw_83) rfl rfl rfl (by decide +kernel) ⟨Nat.le_of_ble_eq_true rfl, Nat.le_of_ble_eq_true rfl⟩) ⟨zwC_blind, va_recv hK hP (ci := 0) (q0 := 0) rfl atC_CA, zwC_pre hP hS hG9⟩ rfl rfl hl.1 rfl (lv_room (Nat.le_of_ble_eq_true rfl)) d_CA_makeOrder_52 ⟨Nat.le_of_ble_eq_true rfl, Nat.le_of_ble_eq_true rfl⟩) hS (fun q _ h => CA_le hS.1 q h) (fun q h => CA_le hS.1 q h) (fun r9 X8 t H locs ht hvm hw hP hz1 hk1 hS => ?_)
          have hP : va_P (dC, dI) vwCl (wdC cA ad X8) H := by rw [← ht]; exact hP
          try dsimp only at hw
          refine lv_istore (lv' := [(6, .int r9), (0, .ref (ad 0)), (1, .int v1), (2, .int v2), (3, .int v3), (4, .ref (ad (17 + v4))), (5, .int v5)]) hx hb d_CA_makeOrder_55 hl (by decide) rfl (fun ls hl => ?_)
          refine lv_aload hx hb d_CA_makeOrder_57 (lv_at hl 5 rfl) ?_
          refine lv_iload hx hb d_CA_makeOrder_59 (lv_at hl 0 rfl) ?_
          refine lv_iconst (v := (-1 : Int32)) hx hb d_CA_makeOrder_61 (by decide) ?_
          refine lv_icmp_ne (tgt := 76) hx hb d_CA_makeOrder_62 (by decide) (fun c10 => ?_) (fun c10 => ?_)
          · have hw := hw.2 c10
            refine lv_iload hx hb d_CA_makeOrder_76 (lv_at hl 0 rfl) ?_
            have hl := lv_sub hl (l' := [(0, .ref (ad 0)), (1, .int v1), (2, .int v2), (3, .int v3), (4, .ref (ad (17 + v4))), (5, .int v5)]) [1, 2, 3, 4, 5, 6] rfl
            exact L78 _ _ _ _ (wq_CA_makeOrder_32 post v1 v2 v3 v4 n) ih _ _ _ _ _ _ _ hw hP hS hl
          · have hw := hw.1 c10
            refine lv_aload_n hx hb d_CA_makeOrder_65 rfl (lv_at hl 1 rfl) ?_
            refine lv_iload_n hx hb d_CA_makeOrder_66 rfl (lv_at hl 2 rfl) ?_
            refine lv_iload hx hb d_CA_makeOrder_67 (lv_at hl 6 rfl) ?_
            refine lv_iload_n hx hb d_CA_makeOrder_69 rfl (lv_at hl 4 rfl) ?_
            refine va_calli (va_runV (As := [.int v1, .int v5, .int v3]) (rest := [.ref (ad (17 + v4))]) ⟨hx, hb, hml, hown, hts⟩ (mt_CA_makeAuthorization l hl9 dC dI cA ad hI _ hw) (cwV 3 hts (gV gw_99 gw_100 gw_101 gw_13 gw_98) rfl rfl rfl (by decide +kernel) ⟨Nat.le_of_ble_eq_true rfl, Nat.le_of_ble_eq_true rfl⟩) ⟨zwC_blind, va_recv hK hP (ci := 0) (q0 := 0) rfl atC_CA, zwC_pre hP hS hG9⟩ rfl rfl hl.1 rfl (lv_room (Nat.le_of_ble_eq_true rfl)) d_CA_makeOrder_70 ⟨Nat.le_of_ble_eq_true rfl, Nat.le_of_ble_eq_true rfl⟩) hS (fun q _ h => CA_le hS.1 q h) (fun q h => CA_le hS.1 q h) (fun r12 X11 t H locs ht hvm hw hP hz1 hk1 hS => ?_)
            have hP : va_P (dC, dI) vwCl (wdC cA ad X11) H := by rw [← ht]; exact hP
            try dsimp only at hw
            refine lv_goto (tgt := 78) hx hb d_CA_makeOrder_73 (by decide) ?_
            have hl := lv_sub hl (l' := [(0, .ref (ad 0)), (1, .int v1), (2, .int v2), (3, .int v3), (4, .ref (ad (17 + v4))), (5, .int v5)]) [1, 2, 3, 4, 5, 6] rfl
            exact L78 _ _ _ _ (wq_CA_makeOrder_32 post v1 v2 v3 v4 n) ih _ _ _ _ _ _ _ hw hP hS hl
  unfold wp_CA_makeOrder at hw
  refine lv_aload_n hx hb d_CA_makeOrder_0 rfl (lv_at hl 0 rfl) ?_
  refine va_get (D := (dC, dI)) (ci := 0) (v := .ref (ad 2)) (C := R_CA) (T := T_CA) (N := 14) hx hb hts in_CA hown hK hP (0) atC_CA rfl 7 (by decide) (hts _ gw_102) (fun _ h9 => h9) rfl d_CA_makeOrder_1 ?_
  refine lv_aload_n hx hb d_CA_makeOrder_4 rfl (lv_at hl 0 rfl) ?_
  refine va_get (D := (dC, dI)) (ci := 0) (v := .int (X 3 0)) (C := R_CA) (T := T_CA) (N := 14) hx hb hts in_CA hown hK hP (0) atC_CA rfl 3 (by decide) (hts _ gw_97) (fun _ h9 => h9) rfl d_CA_makeOrder_5 ?_
  obtain ⟨h13, hw⟩ := hw
  refine va_aldq hx hb hK hP (2) 1 atC_aOrd rfl h13 d_CA_makeOrder_8 ?_
  refine W.eq (g2 := F0 m 9 ls [.ref (ad (17 + ((X 3 0).toNatClampNeg)))]) rfl ?_
  refine lv_astore (lv' := [(4, .ref (ad (17 + ((X 3 0).toNatClampNeg)))), (0, .ref (ad 0)), (1, .int a1), (2, .int a2), (3, .int a3)]) hx hb d_CA_makeOrder_9 hl (by decide) rfl (fun ls hl => ?_)
  refine lv_aload hx hb d_CA_makeOrder_11 (lv_at hl 0 rfl) ?_
  refine lv_iload_n hx hb d_CA_makeOrder_13 rfl (lv_at hl 2 rfl) ?_
  refine va_put (D := (dC, dI)) (ci := 5) (v := .int a1) (ty := .int) (C := R_Ord) (T := T_Ord) (N := 7) hx hb hts in_Ord ty_Ord ty_Ord_ok nm_Ord hown hK hP (hD0 _) hS (17 + ((X 3 0).toNatClampNeg)) (atC_Ord (zw_lt h13)) rfl 1 (by decide) (hts _ gw_103) (fun _ h9 => h9) rfl (by decide +kernel) rfl rfl (Nat.le_of_ble_eq_true rfl) d_CA_makeOrder_14 (fun H locs hP _ hS => ?_)
  have hP : va_P (dC, dI) vwCl (wdC cA ad (up X 21 ((X 3 0).toNatClampNeg) a1)) H := by rw [← stC_Ord_1 (zw_lt h13)]; exact hP
  refine lv_aload hx hb d_CA_makeOrder_17 (lv_at hl 0 rfl) ?_
  refine lv_iload_n hx hb d_CA_makeOrder_19 rfl (lv_at hl 3 rfl) ?_
  refine va_put (D := (dC, dI)) (ci := 5) (v := .int a2) (ty := .int) (C := R_Ord) (T := T_Ord) (N := 7) hx hb hts in_Ord ty_Ord ty_Ord_ok nm_Ord hown hK hP (hD0 _) hS (17 + ((X 3 0).toNatClampNeg)) (atC_Ord (zw_lt h13)) rfl 2 (by decide) (hts _ gw_104) (fun _ h9 => h9) rfl (by decide +kernel) rfl rfl (Nat.le_of_ble_eq_true rfl) d_CA_makeOrder_20 (fun H locs hP _ hS => ?_)
  have hP : va_P (dC, dI) vwCl (wdC cA ad (up (up X 21 ((X 3 0).toNatClampNeg) a1) 22 ((X 3 0).toNatClampNeg) a2)) H := by rw [← stC_Ord_2 (zw_lt h13)]; exact hP
  refine lv_aload hx hb d_CA_makeOrder_23 (lv_at hl 0 rfl) ?_
  refine lv_iload_n hx hb d_CA_makeOrder_25 rfl (lv_at hl 4 rfl) ?_
  refine va_put (D := (dC, dI)) (ci := 5) (v := .int a3) (ty := .int) (C := R_Ord) (T := T_Ord) (N := 7) hx hb hts in_Ord ty_Ord ty_Ord_ok nm_Ord hown hK hP (hD0 _) hS (17 + ((X 3 0).toNatClampNeg)) (atC_Ord (zw_lt h13)) rfl 3 (by decide) (hts _ gw_105) (fun _ h9 => h9) rfl (by decide +kernel) rfl rfl (Nat.le_of_ble_eq_true rfl) d_CA_makeOrder_26 (fun H locs hP _ hS => ?_)
  have hP : va_P (dC, dI) vwCl (wdC cA ad (up (up (up X 21 ((X 3 0).toNatClampNeg) a1) 22 ((X 3 0).toNatClampNeg) a2) 23 ((X 3 0).toNatClampNeg) a3)) H := by rw [← stC_Ord_3 (zw_lt h13)]; exact hP
  refine lv_iconst (v := (0 : Int32)) hx hb d_CA_makeOrder_29 (by decide) ?_
  refine lv_istore (lv' := [(5, .int (0 : Int32)), (4, .ref (ad (17 + ((X 3 0).toNatClampNeg)))), (0, .ref (ad 0)), (1, .int a1), (2, .int a2), (3, .int a3)]) hx hb d_CA_makeOrder_30 hl (by decide) rfl (fun ls hl => ?_)
  have hl := lv_sub hl (l' := [(0, .ref (ad 0)), (1, .int a1), (2, .int a2), (3, .int a3), (4, .ref (ad (17 + ((X 3 0).toNatClampNeg)))), (5, .int (0 : Int32))]) [2, 3, 4, 5, 1, 0] rfl
  obtain ⟨n9, hw⟩ := hw
  exact L32 _ _ _ _ n9 _ _ _ _ _ hw hP hS hl
def ws_Ord_isOpen : List Cond := Cond.code y_Ord_isOpen c_Ord_isOpen 1 (Option.some Jvm.ClassFile.FieldType.boolean) :: GW
theorem d_Ord_isOpen_0 : decode c_Ord_isOpen 0 = .ok (.aload_n 0, 1) := by decide +kernel
theorem d_Ord_isOpen_1 : decode c_Ord_isOpen 1 = .ok (.getfield 19, 3) := by decide +kernel
theorem d_Ord_isOpen_4 : decode c_Ord_isOpen 4 = .ok (.ifCond .eq 11, 3) := by decide +kernel
theorem d_Ord_isOpen_7 : decode c_Ord_isOpen 7 = .ok (.aload_n 0, 1) := by decide +kernel
theorem d_Ord_isOpen_8 : decode c_Ord_isOpen 8 = .ok (.getfield 19, 3) := by decide +kernel
theorem d_Ord_isOpen_11 : decode c_Ord_isOpen 11 = .ok (.iconst 1, 1) := by decide +kernel
theorem d_Ord_isOpen_12 : decode c_Ord_isOpen 12 = .ok (.if_icmp .ne 7, 3) := by decide +kernel
theorem d_Ord_isOpen_15 : decode c_Ord_isOpen 15 = .ok (.iconst 1, 1) := by decide +kernel
theorem d_Ord_isOpen_16 : decode c_Ord_isOpen 16 = .ok (.goto 4, 3) := by decide +kernel
theorem d_Ord_isOpen_19 : decode c_Ord_isOpen 19 = .ok (.iconst 0, 1) := by decide +kernel
theorem d_Ord_isOpen_20 : decode c_Ord_isOpen 20 = .ok (.ireturn, 1) := by decide +kernel
def wp_Ord_isOpen (post : Int32 → ST → Prop) (X : ST) (i0 : Nat) : Prop := (i0 < 12 ∧ (((X 20 i0) = 0 → post (1 : Int32) X) ∧ (¬ (X 20 i0) = 0 → (((X 20 i0) = (1 : Int32) → post (1 : Int32) X) ∧ (¬ (X 20 i0) = (1 : Int32) → post (0 : Int32) X)))))
set_option maxHeartbeats 4000000 in
set_option maxRecDepth 100000 in
theorem mt_Ord_isOpen (l : Launch) (hl9 : l.stackTraces = false) (dC : Nat → ClassId) (dI : Nat → Nat → Nat) (cA : Nat → ClassId) (ad : Nat → Nat) (hI : INJ ad 125) (sz : Nat) {X : ST} {i0 : Nat} {post : Int32 → ST → Prop} (hw : wp_Ord_isOpen post X i0) : Met l y_Ord_isOpen ws_Ord_isOpen ({ frames := 0, cells := 0, slots := 0, locals := 0 } : Room) (va_Pc [.ref (ad (17 + i0))] (fun U => PC dC dI cA ad sz X U)) (va_Qi (fun r (u : ST) => post r u) (fun (u : ST) t => va_P (dC, dI) vwCl (wdC cA ad u) t.heap) (CA ad 125 sz)) 0 0 (CA ad 125 sz) := by
  refine Met.ofW (cc := c_Ord_isOpen) (maxL := 1) (ret := (some .boolean)) (by decide) rfl ?_
  intro p e s m args below meth c s₁ B hml hv
  obtain ⟨rfl, hsz, hP, hG⟩ := hv
  have hx := B.exec
  have hb := B.bytes
  have hr := B.returns
  have hts : ∀ w ∈ GW, w.before (([.ref (ad (17 + i0))] : List Value).toArray) s = true := fun w h => atoms_spec (ws := ws_Ord_isOpen) B.pre w (List.mem_cons_of_mem _ h)
  have hown : s.vm.findClass R_Ord = some m.cls := findClass_of_methodNamed B.named
  have hlocks := B.notSynchronized
  subst hsz
  have hK := hG.1
  have hG9 := hG
  have hNW := hG.2.1
  have hD0 : ∀ (X : ST), va_D (CA ad 125 s.heap.size) (wdC cA ad X) := fun _ => zwC_D hI
  have hS : va_S (CA ad 125 s.heap.size) s.heap s.heap [] := va_S.rf
  have hl := lv_entry ([.ref (ad (17 + i0))]) (n := 1) (Nat.le_of_ble_eq_true rfl)
  rw [lg_entry_eq]
  generalize (lg_sl ([.ref (ad (17 + i0))]) ++ List.replicate (1 - (lg_sl ([.ref (ad (17 + i0))])).length) Slot.unset).toArray = ls at hl ⊢
  have hl : lv_has ls 1 [(0, .ref (ad (17 + i0)))] := hl
  unfold wp_Ord_isOpen at hw
  refine lv_aload_n hx hb d_Ord_isOpen_0 rfl (lv_at hl 0 rfl) ?_
  obtain ⟨h1, hw⟩ := hw
  refine va_get (D := (dC, dI)) (ci := 5) (v := .int (X 20 i0)) (C := R_Ord) (T := T_Ord) (N := 7) hx hb hts in_Ord hown hK hP (17 + i0) (atC_Ord h1) rfl 0 (by decide) (hts _ gw_106) (fun _ h9 => h9) rfl d_Ord_isOpen_1 ?_
  refine lv_if_eq (tgt := 15) hx hb d_Ord_isOpen_4 (by decide) (fun c2 => ?_) (fun c2 => ?_)
  · have hw := hw.1 c2
    refine lv_iconst (v := (1 : Int32)) hx hb d_Ord_isOpen_15 (by decide) ?_
    refine lv_goto (tgt := 20) hx hb d_Ord_isOpen_16 (by decide) ?_
    exact W.zret (v := (1 : Int32)) hx hb hr (by decide) (fun t ht _ => ⟨⟨(1 : Int32), X, rfl, hw, by show va_P _ _ _ t.heap; rw [ht]; exact hP⟩, hS.F ht⟩) hS.2.2 d_Ord_isOpen_20
  · have hw := hw.2 c2
    refine lv_aload_n hx hb d_Ord_isOpen_7 rfl (lv_at hl 0 rfl) ?_
    refine va_get (D := (dC, dI)) (ci := 5) (v := .int (X 20 i0)) (C := R_Ord) (T := T_Ord) (N := 7) hx hb hts in_Ord hown hK hP (17 + i0) (atC_Ord h1) rfl 0 (by decide) (hts _ gw_106) (fun _ h9 => h9) rfl d_Ord_isOpen_8 ?_
    refine lv_iconst (v := (1 : Int32)) hx hb d_Ord_isOpen_11 (by decide) ?_
    refine lv_icmp_ne (tgt := 19) hx hb d_Ord_isOpen_12 (by decide) (fun c3 => ?_) (fun c3 => ?_)
    · have hw := hw.2 c3
      refine lv_iconst (v := (0 : Int32)) hx hb d_Ord_isOpen_19 (by decide) ?_
      exact W.zret (v := (0 : Int32)) hx hb hr (by decide) (fun t ht _ => ⟨⟨(0 : Int32), X, rfl, hw, by show va_P _ _ _ t.heap; rw [ht]; exact hP⟩, hS.F ht⟩) hS.2.2 d_Ord_isOpen_20
    · have hw := hw.1 c3
      refine lv_iconst (v := (1 : Int32)) hx hb d_Ord_isOpen_15 (by decide) ?_
      refine lv_goto (tgt := 20) hx hb d_Ord_isOpen_16 (by decide) ?_
      exact W.zret (v := (1 : Int32)) hx hb hr (by decide) (fun t ht _ => ⟨⟨(1 : Int32), X, rfl, hw, by show va_P _ _ _ t.heap; rw [ht]; exact hP⟩, hS.F ht⟩) hS.2.2 d_Ord_isOpen_20
def ws_Aut_isLive : List Cond := Cond.code y_Aut_isLive c_Aut_isLive 1 (Option.some Jvm.ClassFile.FieldType.boolean) :: GW
theorem d_Aut_isLive_0 : decode c_Aut_isLive 0 = .ok (.aload_n 0, 1) := by decide +kernel
theorem d_Aut_isLive_1 : decode c_Aut_isLive 1 = .ok (.getfield 7, 3) := by decide +kernel
theorem d_Aut_isLive_4 : decode c_Aut_isLive 4 = .ok (.ifCond .eq 11, 3) := by decide +kernel
theorem d_Aut_isLive_7 : decode c_Aut_isLive 7 = .ok (.aload_n 0, 1) := by decide +kernel
theorem d_Aut_isLive_8 : decode c_Aut_isLive 8 = .ok (.getfield 7, 3) := by decide +kernel
theorem d_Aut_isLive_11 : decode c_Aut_isLive 11 = .ok (.iconst 1, 1) := by decide +kernel
theorem d_Aut_isLive_12 : decode c_Aut_isLive 12 = .ok (.if_icmp .ne 7, 3) := by decide +kernel
theorem d_Aut_isLive_15 : decode c_Aut_isLive 15 = .ok (.iconst 1, 1) := by decide +kernel
theorem d_Aut_isLive_16 : decode c_Aut_isLive 16 = .ok (.goto 4, 3) := by decide +kernel
theorem d_Aut_isLive_19 : decode c_Aut_isLive 19 = .ok (.iconst 0, 1) := by decide +kernel
theorem d_Aut_isLive_20 : decode c_Aut_isLive 20 = .ok (.ireturn, 1) := by decide +kernel
def wp_Aut_isLive (post : Int32 → ST → Prop) (X : ST) (i0 : Nat) : Prop := (i0 < 24 ∧ (((X 30 i0) = 0 → post (1 : Int32) X) ∧ (¬ (X 30 i0) = 0 → (((X 30 i0) = (1 : Int32) → post (1 : Int32) X) ∧ (¬ (X 30 i0) = (1 : Int32) → post (0 : Int32) X)))))
set_option maxHeartbeats 4000000 in
set_option maxRecDepth 100000 in
theorem mt_Aut_isLive (l : Launch) (hl9 : l.stackTraces = false) (dC : Nat → ClassId) (dI : Nat → Nat → Nat) (cA : Nat → ClassId) (ad : Nat → Nat) (hI : INJ ad 125) (sz : Nat) {X : ST} {i0 : Nat} {post : Int32 → ST → Prop} (hw : wp_Aut_isLive post X i0) : Met l y_Aut_isLive ws_Aut_isLive ({ frames := 0, cells := 0, slots := 0, locals := 0 } : Room) (va_Pc [.ref (ad (41 + i0))] (fun U => PC dC dI cA ad sz X U)) (va_Qi (fun r (u : ST) => post r u) (fun (u : ST) t => va_P (dC, dI) vwCl (wdC cA ad u) t.heap) (CA ad 125 sz)) 0 0 (CA ad 125 sz) := by
  refine Met.ofW (cc := c_Aut_isLive) (maxL := 1) (ret := (some .boolean)) (by decide) rfl ?_
  intro p e s m args below meth c s₁ B hml hv
  obtain ⟨rfl, hsz, hP, hG⟩ := hv
  have hx := B.exec
  have hb := B.bytes
  have hr := B.returns
  have hts : ∀ w ∈ GW, w.before (([.ref (ad (41 + i0))] : List Value).toArray) s = true := fun w h => atoms_spec (ws := ws_Aut_isLive) B.pre w (List.mem_cons_of_mem _ h)
  have hown : s.vm.findClass R_Aut = some m.cls := findClass_of_methodNamed B.named
  have hlocks := B.notSynchronized
  subst hsz
  have hK := hG.1
  have hG9 := hG
  have hNW := hG.2.1
  have hD0 : ∀ (X : ST), va_D (CA ad 125 s.heap.size) (wdC cA ad X) := fun _ => zwC_D hI
  have hS : va_S (CA ad 125 s.heap.size) s.heap s.heap [] := va_S.rf
  have hl := lv_entry ([.ref (ad (41 + i0))]) (n := 1) (Nat.le_of_ble_eq_true rfl)
  rw [lg_entry_eq]
  generalize (lg_sl ([.ref (ad (41 + i0))]) ++ List.replicate (1 - (lg_sl ([.ref (ad (41 + i0))])).length) Slot.unset).toArray = ls at hl ⊢
  have hl : lv_has ls 1 [(0, .ref (ad (41 + i0)))] := hl
  unfold wp_Aut_isLive at hw
  refine lv_aload_n hx hb d_Aut_isLive_0 rfl (lv_at hl 0 rfl) ?_
  obtain ⟨h1, hw⟩ := hw
  refine va_get (D := (dC, dI)) (ci := 6) (v := .int (X 30 i0)) (C := R_Aut) (T := T_Aut) (N := 4) hx hb hts in_Aut hown hK hP (41 + i0) (atC_Aut h1) rfl 0 (by decide) (hts _ gw_107) (fun _ h9 => h9) rfl d_Aut_isLive_1 ?_
  refine lv_if_eq (tgt := 15) hx hb d_Aut_isLive_4 (by decide) (fun c2 => ?_) (fun c2 => ?_)
  · have hw := hw.1 c2
    refine lv_iconst (v := (1 : Int32)) hx hb d_Aut_isLive_15 (by decide) ?_
    refine lv_goto (tgt := 20) hx hb d_Aut_isLive_16 (by decide) ?_
    exact W.zret (v := (1 : Int32)) hx hb hr (by decide) (fun t ht _ => ⟨⟨(1 : Int32), X, rfl, hw, by show va_P _ _ _ t.heap; rw [ht]; exact hP⟩, hS.F ht⟩) hS.2.2 d_Aut_isLive_20
  · have hw := hw.2 c2
    refine lv_aload_n hx hb d_Aut_isLive_7 rfl (lv_at hl 0 rfl) ?_
    refine va_get (D := (dC, dI)) (ci := 6) (v := .int (X 30 i0)) (C := R_Aut) (T := T_Aut) (N := 4) hx hb hts in_Aut hown hK hP (41 + i0) (atC_Aut h1) rfl 0 (by decide) (hts _ gw_107) (fun _ h9 => h9) rfl d_Aut_isLive_8 ?_
    refine lv_iconst (v := (1 : Int32)) hx hb d_Aut_isLive_11 (by decide) ?_
    refine lv_icmp_ne (tgt := 19) hx hb d_Aut_isLive_12 (by decide) (fun c3 => ?_) (fun c3 => ?_)
    · have hw := hw.2 c3
      refine lv_iconst (v := (0 : Int32)) hx hb d_Aut_isLive_19 (by decide) ?_
      exact W.zret (v := (0 : Int32)) hx hb hr (by decide) (fun t ht _ => ⟨⟨(0 : Int32), X, rfl, hw, by show va_P _ _ _ t.heap; rw [ht]; exact hP⟩, hS.F ht⟩) hS.2.2 d_Aut_isLive_20
    · have hw := hw.1 c3
      refine lv_iconst (v := (1 : Int32)) hx hb d_Aut_isLive_15 (by decide) ?_
      refine lv_goto (tgt := 20) hx hb d_Aut_isLive_16 (by decide) ?_
      exact W.zret (v := (1 : Int32)) hx hb hr (by decide) (fun t ht _ => ⟨⟨(1 : Int32), X, rfl, hw, by show va_P _ _ _ t.heap; rw [ht]; exact hP⟩, hS.F ht⟩) hS.2.2 d_Aut_isLive_20
