def ws_MO_authorize : List Cond := Cond.code y_MO_authorize c_MO_authorize 6 (Option.some Jvm.ClassFile.FieldType.int) :: GW
theorem d_MO_authorize_0 : decode c_MO_authorize 0 = .ok (.aload_n 0, 1) := by decide +kernel
theorem d_MO_authorize_1 : decode c_MO_authorize 1 = .ok (.getfield 137, 3) := by decide +kernel
theorem d_MO_authorize_4 : decode c_MO_authorize 4 = .ok (.istore 4, 2) := by decide +kernel
theorem d_MO_authorize_6 : decode c_MO_authorize 6 = .ok (.aload_n 0, 1) := by decide +kernel
theorem d_MO_authorize_7 : decode c_MO_authorize 7 = .ok (.getfield 38, 3) := by decide +kernel
theorem d_MO_authorize_10 : decode c_MO_authorize 10 = .ok (.iload 4, 2) := by decide +kernel
theorem d_MO_authorize_12 : decode c_MO_authorize 12 = .ok (.iload_n 1, 1) := by decide +kernel
theorem d_MO_authorize_13 : decode c_MO_authorize 13 = .ok (.iastore, 1) := by decide +kernel
theorem d_MO_authorize_14 : decode c_MO_authorize 14 = .ok (.aload_n 0, 1) := by decide +kernel
theorem d_MO_authorize_15 : decode c_MO_authorize 15 = .ok (.getfield 41, 3) := by decide +kernel
theorem d_MO_authorize_18 : decode c_MO_authorize 18 = .ok (.iload 4, 2) := by decide +kernel
theorem d_MO_authorize_20 : decode c_MO_authorize 20 = .ok (.iload_n 2, 1) := by decide +kernel
theorem d_MO_authorize_21 : decode c_MO_authorize 21 = .ok (.iastore, 1) := by decide +kernel
theorem d_MO_authorize_22 : decode c_MO_authorize 22 = .ok (.aload_n 0, 1) := by decide +kernel
theorem d_MO_authorize_23 : decode c_MO_authorize 23 = .ok (.getfield 44, 3) := by decide +kernel
theorem d_MO_authorize_26 : decode c_MO_authorize 26 = .ok (.iload 4, 2) := by decide +kernel
theorem d_MO_authorize_28 : decode c_MO_authorize 28 = .ok (.aload_n 0, 1) := by decide +kernel
theorem d_MO_authorize_29 : decode c_MO_authorize 29 = .ok (.getfield 144, 3) := by decide +kernel
theorem d_MO_authorize_32 : decode c_MO_authorize 32 = .ok (.iload_n 3, 1) := by decide +kernel
theorem d_MO_authorize_33 : decode c_MO_authorize 33 = .ok (.iadd, 1) := by decide +kernel
theorem d_MO_authorize_34 : decode c_MO_authorize 34 = .ok (.iastore, 1) := by decide +kernel
theorem d_MO_authorize_35 : decode c_MO_authorize 35 = .ok (.aload_n 0, 1) := by decide +kernel
theorem d_MO_authorize_36 : decode c_MO_authorize 36 = .ok (.getfield 47, 3) := by decide +kernel
theorem d_MO_authorize_39 : decode c_MO_authorize 39 = .ok (.iload 4, 2) := by decide +kernel
theorem d_MO_authorize_41 : decode c_MO_authorize 41 = .ok (.iconst 0, 1) := by decide +kernel
theorem d_MO_authorize_42 : decode c_MO_authorize 42 = .ok (.iastore, 1) := by decide +kernel
theorem d_MO_authorize_43 : decode c_MO_authorize 43 = .ok (.iconst 2, 1) := by decide +kernel
theorem d_MO_authorize_44 : decode c_MO_authorize 44 = .ok (.iload 4, 2) := by decide +kernel
theorem d_MO_authorize_46 : decode c_MO_authorize 46 = .ok (.imul, 1) := by decide +kernel
theorem d_MO_authorize_47 : decode c_MO_authorize 47 = .ok (.istore 5, 2) := by decide +kernel
theorem d_MO_authorize_49 : decode c_MO_authorize 49 = .ok (.iload 5, 2) := by decide +kernel
theorem d_MO_authorize_51 : decode c_MO_authorize 51 = .ok (.iconst 2, 1) := by decide +kernel
theorem d_MO_authorize_52 : decode c_MO_authorize 52 = .ok (.iload 4, 2) := by decide +kernel
theorem d_MO_authorize_54 : decode c_MO_authorize 54 = .ok (.imul, 1) := by decide +kernel
theorem d_MO_authorize_55 : decode c_MO_authorize 55 = .ok (.iconst 2, 1) := by decide +kernel
theorem d_MO_authorize_56 : decode c_MO_authorize 56 = .ok (.iadd, 1) := by decide +kernel
theorem d_MO_authorize_57 : decode c_MO_authorize 57 = .ok (.if_icmp .ge 36, 3) := by decide +kernel
theorem d_MO_authorize_60 : decode c_MO_authorize 60 = .ok (.aload_n 0, 1) := by decide +kernel
theorem d_MO_authorize_61 : decode c_MO_authorize 61 = .ok (.getfield 50, 3) := by decide +kernel
theorem d_MO_authorize_64 : decode c_MO_authorize 64 = .ok (.iload 5, 2) := by decide +kernel
theorem d_MO_authorize_66 : decode c_MO_authorize 66 = .ok (.aload_n 0, 1) := by decide +kernel
theorem d_MO_authorize_67 : decode c_MO_authorize 67 = .ok (.invokevirtual 106, 3) := by decide +kernel
theorem d_MO_authorize_70 : decode c_MO_authorize 70 = .ok (.iastore, 1) := by decide +kernel
theorem d_MO_authorize_71 : decode c_MO_authorize 71 = .ok (.aload_n 0, 1) := by decide +kernel
theorem d_MO_authorize_72 : decode c_MO_authorize 72 = .ok (.getfield 53, 3) := by decide +kernel
theorem d_MO_authorize_75 : decode c_MO_authorize 75 = .ok (.iload 5, 2) := by decide +kernel
theorem d_MO_authorize_77 : decode c_MO_authorize 77 = .ok (.iconst 0, 1) := by decide +kernel
theorem d_MO_authorize_78 : decode c_MO_authorize 78 = .ok (.iastore, 1) := by decide +kernel
theorem d_MO_authorize_79 : decode c_MO_authorize 79 = .ok (.aload_n 0, 1) := by decide +kernel
theorem d_MO_authorize_80 : decode c_MO_authorize 80 = .ok (.getfield 56, 3) := by decide +kernel
theorem d_MO_authorize_83 : decode c_MO_authorize 83 = .ok (.iload 5, 2) := by decide +kernel
theorem d_MO_authorize_85 : decode c_MO_authorize 85 = .ok (.iconst 0, 1) := by decide +kernel
theorem d_MO_authorize_86 : decode c_MO_authorize 86 = .ok (.iastore, 1) := by decide +kernel
theorem d_MO_authorize_87 : decode c_MO_authorize 87 = .ok (.iinc 5 1, 3) := by decide +kernel
theorem d_MO_authorize_90 : decode c_MO_authorize 90 = .ok (.goto (-41), 3) := by decide +kernel
theorem d_MO_authorize_93 : decode c_MO_authorize 93 = .ok (.aload_n 0, 1) := by decide +kernel
theorem d_MO_authorize_94 : decode c_MO_authorize 94 = .ok (.dup, 1) := by decide +kernel
theorem d_MO_authorize_95 : decode c_MO_authorize 95 = .ok (.getfield 137, 3) := by decide +kernel
theorem d_MO_authorize_98 : decode c_MO_authorize 98 = .ok (.iconst 1, 1) := by decide +kernel
theorem d_MO_authorize_99 : decode c_MO_authorize 99 = .ok (.iadd, 1) := by decide +kernel
theorem d_MO_authorize_100 : decode c_MO_authorize 100 = .ok (.putfield 137, 3) := by decide +kernel
theorem d_MO_authorize_103 : decode c_MO_authorize 103 = .ok (.iload 4, 2) := by decide +kernel
theorem d_MO_authorize_105 : decode c_MO_authorize 105 = .ok (.ireturn, 1) := by decide +kernel
def wq_MO_authorize_49 (post : Int32 → ST → Int64 → Prop) (v4 : Int32) : Nat → Int32 → ST → Int64 → Prop
  | 0 => fun _ _ _ => False
  | n + 1 => fun v5 X Y => (((((2 : Int32) * v4) + (2 : Int32)) ≤ v5 → post v4 (up X 4 0 ((X 4 0) + (1 : Int32))) Y) ∧ (¬ (((2 : Int32) * v4) + (2 : Int32)) ≤ v5 → wp_MO_draw (fun (r4 : Int32) (X2 : ST) (Y3 : Int64) => (vp_in v5 48 ∧ wq_MO_authorize_49 post v4 n (v5 + (1 : Int32)) (up (up (up X2 41 v5.toNatClampNeg r4) 40 v5.toNatClampNeg (0 : Int32)) 42 v5.toNatClampNeg (0 : Int32)) Y3)) X Y))
def wp_MO_authorize (post : Int32 → ST → Int64 → Prop) (X : ST) (Y : Int64) (a1 : Int32) (a2 : Int32) (a3 : Int32) : Prop := (vp_in (X 4 0) 24 ∧ (∃ n9, wq_MO_authorize_49 post (X 4 0) n9 ((2 : Int32) * (X 4 0)) (up (up (up (up X 31 ((X 4 0).toNatClampNeg) a1) 32 ((X 4 0).toNatClampNeg) a2) 33 ((X 4 0).toNatClampNeg) ((X 1 0) + a3)) 30 ((X 4 0).toNatClampNeg) (0 : Int32)) Y))
set_option maxHeartbeats 4000000 in
set_option maxRecDepth 100000 in
theorem mt_MO_authorize (l : Launch) (hl9 : l.stackTraces = false) (dC : Nat → ClassId) (dI : Nat → Nat → Nat) (cA : Nat → ClassId) (ad : Nat → Nat) (hI : INJ ad 23) (sz : Nat) {X : ST} {Y : Int64} {a1 : Int32} {a2 : Int32} {a3 : Int32} {post : Int32 → ST → Int64 → Prop} (hw : wp_MO_authorize post X Y a1 a2 a3) : Met l y_MO_authorize ws_MO_authorize ({ frames := 1, cells := 0, slots := 0, locals := 20 } : Room) (va_Pc [.ref (ad 0), .int a1, .int a2, .int a3] (fun U => PM dC dI cA ad sz X Y U)) (va_Qi (fun r (u : ST × Int64) => post r u.1 u.2) (fun (u : ST × Int64) t => va_P (dC, dI) vwCl (wdM cA ad u.1 u.2) t.heap) (CA ad 23 sz)) 0 0 (CA ad 23 sz) := by
  refine Met.ofW (cc := c_MO_authorize) (maxL := 6) (ret := (some .int)) (by decide) rfl ?_
  intro p e s m args below meth c s₁ B hml hv
  obtain ⟨rfl, hsz, hP, hG⟩ := hv
  have hx := B.exec
  have hb := B.bytes
  have hr := B.returns
  have hts : ∀ w ∈ GW, w.before (([.ref (ad 0), .int a1, .int a2, .int a3] : List Value).toArray) s = true := fun w h => atoms_spec (ws := ws_MO_authorize) B.pre w (List.mem_cons_of_mem _ h)
  have hown : s.vm.findClass R_MO = some m.cls := findClass_of_methodNamed B.named
  have hlocks := B.notSynchronized
  subst hsz
  have hK := hG.1
  have hG9 := hG
  have hNW := hG.2
  have hD0 : ∀ (X : ST) (Y : Int64), va_D (CA ad 23 s.heap.size) (wdM cA ad X Y) := fun _ _ => zwM_D hI
  have hS : va_S (CA ad 23 s.heap.size) s.heap s.heap [] := va_S.rf
  have hl := lv_entry ([.ref (ad 0), .int a1, .int a2, .int a3]) (n := 6) (Nat.le_of_ble_eq_true rfl)
  rw [lg_entry_eq]
  generalize (lg_sl ([.ref (ad 0), .int a1, .int a2, .int a3]) ++ List.replicate (6 - (lg_sl ([.ref (ad 0), .int a1, .int a2, .int a3])).length) Slot.unset).toArray = ls at hl ⊢
  have hl : lv_has ls 6 [(0, .ref (ad 0)), (1, .int a1), (2, .int a2), (3, .int a3)] := hl
  have L49 : ∀ (v4 : Int32), ∀ (n : Nat), ∀ (v5 : Int32) (X : ST) (Y : Int64) (H : Heap) (locs : List Loc) (ls : Array Slot), wq_MO_authorize_49 post v4 n v5 X Y → va_P (dC, dI) vwCl (wdM cA ad X Y) H → va_S (CA ad 23 s.heap.size) s.heap H locs → lv_has ls 6 [(0, .ref (ad 0)), (4, .int v4), (5, .int v5)] → W p l e (headSpec ws_MO_authorize ({ frames := 1, cells := 0, slots := 0, locals := 20 } : Room)).room s m (([.ref (ad 0), .int a1, .int a2, .int a3] : List Value).toArray) below meth c H locs 0 0 (MQ below (va_Qi (fun r (u : ST × Int64) => post r u.1 u.2) (fun (u : ST × Int64) t => va_P (dC, dI) vwCl (wdM cA ad u.1 u.2) t.heap) (CA ad 23 s.heap.size)) (([.ref (ad 0), .int a1, .int a2, .int a3] : List Value).toArray) s 0 0 (CA ad 23 s.heap.size)) (F0 m 49 ls []) := by
    intro v4 n
    induction n with
    | zero => intro v5 X Y H locs ls hw hP hS hl; exact False.elim hw
    | succ n ih =>
      intro v5 X Y H locs ls hw hP hS hl
      dsimp only [wq_MO_authorize_49] at hw
      refine lv_iload hx hb d_MO_authorize_49 (lv_at hl 2 rfl) ?_
      refine lv_iconst (v := (2 : Int32)) hx hb d_MO_authorize_51 (by decide) ?_
      refine lv_iload hx hb d_MO_authorize_52 (lv_at hl 1 rfl) ?_
      refine lv_imul hx hb d_MO_authorize_54 ?_
      refine lv_iconst (v := (2 : Int32)) hx hb d_MO_authorize_55 (by decide) ?_
      refine lv_iadd hx hb d_MO_authorize_56 ?_
      refine lv_icmp_ge (tgt := 93) hx hb d_MO_authorize_57 (by decide) (fun c1 => ?_) (fun c1 => ?_)
      · have hw := hw.1 c1
        refine lv_aload_n hx hb d_MO_authorize_93 rfl (lv_at hl 0 rfl) ?_
        refine lv_dup hx hb d_MO_authorize_94 rfl ?_
        refine va_get (D := (dC, dI)) (ci := 9) (v := .int (X 4 0)) (C := R_MO) (T := T_MO) (N := 36) hx hb hts in_MO hown hK hP (0) atM_MO rfl 14 (by decide) (hts _ gw_350) (fun _ h9 => h9) rfl d_MO_authorize_95 ?_
        refine lv_iconst (v := (1 : Int32)) hx hb d_MO_authorize_98 (by decide) ?_
        refine lv_iadd hx hb d_MO_authorize_99 ?_
        refine va_put (D := (dC, dI)) (ci := 9) (v := .int ((X 4 0) + (1 : Int32))) (ty := .int) (C := R_MO) (T := T_MO) (N := 36) hx hb hts in_MO ty_MO ty_MO_ok nm_MO hown hK hP (hD0 _ _) hS (0) atM_MO rfl 14 (by decide) (hts _ gw_350) (fun _ h9 => h9) rfl (by decide +kernel) rfl rfl (Nat.le_of_ble_eq_true rfl) d_MO_authorize_100 (fun H locs hP _ hS => ?_)
        have hP : va_P (dC, dI) vwCl (wdM cA ad (up X 4 0 ((X 4 0) + (1 : Int32))) Y) H := by rw [← stM_MO_14]; exact hP
        refine lv_iload hx hb d_MO_authorize_103 (lv_at hl 1 rfl) ?_
        exact W.iret (v := v4) hx hb hr (fun t ht _ => ⟨⟨v4, (up X 4 0 ((X 4 0) + (1 : Int32)), Y), rfl, hw, by show va_P _ _ _ t.heap; rw [ht]; exact hP⟩, hS.F ht⟩) hS.2.2 d_MO_authorize_105
      · have hw := hw.2 c1
        refine lv_aload_n hx hb d_MO_authorize_60 rfl (lv_at hl 0 rfl) ?_
        refine va_get (D := (dC, dI)) (ci := 9) (v := .ref (ad 14)) (C := R_MO) (T := T_MO) (N := 36) hx hb hts in_MO hown hK hP (0) atM_MO rfl 19 (by decide) (hts _ gw_356) (fun _ h9 => h9) rfl d_MO_authorize_61 ?_
        refine lv_iload hx hb d_MO_authorize_64 (lv_at hl 2 rfl) ?_
        refine lv_aload_n hx hb d_MO_authorize_66 rfl (lv_at hl 0 rfl) ?_
        refine va_calli (va_runV (As := []) (rest := [.int v5, .ref (ad 14)]) ⟨hx, hb, hml, hown, hts⟩ (mt_MO_draw l hl9 dC dI cA ad hI _ hw) (cwV 0 hts (gV gw_317 gw_318 gw_319 gw_306 gw_316) rfl rfl rfl (by decide +kernel) ⟨Nat.le_of_ble_eq_true rfl, Nat.le_of_ble_eq_true rfl⟩) ⟨zwM_blind, va_recv hK hP (ci := 9) (q0 := 0) rfl atM_MO, zwM_pre hP hS hG9⟩ rfl rfl hl.1 rfl (lv_room (Nat.le_of_ble_eq_true rfl)) d_MO_authorize_67 ⟨Nat.le_of_ble_eq_true rfl, Nat.le_of_ble_eq_true rfl⟩) hS (fun q _ h => CA_le hS.1 q h) (fun q h => CA_le hS.1 q h) (fun r4 u9 t H locs ht hvm hw hP hz1 hk1 hS => ?_)
        obtain ⟨X2, Y3⟩ := u9
        have hP : va_P (dC, dI) vwCl (wdM cA ad X2 Y3) H := by rw [← ht]; exact hP
        try dsimp only at hw
        obtain ⟨h5, hw⟩ := hw
        refine va_iast hx hb hK hP (hD0 _ _) hS (14) 13 atM_token rfl h5 d_MO_authorize_70 (fun H locs hP _ hS => ?_)
        have hP : va_P (dC, dI) vwCl (wdM cA ad (up X2 41 v5.toNatClampNeg r4) Y3) H := by rw [← stM_token]; exact hP
        refine lv_aload_n hx hb d_MO_authorize_71 rfl (lv_at hl 0 rfl) ?_
        refine va_get (D := (dC, dI)) (ci := 9) (v := .ref (ad 15)) (C := R_MO) (T := T_MO) (N := 36) hx hb hts in_MO hown hK hP (0) atM_MO rfl 20 (by decide) (hts _ gw_357) (fun _ h9 => h9) rfl d_MO_authorize_72 ?_
        refine lv_iload hx hb d_MO_authorize_75 (lv_at hl 2 rfl) ?_
        refine lv_iconst (v := (0 : Int32)) hx hb d_MO_authorize_77 (by decide) ?_
        refine va_iast hx hb hK hP (hD0 _ _) hS (15) 14 atM_stage rfl h5 d_MO_authorize_78 (fun H locs hP _ hS => ?_)
        have hP : va_P (dC, dI) vwCl (wdM cA ad (up (up X2 41 v5.toNatClampNeg r4) 40 v5.toNatClampNeg (0 : Int32)) Y3) H := by rw [← stM_stage]; exact hP
        refine lv_aload_n hx hb d_MO_authorize_79 rfl (lv_at hl 0 rfl) ?_
        refine va_get (D := (dC, dI)) (ci := 9) (v := .ref (ad 16)) (C := R_MO) (T := T_MO) (N := 36) hx hb hts in_MO hown hK hP (0) atM_MO rfl 21 (by decide) (hts _ gw_358) (fun _ h9 => h9) rfl d_MO_authorize_80 ?_
        refine lv_iload hx hb d_MO_authorize_83 (lv_at hl 2 rfl) ?_
        refine lv_iconst (v := (0 : Int32)) hx hb d_MO_authorize_85 (by decide) ?_
        refine va_iast hx hb hK hP (hD0 _ _) hS (16) 15 atM_wrong rfl h5 d_MO_authorize_86 (fun H locs hP _ hS => ?_)
        have hP : va_P (dC, dI) vwCl (wdM cA ad (up (up (up X2 41 v5.toNatClampNeg r4) 40 v5.toNatClampNeg (0 : Int32)) 42 v5.toNatClampNeg (0 : Int32)) Y3) H := by rw [← stM_wrong]; exact hP
        refine lv_iinc (k := 2) (v := v5 + (1 : Int32)) (lv' := [(5, .int (v5 + (1 : Int32))), (0, .ref (ad 0)), (4, .int v4)]) hx hb d_MO_authorize_87 hl rfl rfl (by decide) rfl (fun ls hl => ?_)
        refine lv_goto (tgt := 49) hx hb d_MO_authorize_90 (by decide) ?_
        have hl := lv_sub hl (l' := [(0, .ref (ad 0)), (4, .int v4), (5, .int (v5 + (1 : Int32)))]) [1, 2, 0] rfl
        exact ih _ _ _ _ _ _ hw hP hS hl
  unfold wp_MO_authorize at hw
  refine lv_aload_n hx hb d_MO_authorize_0 rfl (lv_at hl 0 rfl) ?_
  refine va_get (D := (dC, dI)) (ci := 9) (v := .int (X 4 0)) (C := R_MO) (T := T_MO) (N := 36) hx hb hts in_MO hown hK hP (0) atM_MO rfl 14 (by decide) (hts _ gw_350) (fun _ h9 => h9) rfl d_MO_authorize_1 ?_
  refine lv_istore (lv' := [(4, .int (X 4 0)), (0, .ref (ad 0)), (1, .int a1), (2, .int a2), (3, .int a3)]) hx hb d_MO_authorize_4 hl (by decide) rfl (fun ls hl => ?_)
  refine lv_aload_n hx hb d_MO_authorize_6 rfl (lv_at hl 1 rfl) ?_
  refine va_get (D := (dC, dI)) (ci := 9) (v := .ref (ad 10)) (C := R_MO) (T := T_MO) (N := 36) hx hb hts in_MO hown hK hP (0) atM_MO rfl 15 (by decide) (hts _ gw_351) (fun _ h9 => h9) rfl d_MO_authorize_7 ?_
  refine lv_iload hx hb d_MO_authorize_10 (lv_at hl 0 rfl) ?_
  refine lv_iload_n hx hb d_MO_authorize_12 rfl (lv_at hl 2 rfl) ?_
  obtain ⟨h6, hw⟩ := hw
  refine va_iast hx hb hK hP (hD0 _ _) hS (10) 9 atM_authAccount rfl h6 d_MO_authorize_13 (fun H locs hP _ hS => ?_)
  have hP : va_P (dC, dI) vwCl (wdM cA ad (up X 31 ((X 4 0).toNatClampNeg) a1) Y) H := by rw [← stM_authAccount]; exact hP
  refine lv_aload_n hx hb d_MO_authorize_14 rfl (lv_at hl 1 rfl) ?_
  refine va_get (D := (dC, dI)) (ci := 9) (v := .ref (ad 11)) (C := R_MO) (T := T_MO) (N := 36) hx hb hts in_MO hown hK hP (0) atM_MO rfl 16 (by decide) (hts _ gw_352) (fun _ h9 => h9) rfl d_MO_authorize_15 ?_
  refine lv_iload hx hb d_MO_authorize_18 (lv_at hl 0 rfl) ?_
  refine lv_iload_n hx hb d_MO_authorize_20 rfl (lv_at hl 3 rfl) ?_
  refine va_iast hx hb hK hP (hD0 _ _) hS (11) 10 atM_authName rfl h6 d_MO_authorize_21 (fun H locs hP _ hS => ?_)
  have hP : va_P (dC, dI) vwCl (wdM cA ad (up (up X 31 ((X 4 0).toNatClampNeg) a1) 32 ((X 4 0).toNatClampNeg) a2) Y) H := by rw [← stM_authName]; exact hP
  refine lv_aload_n hx hb d_MO_authorize_22 rfl (lv_at hl 1 rfl) ?_
  refine va_get (D := (dC, dI)) (ci := 9) (v := .ref (ad 12)) (C := R_MO) (T := T_MO) (N := 36) hx hb hts in_MO hown hK hP (0) atM_MO rfl 17 (by decide) (hts _ gw_359) (fun _ h9 => h9) rfl d_MO_authorize_23 ?_
  refine lv_iload hx hb d_MO_authorize_26 (lv_at hl 0 rfl) ?_
  refine lv_aload_n hx hb d_MO_authorize_28 rfl (lv_at hl 1 rfl) ?_
  refine va_get (D := (dC, dI)) (ci := 9) (v := .int (X 1 0)) (C := R_MO) (T := T_MO) (N := 36) hx hb hts in_MO hown hK hP (0) atM_MO rfl 2 (by decide) (hts _ gw_360) (fun _ h9 => h9) rfl d_MO_authorize_29 ?_
  refine lv_iload_n hx hb d_MO_authorize_32 rfl (lv_at hl 4 rfl) ?_
  refine lv_iadd hx hb d_MO_authorize_33 ?_
  refine va_iast hx hb hK hP (hD0 _ _) hS (12) 11 atM_authEnds rfl h6 d_MO_authorize_34 (fun H locs hP _ hS => ?_)
  have hP : va_P (dC, dI) vwCl (wdM cA ad (up (up (up X 31 ((X 4 0).toNatClampNeg) a1) 32 ((X 4 0).toNatClampNeg) a2) 33 ((X 4 0).toNatClampNeg) ((X 1 0) + a3)) Y) H := by rw [← stM_authEnds]; exact hP
  refine lv_aload_n hx hb d_MO_authorize_35 rfl (lv_at hl 1 rfl) ?_
  refine va_get (D := (dC, dI)) (ci := 9) (v := .ref (ad 13)) (C := R_MO) (T := T_MO) (N := 36) hx hb hts in_MO hown hK hP (0) atM_MO rfl 18 (by decide) (hts _ gw_347) (fun _ h9 => h9) rfl d_MO_authorize_36 ?_
  refine lv_iload hx hb d_MO_authorize_39 (lv_at hl 0 rfl) ?_
  refine lv_iconst (v := (0 : Int32)) hx hb d_MO_authorize_41 (by decide) ?_
  refine va_iast hx hb hK hP (hD0 _ _) hS (13) 12 atM_authState rfl h6 d_MO_authorize_42 (fun H locs hP _ hS => ?_)
  have hP : va_P (dC, dI) vwCl (wdM cA ad (up (up (up (up X 31 ((X 4 0).toNatClampNeg) a1) 32 ((X 4 0).toNatClampNeg) a2) 33 ((X 4 0).toNatClampNeg) ((X 1 0) + a3)) 30 ((X 4 0).toNatClampNeg) (0 : Int32)) Y) H := by rw [← stM_authState]; exact hP
  refine lv_iconst (v := (2 : Int32)) hx hb d_MO_authorize_43 (by decide) ?_
  refine lv_iload hx hb d_MO_authorize_44 (lv_at hl 0 rfl) ?_
  refine lv_imul hx hb d_MO_authorize_46 ?_
  refine lv_istore (lv' := [(5, .int ((2 : Int32) * (X 4 0))), (4, .int (X 4 0)), (0, .ref (ad 0)), (1, .int a1), (2, .int a2), (3, .int a3)]) hx hb d_MO_authorize_47 hl (by decide) rfl (fun ls hl => ?_)
  have hl := lv_sub hl (l' := [(0, .ref (ad 0)), (4, .int (X 4 0)), (5, .int ((2 : Int32) * (X 4 0)))]) [2, 1, 0] rfl
  obtain ⟨n9, hw⟩ := hw
  exact L49 _ n9 _ _ _ _ _ _ hw hP hS hl
def ws_MO_fresh : List Cond := Cond.code y_MO_fresh c_MO_fresh 5 (Option.some Jvm.ClassFile.FieldType.int) :: GW
theorem d_MO_fresh_0 : decode c_MO_fresh 0 = .ok (.iconst 0, 1) := by decide +kernel
theorem d_MO_fresh_1 : decode c_MO_fresh 1 = .ok (.istore_n 3, 1) := by decide +kernel
theorem d_MO_fresh_2 : decode c_MO_fresh 2 = .ok (.iconst 0, 1) := by decide +kernel
theorem d_MO_fresh_3 : decode c_MO_fresh 3 = .ok (.istore 4, 2) := by decide +kernel
theorem d_MO_fresh_5 : decode c_MO_fresh 5 = .ok (.iload 4, 2) := by decide +kernel
theorem d_MO_fresh_7 : decode c_MO_fresh 7 = .ok (.bipush 16, 2) := by decide +kernel
theorem d_MO_fresh_9 : decode c_MO_fresh 9 = .ok (.if_icmp .ge 36, 3) := by decide +kernel
theorem d_MO_fresh_12 : decode c_MO_fresh 12 = .ok (.iload_n 2, 1) := by decide +kernel
theorem d_MO_fresh_13 : decode c_MO_fresh 13 = .ok (.iload 4, 2) := by decide +kernel
theorem d_MO_fresh_15 : decode c_MO_fresh 15 = .ok (.invokestatic 140, 3) := by decide +kernel
theorem d_MO_fresh_18 : decode c_MO_fresh 18 = .ok (.ifCond .eq 19, 3) := by decide +kernel
theorem d_MO_fresh_21 : decode c_MO_fresh 21 = .ok (.aload_n 0, 1) := by decide +kernel
theorem d_MO_fresh_22 : decode c_MO_fresh 22 = .ok (.iload_n 1, 1) := by decide +kernel
theorem d_MO_fresh_23 : decode c_MO_fresh 23 = .ok (.iload 4, 2) := by decide +kernel
theorem d_MO_fresh_25 : decode c_MO_fresh 25 = .ok (.invokevirtual 147, 3) := by decide +kernel
theorem d_MO_fresh_28 : decode c_MO_fresh 28 = .ok (.ifCond .ge 9, 3) := by decide +kernel
theorem d_MO_fresh_31 : decode c_MO_fresh 31 = .ok (.iload_n 3, 1) := by decide +kernel
theorem d_MO_fresh_32 : decode c_MO_fresh 32 = .ok (.iconst 1, 1) := by decide +kernel
theorem d_MO_fresh_33 : decode c_MO_fresh 33 = .ok (.iadd, 1) := by decide +kernel
theorem d_MO_fresh_34 : decode c_MO_fresh 34 = .ok (.goto 4, 3) := by decide +kernel
theorem d_MO_fresh_37 : decode c_MO_fresh 37 = .ok (.iload_n 3, 1) := by decide +kernel
theorem d_MO_fresh_38 : decode c_MO_fresh 38 = .ok (.istore_n 3, 1) := by decide +kernel
theorem d_MO_fresh_39 : decode c_MO_fresh 39 = .ok (.iinc 4 1, 3) := by decide +kernel
theorem d_MO_fresh_42 : decode c_MO_fresh 42 = .ok (.goto (-37), 3) := by decide +kernel
theorem d_MO_fresh_45 : decode c_MO_fresh 45 = .ok (.iload_n 3, 1) := by decide +kernel
theorem d_MO_fresh_46 : decode c_MO_fresh 46 = .ok (.ireturn, 1) := by decide +kernel
def wq_MO_fresh_5 (post : Int32 → ST → Int64 → Prop) (v1 : Int32) (v2 : Int32) : Nat → Int32 → Int32 → ST → Int64 → Prop
  | 0 => fun _ _ _ _ => False
  | n + 1 => fun v3 v4 X Y => (((16 : Int32) ≤ v4 → post v3 X Y) ∧ (¬ (16 : Int32) ≤ v4 → wp_MO_has (fun (r4 : Int32) (X2 : ST) (Y3 : Int64) => ((r4 = 0 → wq_MO_fresh_5 post v1 v2 n v3 (v4 + (1 : Int32)) X2 Y3) ∧ (¬ r4 = 0 → wp_MO_valid (fun (r8 : Int32) (X6 : ST) (Y7 : Int64) => ((0 ≤ r8 → wq_MO_fresh_5 post v1 v2 n v3 (v4 + (1 : Int32)) X6 Y7) ∧ (¬ 0 ≤ r8 → wq_MO_fresh_5 post v1 v2 n (v3 + (1 : Int32)) (v4 + (1 : Int32)) X6 Y7))) X2 Y3 v1 v4))) X Y v2 v4))
def wp_MO_fresh (post : Int32 → ST → Int64 → Prop) (X : ST) (Y : Int64) (a1 : Int32) (a2 : Int32) : Prop := (∃ n9, wq_MO_fresh_5 post a1 a2 n9 (0 : Int32) (0 : Int32) X Y)
set_option maxHeartbeats 4000000 in
set_option maxRecDepth 100000 in
theorem mt_MO_fresh (l : Launch) (hl9 : l.stackTraces = false) (dC : Nat → ClassId) (dI : Nat → Nat → Nat) (cA : Nat → ClassId) (ad : Nat → Nat) (hI : INJ ad 23) (sz : Nat) {X : ST} {Y : Int64} {a1 : Int32} {a2 : Int32} {post : Int32 → ST → Int64 → Prop} (hw : wp_MO_fresh post X Y a1 a2) : Met l y_MO_fresh ws_MO_fresh ({ frames := 1, cells := 0, slots := 0, locals := 24 } : Room) (va_Pc [.ref (ad 0), .int a1, .int a2] (fun U => PM dC dI cA ad sz X Y U)) (va_Qi (fun r (u : ST × Int64) => post r u.1 u.2) (fun (u : ST × Int64) t => va_P (dC, dI) vwCl (wdM cA ad u.1 u.2) t.heap) (CA ad 23 sz)) 0 0 (CA ad 23 sz) := by
  refine Met.ofW (cc := c_MO_fresh) (maxL := 5) (ret := (some .int)) (by decide) rfl ?_
  intro p e s m args below meth c s₁ B hml hv
  obtain ⟨rfl, hsz, hP, hG⟩ := hv
  have hx := B.exec
  have hb := B.bytes
  have hr := B.returns
  have hts : ∀ w ∈ GW, w.before (([.ref (ad 0), .int a1, .int a2] : List Value).toArray) s = true := fun w h => atoms_spec (ws := ws_MO_fresh) B.pre w (List.mem_cons_of_mem _ h)
  have hown : s.vm.findClass R_MO = some m.cls := findClass_of_methodNamed B.named
  have hlocks := B.notSynchronized
  subst hsz
  have hK := hG.1
  have hG9 := hG
  have hNW := hG.2
  have hD0 : ∀ (X : ST) (Y : Int64), va_D (CA ad 23 s.heap.size) (wdM cA ad X Y) := fun _ _ => zwM_D hI
  have hS : va_S (CA ad 23 s.heap.size) s.heap s.heap [] := va_S.rf
  have hl := lv_entry ([.ref (ad 0), .int a1, .int a2]) (n := 5) (Nat.le_of_ble_eq_true rfl)
  rw [lg_entry_eq]
  generalize (lg_sl ([.ref (ad 0), .int a1, .int a2]) ++ List.replicate (5 - (lg_sl ([.ref (ad 0), .int a1, .int a2])).length) Slot.unset).toArray = ls at hl ⊢
  have hl : lv_has ls 5 [(0, .ref (ad 0)), (1, .int a1), (2, .int a2)] := hl
  have L5 : ∀ (v1 : Int32) (v2 : Int32), ∀ (n : Nat), ∀ (v3 : Int32) (v4 : Int32) (X : ST) (Y : Int64) (H : Heap) (locs : List Loc) (ls : Array Slot), wq_MO_fresh_5 post v1 v2 n v3 v4 X Y → va_P (dC, dI) vwCl (wdM cA ad X Y) H → va_S (CA ad 23 s.heap.size) s.heap H locs → lv_has ls 5 [(0, .ref (ad 0)), (1, .int v1), (2, .int v2), (3, .int v3), (4, .int v4)] → W p l e (headSpec ws_MO_fresh ({ frames := 1, cells := 0, slots := 0, locals := 24 } : Room)).room s m (([.ref (ad 0), .int a1, .int a2] : List Value).toArray) below meth c H locs 0 0 (MQ below (va_Qi (fun r (u : ST × Int64) => post r u.1 u.2) (fun (u : ST × Int64) t => va_P (dC, dI) vwCl (wdM cA ad u.1 u.2) t.heap) (CA ad 23 s.heap.size)) (([.ref (ad 0), .int a1, .int a2] : List Value).toArray) s 0 0 (CA ad 23 s.heap.size)) (F0 m 5 ls []) := by
    intro v1 v2 n
    induction n with
    | zero => intro v3 v4 X Y H locs ls hw hP hS hl; exact False.elim hw
    | succ n ih =>
      intro v3 v4 X Y H locs ls hw hP hS hl
      dsimp only [wq_MO_fresh_5] at hw
      refine lv_iload hx hb d_MO_fresh_5 (lv_at hl 4 rfl) ?_
      refine lv_bipush (v := (16 : Int32)) hx hb d_MO_fresh_7 (by decide) ?_
      refine lv_icmp_ge (tgt := 45) hx hb d_MO_fresh_9 (by decide) (fun c1 => ?_) (fun c1 => ?_)
      · have hw := hw.1 c1
        refine lv_iload_n hx hb d_MO_fresh_45 rfl (lv_at hl 3 rfl) ?_
        exact W.iret (v := v3) hx hb hr (fun t ht _ => ⟨⟨v3, (X, Y), rfl, hw, by show va_P _ _ _ t.heap; rw [ht]; exact hP⟩, hS.F ht⟩) hS.2.2 d_MO_fresh_46
      · have hw := hw.2 c1
        refine lv_iload_n hx hb d_MO_fresh_12 rfl (lv_at hl 2 rfl) ?_
        refine lv_iload hx hb d_MO_fresh_13 (lv_at hl 4 rfl) ?_
        refine va_calli (va_runS (As := [.int v2, .int v4]) (rest := []) ⟨hx, hb, hml, hown, hts⟩ (mt_MO_has l hl9 dC dI cA ad hI _ hw) (va_cwS 2 hts (gS gw_354 gw_355 gw_306 gw_353) rfl rfl rfl (by decide +kernel) ⟨Nat.le_of_ble_eq_true rfl, Nat.le_of_ble_eq_true rfl⟩) ⟨zwM_blind, zwM_pre hP hS hG9⟩ rfl rfl hl.1 rfl (lv_room (Nat.le_of_ble_eq_true rfl)) d_MO_fresh_15 ⟨Nat.le_of_ble_eq_true rfl, Nat.le_of_ble_eq_true rfl⟩) hS (fun q _ h => CA_le hS.1 q h) (fun q h => CA_le hS.1 q h) (fun r4 u9 t H locs ht hvm hw hP hz1 hk1 hS => ?_)
        obtain ⟨X2, Y3⟩ := u9
        have hP : va_P (dC, dI) vwCl (wdM cA ad X2 Y3) H := by rw [← ht]; exact hP
        try dsimp only at hw
        refine lv_if_eq (tgt := 37) hx hb d_MO_fresh_18 (by decide) (fun c5 => ?_) (fun c5 => ?_)
        · have hw := hw.1 c5
          refine lv_iload_n hx hb d_MO_fresh_37 rfl (lv_at hl 3 rfl) ?_
          refine lv_istore_n (lv' := [(3, .int v3), (0, .ref (ad 0)), (1, .int v1), (2, .int v2), (4, .int v4)]) hx hb d_MO_fresh_38 rfl hl (by decide) rfl (fun ls hl => ?_)
          refine lv_iinc (k := 4) (v := v4 + (1 : Int32)) (lv' := [(4, .int (v4 + (1 : Int32))), (3, .int v3), (0, .ref (ad 0)), (1, .int v1), (2, .int v2)]) hx hb d_MO_fresh_39 hl rfl rfl (by decide) rfl (fun ls hl => ?_)
          refine lv_goto (tgt := 5) hx hb d_MO_fresh_42 (by decide) ?_
          have hl := lv_sub hl (l' := [(0, .ref (ad 0)), (1, .int v1), (2, .int v2), (3, .int v3), (4, .int (v4 + (1 : Int32)))]) [2, 3, 4, 1, 0] rfl
          exact ih _ _ _ _ _ _ _ hw hP hS hl
        · have hw := hw.2 c5
          refine lv_aload_n hx hb d_MO_fresh_21 rfl (lv_at hl 0 rfl) ?_
          refine lv_iload_n hx hb d_MO_fresh_22 rfl (lv_at hl 1 rfl) ?_
          refine lv_iload hx hb d_MO_fresh_23 (lv_at hl 4 rfl) ?_
          refine va_calli (va_runV (As := [.int v1, .int v4]) (rest := []) ⟨hx, hb, hml, hown, hts⟩ (mt_MO_valid l hl9 dC dI cA ad hI _ hw) (cwV 2 hts (gV gw_362 gw_363 gw_364 gw_306 gw_361) rfl rfl rfl (by decide +kernel) ⟨Nat.le_of_ble_eq_true rfl, Nat.le_of_ble_eq_true rfl⟩) ⟨zwM_blind, va_recv hK hP (ci := 9) (q0 := 0) rfl atM_MO, zwM_pre hP hS hG9⟩ rfl rfl hl.1 rfl (lv_room (Nat.le_of_ble_eq_true rfl)) d_MO_fresh_25 ⟨Nat.le_of_ble_eq_true rfl, Nat.le_of_ble_eq_true rfl⟩) hS (fun q _ h => CA_le hS.1 q h) (fun q h => CA_le hS.1 q h) (fun r8 u9 t H locs ht hvm hw hP hz1 hk1 hS => ?_)
          obtain ⟨X6, Y7⟩ := u9
          have hP : va_P (dC, dI) vwCl (wdM cA ad X6 Y7) H := by rw [← ht]; exact hP
          try dsimp only at hw
          refine lv_if_ge (tgt := 37) hx hb d_MO_fresh_28 (by decide) (fun c9 => ?_) (fun c9 => ?_)
          · have hw := hw.1 c9
            refine lv_iload_n hx hb d_MO_fresh_37 rfl (lv_at hl 3 rfl) ?_
            refine lv_istore_n (lv' := [(3, .int v3), (0, .ref (ad 0)), (1, .int v1), (2, .int v2), (4, .int v4)]) hx hb d_MO_fresh_38 rfl hl (by decide) rfl (fun ls hl => ?_)
            refine lv_iinc (k := 4) (v := v4 + (1 : Int32)) (lv' := [(4, .int (v4 + (1 : Int32))), (3, .int v3), (0, .ref (ad 0)), (1, .int v1), (2, .int v2)]) hx hb d_MO_fresh_39 hl rfl rfl (by decide) rfl (fun ls hl => ?_)
            refine lv_goto (tgt := 5) hx hb d_MO_fresh_42 (by decide) ?_
            have hl := lv_sub hl (l' := [(0, .ref (ad 0)), (1, .int v1), (2, .int v2), (3, .int v3), (4, .int (v4 + (1 : Int32)))]) [2, 3, 4, 1, 0] rfl
            exact ih _ _ _ _ _ _ _ hw hP hS hl
          · have hw := hw.2 c9
            refine lv_iload_n hx hb d_MO_fresh_31 rfl (lv_at hl 3 rfl) ?_
            refine lv_iconst (v := (1 : Int32)) hx hb d_MO_fresh_32 (by decide) ?_
            refine lv_iadd hx hb d_MO_fresh_33 ?_
            refine lv_goto (tgt := 38) hx hb d_MO_fresh_34 (by decide) ?_
            refine lv_istore_n (lv' := [(3, .int (v3 + (1 : Int32))), (0, .ref (ad 0)), (1, .int v1), (2, .int v2), (4, .int v4)]) hx hb d_MO_fresh_38 rfl hl (by decide) rfl (fun ls hl => ?_)
            refine lv_iinc (k := 4) (v := v4 + (1 : Int32)) (lv' := [(4, .int (v4 + (1 : Int32))), (3, .int (v3 + (1 : Int32))), (0, .ref (ad 0)), (1, .int v1), (2, .int v2)]) hx hb d_MO_fresh_39 hl rfl rfl (by decide) rfl (fun ls hl => ?_)
            refine lv_goto (tgt := 5) hx hb d_MO_fresh_42 (by decide) ?_
            have hl := lv_sub hl (l' := [(0, .ref (ad 0)), (1, .int v1), (2, .int v2), (3, .int (v3 + (1 : Int32))), (4, .int (v4 + (1 : Int32)))]) [2, 3, 4, 1, 0] rfl
            exact ih _ _ _ _ _ _ _ hw hP hS hl
  unfold wp_MO_fresh at hw
  refine lv_iconst (v := (0 : Int32)) hx hb d_MO_fresh_0 (by decide) ?_
  refine lv_istore_n (lv' := [(3, .int (0 : Int32)), (0, .ref (ad 0)), (1, .int a1), (2, .int a2)]) hx hb d_MO_fresh_1 rfl hl (by decide) rfl (fun ls hl => ?_)
  refine lv_iconst (v := (0 : Int32)) hx hb d_MO_fresh_2 (by decide) ?_
  refine lv_istore (lv' := [(4, .int (0 : Int32)), (3, .int (0 : Int32)), (0, .ref (ad 0)), (1, .int a1), (2, .int a2)]) hx hb d_MO_fresh_3 hl (by decide) rfl (fun ls hl => ?_)
  have hl := lv_sub hl (l' := [(0, .ref (ad 0)), (1, .int a1), (2, .int a2), (3, .int (0 : Int32)), (4, .int (0 : Int32))]) [2, 3, 4, 1, 0] rfl
  obtain ⟨n9, hw⟩ := hw
  exact L5 _ _ n9 _ _ _ _ _ _ _ hw hP hS hl
