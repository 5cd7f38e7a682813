def ws_MO_ofOrder : List Cond := Cond.code y_MO_ofOrder c_MO_ofOrder 3 (Option.some Jvm.ClassFile.FieldType.int) :: GW
theorem d_MO_ofOrder_0 : decode c_MO_ofOrder 0 = .ok (.iload_n 2, 1) := by decide +kernel
theorem d_MO_ofOrder_1 : decode c_MO_ofOrder 1 = .ok (.tableswitch 70 0 4 #[35, 42, 49, 56, 63], 35) := by decide +kernel
theorem d_MO_ofOrder_36 : decode c_MO_ofOrder 36 = .ok (.aload_n 0, 1) := by decide +kernel
theorem d_MO_ofOrder_37 : decode c_MO_ofOrder 37 = .ok (.getfield 17, 3) := by decide +kernel
theorem d_MO_ofOrder_40 : decode c_MO_ofOrder 40 = .ok (.iload_n 1, 1) := by decide +kernel
theorem d_MO_ofOrder_41 : decode c_MO_ofOrder 41 = .ok (.iaload, 1) := by decide +kernel
theorem d_MO_ofOrder_42 : decode c_MO_ofOrder 42 = .ok (.ireturn, 1) := by decide +kernel
theorem d_MO_ofOrder_43 : decode c_MO_ofOrder 43 = .ok (.aload_n 0, 1) := by decide +kernel
theorem d_MO_ofOrder_44 : decode c_MO_ofOrder 44 = .ok (.getfield 20, 3) := by decide +kernel
theorem d_MO_ofOrder_47 : decode c_MO_ofOrder 47 = .ok (.iload_n 1, 1) := by decide +kernel
theorem d_MO_ofOrder_48 : decode c_MO_ofOrder 48 = .ok (.iaload, 1) := by decide +kernel
theorem d_MO_ofOrder_49 : decode c_MO_ofOrder 49 = .ok (.ireturn, 1) := by decide +kernel
theorem d_MO_ofOrder_50 : decode c_MO_ofOrder 50 = .ok (.aload_n 0, 1) := by decide +kernel
theorem d_MO_ofOrder_51 : decode c_MO_ofOrder 51 = .ok (.getfield 23, 3) := by decide +kernel
theorem d_MO_ofOrder_54 : decode c_MO_ofOrder 54 = .ok (.iload_n 1, 1) := by decide +kernel
theorem d_MO_ofOrder_55 : decode c_MO_ofOrder 55 = .ok (.iaload, 1) := by decide +kernel
theorem d_MO_ofOrder_56 : decode c_MO_ofOrder 56 = .ok (.ireturn, 1) := by decide +kernel
theorem d_MO_ofOrder_57 : decode c_MO_ofOrder 57 = .ok (.aload_n 0, 1) := by decide +kernel
theorem d_MO_ofOrder_58 : decode c_MO_ofOrder 58 = .ok (.getfield 29, 3) := by decide +kernel
theorem d_MO_ofOrder_61 : decode c_MO_ofOrder 61 = .ok (.iload_n 1, 1) := by decide +kernel
theorem d_MO_ofOrder_62 : decode c_MO_ofOrder 62 = .ok (.iaload, 1) := by decide +kernel
theorem d_MO_ofOrder_63 : decode c_MO_ofOrder 63 = .ok (.ireturn, 1) := by decide +kernel
theorem d_MO_ofOrder_64 : decode c_MO_ofOrder 64 = .ok (.aload_n 0, 1) := by decide +kernel
theorem d_MO_ofOrder_65 : decode c_MO_ofOrder 65 = .ok (.getfield 32, 3) := by decide +kernel
theorem d_MO_ofOrder_68 : decode c_MO_ofOrder 68 = .ok (.iload_n 1, 1) := by decide +kernel
theorem d_MO_ofOrder_69 : decode c_MO_ofOrder 69 = .ok (.iaload, 1) := by decide +kernel
theorem d_MO_ofOrder_70 : decode c_MO_ofOrder 70 = .ok (.ireturn, 1) := by decide +kernel
theorem d_MO_ofOrder_71 : decode c_MO_ofOrder 71 = .ok (.iload_n 2, 1) := by decide +kernel
theorem d_MO_ofOrder_72 : decode c_MO_ofOrder 72 = .ok (.iconst 4, 1) := by decide +kernel
theorem d_MO_ofOrder_73 : decode c_MO_ofOrder 73 = .ok (.if_icmp .le 30, 3) := by decide +kernel
theorem d_MO_ofOrder_76 : decode c_MO_ofOrder 76 = .ok (.iload_n 2, 1) := by decide +kernel
theorem d_MO_ofOrder_77 : decode c_MO_ofOrder 77 = .ok (.iconst 5, 1) := by decide +kernel
theorem d_MO_ofOrder_78 : decode c_MO_ofOrder 78 = .ok (.aload_n 0, 1) := by decide +kernel
theorem d_MO_ofOrder_79 : decode c_MO_ofOrder 79 = .ok (.getfield 32, 3) := by decide +kernel
theorem d_MO_ofOrder_82 : decode c_MO_ofOrder 82 = .ok (.iload_n 1, 1) := by decide +kernel
theorem d_MO_ofOrder_83 : decode c_MO_ofOrder 83 = .ok (.iaload, 1) := by decide +kernel
theorem d_MO_ofOrder_84 : decode c_MO_ofOrder 84 = .ok (.iadd, 1) := by decide +kernel
theorem d_MO_ofOrder_85 : decode c_MO_ofOrder 85 = .ok (.if_icmp .ge 18, 3) := by decide +kernel
theorem d_MO_ofOrder_88 : decode c_MO_ofOrder 88 = .ok (.aload_n 0, 1) := by decide +kernel
theorem d_MO_ofOrder_89 : decode c_MO_ofOrder 89 = .ok (.getfield 35, 3) := by decide +kernel
theorem d_MO_ofOrder_92 : decode c_MO_ofOrder 92 = .ok (.iconst 4, 1) := by decide +kernel
theorem d_MO_ofOrder_93 : decode c_MO_ofOrder 93 = .ok (.iload_n 1, 1) := by decide +kernel
theorem d_MO_ofOrder_94 : decode c_MO_ofOrder 94 = .ok (.imul, 1) := by decide +kernel
theorem d_MO_ofOrder_95 : decode c_MO_ofOrder 95 = .ok (.iload_n 2, 1) := by decide +kernel
theorem d_MO_ofOrder_96 : decode c_MO_ofOrder 96 = .ok (.iadd, 1) := by decide +kernel
theorem d_MO_ofOrder_97 : decode c_MO_ofOrder 97 = .ok (.iconst 5, 1) := by decide +kernel
theorem d_MO_ofOrder_98 : decode c_MO_ofOrder 98 = .ok (.isub, 1) := by decide +kernel
theorem d_MO_ofOrder_99 : decode c_MO_ofOrder 99 = .ok (.iaload, 1) := by decide +kernel
theorem d_MO_ofOrder_100 : decode c_MO_ofOrder 100 = .ok (.goto 4, 3) := by decide +kernel
theorem d_MO_ofOrder_103 : decode c_MO_ofOrder 103 = .ok (.iconst (-1), 1) := by decide +kernel
theorem d_MO_ofOrder_104 : decode c_MO_ofOrder 104 = .ok (.ireturn, 1) := by decide +kernel
def wp_MO_ofOrder (post : Int32 → ST → Int64 → Prop) (X : ST) (Y : Int64) (a1 : Int32) (a2 : Int32) : Prop := ((a2 < (0 : Int32) → ((a2 ≤ (4 : Int32) → post (-1 : Int32) X Y) ∧ (¬ a2 ≤ (4 : Int32) → (vp_in a1 12 ∧ ((((5 : Int32) + (X 25 a1.toNatClampNeg)) ≤ a2 → post (-1 : Int32) X Y) ∧ (¬ ((5 : Int32) + (X 25 a1.toNatClampNeg)) ≤ a2 → (vp_in ((((4 : Int32) * a1) + a2) - (5 : Int32)) 48 ∧ post (X 26 ((((4 : Int32) * a1) + a2) - (5 : Int32)).toNatClampNeg) X Y))))))) ∧ (¬ a2 < (0 : Int32) → (((4 : Int32) < a2 → ((a2 ≤ (4 : Int32) → post (-1 : Int32) X Y) ∧ (¬ a2 ≤ (4 : Int32) → (vp_in a1 12 ∧ ((((5 : Int32) + (X 25 a1.toNatClampNeg)) ≤ a2 → post (-1 : Int32) X Y) ∧ (¬ ((5 : Int32) + (X 25 a1.toNatClampNeg)) ≤ a2 → (vp_in ((((4 : Int32) * a1) + a2) - (5 : Int32)) 48 ∧ post (X 26 ((((4 : Int32) * a1) + a2) - (5 : Int32)).toNatClampNeg) X Y))))))) ∧ (¬ (4 : Int32) < a2 → ((a2 = (0 : Int32) → (vp_in a1 12 ∧ post (X 21 a1.toNatClampNeg) X Y)) ∧ (¬ a2 = (0 : Int32) → ((a2 = (1 : Int32) → (vp_in a1 12 ∧ post (X 22 a1.toNatClampNeg) X Y)) ∧ (¬ a2 = (1 : Int32) → ((a2 = (2 : Int32) → (vp_in a1 12 ∧ post (X 23 a1.toNatClampNeg) X Y)) ∧ (¬ a2 = (2 : Int32) → ((a2 = (3 : Int32) → (vp_in a1 12 ∧ post (X 24 a1.toNatClampNeg) X Y)) ∧ (¬ a2 = (3 : Int32) → ((a2 = (4 : Int32) → (vp_in a1 12 ∧ post (X 25 a1.toNatClampNeg) X Y)) ∧ (¬ a2 = (4 : Int32) → False))))))))))))))
set_option maxHeartbeats 4000000 in
set_option maxRecDepth 100000 in
theorem mt_MO_ofOrder (l : Launch) (hl9 : l.stackTraces = false) (dC : Nat → ClassId) (dI : Nat → Nat → Nat) (cA : Nat → ClassId) (ad : Nat → Nat) (hI : INJ ad 23) (sz : Nat) {X : ST} {Y : Int64} {a1 : Int32} {a2 : Int32} {post : Int32 → ST → Int64 → Prop} (hw : wp_MO_ofOrder post X Y a1 a2) : Met l y_MO_ofOrder ws_MO_ofOrder ({ frames := 0, cells := 0, slots := 0, locals := 0 } : Room) (va_Pc [.ref (ad 0), .int a1, .int a2] (fun U => PM dC dI cA ad sz X Y U)) (va_Qi (fun r (u : ST × Int64) => post r u.1 u.2) (fun (u : ST × Int64) t => va_P (dC, dI) vwCl (wdM cA ad u.1 u.2) t.heap) (CA ad 23 sz)) 0 0 (CA ad 23 sz) := by
  refine Met.ofW (cc := c_MO_ofOrder) (maxL := 3) (ret := (some .int)) (by decide) rfl ?_
  intro p e s m args below meth c s₁ B hml hv
  obtain ⟨rfl, hsz, hP, hG⟩ := hv
  have hx := B.exec
  have hb := B.bytes
  have hr := B.returns
  have hts : ∀ w ∈ GW, w.before (([.ref (ad 0), .int a1, .int a2] : List Value).toArray) s = true := fun w h => atoms_spec (ws := ws_MO_ofOrder) B.pre w (List.mem_cons_of_mem _ h)
  have hown : s.vm.findClass R_MO = some m.cls := findClass_of_methodNamed B.named
  have hlocks := B.notSynchronized
  subst hsz
  have hK := hG.1
  have hG9 := hG
  have hNW := hG.2
  have hD0 : ∀ (X : ST) (Y : Int64), va_D (CA ad 23 s.heap.size) (wdM cA ad X Y) := fun _ _ => zwM_D hI
  have hS : va_S (CA ad 23 s.heap.size) s.heap s.heap [] := va_S.rf
  have hl := lv_entry ([.ref (ad 0), .int a1, .int a2]) (n := 3) (Nat.le_of_ble_eq_true rfl)
  rw [lg_entry_eq]
  generalize (lg_sl ([.ref (ad 0), .int a1, .int a2]) ++ List.replicate (3 - (lg_sl ([.ref (ad 0), .int a1, .int a2])).length) Slot.unset).toArray = ls at hl ⊢
  have hl : lv_has ls 3 [(0, .ref (ad 0)), (1, .int a1), (2, .int a2)] := hl
  unfold wp_MO_ofOrder at hw
  refine lv_iload_n hx hb d_MO_ofOrder_0 rfl (lv_at hl 2 rfl) ?_
  by_cases c1 : a2 < (0 : Int32)
  · have hw := hw.1 c1
    refine lv_tableOut (tgt := 71) hx hb d_MO_ofOrder_1 (Or.inl (by have q := Int32.lt_iff_toInt_lt.mp c1; exact q)) (by decide) ?_
    refine lv_iload_n hx hb d_MO_ofOrder_71 rfl (lv_at hl 2 rfl) ?_
    refine lv_iconst (v := (4 : Int32)) hx hb d_MO_ofOrder_72 (by decide) ?_
    refine lv_icmp_le (tgt := 103) hx hb d_MO_ofOrder_73 (by decide) (fun c3 => ?_) (fun c3 => ?_)
    · have hw := hw.1 c3
      refine lv_iconst (v := (-1 : Int32)) hx hb d_MO_ofOrder_103 (by decide) ?_
      exact W.iret (v := (-1 : Int32)) hx hb hr (fun t ht _ => ⟨⟨(-1 : Int32), (X, Y), rfl, hw, by show va_P _ _ _ t.heap; rw [ht]; exact hP⟩, hS.F ht⟩) hS.2.2 d_MO_ofOrder_104
    · have hw := hw.2 c3
      refine lv_iload_n hx hb d_MO_ofOrder_76 rfl (lv_at hl 2 rfl) ?_
      refine lv_iconst (v := (5 : Int32)) hx hb d_MO_ofOrder_77 (by decide) ?_
      refine lv_aload_n hx hb d_MO_ofOrder_78 rfl (lv_at hl 0 rfl) ?_
      refine va_get (D := (dC, dI)) (ci := 9) (v := .ref (ad 8)) (C := R_MO) (T := T_MO) (N := 36) hx hb hts in_MO hown hK hP (0) atM_MO rfl 12 (by decide) (hts _ gw_346) (fun _ h9 => h9) rfl d_MO_ofOrder_79 ?_
      refine lv_iload_n hx hb d_MO_ofOrder_82 rfl (lv_at hl 1 rfl) ?_
      obtain ⟨h4, hw⟩ := hw
      refine va_iald hx hb hK hP (8) 7 atM_orderMany rfl h4 d_MO_ofOrder_83 ?_
      refine lv_iadd hx hb d_MO_ofOrder_84 ?_
      refine lv_icmp_ge (tgt := 103) hx hb d_MO_ofOrder_85 (by decide) (fun c5 => ?_) (fun c5 => ?_)
      · have hw := hw.1 c5
        refine lv_iconst (v := (-1 : Int32)) hx hb d_MO_ofOrder_103 (by decide) ?_
        exact W.iret (v := (-1 : Int32)) hx hb hr (fun t ht _ => ⟨⟨(-1 : Int32), (X, Y), rfl, hw, by show va_P _ _ _ t.heap; rw [ht]; exact hP⟩, hS.F ht⟩) hS.2.2 d_MO_ofOrder_104
      · have hw := hw.2 c5
        refine lv_aload_n hx hb d_MO_ofOrder_88 rfl (lv_at hl 0 rfl) ?_
        refine va_get (D := (dC, dI)) (ci := 9) (v := .ref (ad 9)) (C := R_MO) (T := T_MO) (N := 36) hx hb hts in_MO hown hK hP (0) atM_MO rfl 13 (by decide) (hts _ gw_348) (fun _ h9 => h9) rfl d_MO_ofOrder_89 ?_
        refine lv_iconst (v := (4 : Int32)) hx hb d_MO_ofOrder_92 (by decide) ?_
        refine lv_iload_n hx hb d_MO_ofOrder_93 rfl (lv_at hl 1 rfl) ?_
        refine lv_imul hx hb d_MO_ofOrder_94 ?_
        refine lv_iload_n hx hb d_MO_ofOrder_95 rfl (lv_at hl 2 rfl) ?_
        refine lv_iadd hx hb d_MO_ofOrder_96 ?_
        refine lv_iconst (v := (5 : Int32)) hx hb d_MO_ofOrder_97 (by decide) ?_
        refine lv_isub hx hb d_MO_ofOrder_98 ?_
        obtain ⟨h6, hw⟩ := hw
        refine va_iald hx hb hK hP (9) 8 atM_orderAuths rfl h6 d_MO_ofOrder_99 ?_
        refine lv_goto (tgt := 104) hx hb d_MO_ofOrder_100 (by decide) ?_
        exact W.iret (v := X 26 ((((4 : Int32) * a1) + a2) - (5 : Int32)).toNatClampNeg) hx hb hr (fun t ht _ => ⟨⟨X 26 ((((4 : Int32) * a1) + a2) - (5 : Int32)).toNatClampNeg, (X, Y), rfl, hw, by show va_P _ _ _ t.heap; rw [ht]; exact hP⟩, hS.F ht⟩) hS.2.2 d_MO_ofOrder_104
  have hw := hw.2 c1
  by_cases c2 : (4 : Int32) < a2
  · have hw := hw.1 c2
    refine lv_tableOut (tgt := 71) hx hb d_MO_ofOrder_1 (Or.inr (by have q := Int32.lt_iff_toInt_lt.mp c2; exact q)) (by decide) ?_
    refine lv_iload_n hx hb d_MO_ofOrder_71 rfl (lv_at hl 2 rfl) ?_
    refine lv_iconst (v := (4 : Int32)) hx hb d_MO_ofOrder_72 (by decide) ?_
    refine lv_icmp_le (tgt := 103) hx hb d_MO_ofOrder_73 (by decide) (fun c7 => ?_) (fun c7 => ?_)
    · have hw := hw.1 c7
      refine lv_iconst (v := (-1 : Int32)) hx hb d_MO_ofOrder_103 (by decide) ?_
      exact W.iret (v := (-1 : Int32)) hx hb hr (fun t ht _ => ⟨⟨(-1 : Int32), (X, Y), rfl, hw, by show va_P _ _ _ t.heap; rw [ht]; exact hP⟩, hS.F ht⟩) hS.2.2 d_MO_ofOrder_104
    · have hw := hw.2 c7
      refine lv_iload_n hx hb d_MO_ofOrder_76 rfl (lv_at hl 2 rfl) ?_
      refine lv_iconst (v := (5 : Int32)) hx hb d_MO_ofOrder_77 (by decide) ?_
      refine lv_aload_n hx hb d_MO_ofOrder_78 rfl (lv_at hl 0 rfl) ?_
      refine va_get (D := (dC, dI)) (ci := 9) (v := .ref (ad 8)) (C := R_MO) (T := T_MO) (N := 36) hx hb hts in_MO hown hK hP (0) atM_MO rfl 12 (by decide) (hts _ gw_346) (fun _ h9 => h9) rfl d_MO_ofOrder_79 ?_
      refine lv_iload_n hx hb d_MO_ofOrder_82 rfl (lv_at hl 1 rfl) ?_
      obtain ⟨h8, hw⟩ := hw
      refine va_iald hx hb hK hP (8) 7 atM_orderMany rfl h8 d_MO_ofOrder_83 ?_
      refine lv_iadd hx hb d_MO_ofOrder_84 ?_
      refine lv_icmp_ge (tgt := 103) hx hb d_MO_ofOrder_85 (by decide) (fun c9 => ?_) (fun c9 => ?_)
      · have hw := hw.1 c9
        refine lv_iconst (v := (-1 : Int32)) hx hb d_MO_ofOrder_103 (by decide) ?_
        exact W.iret (v := (-1 : Int32)) hx hb hr (fun t ht _ => ⟨⟨(-1 : Int32), (X, Y), rfl, hw, by show va_P _ _ _ t.heap; rw [ht]; exact hP⟩, hS.F ht⟩) hS.2.2 d_MO_ofOrder_104
      · have hw := hw.2 c9
        refine lv_aload_n hx hb d_MO_ofOrder_88 rfl (lv_at hl 0 rfl) ?_
        refine va_get (D := (dC, dI)) (ci := 9) (v := .ref (ad 9)) (C := R_MO) (T := T_MO) (N := 36) hx hb hts in_MO hown hK hP (0) atM_MO rfl 13 (by decide) (hts _ gw_348) (fun _ h9 => h9) rfl d_MO_ofOrder_89 ?_
        refine lv_iconst (v := (4 : Int32)) hx hb d_MO_ofOrder_92 (by decide) ?_
        refine lv_iload_n hx hb d_MO_ofOrder_93 rfl (lv_at hl 1 rfl) ?_
        refine lv_imul hx hb d_MO_ofOrder_94 ?_
        refine lv_iload_n hx hb d_MO_ofOrder_95 rfl (lv_at hl 2 rfl) ?_
        refine lv_iadd hx hb d_MO_ofOrder_96 ?_
        refine lv_iconst (v := (5 : Int32)) hx hb d_MO_ofOrder_97 (by decide) ?_
        refine lv_isub hx hb d_MO_ofOrder_98 ?_
        obtain ⟨h10, hw⟩ := hw
        refine va_iald hx hb hK hP (9) 8 atM_orderAuths rfl h10 d_MO_ofOrder_99 ?_
        refine lv_goto (tgt := 104) hx hb d_MO_ofOrder_100 (by decide) ?_
        exact W.iret (v := X 26 ((((4 : Int32) * a1) + a2) - (5 : Int32)).toNatClampNeg) hx hb hr (fun t ht _ => ⟨⟨X 26 ((((4 : Int32) * a1) + a2) - (5 : Int32)).toNatClampNeg, (X, Y), rfl, hw, by show va_P _ _ _ t.heap; rw [ht]; exact hP⟩, hS.F ht⟩) hS.2.2 d_MO_ofOrder_104
  have hw := hw.2 c2
  by_cases c11 : a2 = (0 : Int32)
  · have hw := hw.1 c11
    refine lv_tableIn (off := 35) (tgt := 36) hx hb d_MO_ofOrder_1 (by rw [c11]; decide) (by rw [c11]; decide) (by rw [c11]; decide) (by decide) ?_
    refine lv_aload_n hx hb d_MO_ofOrder_36 rfl (lv_at hl 0 rfl) ?_
    refine va_get (D := (dC, dI)) (ci := 9) (v := .ref (ad 3)) (C := R_MO) (T := T_MO) (N := 36) hx hb hts in_MO hown hK hP (0) atM_MO rfl 7 (by decide) (hts _ gw_373) (fun _ h9 => h9) rfl d_MO_ofOrder_37 ?_
    refine lv_iload_n hx hb d_MO_ofOrder_40 rfl (lv_at hl 1 rfl) ?_
    obtain ⟨h12, hw⟩ := hw
    refine va_iald hx hb hK hP (3) 2 atM_orderAccount rfl h12 d_MO_ofOrder_41 ?_
    exact W.iret (v := X 21 a1.toNatClampNeg) hx hb hr (fun t ht _ => ⟨⟨X 21 a1.toNatClampNeg, (X, Y), rfl, hw, by show va_P _ _ _ t.heap; rw [ht]; exact hP⟩, hS.F ht⟩) hS.2.2 d_MO_ofOrder_42
  have hw := hw.2 c11
  by_cases c13 : a2 = (1 : Int32)
  · have hw := hw.1 c13
    refine lv_tableIn (off := 42) (tgt := 43) hx hb d_MO_ofOrder_1 (by rw [c13]; decide) (by rw [c13]; decide) (by rw [c13]; decide) (by decide) ?_
    refine lv_aload_n hx hb d_MO_ofOrder_43 rfl (lv_at hl 0 rfl) ?_
    refine va_get (D := (dC, dI)) (ci := 9) (v := .ref (ad 4)) (C := R_MO) (T := T_MO) (N := 36) hx hb hts in_MO hown hK hP (0) atM_MO rfl 8 (by decide) (hts _ gw_374) (fun _ h9 => h9) rfl d_MO_ofOrder_44 ?_
    refine lv_iload_n hx hb d_MO_ofOrder_47 rfl (lv_at hl 1 rfl) ?_
    obtain ⟨h14, hw⟩ := hw
    refine va_iald hx hb hK hP (4) 3 atM_orderNames rfl h14 d_MO_ofOrder_48 ?_
    exact W.iret (v := X 22 a1.toNatClampNeg) hx hb hr (fun t ht _ => ⟨⟨X 22 a1.toNatClampNeg, (X, Y), rfl, hw, by show va_P _ _ _ t.heap; rw [ht]; exact hP⟩, hS.F ht⟩) hS.2.2 d_MO_ofOrder_49
  have hw := hw.2 c13
  by_cases c15 : a2 = (2 : Int32)
  · have hw := hw.1 c15
    refine lv_tableIn (off := 49) (tgt := 50) hx hb d_MO_ofOrder_1 (by rw [c15]; decide) (by rw [c15]; decide) (by rw [c15]; decide) (by decide) ?_
    refine lv_aload_n hx hb d_MO_ofOrder_50 rfl (lv_at hl 0 rfl) ?_
    refine va_get (D := (dC, dI)) (ci := 9) (v := .ref (ad 5)) (C := R_MO) (T := T_MO) (N := 36) hx hb hts in_MO hown hK hP (0) atM_MO rfl 9 (by decide) (hts _ gw_375) (fun _ h9 => h9) rfl d_MO_ofOrder_51 ?_
    refine lv_iload_n hx hb d_MO_ofOrder_54 rfl (lv_at hl 1 rfl) ?_
    obtain ⟨h16, hw⟩ := hw
    refine va_iald hx hb hK hP (5) 4 atM_orderEnds rfl h16 d_MO_ofOrder_55 ?_
    exact W.iret (v := X 23 a1.toNatClampNeg) hx hb hr (fun t ht _ => ⟨⟨X 23 a1.toNatClampNeg, (X, Y), rfl, hw, by show va_P _ _ _ t.heap; rw [ht]; exact hP⟩, hS.F ht⟩) hS.2.2 d_MO_ofOrder_56
  have hw := hw.2 c15
  by_cases c17 : a2 = (3 : Int32)
  · have hw := hw.1 c17
    refine lv_tableIn (off := 56) (tgt := 57) hx hb d_MO_ofOrder_1 (by rw [c17]; decide) (by rw [c17]; decide) (by rw [c17]; decide) (by decide) ?_
    refine lv_aload_n hx hb d_MO_ofOrder_57 rfl (lv_at hl 0 rfl) ?_
    refine va_get (D := (dC, dI)) (ci := 9) (v := .ref (ad 7)) (C := R_MO) (T := T_MO) (N := 36) hx hb hts in_MO hown hK hP (0) atM_MO rfl 11 (by decide) (hts _ gw_376) (fun _ h9 => h9) rfl d_MO_ofOrder_58 ?_
    refine lv_iload_n hx hb d_MO_ofOrder_61 rfl (lv_at hl 1 rfl) ?_
    obtain ⟨h18, hw⟩ := hw
    refine va_iald hx hb hK hP (7) 6 atM_orderPaper rfl h18 d_MO_ofOrder_62 ?_
    exact W.iret (v := X 24 a1.toNatClampNeg) hx hb hr (fun t ht _ => ⟨⟨X 24 a1.toNatClampNeg, (X, Y), rfl, hw, by show va_P _ _ _ t.heap; rw [ht]; exact hP⟩, hS.F ht⟩) hS.2.2 d_MO_ofOrder_63
  have hw := hw.2 c17
  by_cases c19 : a2 = (4 : Int32)
  · have hw := hw.1 c19
    refine lv_tableIn (off := 63) (tgt := 64) hx hb d_MO_ofOrder_1 (by rw [c19]; decide) (by rw [c19]; decide) (by rw [c19]; decide) (by decide) ?_
    refine lv_aload_n hx hb d_MO_ofOrder_64 rfl (lv_at hl 0 rfl) ?_
    refine va_get (D := (dC, dI)) (ci := 9) (v := .ref (ad 8)) (C := R_MO) (T := T_MO) (N := 36) hx hb hts in_MO hown hK hP (0) atM_MO rfl 12 (by decide) (hts _ gw_346) (fun _ h9 => h9) rfl d_MO_ofOrder_65 ?_
    refine lv_iload_n hx hb d_MO_ofOrder_68 rfl (lv_at hl 1 rfl) ?_
    obtain ⟨h20, hw⟩ := hw
    refine va_iald hx hb hK hP (8) 7 atM_orderMany rfl h20 d_MO_ofOrder_69 ?_
    exact W.iret (v := X 25 a1.toNatClampNeg) hx hb hr (fun t ht _ => ⟨⟨X 25 a1.toNatClampNeg, (X, Y), rfl, hw, by show va_P _ _ _ t.heap; rw [ht]; exact hP⟩, hS.F ht⟩) hS.2.2 d_MO_ofOrder_70
  have hw := hw.2 c19
  exact hw.elim
def ws_MO_ofPaper : List Cond := Cond.code y_MO_ofPaper c_MO_ofPaper 3 (Option.some Jvm.ClassFile.FieldType.int) :: GW
theorem d_MO_ofPaper_0 : decode c_MO_ofPaper 0 = .ok (.iload_n 2, 1) := by decide +kernel
theorem d_MO_ofPaper_1 : decode c_MO_ofPaper 1 = .ok (.tableswitch 64 0 3 #[31, 38, 50, 57], 31) := by decide +kernel
theorem d_MO_ofPaper_32 : decode c_MO_ofPaper 32 = .ok (.aload_n 0, 1) := by decide +kernel
theorem d_MO_ofPaper_33 : decode c_MO_ofPaper 33 = .ok (.getfield 59, 3) := by decide +kernel
theorem d_MO_ofPaper_36 : decode c_MO_ofPaper 36 = .ok (.iload_n 1, 1) := by decide +kernel
theorem d_MO_ofPaper_37 : decode c_MO_ofPaper 37 = .ok (.iaload, 1) := by decide +kernel
theorem d_MO_ofPaper_38 : decode c_MO_ofPaper 38 = .ok (.ireturn, 1) := by decide +kernel
theorem d_MO_ofPaper_39 : decode c_MO_ofPaper 39 = .ok (.aload_n 0, 1) := by decide +kernel
theorem d_MO_ofPaper_40 : decode c_MO_ofPaper 40 = .ok (.getfield 20, 3) := by decide +kernel
theorem d_MO_ofPaper_43 : decode c_MO_ofPaper 43 = .ok (.aload_n 0, 1) := by decide +kernel
theorem d_MO_ofPaper_44 : decode c_MO_ofPaper 44 = .ok (.getfield 59, 3) := by decide +kernel
theorem d_MO_ofPaper_47 : decode c_MO_ofPaper 47 = .ok (.iload_n 1, 1) := by decide +kernel
theorem d_MO_ofPaper_48 : decode c_MO_ofPaper 48 = .ok (.iaload, 1) := by decide +kernel
theorem d_MO_ofPaper_49 : decode c_MO_ofPaper 49 = .ok (.iaload, 1) := by decide +kernel
theorem d_MO_ofPaper_50 : decode c_MO_ofPaper 50 = .ok (.ireturn, 1) := by decide +kernel
theorem d_MO_ofPaper_51 : decode c_MO_ofPaper 51 = .ok (.aload_n 0, 1) := by decide +kernel
theorem d_MO_ofPaper_52 : decode c_MO_ofPaper 52 = .ok (.getfield 62, 3) := by decide +kernel
theorem d_MO_ofPaper_55 : decode c_MO_ofPaper 55 = .ok (.iload_n 1, 1) := by decide +kernel
theorem d_MO_ofPaper_56 : decode c_MO_ofPaper 56 = .ok (.iaload, 1) := by decide +kernel
theorem d_MO_ofPaper_57 : decode c_MO_ofPaper 57 = .ok (.ireturn, 1) := by decide +kernel
theorem d_MO_ofPaper_58 : decode c_MO_ofPaper 58 = .ok (.aload_n 0, 1) := by decide +kernel
theorem d_MO_ofPaper_59 : decode c_MO_ofPaper 59 = .ok (.getfield 65, 3) := by decide +kernel
theorem d_MO_ofPaper_62 : decode c_MO_ofPaper 62 = .ok (.iload_n 1, 1) := by decide +kernel
theorem d_MO_ofPaper_63 : decode c_MO_ofPaper 63 = .ok (.iaload, 1) := by decide +kernel
theorem d_MO_ofPaper_64 : decode c_MO_ofPaper 64 = .ok (.ireturn, 1) := by decide +kernel
theorem d_MO_ofPaper_65 : decode c_MO_ofPaper 65 = .ok (.iload_n 2, 1) := by decide +kernel
theorem d_MO_ofPaper_66 : decode c_MO_ofPaper 66 = .ok (.iconst 4, 1) := by decide +kernel
theorem d_MO_ofPaper_67 : decode c_MO_ofPaper 67 = .ok (.if_icmp .ne 12, 3) := by decide +kernel
theorem d_MO_ofPaper_70 : decode c_MO_ofPaper 70 = .ok (.aload_n 0, 1) := by decide +kernel
theorem d_MO_ofPaper_71 : decode c_MO_ofPaper 71 = .ok (.getfield 68, 3) := by decide +kernel
theorem d_MO_ofPaper_74 : decode c_MO_ofPaper 74 = .ok (.iload_n 1, 1) := by decide +kernel
theorem d_MO_ofPaper_75 : decode c_MO_ofPaper 75 = .ok (.iaload, 1) := by decide +kernel
theorem d_MO_ofPaper_76 : decode c_MO_ofPaper 76 = .ok (.goto 4, 3) := by decide +kernel
theorem d_MO_ofPaper_79 : decode c_MO_ofPaper 79 = .ok (.iconst (-1), 1) := by decide +kernel
theorem d_MO_ofPaper_80 : decode c_MO_ofPaper 80 = .ok (.ireturn, 1) := by decide +kernel
def wp_MO_ofPaper (post : Int32 → ST → Int64 → Prop) (X : ST) (Y : Int64) (a1 : Int32) (a2 : Int32) : Prop := ((a2 < (0 : Int32) → ((a2 = (4 : Int32) → (vp_in a1 12 ∧ post (X 55 a1.toNatClampNeg) X Y)) ∧ (¬ a2 = (4 : Int32) → post (-1 : Int32) X Y))) ∧ (¬ a2 < (0 : Int32) → (((3 : Int32) < a2 → ((a2 = (4 : Int32) → (vp_in a1 12 ∧ post (X 55 a1.toNatClampNeg) X Y)) ∧ (¬ a2 = (4 : Int32) → post (-1 : Int32) X Y))) ∧ (¬ (3 : Int32) < a2 → ((a2 = (0 : Int32) → (vp_in a1 12 ∧ post (X 51 a1.toNatClampNeg) X Y)) ∧ (¬ a2 = (0 : Int32) → ((a2 = (1 : Int32) → (vp_in a1 12 ∧ (vp_in (X 51 a1.toNatClampNeg) 12 ∧ post (X 22 (X 51 a1.toNatClampNeg).toNatClampNeg) X Y))) ∧ (¬ a2 = (1 : Int32) → ((a2 = (2 : Int32) → (vp_in a1 12 ∧ post (X 53 a1.toNatClampNeg) X Y)) ∧ (¬ a2 = (2 : Int32) → ((a2 = (3 : Int32) → (vp_in a1 12 ∧ post (X 54 a1.toNatClampNeg) X Y)) ∧ (¬ a2 = (3 : Int32) → False))))))))))))
set_option maxHeartbeats 4000000 in
set_option maxRecDepth 100000 in
theorem mt_MO_ofPaper (l : Launch) (hl9 : l.stackTraces = false) (dC : Nat → ClassId) (dI : Nat → Nat → Nat) (cA : Nat → ClassId) (ad : Nat → Nat) (hI : INJ ad 23) (sz : Nat) {X : ST} {Y : Int64} {a1 : Int32} {a2 : Int32} {post : Int32 → ST → Int64 → Prop} (hw : wp_MO_ofPaper post X Y a1 a2) : Met l y_MO_ofPaper ws_MO_ofPaper ({ frames := 0, cells := 0, slots := 0, locals := 0 } : Room) (va_Pc [.ref (ad 0), .int a1, .int a2] (fun U => PM dC dI cA ad sz X Y U)) (va_Qi (fun r (u : ST × Int64) => post r u.1 u.2) (fun (u : ST × Int64) t => va_P (dC, dI) vwCl (wdM cA ad u.1 u.2) t.heap) (CA ad 23 sz)) 0 0 (CA ad 23 sz) := by
  refine Met.ofW (cc := c_MO_ofPaper) (maxL := 3) (ret := (some .int)) (by decide) rfl ?_
  intro p e s m args below meth c s₁ B hml hv
  obtain ⟨rfl, hsz, hP, hG⟩ := hv
  have hx := B.exec
  have hb := B.bytes
  have hr := B.returns
  have hts : ∀ w ∈ GW, w.before (([.ref (ad 0), .int a1, .int a2] : List Value).toArray) s = true := fun w h => atoms_spec (ws := ws_MO_ofPaper) B.pre w (List.mem_cons_of_mem _ h)
  have hown : s.vm.findClass R_MO = some m.cls := findClass_of_methodNamed B.named
  have hlocks := B.notSynchronized
  subst hsz
  have hK := hG.1
  have hG9 := hG
  have hNW := hG.2
  have hD0 : ∀ (X : ST) (Y : Int64), va_D (CA ad 23 s.heap.size) (wdM cA ad X Y) := fun _ _ => zwM_D hI
  have hS : va_S (CA ad 23 s.heap.size) s.heap s.heap [] := va_S.rf
  have hl := lv_entry ([.ref (ad 0), .int a1, .int a2]) (n := 3) (Nat.le_of_ble_eq_true rfl)
  rw [lg_entry_eq]
  generalize (lg_sl ([.ref (ad 0), .int a1, .int a2]) ++ List.replicate (3 - (lg_sl ([.ref (ad 0), .int a1, .int a2])).length) Slot.unset).toArray = ls at hl ⊢
  have hl : lv_has ls 3 [(0, .ref (ad 0)), (1, .int a1), (2, .int a2)] := hl
  unfold wp_MO_ofPaper at hw
  refine lv_iload_n hx hb d_MO_ofPaper_0 rfl (lv_at hl 2 rfl) ?_
  by_cases c1 : a2 < (0 : Int32)
  · have hw := hw.1 c1
    refine lv_tableOut (tgt := 65) hx hb d_MO_ofPaper_1 (Or.inl (by have q := Int32.lt_iff_toInt_lt.mp c1; exact q)) (by decide) ?_
    refine lv_iload_n hx hb d_MO_ofPaper_65 rfl (lv_at hl 2 rfl) ?_
    refine lv_iconst (v := (4 : Int32)) hx hb d_MO_ofPaper_66 (by decide) ?_
    refine lv_icmp_ne (tgt := 79) hx hb d_MO_ofPaper_67 (by decide) (fun c3 => ?_) (fun c3 => ?_)
    · have hw := hw.2 c3
      refine lv_iconst (v := (-1 : Int32)) hx hb d_MO_ofPaper_79 (by decide) ?_
      exact W.iret (v := (-1 : Int32)) hx hb hr (fun t ht _ => ⟨⟨(-1 : Int32), (X, Y), rfl, hw, by show va_P _ _ _ t.heap; rw [ht]; exact hP⟩, hS.F ht⟩) hS.2.2 d_MO_ofPaper_80
    · have hw := hw.1 c3
      refine lv_aload_n hx hb d_MO_ofPaper_70 rfl (lv_at hl 0 rfl) ?_
      refine va_get (D := (dC, dI)) (ci := 9) (v := .ref (ad 20)) (C := R_MO) (T := T_MO) (N := 36) hx hb hts in_MO hown hK hP (0) atM_MO rfl 26 (by decide) (hts _ gw_430) (fun _ h9 => h9) rfl d_MO_ofPaper_71 ?_
      refine lv_iload_n hx hb d_MO_ofPaper_74 rfl (lv_at hl 1 rfl) ?_
      obtain ⟨h4, hw⟩ := hw
      refine va_iald hx hb hK hP (20) 19 atM_paperReason rfl h4 d_MO_ofPaper_75 ?_
      refine lv_goto (tgt := 80) hx hb d_MO_ofPaper_76 (by decide) ?_
      exact W.iret (v := X 55 a1.toNatClampNeg) hx hb hr (fun t ht _ => ⟨⟨X 55 a1.toNatClampNeg, (X, Y), rfl, hw, by show va_P _ _ _ t.heap; rw [ht]; exact hP⟩, hS.F ht⟩) hS.2.2 d_MO_ofPaper_80
  have hw := hw.2 c1
  by_cases c2 : (3 : Int32) < a2
  · have hw := hw.1 c2
    refine lv_tableOut (tgt := 65) hx hb d_MO_ofPaper_1 (Or.inr (by have q := Int32.lt_iff_toInt_lt.mp c2; exact q)) (by decide) ?_
    refine lv_iload_n hx hb d_MO_ofPaper_65 rfl (lv_at hl 2 rfl) ?_
    refine lv_iconst (v := (4 : Int32)) hx hb d_MO_ofPaper_66 (by decide) ?_
    refine lv_icmp_ne (tgt := 79) hx hb d_MO_ofPaper_67 (by decide) (fun c5 => ?_) (fun c5 => ?_)
    · have hw := hw.2 c5
      refine lv_iconst (v := (-1 : Int32)) hx hb d_MO_ofPaper_79 (by decide) ?_
      exact W.iret (v := (-1 : Int32)) hx hb hr (fun t ht _ => ⟨⟨(-1 : Int32), (X, Y), rfl, hw, by show va_P _ _ _ t.heap; rw [ht]; exact hP⟩, hS.F ht⟩) hS.2.2 d_MO_ofPaper_80
    · have hw := hw.1 c5
      refine lv_aload_n hx hb d_MO_ofPaper_70 rfl (lv_at hl 0 rfl) ?_
      refine va_get (D := (dC, dI)) (ci := 9) (v := .ref (ad 20)) (C := R_MO) (T := T_MO) (N := 36) hx hb hts in_MO hown hK hP (0) atM_MO rfl 26 (by decide) (hts _ gw_430) (fun _ h9 => h9) rfl d_MO_ofPaper_71 ?_
      refine lv_iload_n hx hb d_MO_ofPaper_74 rfl (lv_at hl 1 rfl) ?_
      obtain ⟨h6, hw⟩ := hw
      refine va_iald hx hb hK hP (20) 19 atM_paperReason rfl h6 d_MO_ofPaper_75 ?_
      refine lv_goto (tgt := 80) hx hb d_MO_ofPaper_76 (by decide) ?_
      exact W.iret (v := X 55 a1.toNatClampNeg) hx hb hr (fun t ht _ => ⟨⟨X 55 a1.toNatClampNeg, (X, Y), rfl, hw, by show va_P _ _ _ t.heap; rw [ht]; exact hP⟩, hS.F ht⟩) hS.2.2 d_MO_ofPaper_80
  have hw := hw.2 c2
  by_cases c7 : a2 = (0 : Int32)
  · have hw := hw.1 c7
    refine lv_tableIn (off := 31) (tgt := 32) hx hb d_MO_ofPaper_1 (by rw [c7]; decide) (by rw [c7]; decide) (by rw [c7]; decide) (by decide) ?_
    refine lv_aload_n hx hb d_MO_ofPaper_32 rfl (lv_at hl 0 rfl) ?_
    refine va_get (D := (dC, dI)) (ci := 9) (v := .ref (ad 17)) (C := R_MO) (T := T_MO) (N := 36) hx hb hts in_MO hown hK hP (0) atM_MO rfl 23 (by decide) (hts _ gw_427) (fun _ h9 => h9) rfl d_MO_ofPaper_33 ?_
    refine lv_iload_n hx hb d_MO_ofPaper_36 rfl (lv_at hl 1 rfl) ?_
    obtain ⟨h8, hw⟩ := hw
    refine va_iald hx hb hK hP (17) 16 atM_paperOrder rfl h8 d_MO_ofPaper_37 ?_
    exact W.iret (v := X 51 a1.toNatClampNeg) hx hb hr (fun t ht _ => ⟨⟨X 51 a1.toNatClampNeg, (X, Y), rfl, hw, by show va_P _ _ _ t.heap; rw [ht]; exact hP⟩, hS.F ht⟩) hS.2.2 d_MO_ofPaper_38
  have hw := hw.2 c7
  by_cases c9 : a2 = (1 : Int32)
  · have hw := hw.1 c9
    refine lv_tableIn (off := 38) (tgt := 39) hx hb d_MO_ofPaper_1 (by rw [c9]; decide) (by rw [c9]; decide) (by rw [c9]; decide) (by decide) ?_
    refine lv_aload_n hx hb d_MO_ofPaper_39 rfl (lv_at hl 0 rfl) ?_
    refine va_get (D := (dC, dI)) (ci := 9) (v := .ref (ad 4)) (C := R_MO) (T := T_MO) (N := 36) hx hb hts in_MO hown hK hP (0) atM_MO rfl 8 (by decide) (hts _ gw_374) (fun _ h9 => h9) rfl d_MO_ofPaper_40 ?_
    refine lv_aload_n hx hb d_MO_ofPaper_43 rfl (lv_at hl 0 rfl) ?_
    refine va_get (D := (dC, dI)) (ci := 9) (v := .ref (ad 17)) (C := R_MO) (T := T_MO) (N := 36) hx hb hts in_MO hown hK hP (0) atM_MO rfl 23 (by decide) (hts _ gw_427) (fun _ h9 => h9) rfl d_MO_ofPaper_44 ?_
    refine lv_iload_n hx hb d_MO_ofPaper_47 rfl (lv_at hl 1 rfl) ?_
    obtain ⟨h10, hw⟩ := hw
    refine va_iald hx hb hK hP (17) 16 atM_paperOrder rfl h10 d_MO_ofPaper_48 ?_
    obtain ⟨h11, hw⟩ := hw
    refine va_iald hx hb hK hP (4) 3 atM_orderNames rfl h11 d_MO_ofPaper_49 ?_
    exact W.iret (v := X 22 (X 51 a1.toNatClampNeg).toNatClampNeg) hx hb hr (fun t ht _ => ⟨⟨X 22 (X 51 a1.toNatClampNeg).toNatClampNeg, (X, Y), rfl, hw, by show va_P _ _ _ t.heap; rw [ht]; exact hP⟩, hS.F ht⟩) hS.2.2 d_MO_ofPaper_50
  have hw := hw.2 c9
  by_cases c12 : a2 = (2 : Int32)
  · have hw := hw.1 c12
    refine lv_tableIn (off := 50) (tgt := 51) hx hb d_MO_ofPaper_1 (by rw [c12]; decide) (by rw [c12]; decide) (by rw [c12]; decide) (by decide) ?_
    refine lv_aload_n hx hb d_MO_ofPaper_51 rfl (lv_at hl 0 rfl) ?_
    refine va_get (D := (dC, dI)) (ci := 9) (v := .ref (ad 18)) (C := R_MO) (T := T_MO) (N := 36) hx hb hts in_MO hown hK hP (0) atM_MO rfl 24 (by decide) (hts _ gw_428) (fun _ h9 => h9) rfl d_MO_ofPaper_52 ?_
    refine lv_iload_n hx hb d_MO_ofPaper_55 rfl (lv_at hl 1 rfl) ?_
    obtain ⟨h13, hw⟩ := hw
    refine va_iald hx hb hK hP (18) 17 atM_paperKey rfl h13 d_MO_ofPaper_56 ?_
    exact W.iret (v := X 53 a1.toNatClampNeg) hx hb hr (fun t ht _ => ⟨⟨X 53 a1.toNatClampNeg, (X, Y), rfl, hw, by show va_P _ _ _ t.heap; rw [ht]; exact hP⟩, hS.F ht⟩) hS.2.2 d_MO_ofPaper_57
  have hw := hw.2 c12
  by_cases c14 : a2 = (3 : Int32)
  · have hw := hw.1 c14
    refine lv_tableIn (off := 57) (tgt := 58) hx hb d_MO_ofPaper_1 (by rw [c14]; decide) (by rw [c14]; decide) (by rw [c14]; decide) (by decide) ?_
    refine lv_aload_n hx hb d_MO_ofPaper_58 rfl (lv_at hl 0 rfl) ?_
    refine va_get (D := (dC, dI)) (ci := 9) (v := .ref (ad 19)) (C := R_MO) (T := T_MO) (N := 36) hx hb hts in_MO hown hK hP (0) atM_MO rfl 25 (by decide) (hts _ gw_429) (fun _ h9 => h9) rfl d_MO_ofPaper_59 ?_
    refine lv_iload_n hx hb d_MO_ofPaper_62 rfl (lv_at hl 1 rfl) ?_
    obtain ⟨h15, hw⟩ := hw
    refine va_iald hx hb hK hP (19) 18 atM_paperTime rfl h15 d_MO_ofPaper_63 ?_
    exact W.iret (v := X 54 a1.toNatClampNeg) hx hb hr (fun t ht _ => ⟨⟨X 54 a1.toNatClampNeg, (X, Y), rfl, hw, by show va_P _ _ _ t.heap; rw [ht]; exact hP⟩, hS.F ht⟩) hS.2.2 d_MO_ofPaper_64
  have hw := hw.2 c14
  exact hw.elim
