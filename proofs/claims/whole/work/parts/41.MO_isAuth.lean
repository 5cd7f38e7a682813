def ws_MO_isAuth : List Cond := Cond.code y_MO_isAuth c_MO_isAuth 2 (Option.some Jvm.ClassFile.FieldType.boolean) :: GW
theorem d_MO_isAuth_0 : decode c_MO_isAuth 0 = .ok (.iload_n 1, 1) := by decide +kernel
theorem d_MO_isAuth_1 : decode c_MO_isAuth 1 = .ok (.ifCond .lt 15, 3) := by decide +kernel
theorem d_MO_isAuth_4 : decode c_MO_isAuth 4 = .ok (.iload_n 1, 1) := by decide +kernel
theorem d_MO_isAuth_5 : decode c_MO_isAuth 5 = .ok (.aload_n 0, 1) := by decide +kernel
theorem d_MO_isAuth_6 : decode c_MO_isAuth 6 = .ok (.getfield 137, 3) := by decide +kernel
theorem d_MO_isAuth_9 : decode c_MO_isAuth 9 = .ok (.if_icmp .ge 7, 3) := by decide +kernel
theorem d_MO_isAuth_12 : decode c_MO_isAuth 12 = .ok (.iconst 1, 1) := by decide +kernel
theorem d_MO_isAuth_13 : decode c_MO_isAuth 13 = .ok (.goto 4, 3) := by decide +kernel
theorem d_MO_isAuth_16 : decode c_MO_isAuth 16 = .ok (.iconst 0, 1) := by decide +kernel
theorem d_MO_isAuth_17 : decode c_MO_isAuth 17 = .ok (.ireturn, 1) := by decide +kernel
def wp_MO_isAuth (post : Int32 → ST → Int64 → Prop) (X : ST) (Y : Int64) (a1 : Int32) : Prop := ((a1 < 0 → post (0 : Int32) X Y) ∧ (¬ a1 < 0 → (((X 4 0) ≤ a1 → post (0 : Int32) X Y) ∧ (¬ (X 4 0) ≤ a1 → post (1 : Int32) X Y))))
set_option maxHeartbeats 4000000 in
set_option maxRecDepth 100000 in
theorem mt_MO_isAuth (l : Launch) (hl9 : l.stackTraces = false) (dC : Nat → ClassId) (dI : Nat → Nat → Nat) (cA : Nat → ClassId) (ad : Nat → Nat) (hI : INJ ad 23) (sz : Nat) {X : ST} {Y : Int64} {a1 : Int32} {post : Int32 → ST → Int64 → Prop} (hw : wp_MO_isAuth post X Y a1) : Met l y_MO_isAuth ws_MO_isAuth ({ frames := 0, cells := 0, slots := 0, locals := 0 } : Room) (va_Pc [.ref (ad 0), .int a1] (fun U => PM dC dI cA ad sz X Y U)) (va_Qi (fun r (u : ST × Int64) => post r u.1 u.2) (fun (u : ST × Int64) t => va_P (dC, dI) vwCl (wdM cA ad u.1 u.2) t.heap) (CA ad 23 sz)) 0 0 (CA ad 23 sz) := by
  refine Met.ofW (cc := c_MO_isAuth) (maxL := 2) (ret := (some .boolean)) (by decide) rfl ?_
  intro p e s m args below meth c s₁ B hml hv
  obtain ⟨rfl, hsz, hP, hG⟩ := hv
  have hx := B.exec
  have hb := B.bytes
  have hr := B.returns
  have hts : ∀ w ∈ GW, w.before (([.ref (ad 0), .int a1] : List Value).toArray) s = true := fun w h => atoms_spec (ws := ws_MO_isAuth) B.pre w (List.mem_cons_of_mem _ h)
  have hown : s.vm.findClass R_MO = some m.cls := findClass_of_methodNamed B.named
  have hlocks := B.notSynchronized
  subst hsz
  have hK := hG.1
  have hG9 := hG
  have hNW := hG.2
  have hD0 : ∀ (X : ST) (Y : Int64), va_D (CA ad 23 s.heap.size) (wdM cA ad X Y) := fun _ _ => zwM_D hI
  have hS : va_S (CA ad 23 s.heap.size) s.heap s.heap [] := va_S.rf
  have hl := lv_entry ([.ref (ad 0), .int a1]) (n := 2) (Nat.le_of_ble_eq_true rfl)
  rw [lg_entry_eq]
  generalize (lg_sl ([.ref (ad 0), .int a1]) ++ List.replicate (2 - (lg_sl ([.ref (ad 0), .int a1])).length) Slot.unset).toArray = ls at hl ⊢
  have hl : lv_has ls 2 [(0, .ref (ad 0)), (1, .int a1)] := hl
  unfold wp_MO_isAuth at hw
  refine lv_iload_n hx hb d_MO_isAuth_0 rfl (lv_at hl 1 rfl) ?_
  refine lv_if_lt (tgt := 16) hx hb d_MO_isAuth_1 (by decide) (fun c1 => ?_) (fun c1 => ?_)
  · have hw := hw.1 c1
    refine lv_iconst (v := (0 : Int32)) hx hb d_MO_isAuth_16 (by decide) ?_
    exact W.zret (v := (0 : Int32)) hx hb hr (by decide) (fun t ht _ => ⟨⟨(0 : Int32), (X, Y), rfl, hw, by show va_P _ _ _ t.heap; rw [ht]; exact hP⟩, hS.F ht⟩) hS.2.2 d_MO_isAuth_17
  · have hw := hw.2 c1
    refine lv_iload_n hx hb d_MO_isAuth_4 rfl (lv_at hl 1 rfl) ?_
    refine lv_aload_n hx hb d_MO_isAuth_5 rfl (lv_at hl 0 rfl) ?_
    refine va_get (D := (dC, dI)) (ci := 9) (v := .int (X 4 0)) (C := R_MO) (T := T_MO) (N := 36) hx hb hts in_MO hown hK hP (0) atM_MO rfl 14 (by decide) (hts _ gw_350) (fun _ h9 => h9) rfl d_MO_isAuth_6 ?_
    refine lv_icmp_ge (tgt := 16) hx hb d_MO_isAuth_9 (by decide) (fun c2 => ?_) (fun c2 => ?_)
    · have hw := hw.1 c2
      refine lv_iconst (v := (0 : Int32)) hx hb d_MO_isAuth_16 (by decide) ?_
      exact W.zret (v := (0 : Int32)) hx hb hr (by decide) (fun t ht _ => ⟨⟨(0 : Int32), (X, Y), rfl, hw, by show va_P _ _ _ t.heap; rw [ht]; exact hP⟩, hS.F ht⟩) hS.2.2 d_MO_isAuth_17
    · have hw := hw.2 c2
      refine lv_iconst (v := (1 : Int32)) hx hb d_MO_isAuth_12 (by decide) ?_
      refine lv_goto (tgt := 17) hx hb d_MO_isAuth_13 (by decide) ?_
      exact W.zret (v := (1 : Int32)) hx hb hr (by decide) (fun t ht _ => ⟨⟨(1 : Int32), (X, Y), rfl, hw, by show va_P _ _ _ t.heap; rw [ht]; exact hP⟩, hS.F ht⟩) hS.2.2 d_MO_isAuth_17
def ws_MO_isWhich : List Cond := Cond.code y_MO_isWhich c_MO_isWhich 1 (Option.some Jvm.ClassFile.FieldType.boolean) :: GW
theorem d_MO_isWhich_0 : decode c_MO_isWhich 0 = .ok (.iload_n 0, 1) := by decide +kernel
theorem d_MO_isWhich_1 : decode c_MO_isWhich 1 = .ok (.ifCond .eq 8, 3) := by decide +kernel
theorem d_MO_isWhich_4 : decode c_MO_isWhich 4 = .ok (.iload_n 0, 1) := by decide +kernel
theorem d_MO_isWhich_5 : decode c_MO_isWhich 5 = .ok (.iconst 1, 1) := by decide +kernel
theorem d_MO_isWhich_6 : decode c_MO_isWhich 6 = .ok (.if_icmp .ne 7, 3) := by decide +kernel
theorem d_MO_isWhich_9 : decode c_MO_isWhich 9 = .ok (.iconst 1, 1) := by decide +kernel
theorem d_MO_isWhich_10 : decode c_MO_isWhich 10 = .ok (.goto 4, 3) := by decide +kernel
theorem d_MO_isWhich_13 : decode c_MO_isWhich 13 = .ok (.iconst 0, 1) := by decide +kernel
theorem d_MO_isWhich_14 : decode c_MO_isWhich 14 = .ok (.ireturn, 1) := by decide +kernel
def wp_MO_isWhich (post : Int32 → ST → Int64 → Prop) (X : ST) (Y : Int64) (a1 : Int32) : Prop := ((a1 = 0 → post (1 : Int32) X Y) ∧ (¬ a1 = 0 → ((a1 = (1 : Int32) → post (1 : Int32) X Y) ∧ (¬ a1 = (1 : Int32) → post (0 : Int32) X Y))))
set_option maxHeartbeats 4000000 in
set_option maxRecDepth 100000 in
theorem mt_MO_isWhich (l : Launch) (hl9 : l.stackTraces = false) (dC : Nat → ClassId) (dI : Nat → Nat → Nat) (cA : Nat → ClassId) (ad : Nat → Nat) (hI : INJ ad 23) (sz : Nat) {X : ST} {Y : Int64} {a1 : Int32} {post : Int32 → ST → Int64 → Prop} (hw : wp_MO_isWhich post X Y a1) : Met l y_MO_isWhich ws_MO_isWhich ({ frames := 0, cells := 0, slots := 0, locals := 0 } : Room) (va_Pc [.int a1] (fun U => PM dC dI cA ad sz X Y U)) (va_Qi (fun r (u : ST × Int64) => post r u.1 u.2) (fun (u : ST × Int64) t => va_P (dC, dI) vwCl (wdM cA ad u.1 u.2) t.heap) (CA ad 23 sz)) 0 0 (CA ad 23 sz) := by
  refine Met.ofW (cc := c_MO_isWhich) (maxL := 1) (ret := (some .boolean)) (by decide) rfl ?_
  intro p e s m args below meth c s₁ B hml hv
  obtain ⟨rfl, hsz, hP, hG⟩ := hv
  have hx := B.exec
  have hb := B.bytes
  have hr := B.returns
  have hts : ∀ w ∈ GW, w.before (([.int a1] : List Value).toArray) s = true := fun w h => atoms_spec (ws := ws_MO_isWhich) B.pre w (List.mem_cons_of_mem _ h)
  have hown : s.vm.findClass R_MO = some m.cls := findClass_of_methodNamed B.named
  have hlocks := B.notSynchronized
  subst hsz
  have hK := hG.1
  have hG9 := hG
  have hNW := hG.2
  have hD0 : ∀ (X : ST) (Y : Int64), va_D (CA ad 23 s.heap.size) (wdM cA ad X Y) := fun _ _ => zwM_D hI
  have hS : va_S (CA ad 23 s.heap.size) s.heap s.heap [] := va_S.rf
  have hl := lv_entry ([.int a1]) (n := 1) (Nat.le_of_ble_eq_true rfl)
  rw [lg_entry_eq]
  generalize (lg_sl ([.int a1]) ++ List.replicate (1 - (lg_sl ([.int a1])).length) Slot.unset).toArray = ls at hl ⊢
  have hl : lv_has ls 1 [(0, .int a1)] := hl
  unfold wp_MO_isWhich at hw
  refine lv_iload_n hx hb d_MO_isWhich_0 rfl (lv_at hl 0 rfl) ?_
  refine lv_if_eq (tgt := 9) hx hb d_MO_isWhich_1 (by decide) (fun c1 => ?_) (fun c1 => ?_)
  · have hw := hw.1 c1
    refine lv_iconst (v := (1 : Int32)) hx hb d_MO_isWhich_9 (by decide) ?_
    refine lv_goto (tgt := 14) hx hb d_MO_isWhich_10 (by decide) ?_
    exact W.zret (v := (1 : Int32)) hx hb hr (by decide) (fun t ht _ => ⟨⟨(1 : Int32), (X, Y), rfl, hw, by show va_P _ _ _ t.heap; rw [ht]; exact hP⟩, hS.F ht⟩) hS.2.2 d_MO_isWhich_14
  · have hw := hw.2 c1
    refine lv_iload_n hx hb d_MO_isWhich_4 rfl (lv_at hl 0 rfl) ?_
    refine lv_iconst (v := (1 : Int32)) hx hb d_MO_isWhich_5 (by decide) ?_
    refine lv_icmp_ne (tgt := 13) hx hb d_MO_isWhich_6 (by decide) (fun c2 => ?_) (fun c2 => ?_)
    · have hw := hw.2 c2
      refine lv_iconst (v := (0 : Int32)) hx hb d_MO_isWhich_13 (by decide) ?_
      exact W.zret (v := (0 : Int32)) hx hb hr (by decide) (fun t ht _ => ⟨⟨(0 : Int32), (X, Y), rfl, hw, by show va_P _ _ _ t.heap; rw [ht]; exact hP⟩, hS.F ht⟩) hS.2.2 d_MO_isWhich_14
    · have hw := hw.1 c2
      refine lv_iconst (v := (1 : Int32)) hx hb d_MO_isWhich_9 (by decide) ?_
      refine lv_goto (tgt := 14) hx hb d_MO_isWhich_10 (by decide) ?_
      exact W.zret (v := (1 : Int32)) hx hb hr (by decide) (fun t ht _ => ⟨⟨(1 : Int32), (X, Y), rfl, hw, by show va_P _ _ _ t.heap; rw [ht]; exact hP⟩, hS.F ht⟩) hS.2.2 d_MO_isWhich_14
def ws_MO_answer : List Cond := Cond.code y_MO_answer c_MO_answer 6 (Option.some Jvm.ClassFile.FieldType.int) :: GW
theorem d_MO_answer_0 : decode c_MO_answer 0 = .ok (.aload_n 0, 1) := by decide +kernel
theorem d_MO_answer_1 : decode c_MO_answer 1 = .ok (.aload_n 0, 1) := by decide +kernel
theorem d_MO_answer_2 : decode c_MO_answer 2 = .ok (.iload_n 1, 1) := by decide +kernel
theorem d_MO_answer_3 : decode c_MO_answer 3 = .ok (.iload_n 2, 1) := by decide +kernel
theorem d_MO_answer_4 : decode c_MO_answer 4 = .ok (.aload_n 0, 1) := by decide +kernel
theorem d_MO_answer_5 : decode c_MO_answer 5 = .ok (.iconst 3, 1) := by decide +kernel
theorem d_MO_answer_6 : decode c_MO_answer 6 = .ok (.iload_n 1, 1) := by decide +kernel
theorem d_MO_answer_7 : decode c_MO_answer 7 = .ok (.iload_n 2, 1) := by decide +kernel
theorem d_MO_answer_8 : decode c_MO_answer 8 = .ok (.iload_n 3, 1) := by decide +kernel
theorem d_MO_answer_9 : decode c_MO_answer 9 = .ok (.iload 4, 2) := by decide +kernel
theorem d_MO_answer_11 : decode c_MO_answer 11 = .ok (.invokevirtual 116, 3) := by decide +kernel
theorem d_MO_answer_14 : decode c_MO_answer 14 = .ok (.iload 5, 2) := by decide +kernel
theorem d_MO_answer_16 : decode c_MO_answer 16 = .ok (.invokevirtual 151, 3) := by decide +kernel
theorem d_MO_answer_19 : decode c_MO_answer 19 = .ok (.putfield 81, 3) := by decide +kernel
theorem d_MO_answer_22 : decode c_MO_answer 22 = .ok (.aload_n 0, 1) := by decide +kernel
theorem d_MO_answer_23 : decode c_MO_answer 23 = .ok (.getfield 81, 3) := by decide +kernel
theorem d_MO_answer_26 : decode c_MO_answer 26 = .ok (.ifCond .eq 5, 3) := by decide +kernel
theorem d_MO_answer_29 : decode c_MO_answer 29 = .ok (.iconst 0, 1) := by decide +kernel
theorem d_MO_answer_30 : decode c_MO_answer 30 = .ok (.ireturn, 1) := by decide +kernel
theorem d_MO_answer_31 : decode c_MO_answer 31 = .ok (.aload_n 0, 1) := by decide +kernel
theorem d_MO_answer_32 : decode c_MO_answer 32 = .ok (.aload_n 0, 1) := by decide +kernel
theorem d_MO_answer_33 : decode c_MO_answer 33 = .ok (.iload_n 3, 1) := by decide +kernel
theorem d_MO_answer_34 : decode c_MO_answer 34 = .ok (.invokevirtual 169, 3) := by decide +kernel
theorem d_MO_answer_37 : decode c_MO_answer 37 = .ok (.ifCond .eq 11, 3) := by decide +kernel
theorem d_MO_answer_40 : decode c_MO_answer 40 = .ok (.iload 4, 2) := by decide +kernel
theorem d_MO_answer_42 : decode c_MO_answer 42 = .ok (.invokestatic 172, 3) := by decide +kernel
theorem d_MO_answer_45 : decode c_MO_answer 45 = .ok (.ifCond .ne 7, 3) := by decide +kernel
theorem d_MO_answer_48 : decode c_MO_answer 48 = .ok (.iconst 1, 1) := by decide +kernel
theorem d_MO_answer_49 : decode c_MO_answer 49 = .ok (.goto 45, 3) := by decide +kernel
theorem d_MO_answer_52 : decode c_MO_answer 52 = .ok (.aload_n 0, 1) := by decide +kernel
theorem d_MO_answer_53 : decode c_MO_answer 53 = .ok (.getfield 38, 3) := by decide +kernel
theorem d_MO_answer_56 : decode c_MO_answer 56 = .ok (.iload_n 3, 1) := by decide +kernel
theorem d_MO_answer_57 : decode c_MO_answer 57 = .ok (.iaload, 1) := by decide +kernel
theorem d_MO_answer_58 : decode c_MO_answer 58 = .ok (.iload_n 1, 1) := by decide +kernel
theorem d_MO_answer_59 : decode c_MO_answer 59 = .ok (.if_icmp .eq 7, 3) := by decide +kernel
theorem d_MO_answer_62 : decode c_MO_answer 62 = .ok (.iconst 2, 1) := by decide +kernel
theorem d_MO_answer_63 : decode c_MO_answer 63 = .ok (.goto 31, 3) := by decide +kernel
theorem d_MO_answer_66 : decode c_MO_answer 66 = .ok (.aload_n 0, 1) := by decide +kernel
theorem d_MO_answer_67 : decode c_MO_answer 67 = .ok (.getfield 47, 3) := by decide +kernel
theorem d_MO_answer_70 : decode c_MO_answer 70 = .ok (.iload_n 3, 1) := by decide +kernel
theorem d_MO_answer_71 : decode c_MO_answer 71 = .ok (.iaload, 1) := by decide +kernel
theorem d_MO_answer_72 : decode c_MO_answer 72 = .ok (.ifCond .ne 17, 3) := by decide +kernel
theorem d_MO_answer_75 : decode c_MO_answer 75 = .ok (.aload_n 0, 1) := by decide +kernel
theorem d_MO_answer_76 : decode c_MO_answer 76 = .ok (.getfield 53, 3) := by decide +kernel
theorem d_MO_answer_79 : decode c_MO_answer 79 = .ok (.iconst 2, 1) := by decide +kernel
theorem d_MO_answer_80 : decode c_MO_answer 80 = .ok (.iload_n 3, 1) := by decide +kernel
theorem d_MO_answer_81 : decode c_MO_answer 81 = .ok (.imul, 1) := by decide +kernel
theorem d_MO_answer_82 : decode c_MO_answer 82 = .ok (.iload 4, 2) := by decide +kernel
theorem d_MO_answer_84 : decode c_MO_answer 84 = .ok (.iadd, 1) := by decide +kernel
theorem d_MO_answer_85 : decode c_MO_answer 85 = .ok (.iaload, 1) := by decide +kernel
theorem d_MO_answer_86 : decode c_MO_answer 86 = .ok (.ifCond .eq 7, 3) := by decide +kernel
theorem d_MO_answer_89 : decode c_MO_answer 89 = .ok (.iconst 4, 1) := by decide +kernel
theorem d_MO_answer_90 : decode c_MO_answer 90 = .ok (.goto 4, 3) := by decide +kernel
theorem d_MO_answer_93 : decode c_MO_answer 93 = .ok (.iconst 0, 1) := by decide +kernel
theorem d_MO_answer_94 : decode c_MO_answer 94 = .ok (.putfield 81, 3) := by decide +kernel
theorem d_MO_answer_97 : decode c_MO_answer 97 = .ok (.aload_n 0, 1) := by decide +kernel
theorem d_MO_answer_98 : decode c_MO_answer 98 = .ok (.getfield 81, 3) := by decide +kernel
theorem d_MO_answer_101 : decode c_MO_answer 101 = .ok (.ifCond .eq 5, 3) := by decide +kernel
theorem d_MO_answer_104 : decode c_MO_answer 104 = .ok (.iconst 0, 1) := by decide +kernel
theorem d_MO_answer_105 : decode c_MO_answer 105 = .ok (.ireturn, 1) := by decide +kernel
theorem d_MO_answer_106 : decode c_MO_answer 106 = .ok (.aload_n 0, 1) := by decide +kernel
theorem d_MO_answer_107 : decode c_MO_answer 107 = .ok (.getfield 53, 3) := by decide +kernel
theorem d_MO_answer_110 : decode c_MO_answer 110 = .ok (.iconst 2, 1) := by decide +kernel
theorem d_MO_answer_111 : decode c_MO_answer 111 = .ok (.iload_n 3, 1) := by decide +kernel
theorem d_MO_answer_112 : decode c_MO_answer 112 = .ok (.imul, 1) := by decide +kernel
theorem d_MO_answer_113 : decode c_MO_answer 113 = .ok (.iload 4, 2) := by decide +kernel
theorem d_MO_answer_115 : decode c_MO_answer 115 = .ok (.iadd, 1) := by decide +kernel
theorem d_MO_answer_116 : decode c_MO_answer 116 = .ok (.iconst 1, 1) := by decide +kernel
theorem d_MO_answer_117 : decode c_MO_answer 117 = .ok (.iastore, 1) := by decide +kernel
theorem d_MO_answer_118 : decode c_MO_answer 118 = .ok (.aload_n 0, 1) := by decide +kernel
theorem d_MO_answer_119 : decode c_MO_answer 119 = .ok (.getfield 50, 3) := by decide +kernel
theorem d_MO_answer_122 : decode c_MO_answer 122 = .ok (.iconst 2, 1) := by decide +kernel
theorem d_MO_answer_123 : decode c_MO_answer 123 = .ok (.iload_n 3, 1) := by decide +kernel
theorem d_MO_answer_124 : decode c_MO_answer 124 = .ok (.imul, 1) := by decide +kernel
theorem d_MO_answer_125 : decode c_MO_answer 125 = .ok (.iload 4, 2) := by decide +kernel
theorem d_MO_answer_127 : decode c_MO_answer 127 = .ok (.iadd, 1) := by decide +kernel
theorem d_MO_answer_128 : decode c_MO_answer 128 = .ok (.iaload, 1) := by decide +kernel
theorem d_MO_answer_129 : decode c_MO_answer 129 = .ok (.ireturn, 1) := by decide +kernel
def wq_MO_answer_94 (post : Int32 → ST → Int64 → Prop) (s0 : Int32) (v3 : Int32) (v4 : Int32) (X : ST) (Y : Int64) : Prop := ((s0 = 0 → (vp_in (((2 : Int32) * v3) + v4) 48 ∧ post (X 41 (((2 : Int32) * v3) + v4).toNatClampNeg) (up (up X 90 0 s0) 40 ((((2 : Int32) * v3) + v4).toNatClampNeg) (1 : Int32)) Y)) ∧ (¬ s0 = 0 → post (0 : Int32) (up X 90 0 s0) Y))
def wp_MO_answer (post : Int32 → ST → Int64 → Prop) (X : ST) (Y : Int64) (a1 : Int32) (a2 : Int32) (a3 : Int32) (a4 : Int32) (a5 : Int32) : Prop := wp_MO_five (fun (r5 : Int32) (X3 : ST) (Y4 : Int64) => wp_MO_signed (fun (r8 : Int32) (X6 : ST) (Y7 : Int64) => ((r8 = 0 → wp_MO_isAuth (fun (r12 : Int32) (X10 : ST) (Y11 : Int64) => ((r12 = 0 → wq_MO_answer_94 post (1 : Int32) a3 a4 X10 Y11) ∧ (¬ r12 = 0 → wp_MO_isWhich (fun (r16 : Int32) (X14 : ST) (Y15 : Int64) => ((r16 = 0 → wq_MO_answer_94 post (1 : Int32) a3 a4 X14 Y15) ∧ (¬ r16 = 0 → (vp_in a3 24 ∧ (((X14 31 a3.toNatClampNeg) = a1 → (((X14 30 a3.toNatClampNeg) = 0 → (vp_in (((2 : Int32) * a3) + a4) 48 ∧ (((X14 40 (((2 : Int32) * a3) + a4).toNatClampNeg) = 0 → wq_MO_answer_94 post (0 : Int32) a3 a4 X14 Y15) ∧ (¬ (X14 40 (((2 : Int32) * a3) + a4).toNatClampNeg) = 0 → wq_MO_answer_94 post (4 : Int32) a3 a4 X14 Y15)))) ∧ (¬ (X14 30 a3.toNatClampNeg) = 0 → wq_MO_answer_94 post (4 : Int32) a3 a4 X14 Y15))) ∧ (¬ (X14 31 a3.toNatClampNeg) = a1 → wq_MO_answer_94 post (2 : Int32) a3 a4 X14 Y15)))))) X10 Y11 a4))) (up X6 90 0 r8) Y7 a3) ∧ (¬ r8 = 0 → post (0 : Int32) (up X6 90 0 r8) Y7))) X3 Y4 a1 a2 r5 a5) X Y (3 : Int32) a1 a2 a3 a4
set_option maxHeartbeats 4000000 in
set_option maxRecDepth 100000 in
theorem mt_MO_answer (l : Launch) (hl9 : l.stackTraces = false) (dC : Nat → ClassId) (dI : Nat → Nat → Nat) (cA : Nat → ClassId) (ad : Nat → Nat) (hI : INJ ad 23) (sz : Nat) {X : ST} {Y : Int64} {a1 : Int32} {a2 : Int32} {a3 : Int32} {a4 : Int32} {a5 : Int32} {post : Int32 → ST → Int64 → Prop} (hw : wp_MO_answer post X Y a1 a2 a3 a4 a5) : Met l y_MO_answer ws_MO_answer ({ frames := 3, cells := 0, slots := 0, locals := 73 } : Room) (va_Pc [.ref (ad 0), .int a1, .int a2, .int a3, .int a4, .int a5] (fun U => PM dC dI cA ad sz X Y U)) (va_Qi (fun r (u : ST × Int64) => post r u.1 u.2) (fun (u : ST × Int64) t => va_P (dC, dI) vwCl (wdM cA ad u.1 u.2) t.heap) (CA ad 23 sz)) 0 0 (CA ad 23 sz) := by
  refine Met.ofW (cc := c_MO_answer) (maxL := 6) (ret := (some .int)) (by decide) rfl ?_
  intro p e s m args below meth c s₁ B hml hv
  obtain ⟨rfl, hsz, hP, hG⟩ := hv
  have hx := B.exec
  have hb := B.bytes
  have hr := B.returns
  have hts : ∀ w ∈ GW, w.before (([.ref (ad 0), .int a1, .int a2, .int a3, .int a4, .int a5] : List Value).toArray) s = true := fun w h => atoms_spec (ws := ws_MO_answer) B.pre w (List.mem_cons_of_mem _ h)
  have hown : s.vm.findClass R_MO = some m.cls := findClass_of_methodNamed B.named
  have hlocks := B.notSynchronized
  subst hsz
  have hK := hG.1
  have hG9 := hG
  have hNW := hG.2
  have hD0 : ∀ (X : ST) (Y : Int64), va_D (CA ad 23 s.heap.size) (wdM cA ad X Y) := fun _ _ => zwM_D hI
  have hS : va_S (CA ad 23 s.heap.size) s.heap s.heap [] := va_S.rf
  have hl := lv_entry ([.ref (ad 0), .int a1, .int a2, .int a3, .int a4, .int a5]) (n := 6) (Nat.le_of_ble_eq_true rfl)
  rw [lg_entry_eq]
  generalize (lg_sl ([.ref (ad 0), .int a1, .int a2, .int a3, .int a4, .int a5]) ++ List.replicate (6 - (lg_sl ([.ref (ad 0), .int a1, .int a2, .int a3, .int a4, .int a5])).length) Slot.unset).toArray = ls at hl ⊢
  have hl : lv_has ls 6 [(0, .ref (ad 0)), (1, .int a1), (2, .int a2), (3, .int a3), (4, .int a4), (5, .int a5)] := hl
  have L94 : ∀ (s0 : Int32) (v3 : Int32) (v4 : Int32) (X : ST) (Y : Int64) (H : Heap) (locs : List Loc) (ls : Array Slot), wq_MO_answer_94 post s0 v3 v4 X Y → va_P (dC, dI) vwCl (wdM cA ad X Y) H → va_S (CA ad 23 s.heap.size) s.heap H locs → lv_has ls 6 [(0, .ref (ad 0)), (3, .int v3), (4, .int v4)] → W p l e (headSpec ws_MO_answer ({ frames := 3, cells := 0, slots := 0, locals := 73 } : Room)).room s m (([.ref (ad 0), .int a1, .int a2, .int a3, .int a4, .int a5] : List Value).toArray) below meth c H locs 0 0 (MQ below (va_Qi (fun r (u : ST × Int64) => post r u.1 u.2) (fun (u : ST × Int64) t => va_P (dC, dI) vwCl (wdM cA ad u.1 u.2) t.heap) (CA ad 23 s.heap.size)) (([.ref (ad 0), .int a1, .int a2, .int a3, .int a4, .int a5] : List Value).toArray) s 0 0 (CA ad 23 s.heap.size)) (F0 m 94 ls [.int s0, .ref (ad 0)]) := by
    intro s0 v3 v4 X Y H locs ls hw hP hS hl
    unfold wq_MO_answer_94 at hw
    refine va_put (D := (dC, dI)) (ci := 9) (v := .int s0) (ty := .int) (C := R_MO) (T := T_MO) (N := 36) hx hb hts in_MO ty_MO ty_MO_ok nm_MO hown hK hP (hD0 _ _) hS (0) atM_MO rfl 0 (by decide) (hts _ gw_297) (fun _ h9 => h9) rfl (by decide +kernel) rfl rfl (Nat.le_of_ble_eq_true rfl) d_MO_answer_94 (fun H locs hP _ hS => ?_)
    have hP : va_P (dC, dI) vwCl (wdM cA ad (up X 90 0 s0) Y) H := by rw [← stM_MO_0]; exact hP
    refine lv_aload_n hx hb d_MO_answer_97 rfl (lv_at hl 0 rfl) ?_
    refine va_get (D := (dC, dI)) (ci := 9) (v := .int s0) (C := R_MO) (T := T_MO) (N := 36) hx hb hts in_MO hown hK hP (0) atM_MO rfl 0 (by decide) (hts _ gw_297) (fun _ h9 => h9) rfl d_MO_answer_98 ?_
    refine lv_if_eq (tgt := 106) hx hb d_MO_answer_101 (by decide) (fun c1 => ?_) (fun c1 => ?_)
    · have hw := hw.1 c1
      refine lv_aload_n hx hb d_MO_answer_106 rfl (lv_at hl 0 rfl) ?_
      refine va_get (D := (dC, dI)) (ci := 9) (v := .ref (ad 15)) (C := R_MO) (T := T_MO) (N := 36) hx hb hts in_MO hown hK hP (0) atM_MO rfl 20 (by decide) (hts _ gw_357) (fun _ h9 => h9) rfl d_MO_answer_107 ?_
      refine lv_iconst (v := (2 : Int32)) hx hb d_MO_answer_110 (by decide) ?_
      refine lv_iload_n hx hb d_MO_answer_111 rfl (lv_at hl 1 rfl) ?_
      refine lv_imul hx hb d_MO_answer_112 ?_
      refine lv_iload hx hb d_MO_answer_113 (lv_at hl 2 rfl) ?_
      refine lv_iadd hx hb d_MO_answer_115 ?_
      refine lv_iconst (v := (1 : Int32)) hx hb d_MO_answer_116 (by decide) ?_
      obtain ⟨h2, hw⟩ := hw
      refine va_iast hx hb hK hP (hD0 _ _) hS (15) 14 atM_stage rfl h2 d_MO_answer_117 (fun H locs hP _ hS => ?_)
      have hP : va_P (dC, dI) vwCl (wdM cA ad (up (up X 90 0 s0) 40 ((((2 : Int32) * v3) + v4).toNatClampNeg) (1 : Int32)) Y) H := by rw [← stM_stage]; exact hP
      refine lv_aload_n hx hb d_MO_answer_118 rfl (lv_at hl 0 rfl) ?_
      refine va_get (D := (dC, dI)) (ci := 9) (v := .ref (ad 14)) (C := R_MO) (T := T_MO) (N := 36) hx hb hts in_MO hown hK hP (0) atM_MO rfl 19 (by decide) (hts _ gw_356) (fun _ h9 => h9) rfl d_MO_answer_119 ?_
      refine lv_iconst (v := (2 : Int32)) hx hb d_MO_answer_122 (by decide) ?_
      refine lv_iload_n hx hb d_MO_answer_123 rfl (lv_at hl 1 rfl) ?_
      refine lv_imul hx hb d_MO_answer_124 ?_
      refine lv_iload hx hb d_MO_answer_125 (lv_at hl 2 rfl) ?_
      refine lv_iadd hx hb d_MO_answer_127 ?_
      refine va_iald hx hb hK hP (14) 13 atM_token rfl h2 d_MO_answer_128 ?_
      refine W.eq (g2 := F0 m 129 ls [.int (X 41 (((2 : Int32) * v3) + v4).toNatClampNeg)]) rfl ?_
      exact W.iret (v := X 41 (((2 : Int32) * v3) + v4).toNatClampNeg) hx hb hr (fun t ht _ => ⟨⟨X 41 (((2 : Int32) * v3) + v4).toNatClampNeg, (up (up X 90 0 s0) 40 ((((2 : Int32) * v3) + v4).toNatClampNeg) (1 : Int32), Y), rfl, hw, by show va_P _ _ _ t.heap; rw [ht]; exact hP⟩, hS.F ht⟩) hS.2.2 d_MO_answer_129
    · have hw := hw.2 c1
      refine lv_iconst (v := (0 : Int32)) hx hb d_MO_answer_104 (by decide) ?_
      exact W.iret (v := (0 : Int32)) hx hb hr (fun t ht _ => ⟨⟨(0 : Int32), (up X 90 0 s0, Y), rfl, hw, by show va_P _ _ _ t.heap; rw [ht]; exact hP⟩, hS.F ht⟩) hS.2.2 d_MO_answer_105
  unfold wp_MO_answer at hw
  refine lv_aload_n hx hb d_MO_answer_0 rfl (lv_at hl 0 rfl) ?_
  refine lv_aload_n hx hb d_MO_answer_1 rfl (lv_at hl 0 rfl) ?_
  refine lv_iload_n hx hb d_MO_answer_2 rfl (lv_at hl 1 rfl) ?_
  refine lv_iload_n hx hb d_MO_answer_3 rfl (lv_at hl 2 rfl) ?_
  refine lv_aload_n hx hb d_MO_answer_4 rfl (lv_at hl 0 rfl) ?_
  refine lv_iconst (v := (3 : Int32)) hx hb d_MO_answer_5 (by decide) ?_
  refine lv_iload_n hx hb d_MO_answer_6 rfl (lv_at hl 1 rfl) ?_
  refine lv_iload_n hx hb d_MO_answer_7 rfl (lv_at hl 2 rfl) ?_
  refine lv_iload_n hx hb d_MO_answer_8 rfl (lv_at hl 3 rfl) ?_
  refine lv_iload hx hb d_MO_answer_9 (lv_at hl 4 rfl) ?_
  refine va_calli (va_runV (As := [.int (3 : Int32), .int a1, .int a2, .int a3, .int a4]) (rest := [.int a2, .int a1, .ref (ad 0), .ref (ad 0)]) ⟨hx, hb, hml, hown, hts⟩ (mt_MO_five l hl9 dC dI cA ad hI _ hw) (cwV 5 hts (gV gw_328 gw_329 gw_330 gw_306 gw_327) rfl rfl rfl (by decide +kernel) ⟨Nat.le_of_ble_eq_true rfl, Nat.le_of_ble_eq_true rfl⟩) ⟨zwM_blind, va_recv hK hP (ci := 9) (q0 := 0) rfl atM_MO, zwM_pre hP hS hG9⟩ rfl rfl hl.1 rfl (lv_room (Nat.le_of_ble_eq_true rfl)) d_MO_answer_11 ⟨Nat.le_of_ble_eq_true rfl, Nat.le_of_ble_eq_true rfl⟩) hS (fun q _ h => CA_le hS.1 q h) (fun q h => CA_le hS.1 q h) (fun r5 u9 t H locs ht hvm hw hP hz1 hk1 hS => ?_)
  obtain ⟨X3, Y4⟩ := u9
  have hP : va_P (dC, dI) vwCl (wdM cA ad X3 Y4) H := by rw [← ht]; exact hP
  try dsimp only at hw
  refine lv_iload hx hb d_MO_answer_14 (lv_at hl 5 rfl) ?_
  refine va_calli (va_runV (As := [.int a1, .int a2, .int r5, .int a5]) (rest := [.ref (ad 0)]) ⟨hx, hb, hml, hown, hts⟩ (mt_MO_signed l hl9 dC dI cA ad hI _ hw) (cwV 4 hts (gV gw_382 gw_383 gw_384 gw_306 gw_381) rfl rfl rfl (by decide +kernel) ⟨Nat.le_of_ble_eq_true rfl, Nat.le_of_ble_eq_true rfl⟩) ⟨zwM_blind, va_recv hK hP (ci := 9) (q0 := 0) rfl atM_MO, zwM_pre hP hS hG9⟩ rfl rfl hl.1 rfl (lv_room (Nat.le_of_ble_eq_true rfl)) d_MO_answer_16 ⟨Nat.le_of_ble_eq_true rfl, Nat.le_of_ble_eq_true rfl⟩) hS (fun q _ h => CA_le hS.1 q h) (fun q h => CA_le hS.1 q h) (fun r8 u9 t H locs ht hvm hw hP hz1 hk1 hS => ?_)
  obtain ⟨X6, Y7⟩ := u9
  have hP : va_P (dC, dI) vwCl (wdM cA ad X6 Y7) H := by rw [← ht]; exact hP
  try dsimp only at hw
  refine va_put (D := (dC, dI)) (ci := 9) (v := .int r8) (ty := .int) (C := R_MO) (T := T_MO) (N := 36) hx hb hts in_MO ty_MO ty_MO_ok nm_MO hown hK hP (hD0 _ _) hS (0) atM_MO rfl 0 (by decide) (hts _ gw_297) (fun _ h9 => h9) rfl (by decide +kernel) rfl rfl (Nat.le_of_ble_eq_true rfl) d_MO_answer_19 (fun H locs hP _ hS => ?_)
  have hP : va_P (dC, dI) vwCl (wdM cA ad (up X6 90 0 r8) Y7) H := by rw [← stM_MO_0]; exact hP
  refine lv_aload_n hx hb d_MO_answer_22 rfl (lv_at hl 0 rfl) ?_
  refine va_get (D := (dC, dI)) (ci := 9) (v := .int r8) (C := R_MO) (T := T_MO) (N := 36) hx hb hts in_MO hown hK hP (0) atM_MO rfl 0 (by decide) (hts _ gw_297) (fun _ h9 => h9) rfl d_MO_answer_23 ?_
  refine lv_if_eq (tgt := 31) hx hb d_MO_answer_26 (by decide) (fun c9 => ?_) (fun c9 => ?_)
  · have hw := hw.1 c9
    refine lv_aload_n hx hb d_MO_answer_31 rfl (lv_at hl 0 rfl) ?_
    refine lv_aload_n hx hb d_MO_answer_32 rfl (lv_at hl 0 rfl) ?_
    refine lv_iload_n hx hb d_MO_answer_33 rfl (lv_at hl 3 rfl) ?_
    refine va_calli (va_runV (As := [.int a3]) (rest := [.ref (ad 0)]) ⟨hx, hb, hml, hown, hts⟩ (mt_MO_isAuth l hl9 dC dI cA ad hI _ hw) (cwV 1 hts (gV gw_390 gw_391 gw_392 gw_306 gw_389) rfl rfl rfl (by decide +kernel) ⟨Nat.le_of_ble_eq_true rfl, Nat.le_of_ble_eq_true rfl⟩) ⟨zwM_blind, va_recv hK hP (ci := 9) (q0 := 0) rfl atM_MO, zwM_pre hP hS hG9⟩ rfl rfl hl.1 rfl (lv_room (Nat.le_of_ble_eq_true rfl)) d_MO_answer_34 ⟨Nat.le_of_ble_eq_true rfl, Nat.le_of_ble_eq_true rfl⟩) hS (fun q _ h => CA_le hS.1 q h) (fun q h => CA_le hS.1 q h) (fun r12 u9 t H locs ht hvm hw hP hz1 hk1 hS => ?_)
    obtain ⟨X10, Y11⟩ := u9
    have hP : va_P (dC, dI) vwCl (wdM cA ad X10 Y11) H := by rw [← ht]; exact hP
    try dsimp only at hw
    refine lv_if_eq (tgt := 48) hx hb d_MO_answer_37 (by decide) (fun c13 => ?_) (fun c13 => ?_)
    · have hw := hw.1 c13
      refine lv_iconst (v := (1 : Int32)) hx hb d_MO_answer_48 (by decide) ?_
      refine lv_goto (tgt := 94) hx hb d_MO_answer_49 (by decide) ?_
      have hl := lv_sub hl (l' := [(0, .ref (ad 0)), (3, .int a3), (4, .int a4)]) [0, 3, 4] rfl
      exact L94 _ _ _ _ _ _ _ _ hw hP hS hl
    · have hw := hw.2 c13
      refine lv_iload hx hb d_MO_answer_40 (lv_at hl 4 rfl) ?_
      refine va_calli (va_runS (As := [.int a4]) (rest := [.ref (ad 0)]) ⟨hx, hb, hml, hown, hts⟩ (mt_MO_isWhich l hl9 dC dI cA ad hI _ hw) (va_cwS 1 hts (gS gw_394 gw_395 gw_306 gw_393) rfl rfl rfl (by decide +kernel) ⟨Nat.le_of_ble_eq_true rfl, Nat.le_of_ble_eq_true rfl⟩) ⟨zwM_blind, zwM_pre hP hS hG9⟩ rfl rfl hl.1 rfl (lv_room (Nat.le_of_ble_eq_true rfl)) d_MO_answer_42 ⟨Nat.le_of_ble_eq_true rfl, Nat.le_of_ble_eq_true rfl⟩) hS (fun q _ h => CA_le hS.1 q h) (fun q h => CA_le hS.1 q h) (fun r16 u9 t H locs ht hvm hw hP hz1 hk1 hS => ?_)
      obtain ⟨X14, Y15⟩ := u9
      have hP : va_P (dC, dI) vwCl (wdM cA ad X14 Y15) H := by rw [← ht]; exact hP
      try dsimp only at hw
      refine lv_if_ne (tgt := 52) hx hb d_MO_answer_45 (by decide) (fun c17 => ?_) (fun c17 => ?_)
      · have hw := hw.2 c17
        refine lv_aload_n hx hb d_MO_answer_52 rfl (lv_at hl 0 rfl) ?_
        refine va_get (D := (dC, dI)) (ci := 9) (v := .ref (ad 10)) (C := R_MO) (T := T_MO) (N := 36) hx hb hts in_MO hown hK hP (0) atM_MO rfl 15 (by decide) (hts _ gw_351) (fun _ h9 => h9) rfl d_MO_answer_53 ?_
        refine lv_iload_n hx hb d_MO_answer_56 rfl (lv_at hl 3 rfl) ?_
        obtain ⟨h18, hw⟩ := hw
        refine va_iald hx hb hK hP (10) 9 atM_authAccount rfl h18 d_MO_answer_57 ?_
        refine lv_iload_n hx hb d_MO_answer_58 rfl (lv_at hl 1 rfl) ?_
        refine lv_icmp_eq (tgt := 66) hx hb d_MO_answer_59 (by decide) (fun c19 => ?_) (fun c19 => ?_)
        · have hw := hw.1 c19
          refine lv_aload_n hx hb d_MO_answer_66 rfl (lv_at hl 0 rfl) ?_
          refine va_get (D := (dC, dI)) (ci := 9) (v := .ref (ad 13)) (C := R_MO) (T := T_MO) (N := 36) hx hb hts in_MO hown hK hP (0) atM_MO rfl 18 (by decide) (hts _ gw_347) (fun _ h9 => h9) rfl d_MO_answer_67 ?_
          refine lv_iload_n hx hb d_MO_answer_70 rfl (lv_at hl 3 rfl) ?_
          refine va_iald hx hb hK hP (13) 12 atM_authState rfl h18 d_MO_answer_71 ?_
          refine lv_if_ne (tgt := 89) hx hb d_MO_answer_72 (by decide) (fun c20 => ?_) (fun c20 => ?_)
          · have hw := hw.2 c20
            refine lv_iconst (v := (4 : Int32)) hx hb d_MO_answer_89 (by decide) ?_
            refine lv_goto (tgt := 94) hx hb d_MO_answer_90 (by decide) ?_
            have hl := lv_sub hl (l' := [(0, .ref (ad 0)), (3, .int a3), (4, .int a4)]) [0, 3, 4] rfl
            exact L94 _ _ _ _ _ _ _ _ hw hP hS hl
          · have hw := hw.1 c20
            refine lv_aload_n hx hb d_MO_answer_75 rfl (lv_at hl 0 rfl) ?_
            refine va_get (D := (dC, dI)) (ci := 9) (v := .ref (ad 15)) (C := R_MO) (T := T_MO) (N := 36) hx hb hts in_MO hown hK hP (0) atM_MO rfl 20 (by decide) (hts _ gw_357) (fun _ h9 => h9) rfl d_MO_answer_76 ?_
            refine lv_iconst (v := (2 : Int32)) hx hb d_MO_answer_79 (by decide) ?_
            refine lv_iload_n hx hb d_MO_answer_80 rfl (lv_at hl 3 rfl) ?_
            refine lv_imul hx hb d_MO_answer_81 ?_
            refine lv_iload hx hb d_MO_answer_82 (lv_at hl 4 rfl) ?_
            refine lv_iadd hx hb d_MO_answer_84 ?_
            obtain ⟨h21, hw⟩ := hw
            refine va_iald hx hb hK hP (15) 14 atM_stage rfl h21 d_MO_answer_85 ?_
            refine lv_if_eq (tgt := 93) hx hb d_MO_answer_86 (by decide) (fun c22 => ?_) (fun c22 => ?_)
            · have hw := hw.1 c22
              refine lv_iconst (v := (0 : Int32)) hx hb d_MO_answer_93 (by decide) ?_
              have hl := lv_sub hl (l' := [(0, .ref (ad 0)), (3, .int a3), (4, .int a4)]) [0, 3, 4] rfl
              exact L94 _ _ _ _ _ _ _ _ hw hP hS hl
            · have hw := hw.2 c22
              refine lv_iconst (v := (4 : Int32)) hx hb d_MO_answer_89 (by decide) ?_
              refine lv_goto (tgt := 94) hx hb d_MO_answer_90 (by decide) ?_
              have hl := lv_sub hl (l' := [(0, .ref (ad 0)), (3, .int a3), (4, .int a4)]) [0, 3, 4] rfl
              exact L94 _ _ _ _ _ _ _ _ hw hP hS hl
        · have hw := hw.2 c19
          refine lv_iconst (v := (2 : Int32)) hx hb d_MO_answer_62 (by decide) ?_
          refine lv_goto (tgt := 94) hx hb d_MO_answer_63 (by decide) ?_
          have hl := lv_sub hl (l' := [(0, .ref (ad 0)), (3, .int a3), (4, .int a4)]) [0, 3, 4] rfl
          exact L94 _ _ _ _ _ _ _ _ hw hP hS hl
      · have hw := hw.1 c17
        refine lv_iconst (v := (1 : Int32)) hx hb d_MO_answer_48 (by decide) ?_
        refine lv_goto (tgt := 94) hx hb d_MO_answer_49 (by decide) ?_
        have hl := lv_sub hl (l' := [(0, .ref (ad 0)), (3, .int a3), (4, .int a4)]) [0, 3, 4] rfl
        exact L94 _ _ _ _ _ _ _ _ hw hP hS hl
  · have hw := hw.2 c9
    refine lv_iconst (v := (0 : Int32)) hx hb d_MO_answer_29 (by decide) ?_
    exact W.iret (v := (0 : Int32)) hx hb hr (fun t ht _ => ⟨⟨(0 : Int32), (up X6 90 0 r8, Y7), rfl, hw, by show va_P _ _ _ t.heap; rw [ht]; exact hP⟩, hS.F ht⟩) hS.2.2 d_MO_answer_30
