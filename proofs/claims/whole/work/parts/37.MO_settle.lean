def ws_MO_settle : List Cond := Cond.code y_MO_settle c_MO_settle 6 (Option.none : Option Jvm.ClassFile.FieldType) :: GW
theorem d_MO_settle_0 : decode c_MO_settle 0 = .ok (.iconst 0, 1) := by decide +kernel
theorem d_MO_settle_1 : decode c_MO_settle 1 = .ok (.istore_n 1, 1) := by decide +kernel
theorem d_MO_settle_2 : decode c_MO_settle 2 = .ok (.iload_n 1, 1) := by decide +kernel
theorem d_MO_settle_3 : decode c_MO_settle 3 = .ok (.aload_n 0, 1) := by decide +kernel
theorem d_MO_settle_4 : decode c_MO_settle 4 = .ok (.getfield 134, 3) := by decide +kernel
theorem d_MO_settle_7 : decode c_MO_settle 7 = .ok (.if_icmp .ge 129, 3) := by decide +kernel
theorem d_MO_settle_10 : decode c_MO_settle 10 = .ok (.iconst 0, 1) := by decide +kernel
theorem d_MO_settle_11 : decode c_MO_settle 11 = .ok (.istore_n 2, 1) := by decide +kernel
theorem d_MO_settle_12 : decode c_MO_settle 12 = .ok (.iconst 1, 1) := by decide +kernel
theorem d_MO_settle_13 : decode c_MO_settle 13 = .ok (.istore_n 3, 1) := by decide +kernel
theorem d_MO_settle_14 : decode c_MO_settle 14 = .ok (.iconst 4, 1) := by decide +kernel
theorem d_MO_settle_15 : decode c_MO_settle 15 = .ok (.iload_n 1, 1) := by decide +kernel
theorem d_MO_settle_16 : decode c_MO_settle 16 = .ok (.imul, 1) := by decide +kernel
theorem d_MO_settle_17 : decode c_MO_settle 17 = .ok (.istore 4, 2) := by decide +kernel
theorem d_MO_settle_19 : decode c_MO_settle 19 = .ok (.iload 4, 2) := by decide +kernel
theorem d_MO_settle_21 : decode c_MO_settle 21 = .ok (.iconst 4, 1) := by decide +kernel
theorem d_MO_settle_22 : decode c_MO_settle 22 = .ok (.iload_n 1, 1) := by decide +kernel
theorem d_MO_settle_23 : decode c_MO_settle 23 = .ok (.imul, 1) := by decide +kernel
theorem d_MO_settle_24 : decode c_MO_settle 24 = .ok (.aload_n 0, 1) := by decide +kernel
theorem d_MO_settle_25 : decode c_MO_settle 25 = .ok (.getfield 32, 3) := by decide +kernel
theorem d_MO_settle_28 : decode c_MO_settle 28 = .ok (.iload_n 1, 1) := by decide +kernel
theorem d_MO_settle_29 : decode c_MO_settle 29 = .ok (.iaload, 1) := by decide +kernel
theorem d_MO_settle_30 : decode c_MO_settle 30 = .ok (.iadd, 1) := by decide +kernel
theorem d_MO_settle_31 : decode c_MO_settle 31 = .ok (.if_icmp .ge 55, 3) := by decide +kernel
theorem d_MO_settle_34 : decode c_MO_settle 34 = .ok (.aload_n 0, 1) := by decide +kernel
theorem d_MO_settle_35 : decode c_MO_settle 35 = .ok (.getfield 47, 3) := by decide +kernel
theorem d_MO_settle_38 : decode c_MO_settle 38 = .ok (.aload_n 0, 1) := by decide +kernel
theorem d_MO_settle_39 : decode c_MO_settle 39 = .ok (.getfield 35, 3) := by decide +kernel
theorem d_MO_settle_42 : decode c_MO_settle 42 = .ok (.iload 4, 2) := by decide +kernel
theorem d_MO_settle_44 : decode c_MO_settle 44 = .ok (.iaload, 1) := by decide +kernel
theorem d_MO_settle_45 : decode c_MO_settle 45 = .ok (.iaload, 1) := by decide +kernel
theorem d_MO_settle_46 : decode c_MO_settle 46 = .ok (.istore 5, 2) := by decide +kernel
theorem d_MO_settle_48 : decode c_MO_settle 48 = .ok (.iload_n 2, 1) := by decide +kernel
theorem d_MO_settle_49 : decode c_MO_settle 49 = .ok (.ifCond .ne 9, 3) := by decide +kernel
theorem d_MO_settle_52 : decode c_MO_settle 52 = .ok (.iload 5, 2) := by decide +kernel
theorem d_MO_settle_54 : decode c_MO_settle 54 = .ok (.iconst 1, 1) := by decide +kernel
theorem d_MO_settle_55 : decode c_MO_settle 55 = .ok (.if_icmp .le 7, 3) := by decide +kernel
theorem d_MO_settle_58 : decode c_MO_settle 58 = .ok (.iconst 1, 1) := by decide +kernel
theorem d_MO_settle_59 : decode c_MO_settle 59 = .ok (.goto 4, 3) := by decide +kernel
theorem d_MO_settle_62 : decode c_MO_settle 62 = .ok (.iconst 0, 1) := by decide +kernel
theorem d_MO_settle_63 : decode c_MO_settle 63 = .ok (.istore_n 2, 1) := by decide +kernel
theorem d_MO_settle_64 : decode c_MO_settle 64 = .ok (.iload_n 3, 1) := by decide +kernel
theorem d_MO_settle_65 : decode c_MO_settle 65 = .ok (.ifCond .eq 13, 3) := by decide +kernel
theorem d_MO_settle_68 : decode c_MO_settle 68 = .ok (.iload 5, 2) := by decide +kernel
theorem d_MO_settle_70 : decode c_MO_settle 70 = .ok (.iconst 1, 1) := by decide +kernel
theorem d_MO_settle_71 : decode c_MO_settle 71 = .ok (.if_icmp .ne 7, 3) := by decide +kernel
theorem d_MO_settle_74 : decode c_MO_settle 74 = .ok (.iconst 1, 1) := by decide +kernel
theorem d_MO_settle_75 : decode c_MO_settle 75 = .ok (.goto 4, 3) := by decide +kernel
theorem d_MO_settle_78 : decode c_MO_settle 78 = .ok (.iconst 0, 1) := by decide +kernel
theorem d_MO_settle_79 : decode c_MO_settle 79 = .ok (.istore_n 3, 1) := by decide +kernel
theorem d_MO_settle_80 : decode c_MO_settle 80 = .ok (.iinc 4 1, 3) := by decide +kernel
theorem d_MO_settle_83 : decode c_MO_settle 83 = .ok (.goto (-64), 3) := by decide +kernel
theorem d_MO_settle_86 : decode c_MO_settle 86 = .ok (.aload_n 0, 1) := by decide +kernel
theorem d_MO_settle_87 : decode c_MO_settle 87 = .ok (.getfield 26, 3) := by decide +kernel
theorem d_MO_settle_90 : decode c_MO_settle 90 = .ok (.iload_n 1, 1) := by decide +kernel
theorem d_MO_settle_91 : decode c_MO_settle 91 = .ok (.iaload, 1) := by decide +kernel
theorem d_MO_settle_92 : decode c_MO_settle 92 = .ok (.iconst 2, 1) := by decide +kernel
theorem d_MO_settle_93 : decode c_MO_settle 93 = .ok (.if_icmp .ge 17, 3) := by decide +kernel
theorem d_MO_settle_96 : decode c_MO_settle 96 = .ok (.iload_n 2, 1) := by decide +kernel
theorem d_MO_settle_97 : decode c_MO_settle 97 = .ok (.ifCond .eq 13, 3) := by decide +kernel
theorem d_MO_settle_100 : decode c_MO_settle 100 = .ok (.aload_n 0, 1) := by decide +kernel
theorem d_MO_settle_101 : decode c_MO_settle 101 = .ok (.getfield 26, 3) := by decide +kernel
theorem d_MO_settle_104 : decode c_MO_settle 104 = .ok (.iload_n 1, 1) := by decide +kernel
theorem d_MO_settle_105 : decode c_MO_settle 105 = .ok (.iconst 4, 1) := by decide +kernel
theorem d_MO_settle_106 : decode c_MO_settle 106 = .ok (.iastore, 1) := by decide +kernel
theorem d_MO_settle_107 : decode c_MO_settle 107 = .ok (.goto 23, 3) := by decide +kernel
theorem d_MO_settle_110 : decode c_MO_settle 110 = .ok (.aload_n 0, 1) := by decide +kernel
theorem d_MO_settle_111 : decode c_MO_settle 111 = .ok (.getfield 26, 3) := by decide +kernel
theorem d_MO_settle_114 : decode c_MO_settle 114 = .ok (.iload_n 1, 1) := by decide +kernel
theorem d_MO_settle_115 : decode c_MO_settle 115 = .ok (.iaload, 1) := by decide +kernel
theorem d_MO_settle_116 : decode c_MO_settle 116 = .ok (.ifCond .ne 14, 3) := by decide +kernel
theorem d_MO_settle_119 : decode c_MO_settle 119 = .ok (.iload_n 3, 1) := by decide +kernel
theorem d_MO_settle_120 : decode c_MO_settle 120 = .ok (.ifCond .eq 10, 3) := by decide +kernel
theorem d_MO_settle_123 : decode c_MO_settle 123 = .ok (.aload_n 0, 1) := by decide +kernel
theorem d_MO_settle_124 : decode c_MO_settle 124 = .ok (.getfield 26, 3) := by decide +kernel
theorem d_MO_settle_127 : decode c_MO_settle 127 = .ok (.iload_n 1, 1) := by decide +kernel
theorem d_MO_settle_128 : decode c_MO_settle 128 = .ok (.iconst 1, 1) := by decide +kernel
theorem d_MO_settle_129 : decode c_MO_settle 129 = .ok (.iastore, 1) := by decide +kernel
theorem d_MO_settle_130 : decode c_MO_settle 130 = .ok (.iinc 1 1, 3) := by decide +kernel
theorem d_MO_settle_133 : decode c_MO_settle 133 = .ok (.goto (-131), 3) := by decide +kernel
theorem d_MO_settle_136 : decode c_MO_settle 136 = .ok (.return_, 1) := by decide +kernel
def wq_MO_settle_110 (post : ST → Int64 → Prop) (J2 : Int32 → ST → Int64 → Prop) (v1 : Int32) (v3 : Int32) (X : ST) (Y : Int64) : Prop := (vp_in v1 12 ∧ (((X 20 v1.toNatClampNeg) = 0 → ((v3 = 0 → J2 (v1 + (1 : Int32)) X Y) ∧ (¬ v3 = 0 → J2 (v1 + (1 : Int32)) (up X 20 v1.toNatClampNeg (1 : Int32)) Y))) ∧ (¬ (X 20 v1.toNatClampNeg) = 0 → J2 (v1 + (1 : Int32)) X Y)))
def wq_MO_settle_63 (post : ST → Int64 → Prop) (J2 : Int32 → ST → Int64 → Prop) (J19 : Int32 → Int32 → Int32 → ST → Int64 → Prop) (s0 : Int32) (v1 : Int32) (v3 : Int32) (v4 : Int32) (v5 : Int32) (X : ST) (Y : Int64) : Prop := ((v3 = 0 → J19 s0 (0 : Int32) (v4 + (1 : Int32)) X Y) ∧ (¬ v3 = 0 → ((v5 = (1 : Int32) → J19 s0 (1 : Int32) (v4 + (1 : Int32)) X Y) ∧ (¬ v5 = (1 : Int32) → J19 s0 (0 : Int32) (v4 + (1 : Int32)) X Y))))
def wq_MO_settle_19 (post : ST → Int64 → Prop) (J2 : Int32 → ST → Int64 → Prop) (v1 : Int32) : Nat → Int32 → Int32 → Int32 → ST → Int64 → Prop
  | 0 => fun _ _ _ _ _ => False
  | n + 1 => fun v2 v3 v4 X Y => (vp_in v1 12 ∧ (((((4 : Int32) * v1) + (X 25 v1.toNatClampNeg)) ≤ v4 → (((2 : Int32) ≤ (X 20 v1.toNatClampNeg) → wq_MO_settle_110 post J2 v1 v3 X Y) ∧ (¬ (2 : Int32) ≤ (X 20 v1.toNatClampNeg) → ((v2 = 0 → wq_MO_settle_110 post J2 v1 v3 X Y) ∧ (¬ v2 = 0 → J2 (v1 + (1 : Int32)) (up X 20 v1.toNatClampNeg (4 : Int32)) Y))))) ∧ (¬ (((4 : Int32) * v1) + (X 25 v1.toNatClampNeg)) ≤ v4 → (vp_in v4 48 ∧ (vp_in (X 26 v4.toNatClampNeg) 24 ∧ ((v2 = 0 → (((X 30 (X 26 v4.toNatClampNeg).toNatClampNeg) ≤ (1 : Int32) → wq_MO_settle_63 post J2 (wq_MO_settle_19 post J2 v1 n) (0 : Int32) v1 v3 v4 (X 30 (X 26 v4.toNatClampNeg).toNatClampNeg) X Y) ∧ (¬ (X 30 (X 26 v4.toNatClampNeg).toNatClampNeg) ≤ (1 : Int32) → wq_MO_settle_63 post J2 (wq_MO_settle_19 post J2 v1 n) (1 : Int32) v1 v3 v4 (X 30 (X 26 v4.toNatClampNeg).toNatClampNeg) X Y))) ∧ (¬ v2 = 0 → wq_MO_settle_63 post J2 (wq_MO_settle_19 post J2 v1 n) (1 : Int32) v1 v3 v4 (X 30 (X 26 v4.toNatClampNeg).toNatClampNeg) X Y)))))))
def wq_MO_settle_2 (post : ST → Int64 → Prop) : Nat → Int32 → ST → Int64 → Prop
  | 0 => fun _ _ _ => False
  | n + 1 => fun v1 X Y => (((X 3 0) ≤ v1 → post X Y) ∧ (¬ (X 3 0) ≤ v1 → (∃ n9, wq_MO_settle_19 post (wq_MO_settle_2 post n) v1 n9 (0 : Int32) (1 : Int32) ((4 : Int32) * v1) X Y)))
def wp_MO_settle (post : ST → Int64 → Prop) (X : ST) (Y : Int64) : Prop := (∃ n9, wq_MO_settle_2 post n9 (0 : Int32) X Y)
set_option maxHeartbeats 4000000 in
set_option maxRecDepth 100000 in
theorem mt_MO_settle (l : Launch) (hl9 : l.stackTraces = false) (dC : Nat → ClassId) (dI : Nat → Nat → Nat) (cA : Nat → ClassId) (ad : Nat → Nat) (hI : INJ ad 23) (sz : Nat) {X : ST} {Y : Int64} {post : ST → Int64 → Prop} (hw : wp_MO_settle post X Y) : Met l y_MO_settle ws_MO_settle ({ frames := 0, cells := 0, slots := 0, locals := 0 } : Room) (va_Pc [.ref (ad 0)] (fun U => PM dC dI cA ad sz X Y U)) (va_Qv (fun (u : ST × Int64) => post u.1 u.2) (fun (u : ST × Int64) t => va_P (dC, dI) vwCl (wdM cA ad u.1 u.2) t.heap) (CA ad 23 sz)) 0 0 (CA ad 23 sz) := by
  refine Met.ofW (cc := c_MO_settle) (maxL := 6) (ret := none) (by decide) rfl ?_
  intro p e s m args below meth c s₁ B hml hv
  obtain ⟨rfl, hsz, hP, hG⟩ := hv
  have hx := B.exec
  have hb := B.bytes
  have hr := B.returns
  have hts : ∀ w ∈ GW, w.before (([.ref (ad 0)] : List Value).toArray) s = true := fun w h => atoms_spec (ws := ws_MO_settle) B.pre w (List.mem_cons_of_mem _ h)
  have hown : s.vm.findClass R_MO = some m.cls := findClass_of_methodNamed B.named
  have hlocks := B.notSynchronized
  subst hsz
  have hK := hG.1
  have hG9 := hG
  have hNW := hG.2
  have hD0 : ∀ (X : ST) (Y : Int64), va_D (CA ad 23 s.heap.size) (wdM cA ad X Y) := fun _ _ => zwM_D hI
  have hS : va_S (CA ad 23 s.heap.size) s.heap s.heap [] := va_S.rf
  have hl := lv_entry ([.ref (ad 0)]) (n := 6) (Nat.le_of_ble_eq_true rfl)
  rw [lg_entry_eq]
  generalize (lg_sl ([.ref (ad 0)]) ++ List.replicate (6 - (lg_sl ([.ref (ad 0)])).length) Slot.unset).toArray = ls at hl ⊢
  have hl : lv_has ls 6 [(0, .ref (ad 0))] := hl
  have L110 : ∀ (J2 : Int32 → ST → Int64 → Prop), (∀ (v1 : Int32) (X : ST) (Y : Int64) (H : Heap) (locs : List Loc) (ls : Array Slot), J2 v1 X Y → va_P (dC, dI) vwCl (wdM cA ad X Y) H → va_S (CA ad 23 s.heap.size) s.heap H locs → lv_has ls 6 [(0, .ref (ad 0)), (1, .int v1)] → W p l e (headSpec ws_MO_settle ({ frames := 0, cells := 0, slots := 0, locals := 0 } : Room)).room s m (([.ref (ad 0)] : List Value).toArray) below meth c H locs 0 0 (MQ below (va_Qv (fun (u : ST × Int64) => post u.1 u.2) (fun (u : ST × Int64) t => va_P (dC, dI) vwCl (wdM cA ad u.1 u.2) t.heap) (CA ad 23 s.heap.size)) (([.ref (ad 0)] : List Value).toArray) s 0 0 (CA ad 23 s.heap.size)) (F0 m 2 ls [])) → ∀ (v1 : Int32) (v3 : Int32) (X : ST) (Y : Int64) (H : Heap) (locs : List Loc) (ls : Array Slot), wq_MO_settle_110 post J2 v1 v3 X Y → va_P (dC, dI) vwCl (wdM cA ad X Y) H → va_S (CA ad 23 s.heap.size) s.heap H locs → lv_has ls 6 [(0, .ref (ad 0)), (1, .int v1), (3, .int v3)] → W p l e (headSpec ws_MO_settle ({ frames := 0, cells := 0, slots := 0, locals := 0 } : Room)).room s m (([.ref (ad 0)] : List Value).toArray) below meth c H locs 0 0 (MQ below (va_Qv (fun (u : ST × Int64) => post u.1 u.2) (fun (u : ST × Int64) t => va_P (dC, dI) vwCl (wdM cA ad u.1 u.2) t.heap) (CA ad 23 s.heap.size)) (([.ref (ad 0)] : List Value).toArray) s 0 0 (CA ad 23 s.heap.size)) (F0 m 110 ls []) := by
    intro J2 hJ2 v1 v3 X Y H locs ls hw hP hS hl
    unfold wq_MO_settle_110 at hw
    refine lv_aload_n hx hb d_MO_settle_110 rfl (lv_at hl 0 rfl) ?_
    refine va_get (D := (dC, dI)) (ci := 9) (v := .ref (ad 6)) (C := R_MO) (T := T_MO) (N := 36) hx hb hts in_MO hown hK hP (0) atM_MO rfl 10 (by decide) (hts _ gw_345) (fun _ h9 => h9) rfl d_MO_settle_111 ?_
    refine lv_iload_n hx hb d_MO_settle_114 rfl (lv_at hl 1 rfl) ?_
    obtain ⟨h1, hw⟩ := hw
    refine va_iald hx hb hK hP (6) 5 atM_orderState rfl h1 d_MO_settle_115 ?_
    refine lv_if_ne (tgt := 130) hx hb d_MO_settle_116 (by decide) (fun c2 => ?_) (fun c2 => ?_)
    · have hw := hw.2 c2
      refine lv_iinc (k := 1) (v := v1 + (1 : Int32)) (lv' := [(1, .int (v1 + (1 : Int32))), (0, .ref (ad 0)), (3, .int v3)]) hx hb d_MO_settle_130 hl rfl rfl (by decide) rfl (fun ls hl => ?_)
      refine lv_goto (tgt := 2) hx hb d_MO_settle_133 (by decide) ?_
      have hl := lv_sub hl (l' := [(0, .ref (ad 0)), (1, .int (v1 + (1 : Int32)))]) [1, 0] rfl
      exact hJ2 _ _ _ _ _ _ hw hP hS hl
    · have hw := hw.1 c2
      refine lv_iload_n hx hb d_MO_settle_119 rfl (lv_at hl 2 rfl) ?_
      refine lv_if_eq (tgt := 130) hx hb d_MO_settle_120 (by decide) (fun c3 => ?_) (fun c3 => ?_)
      · have hw := hw.1 c3
        refine lv_iinc (k := 1) (v := v1 + (1 : Int32)) (lv' := [(1, .int (v1 + (1 : Int32))), (0, .ref (ad 0)), (3, .int v3)]) hx hb d_MO_settle_130 hl rfl rfl (by decide) rfl (fun ls hl => ?_)
        refine lv_goto (tgt := 2) hx hb d_MO_settle_133 (by decide) ?_
        have hl := lv_sub hl (l' := [(0, .ref (ad 0)), (1, .int (v1 + (1 : Int32)))]) [1, 0] rfl
        exact hJ2 _ _ _ _ _ _ hw hP hS hl
      · have hw := hw.2 c3
        refine lv_aload_n hx hb d_MO_settle_123 rfl (lv_at hl 0 rfl) ?_
        refine va_get (D := (dC, dI)) (ci := 9) (v := .ref (ad 6)) (C := R_MO) (T := T_MO) (N := 36) hx hb hts in_MO hown hK hP (0) atM_MO rfl 10 (by decide) (hts _ gw_345) (fun _ h9 => h9) rfl d_MO_settle_124 ?_
        refine lv_iload_n hx hb d_MO_settle_127 rfl (lv_at hl 1 rfl) ?_
        refine lv_iconst (v := (1 : Int32)) hx hb d_MO_settle_128 (by decide) ?_
        refine va_iast hx hb hK hP (hD0 _ _) hS (6) 5 atM_orderState rfl h1 d_MO_settle_129 (fun H locs hP _ hS => ?_)
        have hP : va_P (dC, dI) vwCl (wdM cA ad (up X 20 v1.toNatClampNeg (1 : Int32)) Y) H := by rw [← stM_orderState]; exact hP
        refine lv_iinc (k := 1) (v := v1 + (1 : Int32)) (lv' := [(1, .int (v1 + (1 : Int32))), (0, .ref (ad 0)), (3, .int v3)]) hx hb d_MO_settle_130 hl rfl rfl (by decide) rfl (fun ls hl => ?_)
        refine lv_goto (tgt := 2) hx hb d_MO_settle_133 (by decide) ?_
        have hl := lv_sub hl (l' := [(0, .ref (ad 0)), (1, .int (v1 + (1 : Int32)))]) [1, 0] rfl
        exact hJ2 _ _ _ _ _ _ hw hP hS hl
  have L63 : ∀ (v1 : Int32), ∀ (J2 : Int32 → ST → Int64 → Prop) (J19 : Int32 → Int32 → Int32 → ST → Int64 → Prop), (∀ (v1 : Int32) (X : ST) (Y : Int64) (H : Heap) (locs : List Loc) (ls : Array Slot), J2 v1 X Y → va_P (dC, dI) vwCl (wdM cA ad X Y) H → va_S (CA ad 23 s.heap.size) s.heap H locs → lv_has ls 6 [(0, .ref (ad 0)), (1, .int v1)] → W p l e (headSpec ws_MO_settle ({ frames := 0, cells := 0, slots := 0, locals := 0 } : Room)).room s m (([.ref (ad 0)] : List Value).toArray) below meth c H locs 0 0 (MQ below (va_Qv (fun (u : ST × Int64) => post u.1 u.2) (fun (u : ST × Int64) t => va_P (dC, dI) vwCl (wdM cA ad u.1 u.2) t.heap) (CA ad 23 s.heap.size)) (([.ref (ad 0)] : List Value).toArray) s 0 0 (CA ad 23 s.heap.size)) (F0 m 2 ls [])) → (∀ (v2 : Int32) (v3 : Int32) (v4 : Int32) (X : ST) (Y : Int64) (H : Heap) (locs : List Loc) (ls : Array Slot), J19 v2 v3 v4 X Y → va_P (dC, dI) vwCl (wdM cA ad X Y) H → va_S (CA ad 23 s.heap.size) s.heap H locs → lv_has ls 6 [(0, .ref (ad 0)), (1, .int v1), (2, .int v2), (3, .int v3), (4, .int v4)] → W p l e (headSpec ws_MO_settle ({ frames := 0, cells := 0, slots := 0, locals := 0 } : Room)).room s m (([.ref (ad 0)] : List Value).toArray) below meth c H locs 0 0 (MQ below (va_Qv (fun (u : ST × Int64) => post u.1 u.2) (fun (u : ST × Int64) t => va_P (dC, dI) vwCl (wdM cA ad u.1 u.2) t.heap) (CA ad 23 s.heap.size)) (([.ref (ad 0)] : List Value).toArray) s 0 0 (CA ad 23 s.heap.size)) (F0 m 19 ls [])) → ∀ (s0 : Int32) (v3 : Int32) (v4 : Int32) (v5 : Int32) (X : ST) (Y : Int64) (H : Heap) (locs : List Loc) (ls : Array Slot), wq_MO_settle_63 post J2 J19 s0 v1 v3 v4 v5 X Y → va_P (dC, dI) vwCl (wdM cA ad X Y) H → va_S (CA ad 23 s.heap.size) s.heap H locs → lv_has ls 6 [(0, .ref (ad 0)), (1, .int v1), (3, .int v3), (4, .int v4), (5, .int v5)] → W p l e (headSpec ws_MO_settle ({ frames := 0, cells := 0, slots := 0, locals := 0 } : Room)).room s m (([.ref (ad 0)] : List Value).toArray) below meth c H locs 0 0 (MQ below (va_Qv (fun (u : ST × Int64) => post u.1 u.2) (fun (u : ST × Int64) t => va_P (dC, dI) vwCl (wdM cA ad u.1 u.2) t.heap) (CA ad 23 s.heap.size)) (([.ref (ad 0)] : List Value).toArray) s 0 0 (CA ad 23 s.heap.size)) (F0 m 63 ls [.int s0]) := by
    intro v1 J2 J19 hJ2 hJ19 s0 v3 v4 v5 X Y H locs ls hw hP hS hl
    unfold wq_MO_settle_63 at hw
    refine lv_istore_n (lv' := [(2, .int s0), (0, .ref (ad 0)), (1, .int v1), (3, .int v3), (4, .int v4), (5, .int v5)]) hx hb d_MO_settle_63 rfl hl (by decide) rfl (fun ls hl => ?_)
    refine lv_iload_n hx hb d_MO_settle_64 rfl (lv_at hl 3 rfl) ?_
    refine lv_if_eq (tgt := 78) hx hb d_MO_settle_65 (by decide) (fun c4 => ?_) (fun c4 => ?_)
    · have hw := hw.1 c4
      refine lv_iconst (v := (0 : Int32)) hx hb d_MO_settle_78 (by decide) ?_
      refine lv_istore_n (lv' := [(3, .int (0 : Int32)), (2, .int s0), (0, .ref (ad 0)), (1, .int v1), (4, .int v4), (5, .int v5)]) hx hb d_MO_settle_79 rfl hl (by decide) rfl (fun ls hl => ?_)
      refine lv_iinc (k := 4) (v := v4 + (1 : Int32)) (lv' := [(4, .int (v4 + (1 : Int32))), (3, .int (0 : Int32)), (2, .int s0), (0, .ref (ad 0)), (1, .int v1), (5, .int v5)]) hx hb d_MO_settle_80 hl rfl rfl (by decide) rfl (fun ls hl => ?_)
      refine lv_goto (tgt := 19) hx hb d_MO_settle_83 (by decide) ?_
      have hl := lv_sub hl (l' := [(0, .ref (ad 0)), (1, .int v1), (2, .int s0), (3, .int (0 : Int32)), (4, .int (v4 + (1 : Int32)))]) [3, 4, 2, 1, 0] rfl
      exact hJ19 _ _ _ _ _ _ _ _ hw hP hS hl
    · have hw := hw.2 c4
      refine lv_iload hx hb d_MO_settle_68 (lv_at hl 5 rfl) ?_
      refine lv_iconst (v := (1 : Int32)) hx hb d_MO_settle_70 (by decide) ?_
      refine lv_icmp_ne (tgt := 78) hx hb d_MO_settle_71 (by decide) (fun c5 => ?_) (fun c5 => ?_)
      · have hw := hw.2 c5
        refine lv_iconst (v := (0 : Int32)) hx hb d_MO_settle_78 (by decide) ?_
        refine lv_istore_n (lv' := [(3, .int (0 : Int32)), (2, .int s0), (0, .ref (ad 0)), (1, .int v1), (4, .int v4), (5, .int v5)]) hx hb d_MO_settle_79 rfl hl (by decide) rfl (fun ls hl => ?_)
        refine lv_iinc (k := 4) (v := v4 + (1 : Int32)) (lv' := [(4, .int (v4 + (1 : Int32))), (3, .int (0 : Int32)), (2, .int s0), (0, .ref (ad 0)), (1, .int v1), (5, .int v5)]) hx hb d_MO_settle_80 hl rfl rfl (by decide) rfl (fun ls hl => ?_)
        refine lv_goto (tgt := 19) hx hb d_MO_settle_83 (by decide) ?_
        have hl := lv_sub hl (l' := [(0, .ref (ad 0)), (1, .int v1), (2, .int s0), (3, .int (0 : Int32)), (4, .int (v4 + (1 : Int32)))]) [3, 4, 2, 1, 0] rfl
        exact hJ19 _ _ _ _ _ _ _ _ hw hP hS hl
      · have hw := hw.1 c5
        refine lv_iconst (v := (1 : Int32)) hx hb d_MO_settle_74 (by decide) ?_
        refine lv_goto (tgt := 79) hx hb d_MO_settle_75 (by decide) ?_
        refine lv_istore_n (lv' := [(3, .int (1 : Int32)), (2, .int s0), (0, .ref (ad 0)), (1, .int v1), (4, .int v4), (5, .int v5)]) hx hb d_MO_settle_79 rfl hl (by decide) rfl (fun ls hl => ?_)
        refine lv_iinc (k := 4) (v := v4 + (1 : Int32)) (lv' := [(4, .int (v4 + (1 : Int32))), (3, .int (1 : Int32)), (2, .int s0), (0, .ref (ad 0)), (1, .int v1), (5, .int v5)]) hx hb d_MO_settle_80 hl rfl rfl (by decide) rfl (fun ls hl => ?_)
        refine lv_goto (tgt := 19) hx hb d_MO_settle_83 (by decide) ?_
        have hl := lv_sub hl (l' := [(0, .ref (ad 0)), (1, .int v1), (2, .int s0), (3, .int (1 : Int32)), (4, .int (v4 + (1 : Int32)))]) [3, 4, 2, 1, 0] rfl
        exact hJ19 _ _ _ _ _ _ _ _ hw hP hS hl
  have L19 : ∀ (v1 : Int32), ∀ (J2 : Int32 → ST → Int64 → Prop), (∀ (v1 : Int32) (X : ST) (Y : Int64) (H : Heap) (locs : List Loc) (ls : Array Slot), J2 v1 X Y → va_P (dC, dI) vwCl (wdM cA ad X Y) H → va_S (CA ad 23 s.heap.size) s.heap H locs → lv_has ls 6 [(0, .ref (ad 0)), (1, .int v1)] → W p l e (headSpec ws_MO_settle ({ frames := 0, cells := 0, slots := 0, locals := 0 } : Room)).room s m (([.ref (ad 0)] : List Value).toArray) below meth c H locs 0 0 (MQ below (va_Qv (fun (u : ST × Int64) => post u.1 u.2) (fun (u : ST × Int64) t => va_P (dC, dI) vwCl (wdM cA ad u.1 u.2) t.heap) (CA ad 23 s.heap.size)) (([.ref (ad 0)] : List Value).toArray) s 0 0 (CA ad 23 s.heap.size)) (F0 m 2 ls [])) → ∀ (n : Nat), ∀ (v2 : Int32) (v3 : Int32) (v4 : Int32) (X : ST) (Y : Int64) (H : Heap) (locs : List Loc) (ls : Array Slot), wq_MO_settle_19 post J2 v1 n v2 v3 v4 X Y → va_P (dC, dI) vwCl (wdM cA ad X Y) H → va_S (CA ad 23 s.heap.size) s.heap H locs → lv_has ls 6 [(0, .ref (ad 0)), (1, .int v1), (2, .int v2), (3, .int v3), (4, .int v4)] → W p l e (headSpec ws_MO_settle ({ frames := 0, cells := 0, slots := 0, locals := 0 } : Room)).room s m (([.ref (ad 0)] : List Value).toArray) below meth c H locs 0 0 (MQ below (va_Qv (fun (u : ST × Int64) => post u.1 u.2) (fun (u : ST × Int64) t => va_P (dC, dI) vwCl (wdM cA ad u.1 u.2) t.heap) (CA ad 23 s.heap.size)) (([.ref (ad 0)] : List Value).toArray) s 0 0 (CA ad 23 s.heap.size)) (F0 m 19 ls []) := by
    intro v1 J2 hJ2 n
    induction n with
    | zero => intro v2 v3 v4 X Y H locs ls hw hP hS hl; exact False.elim hw
    | succ n ih =>
      intro v2 v3 v4 X Y H locs ls hw hP hS hl
      dsimp only [wq_MO_settle_19] at hw
      refine lv_iload hx hb d_MO_settle_19 (lv_at hl 4 rfl) ?_
      refine lv_iconst (v := (4 : Int32)) hx hb d_MO_settle_21 (by decide) ?_
      refine lv_iload_n hx hb d_MO_settle_22 rfl (lv_at hl 1 rfl) ?_
      refine lv_imul hx hb d_MO_settle_23 ?_
      refine lv_aload_n hx hb d_MO_settle_24 rfl (lv_at hl 0 rfl) ?_
      refine va_get (D := (dC, dI)) (ci := 9) (v := .ref (ad 8)) (C := R_MO) (T := T_MO) (N := 36) hx hb hts in_MO hown hK hP (0) atM_MO rfl 12 (by decide) (hts _ gw_346) (fun _ h9 => h9) rfl d_MO_settle_25 ?_
      refine lv_iload_n hx hb d_MO_settle_28 rfl (lv_at hl 1 rfl) ?_
      obtain ⟨h6, hw⟩ := hw
      refine va_iald hx hb hK hP (8) 7 atM_orderMany rfl h6 d_MO_settle_29 ?_
      refine lv_iadd hx hb d_MO_settle_30 ?_
      refine lv_icmp_ge (tgt := 86) hx hb d_MO_settle_31 (by decide) (fun c7 => ?_) (fun c7 => ?_)
      · have hw := hw.1 c7
        refine lv_aload_n hx hb d_MO_settle_86 rfl (lv_at hl 0 rfl) ?_
        refine va_get (D := (dC, dI)) (ci := 9) (v := .ref (ad 6)) (C := R_MO) (T := T_MO) (N := 36) hx hb hts in_MO hown hK hP (0) atM_MO rfl 10 (by decide) (hts _ gw_345) (fun _ h9 => h9) rfl d_MO_settle_87 ?_
        refine lv_iload_n hx hb d_MO_settle_90 rfl (lv_at hl 1 rfl) ?_
        refine va_iald hx hb hK hP (6) 5 atM_orderState rfl h6 d_MO_settle_91 ?_
        refine lv_iconst (v := (2 : Int32)) hx hb d_MO_settle_92 (by decide) ?_
        refine lv_icmp_ge (tgt := 110) hx hb d_MO_settle_93 (by decide) (fun c8 => ?_) (fun c8 => ?_)
        · have hw := hw.1 c8
          have hl := lv_sub hl (l' := [(0, .ref (ad 0)), (1, .int v1), (3, .int v3)]) [0, 1, 3] rfl
          exact L110 J2 hJ2 _ _ _ _ _ _ _ hw hP hS hl
        · have hw := hw.2 c8
          refine lv_iload_n hx hb d_MO_settle_96 rfl (lv_at hl 2 rfl) ?_
          refine lv_if_eq (tgt := 110) hx hb d_MO_settle_97 (by decide) (fun c9 => ?_) (fun c9 => ?_)
          · have hw := hw.1 c9
            have hl := lv_sub hl (l' := [(0, .ref (ad 0)), (1, .int v1), (3, .int v3)]) [0, 1, 3] rfl
            exact L110 J2 hJ2 _ _ _ _ _ _ _ hw hP hS hl
          · have hw := hw.2 c9
            refine lv_aload_n hx hb d_MO_settle_100 rfl (lv_at hl 0 rfl) ?_
            refine va_get (D := (dC, dI)) (ci := 9) (v := .ref (ad 6)) (C := R_MO) (T := T_MO) (N := 36) hx hb hts in_MO hown hK hP (0) atM_MO rfl 10 (by decide) (hts _ gw_345) (fun _ h9 => h9) rfl d_MO_settle_101 ?_
            refine lv_iload_n hx hb d_MO_settle_104 rfl (lv_at hl 1 rfl) ?_
            refine lv_iconst (v := (4 : Int32)) hx hb d_MO_settle_105 (by decide) ?_
            refine va_iast hx hb hK hP (hD0 _ _) hS (6) 5 atM_orderState rfl h6 d_MO_settle_106 (fun H locs hP _ hS => ?_)
            have hP : va_P (dC, dI) vwCl (wdM cA ad (up X 20 v1.toNatClampNeg (4 : Int32)) Y) H := by rw [← stM_orderState]; exact hP
            refine lv_goto (tgt := 130) hx hb d_MO_settle_107 (by decide) ?_
            refine lv_iinc (k := 1) (v := v1 + (1 : Int32)) (lv' := [(1, .int (v1 + (1 : Int32))), (0, .ref (ad 0)), (2, .int v2), (3, .int v3), (4, .int v4)]) hx hb d_MO_settle_130 hl rfl rfl (by decide) rfl (fun ls hl => ?_)
            refine lv_goto (tgt := 2) hx hb d_MO_settle_133 (by decide) ?_
            have hl := lv_sub hl (l' := [(0, .ref (ad 0)), (1, .int (v1 + (1 : Int32)))]) [1, 0] rfl
            exact hJ2 _ _ _ _ _ _ hw hP hS hl
      · have hw := hw.2 c7
        refine lv_aload_n hx hb d_MO_settle_34 rfl (lv_at hl 0 rfl) ?_
        refine va_get (D := (dC, dI)) (ci := 9) (v := .ref (ad 13)) (C := R_MO) (T := T_MO) (N := 36) hx hb hts in_MO hown hK hP (0) atM_MO rfl 18 (by decide) (hts _ gw_347) (fun _ h9 => h9) rfl d_MO_settle_35 ?_
        refine lv_aload_n hx hb d_MO_settle_38 rfl (lv_at hl 0 rfl) ?_
        refine va_get (D := (dC, dI)) (ci := 9) (v := .ref (ad 9)) (C := R_MO) (T := T_MO) (N := 36) hx hb hts in_MO hown hK hP (0) atM_MO rfl 13 (by decide) (hts _ gw_348) (fun _ h9 => h9) rfl d_MO_settle_39 ?_
        refine lv_iload hx hb d_MO_settle_42 (lv_at hl 4 rfl) ?_
        obtain ⟨h10, hw⟩ := hw
        refine va_iald hx hb hK hP (9) 8 atM_orderAuths rfl h10 d_MO_settle_44 ?_
        obtain ⟨h11, hw⟩ := hw
        refine va_iald hx hb hK hP (13) 12 atM_authState rfl h11 d_MO_settle_45 ?_
        refine lv_istore (lv' := [(5, .int (X 30 (X 26 v4.toNatClampNeg).toNatClampNeg)), (0, .ref (ad 0)), (1, .int v1), (2, .int v2), (3, .int v3), (4, .int v4)]) hx hb d_MO_settle_46 hl (by decide) rfl (fun ls hl => ?_)
        refine lv_iload_n hx hb d_MO_settle_48 rfl (lv_at hl 3 rfl) ?_
        refine lv_if_ne (tgt := 58) hx hb d_MO_settle_49 (by decide) (fun c12 => ?_) (fun c12 => ?_)
        · have hw := hw.2 c12
          refine lv_iconst (v := (1 : Int32)) hx hb d_MO_settle_58 (by decide) ?_
          refine lv_goto (tgt := 63) hx hb d_MO_settle_59 (by decide) ?_
          have hl := lv_sub hl (l' := [(0, .ref (ad 0)), (1, .int v1), (3, .int v3), (4, .int v4), (5, .int (X 30 (X 26 v4.toNatClampNeg).toNatClampNeg))]) [1, 2, 4, 5, 0] rfl
          exact L63 _ J2 (wq_MO_settle_19 post J2 v1 n) hJ2 ih _ _ _ _ _ _ _ _ _ hw hP hS hl
        · have hw := hw.1 c12
          refine lv_iload hx hb d_MO_settle_52 (lv_at hl 0 rfl) ?_
          refine lv_iconst (v := (1 : Int32)) hx hb d_MO_settle_54 (by decide) ?_
          refine lv_icmp_le (tgt := 62) hx hb d_MO_settle_55 (by decide) (fun c13 => ?_) (fun c13 => ?_)
          · have hw := hw.1 c13
            refine lv_iconst (v := (0 : Int32)) hx hb d_MO_settle_62 (by decide) ?_
            have hl := lv_sub hl (l' := [(0, .ref (ad 0)), (1, .int v1), (3, .int v3), (4, .int v4), (5, .int (X 30 (X 26 v4.toNatClampNeg).toNatClampNeg))]) [1, 2, 4, 5, 0] rfl
            exact L63 _ J2 (wq_MO_settle_19 post J2 v1 n) hJ2 ih _ _ _ _ _ _ _ _ _ hw hP hS hl
          · have hw := hw.2 c13
            refine lv_iconst (v := (1 : Int32)) hx hb d_MO_settle_58 (by decide) ?_
            refine lv_goto (tgt := 63) hx hb d_MO_settle_59 (by decide) ?_
            have hl := lv_sub hl (l' := [(0, .ref (ad 0)), (1, .int v1), (3, .int v3), (4, .int v4), (5, .int (X 30 (X 26 v4.toNatClampNeg).toNatClampNeg))]) [1, 2, 4, 5, 0] rfl
            exact L63 _ J2 (wq_MO_settle_19 post J2 v1 n) hJ2 ih _ _ _ _ _ _ _ _ _ hw hP hS hl
  have L2 : ∀ (n : Nat), ∀ (v1 : Int32) (X : ST) (Y : Int64) (H : Heap) (locs : List Loc) (ls : Array Slot), wq_MO_settle_2 post n v1 X Y → va_P (dC, dI) vwCl (wdM cA ad X Y) H → va_S (CA ad 23 s.heap.size) s.heap H locs → lv_has ls 6 [(0, .ref (ad 0)), (1, .int v1)] → W p l e (headSpec ws_MO_settle ({ frames := 0, cells := 0, slots := 0, locals := 0 } : Room)).room s m (([.ref (ad 0)] : List Value).toArray) below meth c H locs 0 0 (MQ below (va_Qv (fun (u : ST × Int64) => post u.1 u.2) (fun (u : ST × Int64) t => va_P (dC, dI) vwCl (wdM cA ad u.1 u.2) t.heap) (CA ad 23 s.heap.size)) (([.ref (ad 0)] : List Value).toArray) s 0 0 (CA ad 23 s.heap.size)) (F0 m 2 ls []) := by
    intro n
    induction n with
    | zero => intro v1 X Y H locs ls hw hP hS hl; exact False.elim hw
    | succ n ih =>
      intro v1 X Y H locs ls hw hP hS hl
      dsimp only [wq_MO_settle_2] at hw
      refine lv_iload_n hx hb d_MO_settle_2 rfl (lv_at hl 1 rfl) ?_
      refine lv_aload_n hx hb d_MO_settle_3 rfl (lv_at hl 0 rfl) ?_
      refine va_get (D := (dC, dI)) (ci := 9) (v := .int (X 3 0)) (C := R_MO) (T := T_MO) (N := 36) hx hb hts in_MO hown hK hP (0) atM_MO rfl 6 (by decide) (hts _ gw_349) (fun _ h9 => h9) rfl d_MO_settle_4 ?_
      refine lv_icmp_ge (tgt := 136) hx hb d_MO_settle_7 (by decide) (fun c14 => ?_) (fun c14 => ?_)
      · have hw := hw.1 c14
        exact W.vret hx hb hr (fun t ht _ => ⟨⟨(X, Y), rfl, hw, by show va_P _ _ _ t.heap; rw [ht]; exact hP⟩, hS.F ht⟩) hS.2.2 d_MO_settle_136
      · have hw := hw.2 c14
        refine lv_iconst (v := (0 : Int32)) hx hb d_MO_settle_10 (by decide) ?_
        refine lv_istore_n (lv' := [(2, .int (0 : Int32)), (0, .ref (ad 0)), (1, .int v1)]) hx hb d_MO_settle_11 rfl hl (by decide) rfl (fun ls hl => ?_)
        refine lv_iconst (v := (1 : Int32)) hx hb d_MO_settle_12 (by decide) ?_
        refine lv_istore_n (lv' := [(3, .int (1 : Int32)), (2, .int (0 : Int32)), (0, .ref (ad 0)), (1, .int v1)]) hx hb d_MO_settle_13 rfl hl (by decide) rfl (fun ls hl => ?_)
        refine lv_iconst (v := (4 : Int32)) hx hb d_MO_settle_14 (by decide) ?_
        refine lv_iload_n hx hb d_MO_settle_15 rfl (lv_at hl 3 rfl) ?_
        refine lv_imul hx hb d_MO_settle_16 ?_
        refine lv_istore (lv' := [(4, .int ((4 : Int32) * v1)), (3, .int (1 : Int32)), (2, .int (0 : Int32)), (0, .ref (ad 0)), (1, .int v1)]) hx hb d_MO_settle_17 hl (by decide) rfl (fun ls hl => ?_)
        have hl := lv_sub hl (l' := [(0, .ref (ad 0)), (1, .int v1), (2, .int (0 : Int32)), (3, .int (1 : Int32)), (4, .int ((4 : Int32) * v1))]) [3, 4, 2, 1, 0] rfl
        obtain ⟨n9, hw⟩ := hw
        exact L19 _ (wq_MO_settle_2 post n) ih n9 _ _ _ _ _ _ _ _ hw hP hS hl
  unfold wp_MO_settle at hw
  refine lv_iconst (v := (0 : Int32)) hx hb d_MO_settle_0 (by decide) ?_
  refine lv_istore_n (lv' := [(1, .int (0 : Int32)), (0, .ref (ad 0))]) hx hb d_MO_settle_1 rfl hl (by decide) rfl (fun ls hl => ?_)
  have hl := lv_sub hl (l' := [(0, .ref (ad 0)), (1, .int (0 : Int32))]) [1, 0] rfl
  obtain ⟨n9, hw⟩ := hw
  exact L2 n9 _ _ _ _ _ _ hw hP hS hl
