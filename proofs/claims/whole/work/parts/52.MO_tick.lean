def ws_MO_tick : List Cond := Cond.code y_MO_tick c_MO_tick 3 (Option.some Jvm.ClassFile.FieldType.int) :: GW
theorem d_MO_tick_0 : decode c_MO_tick 0 = .ok (.aload_n 0, 1) := by decide +kernel
theorem d_MO_tick_1 : decode c_MO_tick 1 = .ok (.iload_n 1, 1) := by decide +kernel
theorem d_MO_tick_2 : decode c_MO_tick 2 = .ok (.ifCond .lt 10, 3) := by decide +kernel
theorem d_MO_tick_5 : decode c_MO_tick 5 = .ok (.iload_n 1, 1) := by decide +kernel
theorem d_MO_tick_6 : decode c_MO_tick 6 = .ok (.sipush 1000, 3) := by decide +kernel
theorem d_MO_tick_9 : decode c_MO_tick 9 = .ok (.if_icmp .le 7, 3) := by decide +kernel
theorem d_MO_tick_12 : decode c_MO_tick 12 = .ok (.iconst 1, 1) := by decide +kernel
theorem d_MO_tick_13 : decode c_MO_tick 13 = .ok (.goto 4, 3) := by decide +kernel
theorem d_MO_tick_16 : decode c_MO_tick 16 = .ok (.iconst 0, 1) := by decide +kernel
theorem d_MO_tick_17 : decode c_MO_tick 17 = .ok (.putfield 81, 3) := by decide +kernel
theorem d_MO_tick_20 : decode c_MO_tick 20 = .ok (.aload_n 0, 1) := by decide +kernel
theorem d_MO_tick_21 : decode c_MO_tick 21 = .ok (.getfield 81, 3) := by decide +kernel
theorem d_MO_tick_24 : decode c_MO_tick 24 = .ok (.ifCond .eq 5, 3) := by decide +kernel
theorem d_MO_tick_27 : decode c_MO_tick 27 = .ok (.iconst 0, 1) := by decide +kernel
theorem d_MO_tick_28 : decode c_MO_tick 28 = .ok (.ireturn, 1) := by decide +kernel
theorem d_MO_tick_29 : decode c_MO_tick 29 = .ok (.aload_n 0, 1) := by decide +kernel
theorem d_MO_tick_30 : decode c_MO_tick 30 = .ok (.aload_n 0, 1) := by decide +kernel
theorem d_MO_tick_31 : decode c_MO_tick 31 = .ok (.getfield 144, 3) := by decide +kernel
theorem d_MO_tick_34 : decode c_MO_tick 34 = .ok (.iload_n 1, 1) := by decide +kernel
theorem d_MO_tick_35 : decode c_MO_tick 35 = .ok (.iadd, 1) := by decide +kernel
theorem d_MO_tick_36 : decode c_MO_tick 36 = .ok (.putfield 144, 3) := by decide +kernel
theorem d_MO_tick_39 : decode c_MO_tick 39 = .ok (.iconst 0, 1) := by decide +kernel
theorem d_MO_tick_40 : decode c_MO_tick 40 = .ok (.istore_n 2, 1) := by decide +kernel
theorem d_MO_tick_41 : decode c_MO_tick 41 = .ok (.iload_n 2, 1) := by decide +kernel
theorem d_MO_tick_42 : decode c_MO_tick 42 = .ok (.aload_n 0, 1) := by decide +kernel
theorem d_MO_tick_43 : decode c_MO_tick 43 = .ok (.getfield 137, 3) := by decide +kernel
theorem d_MO_tick_46 : decode c_MO_tick 46 = .ok (.if_icmp .ge 52, 3) := by decide +kernel
theorem d_MO_tick_49 : decode c_MO_tick 49 = .ok (.aload_n 0, 1) := by decide +kernel
theorem d_MO_tick_50 : decode c_MO_tick 50 = .ok (.getfield 47, 3) := by decide +kernel
theorem d_MO_tick_53 : decode c_MO_tick 53 = .ok (.iload_n 2, 1) := by decide +kernel
theorem d_MO_tick_54 : decode c_MO_tick 54 = .ok (.iaload, 1) := by decide +kernel
theorem d_MO_tick_55 : decode c_MO_tick 55 = .ok (.iconst 2, 1) := by decide +kernel
theorem d_MO_tick_56 : decode c_MO_tick 56 = .ok (.if_icmp .ge 36, 3) := by decide +kernel
theorem d_MO_tick_59 : decode c_MO_tick 59 = .ok (.aload_n 0, 1) := by decide +kernel
theorem d_MO_tick_60 : decode c_MO_tick 60 = .ok (.getfield 44, 3) := by decide +kernel
theorem d_MO_tick_63 : decode c_MO_tick 63 = .ok (.iload_n 2, 1) := by decide +kernel
theorem d_MO_tick_64 : decode c_MO_tick 64 = .ok (.iaload, 1) := by decide +kernel
theorem d_MO_tick_65 : decode c_MO_tick 65 = .ok (.aload_n 0, 1) := by decide +kernel
theorem d_MO_tick_66 : decode c_MO_tick 66 = .ok (.getfield 144, 3) := by decide +kernel
theorem d_MO_tick_69 : decode c_MO_tick 69 = .ok (.if_icmp .gt 23, 3) := by decide +kernel
theorem d_MO_tick_72 : decode c_MO_tick 72 = .ok (.aload_n 0, 1) := by decide +kernel
theorem d_MO_tick_73 : decode c_MO_tick 73 = .ok (.getfield 47, 3) := by decide +kernel
theorem d_MO_tick_76 : decode c_MO_tick 76 = .ok (.iload_n 2, 1) := by decide +kernel
theorem d_MO_tick_77 : decode c_MO_tick 77 = .ok (.aload_n 0, 1) := by decide +kernel
theorem d_MO_tick_78 : decode c_MO_tick 78 = .ok (.getfield 47, 3) := by decide +kernel
theorem d_MO_tick_81 : decode c_MO_tick 81 = .ok (.iload_n 2, 1) := by decide +kernel
theorem d_MO_tick_82 : decode c_MO_tick 82 = .ok (.iaload, 1) := by decide +kernel
theorem d_MO_tick_83 : decode c_MO_tick 83 = .ok (.ifCond .ne 7, 3) := by decide +kernel
theorem d_MO_tick_86 : decode c_MO_tick 86 = .ok (.iconst 2, 1) := by decide +kernel
theorem d_MO_tick_87 : decode c_MO_tick 87 = .ok (.goto 4, 3) := by decide +kernel
theorem d_MO_tick_90 : decode c_MO_tick 90 = .ok (.iconst 4, 1) := by decide +kernel
theorem d_MO_tick_91 : decode c_MO_tick 91 = .ok (.iastore, 1) := by decide +kernel
theorem d_MO_tick_92 : decode c_MO_tick 92 = .ok (.iinc 2 1, 3) := by decide +kernel
theorem d_MO_tick_95 : decode c_MO_tick 95 = .ok (.goto (-54), 3) := by decide +kernel
theorem d_MO_tick_98 : decode c_MO_tick 98 = .ok (.iconst 0, 1) := by decide +kernel
theorem d_MO_tick_99 : decode c_MO_tick 99 = .ok (.istore_n 2, 1) := by decide +kernel
theorem d_MO_tick_100 : decode c_MO_tick 100 = .ok (.iload_n 2, 1) := by decide +kernel
theorem d_MO_tick_101 : decode c_MO_tick 101 = .ok (.aload_n 0, 1) := by decide +kernel
theorem d_MO_tick_102 : decode c_MO_tick 102 = .ok (.getfield 134, 3) := by decide +kernel
theorem d_MO_tick_105 : decode c_MO_tick 105 = .ok (.if_icmp .ge 39, 3) := by decide +kernel
theorem d_MO_tick_108 : decode c_MO_tick 108 = .ok (.aload_n 0, 1) := by decide +kernel
theorem d_MO_tick_109 : decode c_MO_tick 109 = .ok (.getfield 26, 3) := by decide +kernel
theorem d_MO_tick_112 : decode c_MO_tick 112 = .ok (.iload_n 2, 1) := by decide +kernel
theorem d_MO_tick_113 : decode c_MO_tick 113 = .ok (.iaload, 1) := by decide +kernel
theorem d_MO_tick_114 : decode c_MO_tick 114 = .ok (.iconst 2, 1) := by decide +kernel
theorem d_MO_tick_115 : decode c_MO_tick 115 = .ok (.if_icmp .ge 23, 3) := by decide +kernel
theorem d_MO_tick_118 : decode c_MO_tick 118 = .ok (.aload_n 0, 1) := by decide +kernel
theorem d_MO_tick_119 : decode c_MO_tick 119 = .ok (.getfield 23, 3) := by decide +kernel
theorem d_MO_tick_122 : decode c_MO_tick 122 = .ok (.iload_n 2, 1) := by decide +kernel
theorem d_MO_tick_123 : decode c_MO_tick 123 = .ok (.iaload, 1) := by decide +kernel
theorem d_MO_tick_124 : decode c_MO_tick 124 = .ok (.aload_n 0, 1) := by decide +kernel
theorem d_MO_tick_125 : decode c_MO_tick 125 = .ok (.getfield 144, 3) := by decide +kernel
theorem d_MO_tick_128 : decode c_MO_tick 128 = .ok (.if_icmp .gt 10, 3) := by decide +kernel
theorem d_MO_tick_131 : decode c_MO_tick 131 = .ok (.aload_n 0, 1) := by decide +kernel
theorem d_MO_tick_132 : decode c_MO_tick 132 = .ok (.getfield 26, 3) := by decide +kernel
theorem d_MO_tick_135 : decode c_MO_tick 135 = .ok (.iload_n 2, 1) := by decide +kernel
theorem d_MO_tick_136 : decode c_MO_tick 136 = .ok (.iconst 4, 1) := by decide +kernel
theorem d_MO_tick_137 : decode c_MO_tick 137 = .ok (.iastore, 1) := by decide +kernel
theorem d_MO_tick_138 : decode c_MO_tick 138 = .ok (.iinc 2 1, 3) := by decide +kernel
theorem d_MO_tick_141 : decode c_MO_tick 141 = .ok (.goto (-41), 3) := by decide +kernel
theorem d_MO_tick_144 : decode c_MO_tick 144 = .ok (.aload_n 0, 1) := by decide +kernel
theorem d_MO_tick_145 : decode c_MO_tick 145 = .ok (.invokevirtual 166, 3) := by decide +kernel
theorem d_MO_tick_148 : decode c_MO_tick 148 = .ok (.aload_n 0, 1) := by decide +kernel
theorem d_MO_tick_149 : decode c_MO_tick 149 = .ok (.getfield 144, 3) := by decide +kernel
theorem d_MO_tick_152 : decode c_MO_tick 152 = .ok (.ireturn, 1) := by decide +kernel
def wq_MO_tick_100 (post : Int32 → ST → Int64 → Prop) : Nat → Int32 → ST → Int64 → Prop
  | 0 => fun _ _ _ => False
  | n + 1 => fun v2 X Y => (((X 3 0) ≤ v2 → wp_MO_settle (fun (X2 : ST) (Y3 : Int64) => post (X2 1 0) X2 Y3) X Y) ∧ (¬ (X 3 0) ≤ v2 → (vp_in v2 12 ∧ (((2 : Int32) ≤ (X 20 v2.toNatClampNeg) → wq_MO_tick_100 post n (v2 + (1 : Int32)) X Y) ∧ (¬ (2 : Int32) ≤ (X 20 v2.toNatClampNeg) → (((X 1 0) < (X 23 v2.toNatClampNeg) → wq_MO_tick_100 post n (v2 + (1 : Int32)) X Y) ∧ (¬ (X 1 0) < (X 23 v2.toNatClampNeg) → wq_MO_tick_100 post n (v2 + (1 : Int32)) (up X 20 v2.toNatClampNeg (4 : Int32)) Y)))))))
def wq_MO_tick_41 (post : Int32 → ST → Int64 → Prop) : Nat → Int32 → ST → Int64 → Prop
  | 0 => fun _ _ _ => False
  | n + 1 => fun v2 X Y => (((X 4 0) ≤ v2 → (∃ n9, wq_MO_tick_100 post n9 (0 : Int32) X Y)) ∧ (¬ (X 4 0) ≤ v2 → (vp_in v2 24 ∧ (((2 : Int32) ≤ (X 30 v2.toNatClampNeg) → wq_MO_tick_41 post n (v2 + (1 : Int32)) X Y) ∧ (¬ (2 : Int32) ≤ (X 30 v2.toNatClampNeg) → (((X 1 0) < (X 33 v2.toNatClampNeg) → wq_MO_tick_41 post n (v2 + (1 : Int32)) X Y) ∧ (¬ (X 1 0) < (X 33 v2.toNatClampNeg) → (((X 30 v2.toNatClampNeg) = 0 → wq_MO_tick_41 post n (v2 + (1 : Int32)) (up X 30 v2.toNatClampNeg (2 : Int32)) Y) ∧ (¬ (X 30 v2.toNatClampNeg) = 0 → wq_MO_tick_41 post n (v2 + (1 : Int32)) (up X 30 v2.toNatClampNeg (4 : Int32)) Y)))))))))
def wq_MO_tick_17 (post : Int32 → ST → Int64 → Prop) (s0 : Int32) (v1 : Int32) (X : ST) (Y : Int64) : Prop := ((s0 = 0 → (∃ n9, wq_MO_tick_41 post n9 (0 : Int32) (up (up X 90 0 s0) 1 0 ((X 1 0) + v1)) Y)) ∧ (¬ s0 = 0 → post (0 : Int32) (up X 90 0 s0) Y))
def wp_MO_tick (post : Int32 → ST → Int64 → Prop) (X : ST) (Y : Int64) (a1 : Int32) : Prop := ((a1 < 0 → wq_MO_tick_17 post (1 : Int32) a1 X Y) ∧ (¬ a1 < 0 → ((a1 ≤ (1000 : Int32) → wq_MO_tick_17 post (0 : Int32) a1 X Y) ∧ (¬ a1 ≤ (1000 : Int32) → wq_MO_tick_17 post (1 : Int32) a1 X Y))))
set_option maxHeartbeats 4000000 in
set_option maxRecDepth 100000 in
theorem mt_MO_tick (l : Launch) (hl9 : l.stackTraces = false) (dC : Nat → ClassId) (dI : Nat → Nat → Nat) (cA : Nat → ClassId) (ad : Nat → Nat) (hI : INJ ad 23) (sz : Nat) {X : ST} {Y : Int64} {a1 : Int32} {post : Int32 → ST → Int64 → Prop} (hw : wp_MO_tick post X Y a1) : Met l y_MO_tick ws_MO_tick ({ frames := 1, cells := 0, slots := 0, locals := 25 } : Room) (va_Pc [.ref (ad 0), .int a1] (fun U => PM dC dI cA ad sz X Y U)) (va_Qi (fun r (u : ST × Int64) => post r u.1 u.2) (fun (u : ST × Int64) t => va_P (dC, dI) vwCl (wdM cA ad u.1 u.2) t.heap) (CA ad 23 sz)) 0 0 (CA ad 23 sz) := by
  refine Met.ofW (cc := c_MO_tick) (maxL := 3) (ret := (some .int)) (by decide) rfl ?_
  intro p e s m args below meth c s₁ B hml hv
  obtain ⟨rfl, hsz, hP, hG⟩ := hv
  have hx := B.exec
  have hb := B.bytes
  have hr := B.returns
  have hts : ∀ w ∈ GW, w.before (([.ref (ad 0), .int a1] : List Value).toArray) s = true := fun w h => atoms_spec (ws := ws_MO_tick) B.pre w (List.mem_cons_of_mem _ h)
  have hown : s.vm.findClass R_MO = some m.cls := findClass_of_methodNamed B.named
  have hlocks := B.notSynchronized
  subst hsz
  have hK := hG.1
  have hG9 := hG
  have hNW := hG.2
  have hD0 : ∀ (X : ST) (Y : Int64), va_D (CA ad 23 s.heap.size) (wdM cA ad X Y) := fun _ _ => zwM_D hI
  have hS : va_S (CA ad 23 s.heap.size) s.heap s.heap [] := va_S.rf
  have hl := lv_entry ([.ref (ad 0), .int a1]) (n := 3) (Nat.le_of_ble_eq_true rfl)
  rw [lg_entry_eq]
  generalize (lg_sl ([.ref (ad 0), .int a1]) ++ List.replicate (3 - (lg_sl ([.ref (ad 0), .int a1])).length) Slot.unset).toArray = ls at hl ⊢
  have hl : lv_has ls 3 [(0, .ref (ad 0)), (1, .int a1)] := hl
  have L100 : ∀ (n : Nat), ∀ (v2 : Int32) (X : ST) (Y : Int64) (H : Heap) (locs : List Loc) (ls : Array Slot), wq_MO_tick_100 post n v2 X Y → va_P (dC, dI) vwCl (wdM cA ad X Y) H → va_S (CA ad 23 s.heap.size) s.heap H locs → lv_has ls 3 [(0, .ref (ad 0)), (2, .int v2)] → W p l e (headSpec ws_MO_tick ({ frames := 1, cells := 0, slots := 0, locals := 25 } : Room)).room s m (([.ref (ad 0), .int a1] : List Value).toArray) below meth c H locs 0 0 (MQ below (va_Qi (fun r (u : ST × Int64) => post r u.1 u.2) (fun (u : ST × Int64) t => va_P (dC, dI) vwCl (wdM cA ad u.1 u.2) t.heap) (CA ad 23 s.heap.size)) (([.ref (ad 0), .int a1] : List Value).toArray) s 0 0 (CA ad 23 s.heap.size)) (F0 m 100 ls []) := by
    intro n
    induction n with
    | zero => intro v2 X Y H locs ls hw hP hS hl; exact False.elim hw
    | succ n ih =>
      intro v2 X Y H locs ls hw hP hS hl
      dsimp only [wq_MO_tick_100] at hw
      refine lv_iload_n hx hb d_MO_tick_100 rfl (lv_at hl 1 rfl) ?_
      refine lv_aload_n hx hb d_MO_tick_101 rfl (lv_at hl 0 rfl) ?_
      refine va_get (D := (dC, dI)) (ci := 9) (v := .int (X 3 0)) (C := R_MO) (T := T_MO) (N := 36) hx hb hts in_MO hown hK hP (0) atM_MO rfl 6 (by decide) (hts _ gw_349) (fun _ h9 => h9) rfl d_MO_tick_102 ?_
      refine lv_icmp_ge (tgt := 144) hx hb d_MO_tick_105 (by decide) (fun c1 => ?_) (fun c1 => ?_)
      · have hw := hw.1 c1
        refine lv_aload_n hx hb d_MO_tick_144 rfl (lv_at hl 0 rfl) ?_
        refine va_callv (va_runV (As := []) (rest := []) ⟨hx, hb, hml, hown, hts⟩ (mt_MO_settle l hl9 dC dI cA ad hI _ hw) (cwV 0 hts (gV gw_366 gw_367 gw_368 gw_306 gw_365) rfl rfl rfl (by decide +kernel) ⟨Nat.le_of_ble_eq_true rfl, Nat.le_of_ble_eq_true rfl⟩) ⟨zwM_blind, va_recv hK hP (ci := 9) (q0 := 0) rfl atM_MO, zwM_pre hP hS hG9⟩ rfl rfl hl.1 rfl (lv_room (Nat.le_of_ble_eq_true rfl)) d_MO_tick_145 ⟨Nat.le_of_ble_eq_true rfl, Nat.le_of_ble_eq_true rfl⟩) hS (fun q _ h => CA_le hS.1 q h) (fun q h => CA_le hS.1 q h) (fun u9 t H locs ht hvm hw hP hz1 hk1 hS => ?_)
        obtain ⟨X2, Y3⟩ := u9
        have hP : va_P (dC, dI) vwCl (wdM cA ad X2 Y3) H := by rw [← ht]; exact hP
        try dsimp only at hw
        refine lv_aload_n hx hb d_MO_tick_148 rfl (lv_at hl 0 rfl) ?_
        refine va_get (D := (dC, dI)) (ci := 9) (v := .int (X2 1 0)) (C := R_MO) (T := T_MO) (N := 36) hx hb hts in_MO hown hK hP (0) atM_MO rfl 2 (by decide) (hts _ gw_360) (fun _ h9 => h9) rfl d_MO_tick_149 ?_
        exact W.iret (v := X2 1 0) hx hb hr (fun t ht _ => ⟨⟨X2 1 0, (X2, Y3), rfl, hw, by show va_P _ _ _ t.heap; rw [ht]; exact hP⟩, hS.F ht⟩) hS.2.2 d_MO_tick_152
      · have hw := hw.2 c1
        refine lv_aload_n hx hb d_MO_tick_108 rfl (lv_at hl 0 rfl) ?_
        refine va_get (D := (dC, dI)) (ci := 9) (v := .ref (ad 6)) (C := R_MO) (T := T_MO) (N := 36) hx hb hts in_MO hown hK hP (0) atM_MO rfl 10 (by decide) (hts _ gw_345) (fun _ h9 => h9) rfl d_MO_tick_109 ?_
        refine lv_iload_n hx hb d_MO_tick_112 rfl (lv_at hl 1 rfl) ?_
        obtain ⟨h5, hw⟩ := hw
        refine va_iald hx hb hK hP (6) 5 atM_orderState rfl h5 d_MO_tick_113 ?_
        refine lv_iconst (v := (2 : Int32)) hx hb d_MO_tick_114 (by decide) ?_
        refine lv_icmp_ge (tgt := 138) hx hb d_MO_tick_115 (by decide) (fun c6 => ?_) (fun c6 => ?_)
        · have hw := hw.1 c6
          refine lv_iinc (k := 1) (v := v2 + (1 : Int32)) (lv' := [(2, .int (v2 + (1 : Int32))), (0, .ref (ad 0))]) hx hb d_MO_tick_138 hl rfl rfl (by decide) rfl (fun ls hl => ?_)
          refine lv_goto (tgt := 100) hx hb d_MO_tick_141 (by decide) ?_
          have hl := lv_sub hl (l' := [(0, .ref (ad 0)), (2, .int (v2 + (1 : Int32)))]) [1, 0] rfl
          exact ih _ _ _ _ _ _ hw hP hS hl
        · have hw := hw.2 c6
          refine lv_aload_n hx hb d_MO_tick_118 rfl (lv_at hl 0 rfl) ?_
          refine va_get (D := (dC, dI)) (ci := 9) (v := .ref (ad 5)) (C := R_MO) (T := T_MO) (N := 36) hx hb hts in_MO hown hK hP (0) atM_MO rfl 9 (by decide) (hts _ gw_375) (fun _ h9 => h9) rfl d_MO_tick_119 ?_
          refine lv_iload_n hx hb d_MO_tick_122 rfl (lv_at hl 1 rfl) ?_
          refine va_iald hx hb hK hP (5) 4 atM_orderEnds rfl h5 d_MO_tick_123 ?_
          refine lv_aload_n hx hb d_MO_tick_124 rfl (lv_at hl 0 rfl) ?_
          refine va_get (D := (dC, dI)) (ci := 9) (v := .int (X 1 0)) (C := R_MO) (T := T_MO) (N := 36) hx hb hts in_MO hown hK hP (0) atM_MO rfl 2 (by decide) (hts _ gw_360) (fun _ h9 => h9) rfl d_MO_tick_125 ?_
          refine lv_icmp_gt (tgt := 138) hx hb d_MO_tick_128 (by decide) (fun c7 => ?_) (fun c7 => ?_)
          · have hw := hw.1 c7
            refine lv_iinc (k := 1) (v := v2 + (1 : Int32)) (lv' := [(2, .int (v2 + (1 : Int32))), (0, .ref (ad 0))]) hx hb d_MO_tick_138 hl rfl rfl (by decide) rfl (fun ls hl => ?_)
            refine lv_goto (tgt := 100) hx hb d_MO_tick_141 (by decide) ?_
            have hl := lv_sub hl (l' := [(0, .ref (ad 0)), (2, .int (v2 + (1 : Int32)))]) [1, 0] rfl
            exact ih _ _ _ _ _ _ hw hP hS hl
          · have hw := hw.2 c7
            refine lv_aload_n hx hb d_MO_tick_131 rfl (lv_at hl 0 rfl) ?_
            refine va_get (D := (dC, dI)) (ci := 9) (v := .ref (ad 6)) (C := R_MO) (T := T_MO) (N := 36) hx hb hts in_MO hown hK hP (0) atM_MO rfl 10 (by decide) (hts _ gw_345) (fun _ h9 => h9) rfl d_MO_tick_132 ?_
            refine lv_iload_n hx hb d_MO_tick_135 rfl (lv_at hl 1 rfl) ?_
            refine lv_iconst (v := (4 : Int32)) hx hb d_MO_tick_136 (by decide) ?_
            refine va_iast hx hb hK hP (hD0 _ _) hS (6) 5 atM_orderState rfl h5 d_MO_tick_137 (fun H locs hP _ hS => ?_)
            have hP : va_P (dC, dI) vwCl (wdM cA ad (up X 20 v2.toNatClampNeg (4 : Int32)) Y) H := by rw [← stM_orderState]; exact hP
            refine lv_iinc (k := 1) (v := v2 + (1 : Int32)) (lv' := [(2, .int (v2 + (1 : Int32))), (0, .ref (ad 0))]) hx hb d_MO_tick_138 hl rfl rfl (by decide) rfl (fun ls hl => ?_)
            refine lv_goto (tgt := 100) hx hb d_MO_tick_141 (by decide) ?_
            have hl := lv_sub hl (l' := [(0, .ref (ad 0)), (2, .int (v2 + (1 : Int32)))]) [1, 0] rfl
            exact ih _ _ _ _ _ _ hw hP hS hl
  have L41 : ∀ (n : Nat), ∀ (v2 : Int32) (X : ST) (Y : Int64) (H : Heap) (locs : List Loc) (ls : Array Slot), wq_MO_tick_41 post n v2 X Y → va_P (dC, dI) vwCl (wdM cA ad X Y) H → va_S (CA ad 23 s.heap.size) s.heap H locs → lv_has ls 3 [(0, .ref (ad 0)), (2, .int v2)] → W p l e (headSpec ws_MO_tick ({ frames := 1, cells := 0, slots := 0, locals := 25 } : Room)).room s m (([.ref (ad 0), .int a1] : List Value).toArray) below meth c H locs 0 0 (MQ below (va_Qi (fun r (u : ST × Int64) => post r u.1 u.2) (fun (u : ST × Int64) t => va_P (dC, dI) vwCl (wdM cA ad u.1 u.2) t.heap) (CA ad 23 s.heap.size)) (([.ref (ad 0), .int a1] : List Value).toArray) s 0 0 (CA ad 23 s.heap.size)) (F0 m 41 ls []) := by
    intro n
    induction n with
    | zero => intro v2 X Y H locs ls hw hP hS hl; exact False.elim hw
    | succ n ih =>
      intro v2 X Y H locs ls hw hP hS hl
      dsimp only [wq_MO_tick_41] at hw
      refine lv_iload_n hx hb d_MO_tick_41 rfl (lv_at hl 1 rfl) ?_
      refine lv_aload_n hx hb d_MO_tick_42 rfl (lv_at hl 0 rfl) ?_
      refine va_get (D := (dC, dI)) (ci := 9) (v := .int (X 4 0)) (C := R_MO) (T := T_MO) (N := 36) hx hb hts in_MO hown hK hP (0) atM_MO rfl 14 (by decide) (hts _ gw_350) (fun _ h9 => h9) rfl d_MO_tick_43 ?_
      refine lv_icmp_ge (tgt := 98) hx hb d_MO_tick_46 (by decide) (fun c8 => ?_) (fun c8 => ?_)
      · have hw := hw.1 c8
        refine lv_iconst (v := (0 : Int32)) hx hb d_MO_tick_98 (by decide) ?_
        refine lv_istore_n (lv' := [(2, .int (0 : Int32)), (0, .ref (ad 0))]) hx hb d_MO_tick_99 rfl hl (by decide) rfl (fun ls hl => ?_)
        have hl := lv_sub hl (l' := [(0, .ref (ad 0)), (2, .int (0 : Int32))]) [1, 0] rfl
        obtain ⟨n9, hw⟩ := hw
        exact L100 n9 _ _ _ _ _ _ hw hP hS hl
      · have hw := hw.2 c8
        refine lv_aload_n hx hb d_MO_tick_49 rfl (lv_at hl 0 rfl) ?_
        refine va_get (D := (dC, dI)) (ci := 9) (v := .ref (ad 13)) (C := R_MO) (T := T_MO) (N := 36) hx hb hts in_MO hown hK hP (0) atM_MO rfl 18 (by decide) (hts _ gw_347) (fun _ h9 => h9) rfl d_MO_tick_50 ?_
        refine lv_iload_n hx hb d_MO_tick_53 rfl (lv_at hl 1 rfl) ?_
        obtain ⟨h9, hw⟩ := hw
        refine va_iald hx hb hK hP (13) 12 atM_authState rfl h9 d_MO_tick_54 ?_
        refine lv_iconst (v := (2 : Int32)) hx hb d_MO_tick_55 (by decide) ?_
        refine lv_icmp_ge (tgt := 92) hx hb d_MO_tick_56 (by decide) (fun c10 => ?_) (fun c10 => ?_)
        · have hw := hw.1 c10
          refine lv_iinc (k := 1) (v := v2 + (1 : Int32)) (lv' := [(2, .int (v2 + (1 : Int32))), (0, .ref (ad 0))]) hx hb d_MO_tick_92 hl rfl rfl (by decide) rfl (fun ls hl => ?_)
          refine lv_goto (tgt := 41) hx hb d_MO_tick_95 (by decide) ?_
          have hl := lv_sub hl (l' := [(0, .ref (ad 0)), (2, .int (v2 + (1 : Int32)))]) [1, 0] rfl
          exact ih _ _ _ _ _ _ hw hP hS hl
        · have hw := hw.2 c10
          refine lv_aload_n hx hb d_MO_tick_59 rfl (lv_at hl 0 rfl) ?_
          refine va_get (D := (dC, dI)) (ci := 9) (v := .ref (ad 12)) (C := R_MO) (T := T_MO) (N := 36) hx hb hts in_MO hown hK hP (0) atM_MO rfl 17 (by decide) (hts _ gw_359) (fun _ h9 => h9) rfl d_MO_tick_60 ?_
          refine lv_iload_n hx hb d_MO_tick_63 rfl (lv_at hl 1 rfl) ?_
          refine va_iald hx hb hK hP (12) 11 atM_authEnds rfl h9 d_MO_tick_64 ?_
          refine lv_aload_n hx hb d_MO_tick_65 rfl (lv_at hl 0 rfl) ?_
          refine va_get (D := (dC, dI)) (ci := 9) (v := .int (X 1 0)) (C := R_MO) (T := T_MO) (N := 36) hx hb hts in_MO hown hK hP (0) atM_MO rfl 2 (by decide) (hts _ gw_360) (fun _ h9 => h9) rfl d_MO_tick_66 ?_
          refine lv_icmp_gt (tgt := 92) hx hb d_MO_tick_69 (by decide) (fun c11 => ?_) (fun c11 => ?_)
          · have hw := hw.1 c11
            refine lv_iinc (k := 1) (v := v2 + (1 : Int32)) (lv' := [(2, .int (v2 + (1 : Int32))), (0, .ref (ad 0))]) hx hb d_MO_tick_92 hl rfl rfl (by decide) rfl (fun ls hl => ?_)
            refine lv_goto (tgt := 41) hx hb d_MO_tick_95 (by decide) ?_
            have hl := lv_sub hl (l' := [(0, .ref (ad 0)), (2, .int (v2 + (1 : Int32)))]) [1, 0] rfl
            exact ih _ _ _ _ _ _ hw hP hS hl
          · have hw := hw.2 c11
            refine lv_aload_n hx hb d_MO_tick_72 rfl (lv_at hl 0 rfl) ?_
            refine va_get (D := (dC, dI)) (ci := 9) (v := .ref (ad 13)) (C := R_MO) (T := T_MO) (N := 36) hx hb hts in_MO hown hK hP (0) atM_MO rfl 18 (by decide) (hts _ gw_347) (fun _ h9 => h9) rfl d_MO_tick_73 ?_
            refine lv_iload_n hx hb d_MO_tick_76 rfl (lv_at hl 1 rfl) ?_
            refine lv_aload_n hx hb d_MO_tick_77 rfl (lv_at hl 0 rfl) ?_
            refine va_get (D := (dC, dI)) (ci := 9) (v := .ref (ad 13)) (C := R_MO) (T := T_MO) (N := 36) hx hb hts in_MO hown hK hP (0) atM_MO rfl 18 (by decide) (hts _ gw_347) (fun _ h9 => h9) rfl d_MO_tick_78 ?_
            refine lv_iload_n hx hb d_MO_tick_81 rfl (lv_at hl 1 rfl) ?_
            refine va_iald hx hb hK hP (13) 12 atM_authState rfl h9 d_MO_tick_82 ?_
            refine lv_if_ne (tgt := 90) hx hb d_MO_tick_83 (by decide) (fun c12 => ?_) (fun c12 => ?_)
            · have hw := hw.2 c12
              refine lv_iconst (v := (4 : Int32)) hx hb d_MO_tick_90 (by decide) ?_
              refine va_iast hx hb hK hP (hD0 _ _) hS (13) 12 atM_authState rfl h9 d_MO_tick_91 (fun H locs hP _ hS => ?_)
              have hP : va_P (dC, dI) vwCl (wdM cA ad (up X 30 v2.toNatClampNeg (4 : Int32)) Y) H := by rw [← stM_authState]; exact hP
              refine lv_iinc (k := 1) (v := v2 + (1 : Int32)) (lv' := [(2, .int (v2 + (1 : Int32))), (0, .ref (ad 0))]) hx hb d_MO_tick_92 hl rfl rfl (by decide) rfl (fun ls hl => ?_)
              refine lv_goto (tgt := 41) hx hb d_MO_tick_95 (by decide) ?_
              have hl := lv_sub hl (l' := [(0, .ref (ad 0)), (2, .int (v2 + (1 : Int32)))]) [1, 0] rfl
              exact ih _ _ _ _ _ _ hw hP hS hl
            · have hw := hw.1 c12
              refine lv_iconst (v := (2 : Int32)) hx hb d_MO_tick_86 (by decide) ?_
              refine lv_goto (tgt := 91) hx hb d_MO_tick_87 (by decide) ?_
              refine va_iast hx hb hK hP (hD0 _ _) hS (13) 12 atM_authState rfl h9 d_MO_tick_91 (fun H locs hP _ hS => ?_)
              have hP : va_P (dC, dI) vwCl (wdM cA ad (up X 30 v2.toNatClampNeg (2 : Int32)) Y) H := by rw [← stM_authState]; exact hP
              refine lv_iinc (k := 1) (v := v2 + (1 : Int32)) (lv' := [(2, .int (v2 + (1 : Int32))), (0, .ref (ad 0))]) hx hb d_MO_tick_92 hl rfl rfl (by decide) rfl (fun ls hl => ?_)
              refine lv_goto (tgt := 41) hx hb d_MO_tick_95 (by decide) ?_
              have hl := lv_sub hl (l' := [(0, .ref (ad 0)), (2, .int (v2 + (1 : Int32)))]) [1, 0] rfl
              exact ih _ _ _ _ _ _ hw hP hS hl
  have L17 : ∀ (s0 : Int32) (v1 : Int32) (X : ST) (Y : Int64) (H : Heap) (locs : List Loc) (ls : Array Slot), wq_MO_tick_17 post s0 v1 X Y → va_P (dC, dI) vwCl (wdM cA ad X Y) H → va_S (CA ad 23 s.heap.size) s.heap H locs → lv_has ls 3 [(0, .ref (ad 0)), (1, .int v1)] → W p l e (headSpec ws_MO_tick ({ frames := 1, cells := 0, slots := 0, locals := 25 } : Room)).room s m (([.ref (ad 0), .int a1] : List Value).toArray) below meth c H locs 0 0 (MQ below (va_Qi (fun r (u : ST × Int64) => post r u.1 u.2) (fun (u : ST × Int64) t => va_P (dC, dI) vwCl (wdM cA ad u.1 u.2) t.heap) (CA ad 23 s.heap.size)) (([.ref (ad 0), .int a1] : List Value).toArray) s 0 0 (CA ad 23 s.heap.size)) (F0 m 17 ls [.int s0, .ref (ad 0)]) := by
    intro s0 v1 X Y H locs ls hw hP hS hl
    unfold wq_MO_tick_17 at hw
    refine va_put (D := (dC, dI)) (ci := 9) (v := .int s0) (ty := .int) (C := R_MO) (T := T_MO) (N := 36) hx hb hts in_MO ty_MO ty_MO_ok nm_MO hown hK hP (hD0 _ _) hS (0) atM_MO rfl 0 (by decide) (hts _ gw_297) (fun _ h9 => h9) rfl (by decide +kernel) rfl rfl (Nat.le_of_ble_eq_true rfl) d_MO_tick_17 (fun H locs hP _ hS => ?_)
    have hP : va_P (dC, dI) vwCl (wdM cA ad (up X 90 0 s0) Y) H := by rw [← stM_MO_0]; exact hP
    refine lv_aload_n hx hb d_MO_tick_20 rfl (lv_at hl 0 rfl) ?_
    refine va_get (D := (dC, dI)) (ci := 9) (v := .int s0) (C := R_MO) (T := T_MO) (N := 36) hx hb hts in_MO hown hK hP (0) atM_MO rfl 0 (by decide) (hts _ gw_297) (fun _ h9 => h9) rfl d_MO_tick_21 ?_
    refine lv_if_eq (tgt := 29) hx hb d_MO_tick_24 (by decide) (fun c13 => ?_) (fun c13 => ?_)
    · have hw := hw.1 c13
      refine lv_aload_n hx hb d_MO_tick_29 rfl (lv_at hl 0 rfl) ?_
      refine lv_aload_n hx hb d_MO_tick_30 rfl (lv_at hl 0 rfl) ?_
      refine va_get (D := (dC, dI)) (ci := 9) (v := .int (X 1 0)) (C := R_MO) (T := T_MO) (N := 36) hx hb hts in_MO hown hK hP (0) atM_MO rfl 2 (by decide) (hts _ gw_360) (fun _ h9 => h9) rfl d_MO_tick_31 ?_
      refine lv_iload_n hx hb d_MO_tick_34 rfl (lv_at hl 1 rfl) ?_
      refine lv_iadd hx hb d_MO_tick_35 ?_
      refine va_put (D := (dC, dI)) (ci := 9) (v := .int ((X 1 0) + v1)) (ty := .int) (C := R_MO) (T := T_MO) (N := 36) hx hb hts in_MO ty_MO ty_MO_ok nm_MO hown hK hP (hD0 _ _) hS (0) atM_MO rfl 2 (by decide) (hts _ gw_360) (fun _ h9 => h9) rfl (by decide +kernel) rfl rfl (Nat.le_of_ble_eq_true rfl) d_MO_tick_36 (fun H locs hP _ hS => ?_)
      have hP : va_P (dC, dI) vwCl (wdM cA ad (up (up X 90 0 s0) 1 0 ((X 1 0) + v1)) Y) H := by rw [← stM_MO_2]; exact hP
      refine lv_iconst (v := (0 : Int32)) hx hb d_MO_tick_39 (by decide) ?_
      refine lv_istore_n (lv' := [(2, .int (0 : Int32)), (0, .ref (ad 0)), (1, .int v1)]) hx hb d_MO_tick_40 rfl hl (by decide) rfl (fun ls hl => ?_)
      have hl := lv_sub hl (l' := [(0, .ref (ad 0)), (2, .int (0 : Int32))]) [1, 0] rfl
      obtain ⟨n9, hw⟩ := hw
      exact L41 n9 _ _ _ _ _ _ hw hP hS hl
    · have hw := hw.2 c13
      refine lv_iconst (v := (0 : Int32)) hx hb d_MO_tick_27 (by decide) ?_
      exact W.iret (v := (0 : Int32)) hx hb hr (fun t ht _ => ⟨⟨(0 : Int32), (up X 90 0 s0, Y), rfl, hw, by show va_P _ _ _ t.heap; rw [ht]; exact hP⟩, hS.F ht⟩) hS.2.2 d_MO_tick_28
  unfold wp_MO_tick at hw
  refine lv_aload_n hx hb d_MO_tick_0 rfl (lv_at hl 0 rfl) ?_
  refine lv_iload_n hx hb d_MO_tick_1 rfl (lv_at hl 1 rfl) ?_
  refine lv_if_lt (tgt := 12) hx hb d_MO_tick_2 (by decide) (fun c14 => ?_) (fun c14 => ?_)
  · have hw := hw.1 c14
    refine lv_iconst (v := (1 : Int32)) hx hb d_MO_tick_12 (by decide) ?_
    refine lv_goto (tgt := 17) hx hb d_MO_tick_13 (by decide) ?_
    have hl := lv_sub hl (l' := [(0, .ref (ad 0)), (1, .int a1)]) [0, 1] rfl
    exact L17 _ _ _ _ _ _ _ hw hP hS hl
  · have hw := hw.2 c14
    refine lv_iload_n hx hb d_MO_tick_5 rfl (lv_at hl 1 rfl) ?_
    refine lv_sipush (v := (1000 : Int32)) hx hb d_MO_tick_6 (by decide) ?_
    refine lv_icmp_le (tgt := 16) hx hb d_MO_tick_9 (by decide) (fun c15 => ?_) (fun c15 => ?_)
    · have hw := hw.1 c15
      refine lv_iconst (v := (0 : Int32)) hx hb d_MO_tick_16 (by decide) ?_
      have hl := lv_sub hl (l' := [(0, .ref (ad 0)), (1, .int a1)]) [0, 1] rfl
      exact L17 _ _ _ _ _ _ _ hw hP hS hl
    · have hw := hw.2 c15
      refine lv_iconst (v := (1 : Int32)) hx hb d_MO_tick_12 (by decide) ?_
      refine lv_goto (tgt := 17) hx hb d_MO_tick_13 (by decide) ?_
      have hl := lv_sub hl (l' := [(0, .ref (ad 0)), (1, .int a1)]) [0, 1] rfl
      exact L17 _ _ _ _ _ _ _ hw hP hS hl
def ws_MO_counted : List Cond := Cond.code y_MO_counted c_MO_counted 2 (Option.some Jvm.ClassFile.FieldType.int) :: GW
theorem d_MO_counted_0 : decode c_MO_counted 0 = .ok (.iload_n 1, 1) := by decide +kernel
theorem d_MO_counted_1 : decode c_MO_counted 1 = .ok (.ifCond .ne 10, 3) := by decide +kernel
theorem d_MO_counted_4 : decode c_MO_counted 4 = .ok (.aload_n 0, 1) := by decide +kernel
theorem d_MO_counted_5 : decode c_MO_counted 5 = .ok (.getfield 120, 3) := by decide +kernel
theorem d_MO_counted_8 : decode c_MO_counted 8 = .ok (.goto 40, 3) := by decide +kernel
theorem d_MO_counted_11 : decode c_MO_counted 11 = .ok (.iload_n 1, 1) := by decide +kernel
theorem d_MO_counted_12 : decode c_MO_counted 12 = .ok (.iconst 1, 1) := by decide +kernel
theorem d_MO_counted_13 : decode c_MO_counted 13 = .ok (.if_icmp .ne 10, 3) := by decide +kernel
theorem d_MO_counted_16 : decode c_MO_counted 16 = .ok (.aload_n 0, 1) := by decide +kernel
theorem d_MO_counted_17 : decode c_MO_counted 17 = .ok (.getfield 134, 3) := by decide +kernel
theorem d_MO_counted_20 : decode c_MO_counted 20 = .ok (.goto 28, 3) := by decide +kernel
theorem d_MO_counted_23 : decode c_MO_counted 23 = .ok (.iload_n 1, 1) := by decide +kernel
theorem d_MO_counted_24 : decode c_MO_counted 24 = .ok (.iconst 2, 1) := by decide +kernel
theorem d_MO_counted_25 : decode c_MO_counted 25 = .ok (.if_icmp .ne 10, 3) := by decide +kernel
theorem d_MO_counted_28 : decode c_MO_counted 28 = .ok (.aload_n 0, 1) := by decide +kernel
theorem d_MO_counted_29 : decode c_MO_counted 29 = .ok (.getfield 137, 3) := by decide +kernel
theorem d_MO_counted_32 : decode c_MO_counted 32 = .ok (.goto 16, 3) := by decide +kernel
theorem d_MO_counted_35 : decode c_MO_counted 35 = .ok (.iload_n 1, 1) := by decide +kernel
theorem d_MO_counted_36 : decode c_MO_counted 36 = .ok (.iconst 4, 1) := by decide +kernel
theorem d_MO_counted_37 : decode c_MO_counted 37 = .ok (.if_icmp .ne 10, 3) := by decide +kernel
theorem d_MO_counted_40 : decode c_MO_counted 40 = .ok (.aload_n 0, 1) := by decide +kernel
theorem d_MO_counted_41 : decode c_MO_counted 41 = .ok (.getfield 206, 3) := by decide +kernel
theorem d_MO_counted_44 : decode c_MO_counted 44 = .ok (.goto 4, 3) := by decide +kernel
theorem d_MO_counted_47 : decode c_MO_counted 47 = .ok (.iconst 0, 1) := by decide +kernel
theorem d_MO_counted_48 : decode c_MO_counted 48 = .ok (.ireturn, 1) := by decide +kernel
def wp_MO_counted (post : Int32 → ST → Int64 → Prop) (X : ST) (Y : Int64) (a1 : Int32) : Prop := ((a1 = 0 → post (X 2 0) X Y) ∧ (¬ a1 = 0 → ((a1 = (1 : Int32) → post (X 3 0) X Y) ∧ (¬ a1 = (1 : Int32) → ((a1 = (2 : Int32) → post (X 4 0) X Y) ∧ (¬ a1 = (2 : Int32) → ((a1 = (4 : Int32) → post (X 5 0) X Y) ∧ (¬ a1 = (4 : Int32) → post (0 : Int32) X Y))))))))
set_option maxHeartbeats 4000000 in
set_option maxRecDepth 100000 in
theorem mt_MO_counted (l : Launch) (hl9 : l.stackTraces = false) (dC : Nat → ClassId) (dI : Nat → Nat → Nat) (cA : Nat → ClassId) (ad : Nat → Nat) (hI : INJ ad 23) (sz : Nat) {X : ST} {Y : Int64} {a1 : Int32} {post : Int32 → ST → Int64 → Prop} (hw : wp_MO_counted post X Y a1) : Met l y_MO_counted ws_MO_counted ({ frames := 0, cells := 0, slots := 0, locals := 0 } : Room) (va_Pc [.ref (ad 0), .int a1] (fun U => PM dC dI cA ad sz X Y U)) (va_Qi (fun r (u : ST × Int64) => post r u.1 u.2) (fun (u : ST × Int64) t => va_P (dC, dI) vwCl (wdM cA ad u.1 u.2) t.heap) (CA ad 23 sz)) 0 0 (CA ad 23 sz) := by
  refine Met.ofW (cc := c_MO_counted) (maxL := 2) (ret := (some .int)) (by decide) rfl ?_
  intro p e s m args below meth c s₁ B hml hv
  obtain ⟨rfl, hsz, hP, hG⟩ := hv
  have hx := B.exec
  have hb := B.bytes
  have hr := B.returns
  have hts : ∀ w ∈ GW, w.before (([.ref (ad 0), .int a1] : List Value).toArray) s = true := fun w h => atoms_spec (ws := ws_MO_counted) B.pre w (List.mem_cons_of_mem _ h)
  have hown : s.vm.findClass R_MO = some m.cls := findClass_of_methodNamed B.named
  have hlocks := B.notSynchronized
  subst hsz
  have hK := hG.1
  have hG9 := hG
  have hNW := hG.2
  have hD0 : ∀ (X : ST) (Y : Int64), va_D (CA ad 23 s.heap.size) (wdM cA ad X Y) := fun _ _ => zwM_D hI
  have hS : va_S (CA ad 23 s.heap.size) s.heap s.heap [] := va_S.rf
  have hl := lv_entry ([.ref (ad 0), .int a1]) (n := 2) (Nat.le_of_ble_eq_true rfl)
  rw [lg_entry_eq]
  generalize (lg_sl ([.ref (ad 0), .int a1]) ++ List.replicate (2 - (lg_sl ([.ref (ad 0), .int a1])).length) Slot.unset).toArray = ls at hl ⊢
  have hl : lv_has ls 2 [(0, .ref (ad 0)), (1, .int a1)] := hl
  unfold wp_MO_counted at hw
  refine lv_iload_n hx hb d_MO_counted_0 rfl (lv_at hl 1 rfl) ?_
  refine lv_if_ne (tgt := 11) hx hb d_MO_counted_1 (by decide) (fun c1 => ?_) (fun c1 => ?_)
  · have hw := hw.2 c1
    refine lv_iload_n hx hb d_MO_counted_11 rfl (lv_at hl 1 rfl) ?_
    refine lv_iconst (v := (1 : Int32)) hx hb d_MO_counted_12 (by decide) ?_
    refine lv_icmp_ne (tgt := 23) hx hb d_MO_counted_13 (by decide) (fun c2 => ?_) (fun c2 => ?_)
    · have hw := hw.2 c2
      refine lv_iload_n hx hb d_MO_counted_23 rfl (lv_at hl 1 rfl) ?_
      refine lv_iconst (v := (2 : Int32)) hx hb d_MO_counted_24 (by decide) ?_
      refine lv_icmp_ne (tgt := 35) hx hb d_MO_counted_25 (by decide) (fun c3 => ?_) (fun c3 => ?_)
      · have hw := hw.2 c3
        refine lv_iload_n hx hb d_MO_counted_35 rfl (lv_at hl 1 rfl) ?_
        refine lv_iconst (v := (4 : Int32)) hx hb d_MO_counted_36 (by decide) ?_
        refine lv_icmp_ne (tgt := 47) hx hb d_MO_counted_37 (by decide) (fun c4 => ?_) (fun c4 => ?_)
        · have hw := hw.2 c4
          refine lv_iconst (v := (0 : Int32)) hx hb d_MO_counted_47 (by decide) ?_
          exact W.iret (v := (0 : Int32)) hx hb hr (fun t ht _ => ⟨⟨(0 : Int32), (X, Y), rfl, hw, by show va_P _ _ _ t.heap; rw [ht]; exact hP⟩, hS.F ht⟩) hS.2.2 d_MO_counted_48
        · have hw := hw.1 c4
          refine lv_aload_n hx hb d_MO_counted_40 rfl (lv_at hl 0 rfl) ?_
          refine va_get (D := (dC, dI)) (ci := 9) (v := .int (X 5 0)) (C := R_MO) (T := T_MO) (N := 36) hx hb hts in_MO hown hK hP (0) atM_MO rfl 22 (by decide) (hts _ gw_426) (fun _ h9 => h9) rfl d_MO_counted_41 ?_
          refine lv_goto (tgt := 48) hx hb d_MO_counted_44 (by decide) ?_
          exact W.iret (v := X 5 0) hx hb hr (fun t ht _ => ⟨⟨X 5 0, (X, Y), rfl, hw, by show va_P _ _ _ t.heap; rw [ht]; exact hP⟩, hS.F ht⟩) hS.2.2 d_MO_counted_48
      · have hw := hw.1 c3
        refine lv_aload_n hx hb d_MO_counted_28 rfl (lv_at hl 0 rfl) ?_
        refine va_get (D := (dC, dI)) (ci := 9) (v := .int (X 4 0)) (C := R_MO) (T := T_MO) (N := 36) hx hb hts in_MO hown hK hP (0) atM_MO rfl 14 (by decide) (hts _ gw_350) (fun _ h9 => h9) rfl d_MO_counted_29 ?_
        refine lv_goto (tgt := 48) hx hb d_MO_counted_32 (by decide) ?_
        exact W.iret (v := X 4 0) hx hb hr (fun t ht _ => ⟨⟨X 4 0, (X, Y), rfl, hw, by show va_P _ _ _ t.heap; rw [ht]; exact hP⟩, hS.F ht⟩) hS.2.2 d_MO_counted_48
    · have hw := hw.1 c2
      refine lv_aload_n hx hb d_MO_counted_16 rfl (lv_at hl 0 rfl) ?_
      refine va_get (D := (dC, dI)) (ci := 9) (v := .int (X 3 0)) (C := R_MO) (T := T_MO) (N := 36) hx hb hts in_MO hown hK hP (0) atM_MO rfl 6 (by decide) (hts _ gw_349) (fun _ h9 => h9) rfl d_MO_counted_17 ?_
      refine lv_goto (tgt := 48) hx hb d_MO_counted_20 (by decide) ?_
      exact W.iret (v := X 3 0) hx hb hr (fun t ht _ => ⟨⟨X 3 0, (X, Y), rfl, hw, by show va_P _ _ _ t.heap; rw [ht]; exact hP⟩, hS.F ht⟩) hS.2.2 d_MO_counted_48
  · have hw := hw.1 c1
    refine lv_aload_n hx hb d_MO_counted_4 rfl (lv_at hl 0 rfl) ?_
    refine va_get (D := (dC, dI)) (ci := 9) (v := .int (X 2 0)) (C := R_MO) (T := T_MO) (N := 36) hx hb hts in_MO hown hK hP (0) atM_MO rfl 3 (by decide) (hts _ gw_331) (fun _ h9 => h9) rfl d_MO_counted_5 ?_
    refine lv_goto (tgt := 48) hx hb d_MO_counted_8 (by decide) ?_
    exact W.iret (v := X 2 0) hx hb hr (fun t ht _ => ⟨⟨X 2 0, (X, Y), rfl, hw, by show va_P _ _ _ t.heap; rw [ht]; exact hP⟩, hS.F ht⟩) hS.2.2 d_MO_counted_48
def ws_MO_there : List Cond := Cond.code y_MO_there c_MO_there 2 (Option.some Jvm.ClassFile.FieldType.int) :: GW
theorem d_MO_there_0 : decode c_MO_there 0 = .ok (.aload_n 0, 1) := by decide +kernel
theorem d_MO_there_1 : decode c_MO_there 1 = .ok (.iconst 0, 1) := by decide +kernel
theorem d_MO_there_2 : decode c_MO_there 2 = .ok (.putfield 81, 3) := by decide +kernel
theorem d_MO_there_5 : decode c_MO_there 5 = .ok (.iload_n 1, 1) := by decide +kernel
theorem d_MO_there_6 : decode c_MO_there 6 = .ok (.iconst 3, 1) := by decide +kernel
theorem d_MO_there_7 : decode c_MO_there 7 = .ok (.if_icmp .ne 10, 3) := by decide +kernel
theorem d_MO_there_10 : decode c_MO_there 10 = .ok (.aload_n 0, 1) := by decide +kernel
theorem d_MO_there_11 : decode c_MO_there 11 = .ok (.getfield 103, 3) := by decide +kernel
theorem d_MO_there_14 : decode c_MO_there 14 = .ok (.goto 8, 3) := by decide +kernel
theorem d_MO_there_17 : decode c_MO_there 17 = .ok (.aload_n 0, 1) := by decide +kernel
theorem d_MO_there_18 : decode c_MO_there 18 = .ok (.iload_n 1, 1) := by decide +kernel
theorem d_MO_there_19 : decode c_MO_there 19 = .ok (.invokevirtual 220, 3) := by decide +kernel
theorem d_MO_there_22 : decode c_MO_there 22 = .ok (.ireturn, 1) := by decide +kernel
def wp_MO_there (post : Int32 → ST → Int64 → Prop) (X : ST) (Y : Int64) (a1 : Int32) : Prop := ((a1 = (3 : Int32) → post (X 6 0) (up X 90 0 (0 : Int32)) Y) ∧ (¬ a1 = (3 : Int32) → wp_MO_counted (fun (r4 : Int32) (X2 : ST) (Y3 : Int64) => post r4 X2 Y3) (up X 90 0 (0 : Int32)) Y a1))
set_option maxHeartbeats 4000000 in
set_option maxRecDepth 100000 in
theorem mt_MO_there (l : Launch) (hl9 : l.stackTraces = false) (dC : Nat → ClassId) (dI : Nat → Nat → Nat) (cA : Nat → ClassId) (ad : Nat → Nat) (hI : INJ ad 23) (sz : Nat) {X : ST} {Y : Int64} {a1 : Int32} {post : Int32 → ST → Int64 → Prop} (hw : wp_MO_there post X Y a1) : Met l y_MO_there ws_MO_there ({ frames := 1, cells := 0, slots := 0, locals := 21 } : Room) (va_Pc [.ref (ad 0), .int a1] (fun U => PM dC dI cA ad sz X Y U)) (va_Qi (fun r (u : ST × Int64) => post r u.1 u.2) (fun (u : ST × Int64) t => va_P (dC, dI) vwCl (wdM cA ad u.1 u.2) t.heap) (CA ad 23 sz)) 0 0 (CA ad 23 sz) := by
  refine Met.ofW (cc := c_MO_there) (maxL := 2) (ret := (some .int)) (by decide) rfl ?_
  intro p e s m args below meth c s₁ B hml hv
  obtain ⟨rfl, hsz, hP, hG⟩ := hv
  have hx := B.exec
  have hb := B.bytes
  have hr := B.returns
  have hts : ∀ w ∈ GW, w.before (([.ref (ad 0), .int a1] : List Value).toArray) s = true := fun w h => atoms_spec (ws := ws_MO_there) B.pre w (List.mem_cons_of_mem _ h)
  have hown : s.vm.findClass R_MO = some m.cls := findClass_of_methodNamed B.named
  have hlocks := B.notSynchronized
  subst hsz
  have hK := hG.1
  have hG9 := hG
  have hNW := hG.2
  have hD0 : ∀ (X : ST) (Y : Int64), va_D (CA ad 23 s.heap.size) (wdM cA ad X Y) := fun _ _ => zwM_D hI
  have hS : va_S (CA ad 23 s.heap.size) s.heap s.heap [] := va_S.rf
  have hl := lv_entry ([.ref (ad 0), .int a1]) (n := 2) (Nat.le_of_ble_eq_true rfl)
  rw [lg_entry_eq]
  generalize (lg_sl ([.ref (ad 0), .int a1]) ++ List.replicate (2 - (lg_sl ([.ref (ad 0), .int a1])).length) Slot.unset).toArray = ls at hl ⊢
  have hl : lv_has ls 2 [(0, .ref (ad 0)), (1, .int a1)] := hl
  unfold wp_MO_there at hw
  refine lv_aload_n hx hb d_MO_there_0 rfl (lv_at hl 0 rfl) ?_
  refine lv_iconst (v := (0 : Int32)) hx hb d_MO_there_1 (by decide) ?_
  refine va_put (D := (dC, dI)) (ci := 9) (v := .int (0 : Int32)) (ty := .int) (C := R_MO) (T := T_MO) (N := 36) hx hb hts in_MO ty_MO ty_MO_ok nm_MO hown hK hP (hD0 _ _) hS (0) atM_MO rfl 0 (by decide) (hts _ gw_297) (fun _ h9 => h9) rfl (by decide +kernel) rfl rfl (Nat.le_of_ble_eq_true rfl) d_MO_there_2 (fun H locs hP _ hS => ?_)
  have hP : va_P (dC, dI) vwCl (wdM cA ad (up X 90 0 (0 : Int32)) Y) H := by rw [← stM_MO_0]; exact hP
  refine lv_iload_n hx hb d_MO_there_5 rfl (lv_at hl 1 rfl) ?_
  refine lv_iconst (v := (3 : Int32)) hx hb d_MO_there_6 (by decide) ?_
  refine lv_icmp_ne (tgt := 17) hx hb d_MO_there_7 (by decide) (fun c1 => ?_) (fun c1 => ?_)
  · have hw := hw.2 c1
    refine lv_aload_n hx hb d_MO_there_17 rfl (lv_at hl 0 rfl) ?_
    refine lv_iload_n hx hb d_MO_there_18 rfl (lv_at hl 1 rfl) ?_
    refine va_calli (va_runV (As := [.int a1]) (rest := []) ⟨hx, hb, hml, hown, hts⟩ (mt_MO_counted l hl9 dC dI cA ad hI _ hw) (cwV 1 hts (gV gw_441 gw_442 gw_443 gw_306 gw_440) rfl rfl rfl (by decide +kernel) ⟨Nat.le_of_ble_eq_true rfl, Nat.le_of_ble_eq_true rfl⟩) ⟨zwM_blind, va_recv hK hP (ci := 9) (q0 := 0) rfl atM_MO, zwM_pre hP hS hG9⟩ rfl rfl hl.1 rfl (lv_room (Nat.le_of_ble_eq_true rfl)) d_MO_there_19 ⟨Nat.le_of_ble_eq_true rfl, Nat.le_of_ble_eq_true rfl⟩) hS (fun q _ h => CA_le hS.1 q h) (fun q h => CA_le hS.1 q h) (fun r4 u9 t H locs ht hvm hw hP hz1 hk1 hS => ?_)
    obtain ⟨X2, Y3⟩ := u9
    have hP : va_P (dC, dI) vwCl (wdM cA ad X2 Y3) H := by rw [← ht]; exact hP
    try dsimp only at hw
    exact W.iret (v := r4) hx hb hr (fun t ht _ => ⟨⟨r4, (X2, Y3), rfl, hw, by show va_P _ _ _ t.heap; rw [ht]; exact hP⟩, hS.F ht⟩) hS.2.2 d_MO_there_22
  · have hw := hw.1 c1
    refine lv_aload_n hx hb d_MO_there_10 rfl (lv_at hl 0 rfl) ?_
    refine va_get (D := (dC, dI)) (ci := 9) (v := .int (X 6 0)) (C := R_MO) (T := T_MO) (N := 36) hx hb hts in_MO hown hK hP (0) atM_MO rfl 27 (by decide) (hts _ gw_314) (fun _ h9 => h9) rfl d_MO_there_11 ?_
    refine lv_goto (tgt := 22) hx hb d_MO_there_14 (by decide) ?_
    exact W.iret (v := X 6 0) hx hb hr (fun t ht _ => ⟨⟨X 6 0, (up X 90 0 (0 : Int32), Y), rfl, hw, by show va_P _ _ _ t.heap; rw [ht]; exact hP⟩, hS.F ht⟩) hS.2.2 d_MO_there_22
