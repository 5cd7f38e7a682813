def ws_Req_readNames : List Cond := Cond.code y_Req_readNames c_Req_readNames 7 (Option.some Jvm.ClassFile.FieldType.int) :: GW
theorem d_Req_readNames_0 : decode c_Req_readNames 0 = .ok (.iconst 0, 1) := by decide +kernel
theorem d_Req_readNames_1 : decode c_Req_readNames 1 = .ok (.istore_n 3, 1) := by decide +kernel
theorem d_Req_readNames_2 : decode c_Req_readNames 2 = .ok (.iconst (-1), 1) := by decide +kernel
theorem d_Req_readNames_3 : decode c_Req_readNames 3 = .ok (.istore 4, 2) := by decide +kernel
theorem d_Req_readNames_5 : decode c_Req_readNames 5 = .ok (.iconst 0, 1) := by decide +kernel
theorem d_Req_readNames_6 : decode c_Req_readNames 6 = .ok (.istore 5, 2) := by decide +kernel
theorem d_Req_readNames_8 : decode c_Req_readNames 8 = .ok (.iload 5, 2) := by decide +kernel
theorem d_Req_readNames_10 : decode c_Req_readNames 10 = .ok (.bipush 16, 2) := by decide +kernel
theorem d_Req_readNames_12 : decode c_Req_readNames 12 = .ok (.if_icmp .ge 84, 3) := by decide +kernel
theorem d_Req_readNames_15 : decode c_Req_readNames 15 = .ok (.aload_n 0, 1) := by decide +kernel
theorem d_Req_readNames_16 : decode c_Req_readNames 16 = .ok (.getfield 15, 3) := by decide +kernel
theorem d_Req_readNames_19 : decode c_Req_readNames 19 = .ok (.ifCond .eq 77, 3) := by decide +kernel
theorem d_Req_readNames_22 : decode c_Req_readNames 22 = .ok (.aload_n 0, 1) := by decide +kernel
theorem d_Req_readNames_23 : decode c_Req_readNames 23 = .ok (.getfield 9, 3) := by decide +kernel
theorem d_Req_readNames_26 : decode c_Req_readNames 26 = .ok (.iload_n 2, 1) := by decide +kernel
theorem d_Req_readNames_27 : decode c_Req_readNames 27 = .ok (.if_icmp .ge 69, 3) := by decide +kernel
theorem d_Req_readNames_30 : decode c_Req_readNames 30 = .ok (.aload_n 0, 1) := by decide +kernel
theorem d_Req_readNames_31 : decode c_Req_readNames 31 = .ok (.aload_n 1, 1) := by decide +kernel
theorem d_Req_readNames_32 : decode c_Req_readNames 32 = .ok (.iload_n 2, 1) := by decide +kernel
theorem d_Req_readNames_33 : decode c_Req_readNames 33 = .ok (.invokevirtual 28, 3) := by decide +kernel
theorem d_Req_readNames_36 : decode c_Req_readNames 36 = .ok (.istore 6, 2) := by decide +kernel
theorem d_Req_readNames_38 : decode c_Req_readNames 38 = .ok (.aload_n 0, 1) := by decide +kernel
theorem d_Req_readNames_39 : decode c_Req_readNames 39 = .ok (.aload_n 0, 1) := by decide +kernel
theorem d_Req_readNames_40 : decode c_Req_readNames 40 = .ok (.getfield 15, 3) := by decide +kernel
theorem d_Req_readNames_43 : decode c_Req_readNames 43 = .ok (.ifCond .eq 21, 3) := by decide +kernel
theorem d_Req_readNames_46 : decode c_Req_readNames 46 = .ok (.iload 6, 2) := by decide +kernel
theorem d_Req_readNames_48 : decode c_Req_readNames 48 = .ok (.iload 4, 2) := by decide +kernel
theorem d_Req_readNames_50 : decode c_Req_readNames 50 = .ok (.if_icmp .le 14, 3) := by decide +kernel
theorem d_Req_readNames_53 : decode c_Req_readNames 53 = .ok (.iload 6, 2) := by decide +kernel
theorem d_Req_readNames_55 : decode c_Req_readNames 55 = .ok (.bipush 16, 2) := by decide +kernel
theorem d_Req_readNames_57 : decode c_Req_readNames 57 = .ok (.if_icmp .ge 7, 3) := by decide +kernel
theorem d_Req_readNames_60 : decode c_Req_readNames 60 = .ok (.iconst 1, 1) := by decide +kernel
theorem d_Req_readNames_61 : decode c_Req_readNames 61 = .ok (.goto 4, 3) := by decide +kernel
theorem d_Req_readNames_64 : decode c_Req_readNames 64 = .ok (.iconst 0, 1) := by decide +kernel
theorem d_Req_readNames_65 : decode c_Req_readNames 65 = .ok (.putfield 15, 3) := by decide +kernel
theorem d_Req_readNames_68 : decode c_Req_readNames 68 = .ok (.aload_n 0, 1) := by decide +kernel
theorem d_Req_readNames_69 : decode c_Req_readNames 69 = .ok (.getfield 15, 3) := by decide +kernel
theorem d_Req_readNames_72 : decode c_Req_readNames 72 = .ok (.ifCond .eq 12, 3) := by decide +kernel
theorem d_Req_readNames_75 : decode c_Req_readNames 75 = .ok (.iload_n 3, 1) := by decide +kernel
theorem d_Req_readNames_76 : decode c_Req_readNames 76 = .ok (.iconst 1, 1) := by decide +kernel
theorem d_Req_readNames_77 : decode c_Req_readNames 77 = .ok (.iload 6, 2) := by decide +kernel
theorem d_Req_readNames_79 : decode c_Req_readNames 79 = .ok (.ishl, 1) := by decide +kernel
theorem d_Req_readNames_80 : decode c_Req_readNames 80 = .ok (.ior, 1) := by decide +kernel
theorem d_Req_readNames_81 : decode c_Req_readNames 81 = .ok (.goto 4, 3) := by decide +kernel
theorem d_Req_readNames_84 : decode c_Req_readNames 84 = .ok (.iload_n 3, 1) := by decide +kernel
theorem d_Req_readNames_85 : decode c_Req_readNames 85 = .ok (.istore_n 3, 1) := by decide +kernel
theorem d_Req_readNames_86 : decode c_Req_readNames 86 = .ok (.iload 6, 2) := by decide +kernel
theorem d_Req_readNames_88 : decode c_Req_readNames 88 = .ok (.istore 4, 2) := by decide +kernel
theorem d_Req_readNames_90 : decode c_Req_readNames 90 = .ok (.iinc 5 1, 3) := by decide +kernel
theorem d_Req_readNames_93 : decode c_Req_readNames 93 = .ok (.goto (-85), 3) := by decide +kernel
theorem d_Req_readNames_96 : decode c_Req_readNames 96 = .ok (.aload_n 0, 1) := by decide +kernel
theorem d_Req_readNames_97 : decode c_Req_readNames 97 = .ok (.aload_n 0, 1) := by decide +kernel
theorem d_Req_readNames_98 : decode c_Req_readNames 98 = .ok (.getfield 15, 3) := by decide +kernel
theorem d_Req_readNames_101 : decode c_Req_readNames 101 = .ok (.ifCond .eq 19, 3) := by decide +kernel
theorem d_Req_readNames_104 : decode c_Req_readNames 104 = .ok (.iload_n 3, 1) := by decide +kernel
theorem d_Req_readNames_105 : decode c_Req_readNames 105 = .ok (.ifCond .eq 15, 3) := by decide +kernel
theorem d_Req_readNames_108 : decode c_Req_readNames 108 = .ok (.aload_n 0, 1) := by decide +kernel
theorem d_Req_readNames_109 : decode c_Req_readNames 109 = .ok (.getfield 9, 3) := by decide +kernel
theorem d_Req_readNames_112 : decode c_Req_readNames 112 = .ok (.iload_n 2, 1) := by decide +kernel
theorem d_Req_readNames_113 : decode c_Req_readNames 113 = .ok (.if_icmp .ne 7, 3) := by decide +kernel
theorem d_Req_readNames_116 : decode c_Req_readNames 116 = .ok (.iconst 1, 1) := by decide +kernel
theorem d_Req_readNames_117 : decode c_Req_readNames 117 = .ok (.goto 4, 3) := by decide +kernel
theorem d_Req_readNames_120 : decode c_Req_readNames 120 = .ok (.iconst 0, 1) := by decide +kernel
theorem d_Req_readNames_121 : decode c_Req_readNames 121 = .ok (.putfield 15, 3) := by decide +kernel
theorem d_Req_readNames_124 : decode c_Req_readNames 124 = .ok (.iload_n 3, 1) := by decide +kernel
theorem d_Req_readNames_125 : decode c_Req_readNames 125 = .ok (.ireturn, 1) := by decide +kernel
def wq_Req_readNames_121 (post : Int32 → ST → Prop) (s0 : Int32) (v3 : Int32) (X : ST) : Prop := ((s0 = 0 ∨ s0 = 1) ∧ post v3 (up X 67 0 s0))
def wq_Req_readNames_96 (post : Int32 → ST → Prop) (v2 : Int32) (v3 : Int32) (X : ST) : Prop := (((X 67 0) = 0 → wq_Req_readNames_121 post (0 : Int32) v3 X) ∧ (¬ (X 67 0) = 0 → ((v3 = 0 → wq_Req_readNames_121 post (0 : Int32) v3 X) ∧ (¬ v3 = 0 → (((X 66 0) = v2 → wq_Req_readNames_121 post (1 : Int32) v3 X) ∧ (¬ (X 66 0) = v2 → wq_Req_readNames_121 post (0 : Int32) v3 X))))))
def wq_Req_readNames_65 (post : Int32 → ST → Prop) (J8 : Int32 → Int32 → Int32 → ST → Prop) (s0 : Int32) (v2 : Int32) (v3 : Int32) (v5 : Int32) (v6 : Int32) (X : ST) : Prop := ((s0 = 0 ∨ s0 = 1) ∧ ((s0 = 0 → J8 v3 v6 (v5 + (1 : Int32)) (up X 67 0 s0)) ∧ (¬ s0 = 0 → J8 (v3 ||| ((1 : Int32) <<< (v6 &&& 31))) v6 (v5 + (1 : Int32)) (up X 67 0 s0))))
def wq_Req_readNames_8 (post : Int32 → ST → Prop) (v2 : Int32) : Nat → Int32 → Int32 → Int32 → ST → Prop
  | 0 => fun _ _ _ _ => False
  | n + 1 => fun v3 v4 v5 X => (((16 : Int32) ≤ v5 → wq_Req_readNames_96 post v2 v3 X) ∧ (¬ (16 : Int32) ≤ v5 → (((X 67 0) = 0 → wq_Req_readNames_96 post v2 v3 X) ∧ (¬ (X 67 0) = 0 → ((v2 ≤ (X 66 0) → wq_Req_readNames_96 post v2 v3 X) ∧ (¬ v2 ≤ (X 66 0) → wp_Req_readNumber (fun (r11 : Int32) (X10 : ST) => (((X10 67 0) = 0 → wq_Req_readNames_65 post (wq_Req_readNames_8 post v2 n) (0 : Int32) v2 v3 v5 r11 X10) ∧ (¬ (X10 67 0) = 0 → ((r11 ≤ v4 → wq_Req_readNames_65 post (wq_Req_readNames_8 post v2 n) (0 : Int32) v2 v3 v5 r11 X10) ∧ (¬ r11 ≤ v4 → (((16 : Int32) ≤ r11 → wq_Req_readNames_65 post (wq_Req_readNames_8 post v2 n) (0 : Int32) v2 v3 v5 r11 X10) ∧ (¬ (16 : Int32) ≤ r11 → wq_Req_readNames_65 post (wq_Req_readNames_8 post v2 n) (1 : Int32) v2 v3 v5 r11 X10))))))) X v2))))))
def wp_Req_readNames (post : Int32 → ST → Prop) (X : ST) (a2 : Int32) : Prop := (∃ n9, wq_Req_readNames_8 post a2 n9 (0 : Int32) (-1 : Int32) (0 : Int32) X)
set_option maxHeartbeats 4000000 in
set_option maxRecDepth 100000 in
theorem mt_Req_readNames (l : Launch) (hl9 : l.stackTraces = false) (dC : Nat → ClassId) (dI : Nat → Nat → Nat) (cA : Nat → ClassId) (ad : Nat → Nat) (hI : INJ ad 125) (sz : Nat) {X : ST} {a2 : Int32} {post : Int32 → ST → Prop} (hw : wp_Req_readNames post X a2) : Met l y_Req_readNames ws_Req_readNames ({ frames := 3, cells := 0, slots := 0, locals := 73 } : Room) (va_Pc [.ref (ad 10), .ref (ad 8), .int a2] (fun U => PC dC dI cA ad sz X U)) (va_Qi (fun r (u : ST) => post r u) (fun (u : ST) t => va_P (dC, dI) vwCl (wdC cA ad u) t.heap) (CA ad 125 sz)) 0 0 (CA ad 125 sz) := by
  refine Met.ofW (cc := c_Req_readNames) (maxL := 7) (ret := (some .int)) (by decide) rfl ?_
  intro p e s m args below meth c s₁ B hml hv
  obtain ⟨rfl, hsz, hP, hG⟩ := hv
  have hx := B.exec
  have hb := B.bytes
  have hr := B.returns
  have hts : ∀ w ∈ GW, w.before (([.ref (ad 10), .ref (ad 8), .int a2] : List Value).toArray) s = true := fun w h => atoms_spec (ws := ws_Req_readNames) B.pre w (List.mem_cons_of_mem _ h)
  have hown : s.vm.findClass R_Req = some m.cls := findClass_of_methodNamed B.named
  have hlocks := B.notSynchronized
  subst hsz
  have hK := hG.1
  have hG9 := hG
  have hNW := hG.2.1
  have hD0 : ∀ (X : ST), va_D (CA ad 125 s.heap.size) (wdC cA ad X) := fun _ => zwC_D hI
  have hS : va_S (CA ad 125 s.heap.size) s.heap s.heap [] := va_S.rf
  have hl := lv_entry ([.ref (ad 10), .ref (ad 8), .int a2]) (n := 7) (Nat.le_of_ble_eq_true rfl)
  rw [lg_entry_eq]
  generalize (lg_sl ([.ref (ad 10), .ref (ad 8), .int a2]) ++ List.replicate (7 - (lg_sl ([.ref (ad 10), .ref (ad 8), .int a2])).length) Slot.unset).toArray = ls at hl ⊢
  have hl : lv_has ls 7 [(0, .ref (ad 10)), (1, .ref (ad 8)), (2, .int a2)] := hl
  have L121 : ∀ (s0 : Int32) (v3 : Int32) (X : ST) (H : Heap) (locs : List Loc) (ls : Array Slot), wq_Req_readNames_121 post s0 v3 X → va_P (dC, dI) vwCl (wdC cA ad X) H → va_S (CA ad 125 s.heap.size) s.heap H locs → lv_has ls 7 [(3, .int v3)] → W p l e (headSpec ws_Req_readNames ({ frames := 3, cells := 0, slots := 0, locals := 73 } : Room)).room s m (([.ref (ad 10), .ref (ad 8), .int a2] : List Value).toArray) below meth c H locs 0 0 (MQ below (va_Qi (fun r (u : ST) => post r u) (fun (u : ST) t => va_P (dC, dI) vwCl (wdC cA ad u) t.heap) (CA ad 125 s.heap.size)) (([.ref (ad 10), .ref (ad 8), .int a2] : List Value).toArray) s 0 0 (CA ad 125 s.heap.size)) (F0 m 121 ls [.int s0, .ref (ad 10)]) := by
    intro s0 v3 X H locs ls hw hP hS hl
    unfold wq_Req_readNames_121 at hw
    obtain ⟨h1, hw⟩ := hw
    refine va_put (D := (dC, dI)) (ci := 3) (v := .int s0) (ty := .boolean) (C := R_Req) (T := T_Req) (N := 4) hx hb hts in_Req ty_Req ty_Req_ok nm_Req hown hK hP (hD0 _) hS (10) atC_Req rfl 3 (by decide) (hts _ gw_156) (fun _ h9 => h9) rfl (by decide +kernel) (zw_bn h1) (zw_bf h1) (Nat.le_of_ble_eq_true rfl) d_Req_readNames_121 (fun H locs hP _ hS => ?_)
    have hP : va_P (dC, dI) vwCl (wdC cA ad (up X 67 0 s0)) H := by rw [← stC_Req_3]; exact hP
    refine lv_iload_n hx hb d_Req_readNames_124 rfl (lv_at hl 0 rfl) ?_
    exact W.iret (v := v3) hx hb hr (fun t ht _ => ⟨⟨v3, up X 67 0 s0, rfl, hw, by show va_P _ _ _ t.heap; rw [ht]; exact hP⟩, hS.F ht⟩) hS.2.2 d_Req_readNames_125
  have L96 : ∀ (v2 : Int32) (v3 : Int32) (X : ST) (H : Heap) (locs : List Loc) (ls : Array Slot), wq_Req_readNames_96 post v2 v3 X → va_P (dC, dI) vwCl (wdC cA ad X) H → va_S (CA ad 125 s.heap.size) s.heap H locs → lv_has ls 7 [(0, .ref (ad 10)), (2, .int v2), (3, .int v3)] → W p l e (headSpec ws_Req_readNames ({ frames := 3, cells := 0, slots := 0, locals := 73 } : Room)).room s m (([.ref (ad 10), .ref (ad 8), .int a2] : List Value).toArray) below meth c H locs 0 0 (MQ below (va_Qi (fun r (u : ST) => post r u) (fun (u : ST) t => va_P (dC, dI) vwCl (wdC cA ad u) t.heap) (CA ad 125 s.heap.size)) (([.ref (ad 10), .ref (ad 8), .int a2] : List Value).toArray) s 0 0 (CA ad 125 s.heap.size)) (F0 m 96 ls []) := by
    intro v2 v3 X H locs ls hw hP hS hl
    unfold wq_Req_readNames_96 at hw
    refine lv_aload_n hx hb d_Req_readNames_96 rfl (lv_at hl 0 rfl) ?_
    refine lv_aload_n hx hb d_Req_readNames_97 rfl (lv_at hl 0 rfl) ?_
    refine va_get (D := (dC, dI)) (ci := 3) (v := .int (X 67 0)) (C := R_Req) (T := T_Req) (N := 4) hx hb hts in_Req hown hK hP (10) atC_Req rfl 3 (by decide) (hts _ gw_156) (fun _ h9 => h9) rfl d_Req_readNames_98 ?_
    refine lv_if_eq (tgt := 120) hx hb d_Req_readNames_101 (by decide) (fun c2 => ?_) (fun c2 => ?_)
    · have hw := hw.1 c2
      refine lv_iconst (v := (0 : Int32)) hx hb d_Req_readNames_120 (by decide) ?_
      have hl := lv_sub hl (l' := [(3, .int v3)]) [2] rfl
      exact L121 _ _ _ _ _ _ hw hP hS hl
    · have hw := hw.2 c2
      refine lv_iload_n hx hb d_Req_readNames_104 rfl (lv_at hl 2 rfl) ?_
      refine lv_if_eq (tgt := 120) hx hb d_Req_readNames_105 (by decide) (fun c3 => ?_) (fun c3 => ?_)
      · have hw := hw.1 c3
        refine lv_iconst (v := (0 : Int32)) hx hb d_Req_readNames_120 (by decide) ?_
        have hl := lv_sub hl (l' := [(3, .int v3)]) [2] rfl
        exact L121 _ _ _ _ _ _ hw hP hS hl
      · have hw := hw.2 c3
        refine lv_aload_n hx hb d_Req_readNames_108 rfl (lv_at hl 0 rfl) ?_
        refine va_get (D := (dC, dI)) (ci := 3) (v := .int (X 66 0)) (C := R_Req) (T := T_Req) (N := 4) hx hb hts in_Req hown hK hP (10) atC_Req rfl 2 (by decide) (hts _ gw_158) (fun _ h9 => h9) rfl d_Req_readNames_109 ?_
        refine lv_iload_n hx hb d_Req_readNames_112 rfl (lv_at hl 1 rfl) ?_
        refine lv_icmp_ne (tgt := 120) hx hb d_Req_readNames_113 (by decide) (fun c4 => ?_) (fun c4 => ?_)
        · have hw := hw.2 c4
          refine lv_iconst (v := (0 : Int32)) hx hb d_Req_readNames_120 (by decide) ?_
          have hl := lv_sub hl (l' := [(3, .int v3)]) [2] rfl
          exact L121 _ _ _ _ _ _ hw hP hS hl
        · have hw := hw.1 c4
          refine lv_iconst (v := (1 : Int32)) hx hb d_Req_readNames_116 (by decide) ?_
          refine lv_goto (tgt := 121) hx hb d_Req_readNames_117 (by decide) ?_
          have hl := lv_sub hl (l' := [(3, .int v3)]) [2] rfl
          exact L121 _ _ _ _ _ _ hw hP hS hl
  have L65 : ∀ (v2 : Int32), ∀ (J8 : Int32 → Int32 → Int32 → ST → Prop), (∀ (v3 : Int32) (v4 : Int32) (v5 : Int32) (X : ST) (H : Heap) (locs : List Loc) (ls : Array Slot), J8 v3 v4 v5 X → va_P (dC, dI) vwCl (wdC cA ad X) H → va_S (CA ad 125 s.heap.size) s.heap H locs → lv_has ls 7 [(0, .ref (ad 10)), (1, .ref (ad 8)), (2, .int v2), (3, .int v3), (4, .int v4), (5, .int v5)] → W p l e (headSpec ws_Req_readNames ({ frames := 3, cells := 0, slots := 0, locals := 73 } : Room)).room s m (([.ref (ad 10), .ref (ad 8), .int a2] : List Value).toArray) below meth c H locs 0 0 (MQ below (va_Qi (fun r (u : ST) => post r u) (fun (u : ST) t => va_P (dC, dI) vwCl (wdC cA ad u) t.heap) (CA ad 125 s.heap.size)) (([.ref (ad 10), .ref (ad 8), .int a2] : List Value).toArray) s 0 0 (CA ad 125 s.heap.size)) (F0 m 8 ls [])) → ∀ (s0 : Int32) (v3 : Int32) (v5 : Int32) (v6 : Int32) (X : ST) (H : Heap) (locs : List Loc) (ls : Array Slot), wq_Req_readNames_65 post J8 s0 v2 v3 v5 v6 X → va_P (dC, dI) vwCl (wdC cA ad X) H → va_S (CA ad 125 s.heap.size) s.heap H locs → lv_has ls 7 [(0, .ref (ad 10)), (1, .ref (ad 8)), (2, .int v2), (3, .int v3), (5, .int v5), (6, .int v6)] → W p l e (headSpec ws_Req_readNames ({ frames := 3, cells := 0, slots := 0, locals := 73 } : Room)).room s m (([.ref (ad 10), .ref (ad 8), .int a2] : List Value).toArray) below meth c H locs 0 0 (MQ below (va_Qi (fun r (u : ST) => post r u) (fun (u : ST) t => va_P (dC, dI) vwCl (wdC cA ad u) t.heap) (CA ad 125 s.heap.size)) (([.ref (ad 10), .ref (ad 8), .int a2] : List Value).toArray) s 0 0 (CA ad 125 s.heap.size)) (F0 m 65 ls [.int s0, .ref (ad 10)]) := by
    intro v2 J8 hJ8 s0 v3 v5 v6 X H locs ls hw hP hS hl
    unfold wq_Req_readNames_65 at hw
    obtain ⟨h5, hw⟩ := hw
    refine va_put (D := (dC, dI)) (ci := 3) (v := .int s0) (ty := .boolean) (C := R_Req) (T := T_Req) (N := 4) hx hb hts in_Req ty_Req ty_Req_ok nm_Req hown hK hP (hD0 _) hS (10) atC_Req rfl 3 (by decide) (hts _ gw_156) (fun _ h9 => h9) rfl (by decide +kernel) (zw_bn h5) (zw_bf h5) (Nat.le_of_ble_eq_true rfl) d_Req_readNames_65 (fun H locs hP _ hS => ?_)
    have hP : va_P (dC, dI) vwCl (wdC cA ad (up X 67 0 s0)) H := by rw [← stC_Req_3]; exact hP
    refine lv_aload_n hx hb d_Req_readNames_68 rfl (lv_at hl 0 rfl) ?_
    refine va_get (D := (dC, dI)) (ci := 3) (v := .int s0) (C := R_Req) (T := T_Req) (N := 4) hx hb hts in_Req hown hK hP (10) atC_Req rfl 3 (by decide) (hts _ gw_156) (fun _ h9 => h9) rfl d_Req_readNames_69 ?_
    refine lv_if_eq (tgt := 84) hx hb d_Req_readNames_72 (by decide) (fun c6 => ?_) (fun c6 => ?_)
    · have hw := hw.1 c6
      refine lv_iload_n hx hb d_Req_readNames_84 rfl (lv_at hl 3 rfl) ?_
      refine lv_istore_n (lv' := [(3, .int v3), (0, .ref (ad 10)), (1, .ref (ad 8)), (2, .int v2), (5, .int v5), (6, .int v6)]) hx hb d_Req_readNames_85 rfl hl (by decide) rfl (fun ls hl => ?_)
      refine lv_iload hx hb d_Req_readNames_86 (lv_at hl 5 rfl) ?_
      refine lv_istore (lv' := [(4, .int v6), (3, .int v3), (0, .ref (ad 10)), (1, .ref (ad 8)), (2, .int v2), (5, .int v5), (6, .int v6)]) hx hb d_Req_readNames_88 hl (by decide) rfl (fun ls hl => ?_)
      refine lv_iinc (k := 5) (v := v5 + (1 : Int32)) (lv' := [(5, .int (v5 + (1 : Int32))), (4, .int v6), (3, .int v3), (0, .ref (ad 10)), (1, .ref (ad 8)), (2, .int v2), (6, .int v6)]) hx hb d_Req_readNames_90 hl rfl rfl (by decide) rfl (fun ls hl => ?_)
      refine lv_goto (tgt := 8) hx hb d_Req_readNames_93 (by decide) ?_
      have hl := lv_sub hl (l' := [(0, .ref (ad 10)), (1, .ref (ad 8)), (2, .int v2), (3, .int v3), (4, .int v6), (5, .int (v5 + (1 : Int32)))]) [3, 4, 5, 2, 1, 0] rfl
      exact hJ8 _ _ _ _ _ _ _ hw hP hS hl
    · have hw := hw.2 c6
      refine lv_iload_n hx hb d_Req_readNames_75 rfl (lv_at hl 3 rfl) ?_
      refine lv_iconst (v := (1 : Int32)) hx hb d_Req_readNames_76 (by decide) ?_
      refine lv_iload hx hb d_Req_readNames_77 (lv_at hl 5 rfl) ?_
      refine lv_ishl hx hb d_Req_readNames_79 ?_
      refine lv_ior hx hb d_Req_readNames_80 ?_
      refine lv_goto (tgt := 85) hx hb d_Req_readNames_81 (by decide) ?_
      refine lv_istore_n (lv' := [(3, .int (v3 ||| ((1 : Int32) <<< (v6 &&& 31)))), (0, .ref (ad 10)), (1, .ref (ad 8)), (2, .int v2), (5, .int v5), (6, .int v6)]) hx hb d_Req_readNames_85 rfl hl (by decide) rfl (fun ls hl => ?_)
      refine lv_iload hx hb d_Req_readNames_86 (lv_at hl 5 rfl) ?_
      refine lv_istore (lv' := [(4, .int v6), (3, .int (v3 ||| ((1 : Int32) <<< (v6 &&& 31)))), (0, .ref (ad 10)), (1, .ref (ad 8)), (2, .int v2), (5, .int v5), (6, .int v6)]) hx hb d_Req_readNames_88 hl (by decide) rfl (fun ls hl => ?_)
      refine lv_iinc (k := 5) (v := v5 + (1 : Int32)) (lv' := [(5, .int (v5 + (1 : Int32))), (4, .int v6), (3, .int (v3 ||| ((1 : Int32) <<< (v6 &&& 31)))), (0, .ref (ad 10)), (1, .ref (ad 8)), (2, .int v2), (6, .int v6)]) hx hb d_Req_readNames_90 hl rfl rfl (by decide) rfl (fun ls hl => ?_)
      refine lv_goto (tgt := 8) hx hb d_Req_readNames_93 (by decide) ?_
      have hl := lv_sub hl (l' := [(0, .ref (ad 10)), (1, .ref (ad 8)), (2, .int v2), (3, .int (v3 ||| ((1 : Int32) <<< (v6 &&& 31)))), (4, .int v6), (5, .int (v5 + (1 : Int32)))]) [3, 4, 5, 2, 1, 0] rfl
      exact hJ8 _ _ _ _ _ _ _ hw hP hS hl
  have L8 : ∀ (v2 : Int32), ∀ (n : Nat), ∀ (v3 : Int32) (v4 : Int32) (v5 : Int32) (X : ST) (H : Heap) (locs : List Loc) (ls : Array Slot), wq_Req_readNames_8 post v2 n v3 v4 v5 X → va_P (dC, dI) vwCl (wdC cA ad X) H → va_S (CA ad 125 s.heap.size) s.heap H locs → lv_has ls 7 [(0, .ref (ad 10)), (1, .ref (ad 8)), (2, .int v2), (3, .int v3), (4, .int v4), (5, .int v5)] → W p l e (headSpec ws_Req_readNames ({ frames := 3, cells := 0, slots := 0, locals := 73 } : Room)).room s m (([.ref (ad 10), .ref (ad 8), .int a2] : List Value).toArray) below meth c H locs 0 0 (MQ below (va_Qi (fun r (u : ST) => post r u) (fun (u : ST) t => va_P (dC, dI) vwCl (wdC cA ad u) t.heap) (CA ad 125 s.heap.size)) (([.ref (ad 10), .ref (ad 8), .int a2] : List Value).toArray) s 0 0 (CA ad 125 s.heap.size)) (F0 m 8 ls []) := by
    intro v2 n
    induction n with
    | zero => intro v3 v4 v5 X H locs ls hw hP hS hl; exact False.elim hw
    | succ n ih =>
      intro v3 v4 v5 X H locs ls hw hP hS hl
      dsimp only [wq_Req_readNames_8] at hw
      refine lv_iload hx hb d_Req_readNames_8 (lv_at hl 5 rfl) ?_
      refine lv_bipush (v := (16 : Int32)) hx hb d_Req_readNames_10 (by decide) ?_
      refine lv_icmp_ge (tgt := 96) hx hb d_Req_readNames_12 (by decide) (fun c7 => ?_) (fun c7 => ?_)
      · have hw := hw.1 c7
        have hl := lv_sub hl (l' := [(0, .ref (ad 10)), (2, .int v2), (3, .int v3)]) [0, 2, 3] rfl
        exact L96 _ _ _ _ _ _ hw hP hS hl
      · have hw := hw.2 c7
        refine lv_aload_n hx hb d_Req_readNames_15 rfl (lv_at hl 0 rfl) ?_
        refine va_get (D := (dC, dI)) (ci := 3) (v := .int (X 67 0)) (C := R_Req) (T := T_Req) (N := 4) hx hb hts in_Req hown hK hP (10) atC_Req rfl 3 (by decide) (hts _ gw_156) (fun _ h9 => h9) rfl d_Req_readNames_16 ?_
        refine lv_if_eq (tgt := 96) hx hb d_Req_readNames_19 (by decide) (fun c8 => ?_) (fun c8 => ?_)
        · have hw := hw.1 c8
          have hl := lv_sub hl (l' := [(0, .ref (ad 10)), (2, .int v2), (3, .int v3)]) [0, 2, 3] rfl
          exact L96 _ _ _ _ _ _ hw hP hS hl
        · have hw := hw.2 c8
          refine lv_aload_n hx hb d_Req_readNames_22 rfl (lv_at hl 0 rfl) ?_
          refine va_get (D := (dC, dI)) (ci := 3) (v := .int (X 66 0)) (C := R_Req) (T := T_Req) (N := 4) hx hb hts in_Req hown hK hP (10) atC_Req rfl 2 (by decide) (hts _ gw_158) (fun _ h9 => h9) rfl d_Req_readNames_23 ?_
          refine lv_iload_n hx hb d_Req_readNames_26 rfl (lv_at hl 2 rfl) ?_
          refine lv_icmp_ge (tgt := 96) hx hb d_Req_readNames_27 (by decide) (fun c9 => ?_) (fun c9 => ?_)
          · have hw := hw.1 c9
            have hl := lv_sub hl (l' := [(0, .ref (ad 10)), (2, .int v2), (3, .int v3)]) [0, 2, 3] rfl
            exact L96 _ _ _ _ _ _ hw hP hS hl
          · have hw := hw.2 c9
            refine lv_aload_n hx hb d_Req_readNames_30 rfl (lv_at hl 0 rfl) ?_
            refine lv_aload_n hx hb d_Req_readNames_31 rfl (lv_at hl 1 rfl) ?_
            refine lv_iload_n hx hb d_Req_readNames_32 rfl (lv_at hl 2 rfl) ?_
            refine va_calli (va_runV (As := [.ref (ad 8), .int v2]) (rest := []) ⟨hx, hb, hml, hown, hts⟩ (mt_Req_readNumber l hl9 dC dI cA ad hI _ hw) (cwV 2 hts (gV gw_174 gw_175 gw_176 gw_164 gw_173) rfl rfl rfl (by decide +kernel) ⟨Nat.le_of_ble_eq_true rfl, Nat.le_of_ble_eq_true rfl⟩) ⟨zwC_blind, va_recv hK hP (ci := 3) (q0 := 10) rfl atC_Req, zwC_pre hP hS hG9⟩ rfl rfl hl.1 rfl (lv_room (Nat.le_of_ble_eq_true rfl)) d_Req_readNames_33 ⟨Nat.le_of_ble_eq_true rfl, Nat.le_of_ble_eq_true rfl⟩) hS (fun q _ h => CA_le hS.1 q h) (fun q h => CA_le hS.1 q h) (fun r11 X10 t H locs ht hvm hw hP hz1 hk1 hS => ?_)
            have hP : va_P (dC, dI) vwCl (wdC cA ad X10) H := by rw [← ht]; exact hP
            try dsimp only at hw
            refine lv_istore (lv' := [(6, .int r11), (0, .ref (ad 10)), (1, .ref (ad 8)), (2, .int v2), (3, .int v3), (4, .int v4), (5, .int v5)]) hx hb d_Req_readNames_36 hl (by decide) rfl (fun ls hl => ?_)
            refine lv_aload_n hx hb d_Req_readNames_38 rfl (lv_at hl 1 rfl) ?_
            refine lv_aload_n hx hb d_Req_readNames_39 rfl (lv_at hl 1 rfl) ?_
            refine va_get (D := (dC, dI)) (ci := 3) (v := .int (X10 67 0)) (C := R_Req) (T := T_Req) (N := 4) hx hb hts in_Req hown hK hP (10) atC_Req rfl 3 (by decide) (hts _ gw_156) (fun _ h9 => h9) rfl d_Req_readNames_40 ?_
            refine lv_if_eq (tgt := 64) hx hb d_Req_readNames_43 (by decide) (fun c12 => ?_) (fun c12 => ?_)
            · have hw := hw.1 c12
              refine lv_iconst (v := (0 : Int32)) hx hb d_Req_readNames_64 (by decide) ?_
              have hl := lv_sub hl (l' := [(0, .ref (ad 10)), (1, .ref (ad 8)), (2, .int v2), (3, .int v3), (5, .int v5), (6, .int r11)]) [1, 2, 3, 4, 6, 0] rfl
              exact L65 _ (wq_Req_readNames_8 post v2 n) ih _ _ _ _ _ _ _ _ hw hP hS hl
            · have hw := hw.2 c12
              refine lv_iload hx hb d_Req_readNames_46 (lv_at hl 0 rfl) ?_
              refine lv_iload hx hb d_Req_readNames_48 (lv_at hl 5 rfl) ?_
              refine lv_icmp_le (tgt := 64) hx hb d_Req_readNames_50 (by decide) (fun c13 => ?_) (fun c13 => ?_)
              · have hw := hw.1 c13
                refine lv_iconst (v := (0 : Int32)) hx hb d_Req_readNames_64 (by decide) ?_
                have hl := lv_sub hl (l' := [(0, .ref (ad 10)), (1, .ref (ad 8)), (2, .int v2), (3, .int v3), (5, .int v5), (6, .int r11)]) [1, 2, 3, 4, 6, 0] rfl
                exact L65 _ (wq_Req_readNames_8 post v2 n) ih _ _ _ _ _ _ _ _ hw hP hS hl
              · have hw := hw.2 c13
                refine lv_iload hx hb d_Req_readNames_53 (lv_at hl 0 rfl) ?_
                refine lv_bipush (v := (16 : Int32)) hx hb d_Req_readNames_55 (by decide) ?_
                refine lv_icmp_ge (tgt := 64) hx hb d_Req_readNames_57 (by decide) (fun c14 => ?_) (fun c14 => ?_)
                · have hw := hw.1 c14
                  refine lv_iconst (v := (0 : Int32)) hx hb d_Req_readNames_64 (by decide) ?_
                  have hl := lv_sub hl (l' := [(0, .ref (ad 10)), (1, .ref (ad 8)), (2, .int v2), (3, .int v3), (5, .int v5), (6, .int r11)]) [1, 2, 3, 4, 6, 0] rfl
                  exact L65 _ (wq_Req_readNames_8 post v2 n) ih _ _ _ _ _ _ _ _ hw hP hS hl
                · have hw := hw.2 c14
                  refine lv_iconst (v := (1 : Int32)) hx hb d_Req_readNames_60 (by decide) ?_
                  refine lv_goto (tgt := 65) hx hb d_Req_readNames_61 (by decide) ?_
                  have hl := lv_sub hl (l' := [(0, .ref (ad 10)), (1, .ref (ad 8)), (2, .int v2), (3, .int v3), (5, .int v5), (6, .int r11)]) [1, 2, 3, 4, 6, 0] rfl
                  exact L65 _ (wq_Req_readNames_8 post v2 n) ih _ _ _ _ _ _ _ _ hw hP hS hl
  unfold wp_Req_readNames at hw
  refine lv_iconst (v := (0 : Int32)) hx hb d_Req_readNames_0 (by decide) ?_
  refine lv_istore_n (lv' := [(3, .int (0 : Int32)), (0, .ref (ad 10)), (1, .ref (ad 8)), (2, .int a2)]) hx hb d_Req_readNames_1 rfl hl (by decide) rfl (fun ls hl => ?_)
  refine lv_iconst (v := (-1 : Int32)) hx hb d_Req_readNames_2 (by decide) ?_
  refine lv_istore (lv' := [(4, .int (-1 : Int32)), (3, .int (0 : Int32)), (0, .ref (ad 10)), (1, .ref (ad 8)), (2, .int a2)]) hx hb d_Req_readNames_3 hl (by decide) rfl (fun ls hl => ?_)
  refine lv_iconst (v := (0 : Int32)) hx hb d_Req_readNames_5 (by decide) ?_
  refine lv_istore (lv' := [(5, .int (0 : Int32)), (4, .int (-1 : Int32)), (3, .int (0 : Int32)), (0, .ref (ad 10)), (1, .ref (ad 8)), (2, .int a2)]) hx hb d_Req_readNames_6 hl (by decide) rfl (fun ls hl => ?_)
  have hl := lv_sub hl (l' := [(0, .ref (ad 10)), (1, .ref (ad 8)), (2, .int a2), (3, .int (0 : Int32)), (4, .int (-1 : Int32)), (5, .int (0 : Int32))]) [3, 4, 5, 2, 1, 0] rfl
  obtain ⟨n9, hw⟩ := hw
  exact L8 _ n9 _ _ _ _ _ _ _ hw hP hS hl
def ws_Req_signedDigest : List Cond := Cond.code y_Req_signedDigest c_Req_signedDigest 1 (Option.some Jvm.ClassFile.FieldType.int) :: GW
theorem d_Req_signedDigest_0 : decode c_Req_signedDigest 0 = .ok (.lconst 0, 1) := by decide +kernel
theorem d_Req_signedDigest_1 : decode c_Req_signedDigest 1 = .ok (.bipush 9, 2) := by decide +kernel
theorem d_Req_signedDigest_3 : decode c_Req_signedDigest 3 = .ok (.invokestatic 52, 3) := by decide +kernel
theorem d_Req_signedDigest_6 : decode c_Req_signedDigest 6 = .ok (.aload_n 0, 1) := by decide +kernel
theorem d_Req_signedDigest_7 : decode c_Req_signedDigest 7 = .ok (.getfield 31, 3) := by decide +kernel
theorem d_Req_signedDigest_10 : decode c_Req_signedDigest 10 = .ok (.invokestatic 52, 3) := by decide +kernel
theorem d_Req_signedDigest_13 : decode c_Req_signedDigest 13 = .ok (.aload_n 0, 1) := by decide +kernel
theorem d_Req_signedDigest_14 : decode c_Req_signedDigest 14 = .ok (.getfield 37, 3) := by decide +kernel
theorem d_Req_signedDigest_17 : decode c_Req_signedDigest 17 = .ok (.invokestatic 52, 3) := by decide +kernel
theorem d_Req_signedDigest_20 : decode c_Req_signedDigest 20 = .ok (.invokestatic 56, 3) := by decide +kernel
theorem d_Req_signedDigest_23 : decode c_Req_signedDigest 23 = .ok (.ireturn, 1) := by decide +kernel
def wp_Req_signedDigest (post : Int32 → ST → Prop) (X : ST) : Prop := wp_CA_mix (fun (r2 : Int64) (X1 : ST) => wp_CA_mix (fun (r4 : Int64) (X3 : ST) => wp_CA_mix (fun (r6 : Int64) (X5 : ST) => wp_CA_digestEnd (fun (r8 : Int32) (X7 : ST) => post r8 X7) X5 r6) X3 r4 (X3 65 0)) X1 r2 (X1 64 0)) X (0 : Int64) (9 : Int32)
set_option maxHeartbeats 4000000 in
set_option maxRecDepth 100000 in
theorem mt_Req_signedDigest (l : Launch) (hl9 : l.stackTraces = false) (dC : Nat → ClassId) (dI : Nat → Nat → Nat) (cA : Nat → ClassId) (ad : Nat → Nat) (hI : INJ ad 125) (sz : Nat) {X : ST} {post : Int32 → ST → Prop} (hw : wp_Req_signedDigest post X) : Met l y_Req_signedDigest ws_Req_signedDigest ({ frames := 1, cells := 0, slots := 0, locals := 24 } : Room) (va_Pc [.ref (ad 10)] (fun U => PC dC dI cA ad sz X U)) (va_Qi (fun r (u : ST) => post r u) (fun (u : ST) t => va_P (dC, dI) vwCl (wdC cA ad u) t.heap) (CA ad 125 sz)) 0 0 (CA ad 125 sz) := by
  refine Met.ofW (cc := c_Req_signedDigest) (maxL := 1) (ret := (some .int)) (by decide) rfl ?_
  intro p e s m args below meth c s₁ B hml hv
  obtain ⟨rfl, hsz, hP, hG⟩ := hv
  have hx := B.exec
  have hb := B.bytes
  have hr := B.returns
  have hts : ∀ w ∈ GW, w.before (([.ref (ad 10)] : List Value).toArray) s = true := fun w h => atoms_spec (ws := ws_Req_signedDigest) B.pre w (List.mem_cons_of_mem _ h)
  have hown : s.vm.findClass R_Req = some m.cls := findClass_of_methodNamed B.named
  have hlocks := B.notSynchronized
  subst hsz
  have hK := hG.1
  have hG9 := hG
  have hNW := hG.2.1
  have hD0 : ∀ (X : ST), va_D (CA ad 125 s.heap.size) (wdC cA ad X) := fun _ => zwC_D hI
  have hS : va_S (CA ad 125 s.heap.size) s.heap s.heap [] := va_S.rf
  have hl := lv_entry ([.ref (ad 10)]) (n := 1) (Nat.le_of_ble_eq_true rfl)
  rw [lg_entry_eq]
  generalize (lg_sl ([.ref (ad 10)]) ++ List.replicate (1 - (lg_sl ([.ref (ad 10)])).length) Slot.unset).toArray = ls at hl ⊢
  have hl : lv_has ls 1 [(0, .ref (ad 10))] := hl
  unfold wp_Req_signedDigest at hw
  refine lv_lconst (v := (0 : Int64)) hx hb d_Req_signedDigest_0 (by decide) ?_
  refine lv_bipush (v := (9 : Int32)) hx hb d_Req_signedDigest_1 (by decide) ?_
  refine va_calll (va_runSN (As := [.long (0 : Int64), .int (9 : Int32)]) (rest := []) ⟨hx, hb, hml, hown, hts⟩ (mt_CA_mix l hl9 dC dI cA ad hI _ hw) ⟨va_cnB 2 hts (gN gw_26) rfl rfl rfl (hNW _ (List.mem_of_getElem? (i := 19) rfl)) (hts _ gw_13) (by decide +kernel) ⟨Nat.le_of_ble_eq_true rfl, Nat.le_of_ble_eq_true rfl⟩, hts _ gw_28, trivial⟩ ⟨zwC_blind, zwC_pre hP hS hG9⟩ rfl rfl hl.1 rfl (lv_room (Nat.le_of_ble_eq_true rfl)) d_Req_signedDigest_3 ⟨Nat.le_of_ble_eq_true rfl, Nat.le_of_ble_eq_true rfl⟩) hS (fun q _ h => CA_le hS.1 q h) (fun q h => CA_le hS.1 q h) (fun r2 X1 t H locs ht hvm hw hP hz1 hk1 hS => ?_)
  have hP : va_P (dC, dI) vwCl (wdC cA ad X1) H := by rw [← ht]; exact hP
  try dsimp only at hw
  refine lv_aload_n hx hb d_Req_signedDigest_6 rfl (lv_at hl 0 rfl) ?_
  refine va_get (D := (dC, dI)) (ci := 3) (v := .int (X1 64 0)) (C := R_Req) (T := T_Req) (N := 4) hx hb hts in_Req hown hK hP (10) atC_Req rfl 0 (by decide) (hts _ gw_177) (fun _ h9 => h9) rfl d_Req_signedDigest_7 ?_
  refine va_calll (va_runSN (As := [.long r2, .int (X1 64 0)]) (rest := []) ⟨hx, hb, hml, hown, hts⟩ (mt_CA_mix l hl9 dC dI cA ad hI _ hw) ⟨va_cnB 2 hts (gN gw_26) rfl rfl rfl (hNW _ (List.mem_of_getElem? (i := 19) rfl)) (hts _ gw_13) (by decide +kernel) ⟨Nat.le_of_ble_eq_true rfl, Nat.le_of_ble_eq_true rfl⟩, hts _ gw_28, trivial⟩ ⟨zwC_blind, zwC_pre hP hS hG9⟩ rfl rfl hl.1 rfl (lv_room (Nat.le_of_ble_eq_true rfl)) d_Req_signedDigest_10 ⟨Nat.le_of_ble_eq_true rfl, Nat.le_of_ble_eq_true rfl⟩) hS (fun q _ h => CA_le hS.1 q h) (fun q h => CA_le hS.1 q h) (fun r4 X3 t H locs ht hvm hw hP hz1 hk1 hS => ?_)
  have hP : va_P (dC, dI) vwCl (wdC cA ad X3) H := by rw [← ht]; exact hP
  try dsimp only at hw
  refine lv_aload_n hx hb d_Req_signedDigest_13 rfl (lv_at hl 0 rfl) ?_
  refine va_get (D := (dC, dI)) (ci := 3) (v := .int (X3 65 0)) (C := R_Req) (T := T_Req) (N := 4) hx hb hts in_Req hown hK hP (10) atC_Req rfl 1 (by decide) (hts _ gw_178) (fun _ h9 => h9) rfl d_Req_signedDigest_14 ?_
  refine va_calll (va_runSN (As := [.long r4, .int (X3 65 0)]) (rest := []) ⟨hx, hb, hml, hown, hts⟩ (mt_CA_mix l hl9 dC dI cA ad hI _ hw) ⟨va_cnB 2 hts (gN gw_26) rfl rfl rfl (hNW _ (List.mem_of_getElem? (i := 19) rfl)) (hts _ gw_13) (by decide +kernel) ⟨Nat.le_of_ble_eq_true rfl, Nat.le_of_ble_eq_true rfl⟩, hts _ gw_28, trivial⟩ ⟨zwC_blind, zwC_pre hP hS hG9⟩ rfl rfl hl.1 rfl (lv_room (Nat.le_of_ble_eq_true rfl)) d_Req_signedDigest_17 ⟨Nat.le_of_ble_eq_true rfl, Nat.le_of_ble_eq_true rfl⟩) hS (fun q _ h => CA_le hS.1 q h) (fun q h => CA_le hS.1 q h) (fun r6 X5 t H locs ht hvm hw hP hz1 hk1 hS => ?_)
  have hP : va_P (dC, dI) vwCl (wdC cA ad X5) H := by rw [← ht]; exact hP
  try dsimp only at hw
  refine va_calli (va_runSN (As := [.long r6]) (rest := []) ⟨hx, hb, hml, hown, hts⟩ (mt_CA_digestEnd l hl9 dC dI cA ad hI _ hw) ⟨va_cnB 1 hts (gN gw_29) rfl rfl rfl (hNW _ (List.mem_of_getElem? (i := 20) rfl)) (hts _ gw_13) (by decide +kernel) ⟨Nat.le_of_ble_eq_true rfl, Nat.le_of_ble_eq_true rfl⟩, hts _ gw_31, trivial⟩ ⟨zwC_blind, zwC_pre hP hS hG9⟩ rfl rfl hl.1 rfl (lv_room (Nat.le_of_ble_eq_true rfl)) d_Req_signedDigest_20 ⟨Nat.le_of_ble_eq_true rfl, Nat.le_of_ble_eq_true rfl⟩) hS (fun q _ h => CA_le hS.1 q h) (fun q h => CA_le hS.1 q h) (fun r8 X7 t H locs ht hvm hw hP hz1 hk1 hS => ?_)
  have hP : va_P (dC, dI) vwCl (wdC cA ad X7) H := by rw [← ht]; exact hP
  try dsimp only at hw
  exact W.iret (v := r8) hx hb hr (fun t ht _ => ⟨⟨r8, X7, rfl, hw, by show va_P _ _ _ t.heap; rw [ht]; exact hP⟩, hS.F ht⟩) hS.2.2 d_Req_signedDigest_23
