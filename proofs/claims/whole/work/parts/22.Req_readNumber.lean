def ws_Req_readNumber : List Cond := Cond.code y_Req_readNumber c_Req_readNumber 8 (Option.some Jvm.ClassFile.FieldType.int) :: GW
theorem d_Req_readNumber_0 : decode c_Req_readNumber 0 = .ok (.aload_n 0, 1) := by decide +kernel
theorem d_Req_readNumber_1 : decode c_Req_readNumber 1 = .ok (.aload_n 1, 1) := by decide +kernel
theorem d_Req_readNumber_2 : decode c_Req_readNumber 2 = .ok (.iload_n 2, 1) := by decide +kernel
theorem d_Req_readNumber_3 : decode c_Req_readNumber 3 = .ok (.iconst 2, 1) := by decide +kernel
theorem d_Req_readNumber_4 : decode c_Req_readNumber 4 = .ok (.invokevirtual 60, 3) := by decide +kernel
theorem d_Req_readNumber_7 : decode c_Req_readNumber 7 = .ok (.aload_n 0, 1) := by decide +kernel
theorem d_Req_readNumber_8 : decode c_Req_readNumber 8 = .ok (.aload_n 1, 1) := by decide +kernel
theorem d_Req_readNumber_9 : decode c_Req_readNumber 9 = .ok (.iload_n 2, 1) := by decide +kernel
theorem d_Req_readNumber_10 : decode c_Req_readNumber 10 = .ok (.invokevirtual 64, 3) := by decide +kernel
theorem d_Req_readNumber_13 : decode c_Req_readNumber 13 = .ok (.istore_n 3, 1) := by decide +kernel
theorem d_Req_readNumber_14 : decode c_Req_readNumber 14 = .ok (.aload_n 0, 1) := by decide +kernel
theorem d_Req_readNumber_15 : decode c_Req_readNumber 15 = .ok (.aload_n 0, 1) := by decide +kernel
theorem d_Req_readNumber_16 : decode c_Req_readNumber 16 = .ok (.getfield 15, 3) := by decide +kernel
theorem d_Req_readNumber_19 : decode c_Req_readNumber 19 = .ok (.ifCond .eq 17, 3) := by decide +kernel
theorem d_Req_readNumber_22 : decode c_Req_readNumber 22 = .ok (.iload_n 3, 1) := by decide +kernel
theorem d_Req_readNumber_23 : decode c_Req_readNumber 23 = .ok (.iconst 1, 1) := by decide +kernel
theorem d_Req_readNumber_24 : decode c_Req_readNumber 24 = .ok (.if_icmp .lt 12, 3) := by decide +kernel
theorem d_Req_readNumber_27 : decode c_Req_readNumber 27 = .ok (.iload_n 3, 1) := by decide +kernel
theorem d_Req_readNumber_28 : decode c_Req_readNumber 28 = .ok (.iconst 4, 1) := by decide +kernel
theorem d_Req_readNumber_29 : decode c_Req_readNumber 29 = .ok (.if_icmp .gt 7, 3) := by decide +kernel
theorem d_Req_readNumber_32 : decode c_Req_readNumber 32 = .ok (.iconst 1, 1) := by decide +kernel
theorem d_Req_readNumber_33 : decode c_Req_readNumber 33 = .ok (.goto 4, 3) := by decide +kernel
theorem d_Req_readNumber_36 : decode c_Req_readNumber 36 = .ok (.iconst 0, 1) := by decide +kernel
theorem d_Req_readNumber_37 : decode c_Req_readNumber 37 = .ok (.putfield 15, 3) := by decide +kernel
theorem d_Req_readNumber_40 : decode c_Req_readNumber 40 = .ok (.aload_n 0, 1) := by decide +kernel
theorem d_Req_readNumber_41 : decode c_Req_readNumber 41 = .ok (.aload_n 1, 1) := by decide +kernel
theorem d_Req_readNumber_42 : decode c_Req_readNumber 42 = .ok (.iload_n 2, 1) := by decide +kernel
theorem d_Req_readNumber_43 : decode c_Req_readNumber 43 = .ok (.invokevirtual 67, 3) := by decide +kernel
theorem d_Req_readNumber_46 : decode c_Req_readNumber 46 = .ok (.istore 4, 2) := by decide +kernel
theorem d_Req_readNumber_48 : decode c_Req_readNumber 48 = .ok (.aload_n 0, 1) := by decide +kernel
theorem d_Req_readNumber_49 : decode c_Req_readNumber 49 = .ok (.aload_n 0, 1) := by decide +kernel
theorem d_Req_readNumber_50 : decode c_Req_readNumber 50 = .ok (.getfield 15, 3) := by decide +kernel
theorem d_Req_readNumber_53 : decode c_Req_readNumber 53 = .ok (.ifCond .eq 14, 3) := by decide +kernel
theorem d_Req_readNumber_56 : decode c_Req_readNumber 56 = .ok (.iload 4, 2) := by decide +kernel
theorem d_Req_readNumber_58 : decode c_Req_readNumber 58 = .ok (.bipush 127, 2) := by decide +kernel
theorem d_Req_readNumber_60 : decode c_Req_readNumber 60 = .ok (.if_icmp .gt 7, 3) := by decide +kernel
theorem d_Req_readNumber_63 : decode c_Req_readNumber 63 = .ok (.iconst 1, 1) := by decide +kernel
theorem d_Req_readNumber_64 : decode c_Req_readNumber 64 = .ok (.goto 4, 3) := by decide +kernel
theorem d_Req_readNumber_67 : decode c_Req_readNumber 67 = .ok (.iconst 0, 1) := by decide +kernel
theorem d_Req_readNumber_68 : decode c_Req_readNumber 68 = .ok (.putfield 15, 3) := by decide +kernel
theorem d_Req_readNumber_71 : decode c_Req_readNumber 71 = .ok (.iload 4, 2) := by decide +kernel
theorem d_Req_readNumber_73 : decode c_Req_readNumber 73 = .ok (.istore 5, 2) := by decide +kernel
theorem d_Req_readNumber_75 : decode c_Req_readNumber 75 = .ok (.iconst 1, 1) := by decide +kernel
theorem d_Req_readNumber_76 : decode c_Req_readNumber 76 = .ok (.istore 6, 2) := by decide +kernel
theorem d_Req_readNumber_78 : decode c_Req_readNumber 78 = .ok (.iload 6, 2) := by decide +kernel
theorem d_Req_readNumber_80 : decode c_Req_readNumber 80 = .ok (.iload_n 3, 1) := by decide +kernel
theorem d_Req_readNumber_81 : decode c_Req_readNumber 81 = .ok (.if_icmp .ge 68, 3) := by decide +kernel
theorem d_Req_readNumber_84 : decode c_Req_readNumber 84 = .ok (.aload_n 0, 1) := by decide +kernel
theorem d_Req_readNumber_85 : decode c_Req_readNumber 85 = .ok (.getfield 15, 3) := by decide +kernel
theorem d_Req_readNumber_88 : decode c_Req_readNumber 88 = .ok (.ifCond .eq 61, 3) := by decide +kernel
theorem d_Req_readNumber_91 : decode c_Req_readNumber 91 = .ok (.aload_n 0, 1) := by decide +kernel
theorem d_Req_readNumber_92 : decode c_Req_readNumber 92 = .ok (.aload_n 1, 1) := by decide +kernel
theorem d_Req_readNumber_93 : decode c_Req_readNumber 93 = .ok (.iload_n 2, 1) := by decide +kernel
theorem d_Req_readNumber_94 : decode c_Req_readNumber 94 = .ok (.invokevirtual 67, 3) := by decide +kernel
theorem d_Req_readNumber_97 : decode c_Req_readNumber 97 = .ok (.istore 7, 2) := by decide +kernel
theorem d_Req_readNumber_99 : decode c_Req_readNumber 99 = .ok (.aload_n 0, 1) := by decide +kernel
theorem d_Req_readNumber_100 : decode c_Req_readNumber 100 = .ok (.aload_n 0, 1) := by decide +kernel
theorem d_Req_readNumber_101 : decode c_Req_readNumber 101 = .ok (.getfield 15, 3) := by decide +kernel
theorem d_Req_readNumber_104 : decode c_Req_readNumber 104 = .ok (.ifCond .eq 25, 3) := by decide +kernel
theorem d_Req_readNumber_107 : decode c_Req_readNumber 107 = .ok (.iload 6, 2) := by decide +kernel
theorem d_Req_readNumber_109 : decode c_Req_readNumber 109 = .ok (.iconst 1, 1) := by decide +kernel
theorem d_Req_readNumber_110 : decode c_Req_readNumber 110 = .ok (.if_icmp .gt 15, 3) := by decide +kernel
theorem d_Req_readNumber_113 : decode c_Req_readNumber 113 = .ok (.iload 4, 2) := by decide +kernel
theorem d_Req_readNumber_115 : decode c_Req_readNumber 115 = .ok (.ifCond .ne 10, 3) := by decide +kernel
theorem d_Req_readNumber_118 : decode c_Req_readNumber 118 = .ok (.iload 7, 2) := by decide +kernel
theorem d_Req_readNumber_120 : decode c_Req_readNumber 120 = .ok (.bipush 127, 2) := by decide +kernel
theorem d_Req_readNumber_122 : decode c_Req_readNumber 122 = .ok (.if_icmp .le 7, 3) := by decide +kernel
theorem d_Req_readNumber_125 : decode c_Req_readNumber 125 = .ok (.iconst 1, 1) := by decide +kernel
theorem d_Req_readNumber_126 : decode c_Req_readNumber 126 = .ok (.goto 4, 3) := by decide +kernel
theorem d_Req_readNumber_129 : decode c_Req_readNumber 129 = .ok (.iconst 0, 1) := by decide +kernel
theorem d_Req_readNumber_130 : decode c_Req_readNumber 130 = .ok (.putfield 15, 3) := by decide +kernel
theorem d_Req_readNumber_133 : decode c_Req_readNumber 133 = .ok (.iload 5, 2) := by decide +kernel
theorem d_Req_readNumber_135 : decode c_Req_readNumber 135 = .ok (.bipush 8, 2) := by decide +kernel
theorem d_Req_readNumber_137 : decode c_Req_readNumber 137 = .ok (.ishl, 1) := by decide +kernel
theorem d_Req_readNumber_138 : decode c_Req_readNumber 138 = .ok (.iload 7, 2) := by decide +kernel
theorem d_Req_readNumber_140 : decode c_Req_readNumber 140 = .ok (.ior, 1) := by decide +kernel
theorem d_Req_readNumber_141 : decode c_Req_readNumber 141 = .ok (.istore 5, 2) := by decide +kernel
theorem d_Req_readNumber_143 : decode c_Req_readNumber 143 = .ok (.iinc 6 1, 3) := by decide +kernel
theorem d_Req_readNumber_146 : decode c_Req_readNumber 146 = .ok (.goto (-68), 3) := by decide +kernel
theorem d_Req_readNumber_149 : decode c_Req_readNumber 149 = .ok (.iload 5, 2) := by decide +kernel
theorem d_Req_readNumber_151 : decode c_Req_readNumber 151 = .ok (.ireturn, 1) := by decide +kernel
def wq_Req_readNumber_130 (post : Int32 → ST → Prop) (J78 : Int32 → Int32 → ST → Prop) (s0 : Int32) (v2 : Int32) (v3 : Int32) (v4 : Int32) (v5 : Int32) (v6 : Int32) (v7 : Int32) (X : ST) : Prop := ((s0 = 0 ∨ s0 = 1) ∧ J78 ((v5 <<< ((8 : Int32) &&& 31)) ||| v7) (v6 + (1 : Int32)) (up X 67 0 s0))
def wq_Req_readNumber_78 (post : Int32 → ST → Prop) (v2 : Int32) (v3 : Int32) (v4 : Int32) : Nat → Int32 → Int32 → ST → Prop
  | 0 => fun _ _ _ => False
  | n + 1 => fun v5 v6 X => ((v3 ≤ v6 → post v5 X) ∧ (¬ v3 ≤ v6 → (((X 67 0) = 0 → post v5 X) ∧ (¬ (X 67 0) = 0 → wp_Req_readByte (fun (r5 : Int32) (X4 : ST) => (((X4 67 0) = 0 → wq_Req_readNumber_130 post (wq_Req_readNumber_78 post v2 v3 v4 n) (0 : Int32) v2 v3 v4 v5 v6 r5 X4) ∧ (¬ (X4 67 0) = 0 → (((1 : Int32) < v6 → wq_Req_readNumber_130 post (wq_Req_readNumber_78 post v2 v3 v4 n) (1 : Int32) v2 v3 v4 v5 v6 r5 X4) ∧ (¬ (1 : Int32) < v6 → ((v4 = 0 → ((r5 ≤ (127 : Int32) → wq_Req_readNumber_130 post (wq_Req_readNumber_78 post v2 v3 v4 n) (0 : Int32) v2 v3 v4 v5 v6 r5 X4) ∧ (¬ r5 ≤ (127 : Int32) → wq_Req_readNumber_130 post (wq_Req_readNumber_78 post v2 v3 v4 n) (1 : Int32) v2 v3 v4 v5 v6 r5 X4))) ∧ (¬ v4 = 0 → wq_Req_readNumber_130 post (wq_Req_readNumber_78 post v2 v3 v4 n) (1 : Int32) v2 v3 v4 v5 v6 r5 X4))))))) X v2))))
def wq_Req_readNumber_68 (post : Int32 → ST → Prop) (s0 : Int32) (v2 : Int32) (v3 : Int32) (v4 : Int32) (X : ST) : Prop := ((s0 = 0 ∨ s0 = 1) ∧ (∃ n9, wq_Req_readNumber_78 post v2 v3 v4 n9 v4 (1 : Int32) (up X 67 0 s0)))
def wq_Req_readNumber_37 (post : Int32 → ST → Prop) (s0 : Int32) (v2 : Int32) (v3 : Int32) (X : ST) : Prop := ((s0 = 0 ∨ s0 = 1) ∧ wp_Req_readByte (fun (r13 : Int32) (X12 : ST) => (((X12 67 0) = 0 → wq_Req_readNumber_68 post (0 : Int32) v2 v3 r13 X12) ∧ (¬ (X12 67 0) = 0 → (((127 : Int32) < r13 → wq_Req_readNumber_68 post (0 : Int32) v2 v3 r13 X12) ∧ (¬ (127 : Int32) < r13 → wq_Req_readNumber_68 post (1 : Int32) v2 v3 r13 X12))))) (up X 67 0 s0) v2)
def wp_Req_readNumber (post : Int32 → ST → Prop) (X : ST) (a2 : Int32) : Prop := wp_Req_skipTag (fun (X16 : ST) => wp_Req_readLength (fun (r19 : Int32) (X18 : ST) => (((X18 67 0) = 0 → wq_Req_readNumber_37 post (0 : Int32) a2 r19 X18) ∧ (¬ (X18 67 0) = 0 → ((r19 < (1 : Int32) → wq_Req_readNumber_37 post (0 : Int32) a2 r19 X18) ∧ (¬ r19 < (1 : Int32) → (((4 : Int32) < r19 → wq_Req_readNumber_37 post (0 : Int32) a2 r19 X18) ∧ (¬ (4 : Int32) < r19 → wq_Req_readNumber_37 post (1 : Int32) a2 r19 X18))))))) X16 a2) X a2 (2 : Int32)
set_option maxHeartbeats 4000000 in
set_option maxRecDepth 100000 in
theorem mt_Req_readNumber (l : Launch) (hl9 : l.stackTraces = false) (dC : Nat → ClassId) (dI : Nat → Nat → Nat) (cA : Nat → ClassId) (ad : Nat → Nat) (hI : INJ ad 125) (sz : Nat) {X : ST} {a2 : Int32} {post : Int32 → ST → Prop} (hw : wp_Req_readNumber post X a2) : Met l y_Req_readNumber ws_Req_readNumber ({ frames := 2, cells := 0, slots := 0, locals := 46 } : Room) (va_Pc [.ref (ad 10), .ref (ad 8), .int a2] (fun U => PC dC dI cA ad sz X U)) (va_Qi (fun r (u : ST) => post r u) (fun (u : ST) t => va_P (dC, dI) vwCl (wdC cA ad u) t.heap) (CA ad 125 sz)) 0 0 (CA ad 125 sz) := by
  refine Met.ofW (cc := c_Req_readNumber) (maxL := 8) (ret := (some .int)) (by decide) rfl ?_
  intro p e s m args below meth c s₁ B hml hv
  obtain ⟨rfl, hsz, hP, hG⟩ := hv
  have hx := B.exec
  have hb := B.bytes
  have hr := B.returns
  have hts : ∀ w ∈ GW, w.before (([.ref (ad 10), .ref (ad 8), .int a2] : List Value).toArray) s = true := fun w h => atoms_spec (ws := ws_Req_readNumber) B.pre w (List.mem_cons_of_mem _ h)
  have hown : s.vm.findClass R_Req = some m.cls := findClass_of_methodNamed B.named
  have hlocks := B.notSynchronized
  subst hsz
  have hK := hG.1
  have hG9 := hG
  have hNW := hG.2.1
  have hD0 : ∀ (X : ST), va_D (CA ad 125 s.heap.size) (wdC cA ad X) := fun _ => zwC_D hI
  have hS : va_S (CA ad 125 s.heap.size) s.heap s.heap [] := va_S.rf
  have hl := lv_entry ([.ref (ad 10), .ref (ad 8), .int a2]) (n := 8) (Nat.le_of_ble_eq_true rfl)
  rw [lg_entry_eq]
  generalize (lg_sl ([.ref (ad 10), .ref (ad 8), .int a2]) ++ List.replicate (8 - (lg_sl ([.ref (ad 10), .ref (ad 8), .int a2])).length) Slot.unset).toArray = ls at hl ⊢
  have hl : lv_has ls 8 [(0, .ref (ad 10)), (1, .ref (ad 8)), (2, .int a2)] := hl
  have L130 : ∀ (v2 : Int32) (v3 : Int32) (v4 : Int32), ∀ (J78 : Int32 → Int32 → ST → Prop), (∀ (v5 : Int32) (v6 : Int32) (X : ST) (H : Heap) (locs : List Loc) (ls : Array Slot), J78 v5 v6 X → va_P (dC, dI) vwCl (wdC cA ad X) H → va_S (CA ad 125 s.heap.size) s.heap H locs → lv_has ls 8 [(0, .ref (ad 10)), (1, .ref (ad 8)), (2, .int v2), (3, .int v3), (4, .int v4), (5, .int v5), (6, .int v6)] → W p l e (headSpec ws_Req_readNumber ({ frames := 2, cells := 0, slots := 0, locals := 46 } : Room)).room s m (([.ref (ad 10), .ref (ad 8), .int a2] : List Value).toArray) below meth c H locs 0 0 (MQ below (va_Qi (fun r (u : ST) => post r u) (fun (u : ST) t => va_P (dC, dI) vwCl (wdC cA ad u) t.heap) (CA ad 125 s.heap.size)) (([.ref (ad 10), .ref (ad 8), .int a2] : List Value).toArray) s 0 0 (CA ad 125 s.heap.size)) (F0 m 78 ls [])) → ∀ (s0 : Int32) (v5 : Int32) (v6 : Int32) (v7 : Int32) (X : ST) (H : Heap) (locs : List Loc) (ls : Array Slot), wq_Req_readNumber_130 post J78 s0 v2 v3 v4 v5 v6 v7 X → va_P (dC, dI) vwCl (wdC cA ad X) H → va_S (CA ad 125 s.heap.size) s.heap H locs → lv_has ls 8 [(0, .ref (ad 10)), (1, .ref (ad 8)), (2, .int v2), (3, .int v3), (4, .int v4), (5, .int v5), (6, .int v6), (7, .int v7)] → W p l e (headSpec ws_Req_readNumber ({ frames := 2, cells := 0, slots := 0, locals := 46 } : Room)).room s m (([.ref (ad 10), .ref (ad 8), .int a2] : List Value).toArray) below meth c H locs 0 0 (MQ below (va_Qi (fun r (u : ST) => post r u) (fun (u : ST) t => va_P (dC, dI) vwCl (wdC cA ad u) t.heap) (CA ad 125 s.heap.size)) (([.ref (ad 10), .ref (ad 8), .int a2] : List Value).toArray) s 0 0 (CA ad 125 s.heap.size)) (F0 m 130 ls [.int s0, .ref (ad 10)]) := by
    intro v2 v3 v4 J78 hJ78 s0 v5 v6 v7 X H locs ls hw hP hS hl
    unfold wq_Req_readNumber_130 at hw
    obtain ⟨h1, hw⟩ := hw
    refine va_put (D := (dC, dI)) (ci := 3) (v := .int s0) (ty := .boolean) (C := R_Req) (T := T_Req) (N := 4) hx hb hts in_Req ty_Req ty_Req_ok nm_Req hown hK hP (hD0 _) hS (10) atC_Req rfl 3 (by decide) (hts _ gw_156) (fun _ h9 => h9) rfl (by decide +kernel) (zw_bn h1) (zw_bf h1) (Nat.le_of_ble_eq_true rfl) d_Req_readNumber_130 (fun H locs hP _ hS => ?_)
    have hP : va_P (dC, dI) vwCl (wdC cA ad (up X 67 0 s0)) H := by rw [← stC_Req_3]; exact hP
    refine lv_iload hx hb d_Req_readNumber_133 (lv_at hl 5 rfl) ?_
    refine lv_bipush (v := (8 : Int32)) hx hb d_Req_readNumber_135 (by decide) ?_
    refine lv_ishl hx hb d_Req_readNumber_137 ?_
    refine lv_iload hx hb d_Req_readNumber_138 (lv_at hl 7 rfl) ?_
    refine lv_ior hx hb d_Req_readNumber_140 ?_
    refine lv_istore (lv' := [(5, .int ((v5 <<< ((8 : Int32) &&& 31)) ||| v7)), (0, .ref (ad 10)), (1, .ref (ad 8)), (2, .int v2), (3, .int v3), (4, .int v4), (6, .int v6), (7, .int v7)]) hx hb d_Req_readNumber_141 hl (by decide) rfl (fun ls hl => ?_)
    refine lv_iinc (k := 6) (v := v6 + (1 : Int32)) (lv' := [(6, .int (v6 + (1 : Int32))), (5, .int ((v5 <<< ((8 : Int32) &&& 31)) ||| v7)), (0, .ref (ad 10)), (1, .ref (ad 8)), (2, .int v2), (3, .int v3), (4, .int v4), (7, .int v7)]) hx hb d_Req_readNumber_143 hl rfl rfl (by decide) rfl (fun ls hl => ?_)
    refine lv_goto (tgt := 78) hx hb d_Req_readNumber_146 (by decide) ?_
    have hl := lv_sub hl (l' := [(0, .ref (ad 10)), (1, .ref (ad 8)), (2, .int v2), (3, .int v3), (4, .int v4), (5, .int ((v5 <<< ((8 : Int32) &&& 31)) ||| v7)), (6, .int (v6 + (1 : Int32)))]) [2, 3, 4, 5, 6, 1, 0] rfl
    exact hJ78 _ _ _ _ _ _ hw hP hS hl
  have L78 : ∀ (v2 : Int32) (v3 : Int32) (v4 : Int32), ∀ (n : Nat), ∀ (v5 : Int32) (v6 : Int32) (X : ST) (H : Heap) (locs : List Loc) (ls : Array Slot), wq_Req_readNumber_78 post v2 v3 v4 n v5 v6 X → va_P (dC, dI) vwCl (wdC cA ad X) H → va_S (CA ad 125 s.heap.size) s.heap H locs → lv_has ls 8 [(0, .ref (ad 10)), (1, .ref (ad 8)), (2, .int v2), (3, .int v3), (4, .int v4), (5, .int v5), (6, .int v6)] → W p l e (headSpec ws_Req_readNumber ({ frames := 2, cells := 0, slots := 0, locals := 46 } : Room)).room s m (([.ref (ad 10), .ref (ad 8), .int a2] : List Value).toArray) below meth c H locs 0 0 (MQ below (va_Qi (fun r (u : ST) => post r u) (fun (u : ST) t => va_P (dC, dI) vwCl (wdC cA ad u) t.heap) (CA ad 125 s.heap.size)) (([.ref (ad 10), .ref (ad 8), .int a2] : List Value).toArray) s 0 0 (CA ad 125 s.heap.size)) (F0 m 78 ls []) := by
    intro v2 v3 v4 n
    induction n with
    | zero => intro v5 v6 X H locs ls hw hP hS hl; exact False.elim hw
    | succ n ih =>
      intro v5 v6 X H locs ls hw hP hS hl
      dsimp only [wq_Req_readNumber_78] at hw
      refine lv_iload hx hb d_Req_readNumber_78 (lv_at hl 6 rfl) ?_
      refine lv_iload_n hx hb d_Req_readNumber_80 rfl (lv_at hl 3 rfl) ?_
      refine lv_icmp_ge (tgt := 149) hx hb d_Req_readNumber_81 (by decide) (fun c2 => ?_) (fun c2 => ?_)
      · have hw := hw.1 c2
        refine lv_iload hx hb d_Req_readNumber_149 (lv_at hl 5 rfl) ?_
        exact W.iret (v := v5) hx hb hr (fun t ht _ => ⟨⟨v5, X, rfl, hw, by show va_P _ _ _ t.heap; rw [ht]; exact hP⟩, hS.F ht⟩) hS.2.2 d_Req_readNumber_151
      · have hw := hw.2 c2
        refine lv_aload_n hx hb d_Req_readNumber_84 rfl (lv_at hl 0 rfl) ?_
        refine va_get (D := (dC, dI)) (ci := 3) (v := .int (X 67 0)) (C := R_Req) (T := T_Req) (N := 4) hx hb hts in_Req hown hK hP (10) atC_Req rfl 3 (by decide) (hts _ gw_156) (fun _ h9 => h9) rfl d_Req_readNumber_85 ?_
        refine lv_if_eq (tgt := 149) hx hb d_Req_readNumber_88 (by decide) (fun c3 => ?_) (fun c3 => ?_)
        · have hw := hw.1 c3
          refine lv_iload hx hb d_Req_readNumber_149 (lv_at hl 5 rfl) ?_
          exact W.iret (v := v5) hx hb hr (fun t ht _ => ⟨⟨v5, X, rfl, hw, by show va_P _ _ _ t.heap; rw [ht]; exact hP⟩, hS.F ht⟩) hS.2.2 d_Req_readNumber_151
        · have hw := hw.2 c3
          refine lv_aload_n hx hb d_Req_readNumber_91 rfl (lv_at hl 0 rfl) ?_
          refine lv_aload_n hx hb d_Req_readNumber_92 rfl (lv_at hl 1 rfl) ?_
          refine lv_iload_n hx hb d_Req_readNumber_93 rfl (lv_at hl 2 rfl) ?_
          refine va_calli (va_runV (As := [.ref (ad 8), .int v2]) (rest := []) ⟨hx, hb, hml, hown, hts⟩ (mt_Req_readByte l hl9 dC dI cA ad hI _ hw) (cwV 2 hts (gV gw_161 gw_162 gw_163 gw_164 gw_160) rfl rfl rfl (by decide +kernel) ⟨Nat.le_of_ble_eq_true rfl, Nat.le_of_ble_eq_true rfl⟩) ⟨zwC_blind, va_recv hK hP (ci := 3) (q0 := 10) rfl atC_Req, zwC_pre hP hS hG9⟩ rfl rfl hl.1 rfl (lv_room (Nat.le_of_ble_eq_true rfl)) d_Req_readNumber_94 ⟨Nat.le_of_ble_eq_true rfl, Nat.le_of_ble_eq_true rfl⟩) hS (fun q _ h => CA_le hS.1 q h) (fun q h => CA_le hS.1 q h) (fun r5 X4 t H locs ht hvm hw hP hz1 hk1 hS => ?_)
          have hP : va_P (dC, dI) vwCl (wdC cA ad X4) H := by rw [← ht]; exact hP
          try dsimp only at hw
          refine lv_istore (lv' := [(7, .int r5), (0, .ref (ad 10)), (1, .ref (ad 8)), (2, .int v2), (3, .int v3), (4, .int v4), (5, .int v5), (6, .int v6)]) hx hb d_Req_readNumber_97 hl (by decide) rfl (fun ls hl => ?_)
          refine lv_aload_n hx hb d_Req_readNumber_99 rfl (lv_at hl 1 rfl) ?_
          refine lv_aload_n hx hb d_Req_readNumber_100 rfl (lv_at hl 1 rfl) ?_
          refine va_get (D := (dC, dI)) (ci := 3) (v := .int (X4 67 0)) (C := R_Req) (T := T_Req) (N := 4) hx hb hts in_Req hown hK hP (10) atC_Req rfl 3 (by decide) (hts _ gw_156) (fun _ h9 => h9) rfl d_Req_readNumber_101 ?_
          refine lv_if_eq (tgt := 129) hx hb d_Req_readNumber_104 (by decide) (fun c6 => ?_) (fun c6 => ?_)
          · have hw := hw.1 c6
            refine lv_iconst (v := (0 : Int32)) hx hb d_Req_readNumber_129 (by decide) ?_
            have hl := lv_sub hl (l' := [(0, .ref (ad 10)), (1, .ref (ad 8)), (2, .int v2), (3, .int v3), (4, .int v4), (5, .int v5), (6, .int v6), (7, .int r5)]) [1, 2, 3, 4, 5, 6, 7, 0] rfl
            exact L130 _ _ _ (wq_Req_readNumber_78 post v2 v3 v4 n) ih _ _ _ _ _ _ _ _ hw hP hS hl
          · have hw := hw.2 c6
            refine lv_iload hx hb d_Req_readNumber_107 (lv_at hl 7 rfl) ?_
            refine lv_iconst (v := (1 : Int32)) hx hb d_Req_readNumber_109 (by decide) ?_
            refine lv_icmp_gt (tgt := 125) hx hb d_Req_readNumber_110 (by decide) (fun c7 => ?_) (fun c7 => ?_)
            · have hw := hw.1 c7
              refine lv_iconst (v := (1 : Int32)) hx hb d_Req_readNumber_125 (by decide) ?_
              refine lv_goto (tgt := 130) hx hb d_Req_readNumber_126 (by decide) ?_
              have hl := lv_sub hl (l' := [(0, .ref (ad 10)), (1, .ref (ad 8)), (2, .int v2), (3, .int v3), (4, .int v4), (5, .int v5), (6, .int v6), (7, .int r5)]) [1, 2, 3, 4, 5, 6, 7, 0] rfl
              exact L130 _ _ _ (wq_Req_readNumber_78 post v2 v3 v4 n) ih _ _ _ _ _ _ _ _ hw hP hS hl
            · have hw := hw.2 c7
              refine lv_iload hx hb d_Req_readNumber_113 (lv_at hl 5 rfl) ?_
              refine lv_if_ne (tgt := 125) hx hb d_Req_readNumber_115 (by decide) (fun c8 => ?_) (fun c8 => ?_)
              · have hw := hw.2 c8
                refine lv_iconst (v := (1 : Int32)) hx hb d_Req_readNumber_125 (by decide) ?_
                refine lv_goto (tgt := 130) hx hb d_Req_readNumber_126 (by decide) ?_
                have hl := lv_sub hl (l' := [(0, .ref (ad 10)), (1, .ref (ad 8)), (2, .int v2), (3, .int v3), (4, .int v4), (5, .int v5), (6, .int v6), (7, .int r5)]) [1, 2, 3, 4, 5, 6, 7, 0] rfl
                exact L130 _ _ _ (wq_Req_readNumber_78 post v2 v3 v4 n) ih _ _ _ _ _ _ _ _ hw hP hS hl
              · have hw := hw.1 c8
                refine lv_iload hx hb d_Req_readNumber_118 (lv_at hl 0 rfl) ?_
                refine lv_bipush (v := (127 : Int32)) hx hb d_Req_readNumber_120 (by decide) ?_
                refine lv_icmp_le (tgt := 129) hx hb d_Req_readNumber_122 (by decide) (fun c9 => ?_) (fun c9 => ?_)
                · have hw := hw.1 c9
                  refine lv_iconst (v := (0 : Int32)) hx hb d_Req_readNumber_129 (by decide) ?_
                  have hl := lv_sub hl (l' := [(0, .ref (ad 10)), (1, .ref (ad 8)), (2, .int v2), (3, .int v3), (4, .int v4), (5, .int v5), (6, .int v6), (7, .int r5)]) [1, 2, 3, 4, 5, 6, 7, 0] rfl
                  exact L130 _ _ _ (wq_Req_readNumber_78 post v2 v3 v4 n) ih _ _ _ _ _ _ _ _ hw hP hS hl
                · have hw := hw.2 c9
                  refine lv_iconst (v := (1 : Int32)) hx hb d_Req_readNumber_125 (by decide) ?_
                  refine lv_goto (tgt := 130) hx hb d_Req_readNumber_126 (by decide) ?_
                  have hl := lv_sub hl (l' := [(0, .ref (ad 10)), (1, .ref (ad 8)), (2, .int v2), (3, .int v3), (4, .int v4), (5, .int v5), (6, .int v6), (7, .int r5)]) [1, 2, 3, 4, 5, 6, 7, 0] rfl
                  exact L130 _ _ _ (wq_Req_readNumber_78 post v2 v3 v4 n) ih _ _ _ _ _ _ _ _ hw hP hS hl
  have L68 : ∀ (s0 : Int32) (v2 : Int32) (v3 : Int32) (v4 : Int32) (X : ST) (H : Heap) (locs : List Loc) (ls : Array Slot), wq_Req_readNumber_68 post s0 v2 v3 v4 X → va_P (dC, dI) vwCl (wdC cA ad X) H → va_S (CA ad 125 s.heap.size) s.heap H locs → lv_has ls 8 [(0, .ref (ad 10)), (1, .ref (ad 8)), (2, .int v2), (3, .int v3), (4, .int v4)] → W p l e (headSpec ws_Req_readNumber ({ frames := 2, cells := 0, slots := 0, locals := 46 } : Room)).room s m (([.ref (ad 10), .ref (ad 8), .int a2] : List Value).toArray) below meth c H locs 0 0 (MQ below (va_Qi (fun r (u : ST) => post r u) (fun (u : ST) t => va_P (dC, dI) vwCl (wdC cA ad u) t.heap) (CA ad 125 s.heap.size)) (([.ref (ad 10), .ref (ad 8), .int a2] : List Value).toArray) s 0 0 (CA ad 125 s.heap.size)) (F0 m 68 ls [.int s0, .ref (ad 10)]) := by
    intro s0 v2 v3 v4 X H locs ls hw hP hS hl
    unfold wq_Req_readNumber_68 at hw
    obtain ⟨h10, hw⟩ := hw
    refine va_put (D := (dC, dI)) (ci := 3) (v := .int s0) (ty := .boolean) (C := R_Req) (T := T_Req) (N := 4) hx hb hts in_Req ty_Req ty_Req_ok nm_Req hown hK hP (hD0 _) hS (10) atC_Req rfl 3 (by decide) (hts _ gw_156) (fun _ h9 => h9) rfl (by decide +kernel) (zw_bn h10) (zw_bf h10) (Nat.le_of_ble_eq_true rfl) d_Req_readNumber_68 (fun H locs hP _ hS => ?_)
    have hP : va_P (dC, dI) vwCl (wdC cA ad (up X 67 0 s0)) H := by rw [← stC_Req_3]; exact hP
    refine lv_iload hx hb d_Req_readNumber_71 (lv_at hl 4 rfl) ?_
    refine lv_istore (lv' := [(5, .int v4), (0, .ref (ad 10)), (1, .ref (ad 8)), (2, .int v2), (3, .int v3), (4, .int v4)]) hx hb d_Req_readNumber_73 hl (by decide) rfl (fun ls hl => ?_)
    refine lv_iconst (v := (1 : Int32)) hx hb d_Req_readNumber_75 (by decide) ?_
    refine lv_istore (lv' := [(6, .int (1 : Int32)), (5, .int v4), (0, .ref (ad 10)), (1, .ref (ad 8)), (2, .int v2), (3, .int v3), (4, .int v4)]) hx hb d_Req_readNumber_76 hl (by decide) rfl (fun ls hl => ?_)
    have hl := lv_sub hl (l' := [(0, .ref (ad 10)), (1, .ref (ad 8)), (2, .int v2), (3, .int v3), (4, .int v4), (5, .int v4), (6, .int (1 : Int32))]) [2, 3, 4, 5, 6, 1, 0] rfl
    obtain ⟨n9, hw⟩ := hw
    exact L78 _ _ _ n9 _ _ _ _ _ _ hw hP hS hl
  have L37 : ∀ (s0 : Int32) (v2 : Int32) (v3 : Int32) (X : ST) (H : Heap) (locs : List Loc) (ls : Array Slot), wq_Req_readNumber_37 post s0 v2 v3 X → va_P (dC, dI) vwCl (wdC cA ad X) H → va_S (CA ad 125 s.heap.size) s.heap H locs → lv_has ls 8 [(0, .ref (ad 10)), (1, .ref (ad 8)), (2, .int v2), (3, .int v3)] → W p l e (headSpec ws_Req_readNumber ({ frames := 2, cells := 0, slots := 0, locals := 46 } : Room)).room s m (([.ref (ad 10), .ref (ad 8), .int a2] : List Value).toArray) below meth c H locs 0 0 (MQ below (va_Qi (fun r (u : ST) => post r u) (fun (u : ST) t => va_P (dC, dI) vwCl (wdC cA ad u) t.heap) (CA ad 125 s.heap.size)) (([.ref (ad 10), .ref (ad 8), .int a2] : List Value).toArray) s 0 0 (CA ad 125 s.heap.size)) (F0 m 37 ls [.int s0, .ref (ad 10)]) := by
    intro s0 v2 v3 X H locs ls hw hP hS hl
    unfold wq_Req_readNumber_37 at hw
    obtain ⟨h11, hw⟩ := hw
    refine va_put (D := (dC, dI)) (ci := 3) (v := .int s0) (ty := .boolean) (C := R_Req) (T := T_Req) (N := 4) hx hb hts in_Req ty_Req ty_Req_ok nm_Req hown hK hP (hD0 _) hS (10) atC_Req rfl 3 (by decide) (hts _ gw_156) (fun _ h9 => h9) rfl (by decide +kernel) (zw_bn h11) (zw_bf h11) (Nat.le_of_ble_eq_true rfl) d_Req_readNumber_37 (fun H locs hP _ hS => ?_)
    have hP : va_P (dC, dI) vwCl (wdC cA ad (up X 67 0 s0)) H := by rw [← stC_Req_3]; exact hP
    refine lv_aload_n hx hb d_Req_readNumber_40 rfl (lv_at hl 0 rfl) ?_
    refine lv_aload_n hx hb d_Req_readNumber_41 rfl (lv_at hl 1 rfl) ?_
    refine lv_iload_n hx hb d_Req_readNumber_42 rfl (lv_at hl 2 rfl) ?_
    refine va_calli (va_runV (As := [.ref (ad 8), .int v2]) (rest := []) ⟨hx, hb, hml, hown, hts⟩ (mt_Req_readByte l hl9 dC dI cA ad hI _ hw) (cwV 2 hts (gV gw_161 gw_162 gw_163 gw_164 gw_160) rfl rfl rfl (by decide +kernel) ⟨Nat.le_of_ble_eq_true rfl, Nat.le_of_ble_eq_true rfl⟩) ⟨zwC_blind, va_recv hK hP (ci := 3) (q0 := 10) rfl atC_Req, zwC_pre hP hS hG9⟩ rfl rfl hl.1 rfl (lv_room (Nat.le_of_ble_eq_true rfl)) d_Req_readNumber_43 ⟨Nat.le_of_ble_eq_true rfl, Nat.le_of_ble_eq_true rfl⟩) hS (fun q _ h => CA_le hS.1 q h) (fun q h => CA_le hS.1 q h) (fun r13 X12 t H locs ht hvm hw hP hz1 hk1 hS => ?_)
    have hP : va_P (dC, dI) vwCl (wdC cA ad X12) H := by rw [← ht]; exact hP
    try dsimp only at hw
    refine lv_istore (lv' := [(4, .int r13), (0, .ref (ad 10)), (1, .ref (ad 8)), (2, .int v2), (3, .int v3)]) hx hb d_Req_readNumber_46 hl (by decide) rfl (fun ls hl => ?_)
    refine lv_aload_n hx hb d_Req_readNumber_48 rfl (lv_at hl 1 rfl) ?_
    refine lv_aload_n hx hb d_Req_readNumber_49 rfl (lv_at hl 1 rfl) ?_
    refine va_get (D := (dC, dI)) (ci := 3) (v := .int (X12 67 0)) (C := R_Req) (T := T_Req) (N := 4) hx hb hts in_Req hown hK hP (10) atC_Req rfl 3 (by decide) (hts _ gw_156) (fun _ h9 => h9) rfl d_Req_readNumber_50 ?_
    refine lv_if_eq (tgt := 67) hx hb d_Req_readNumber_53 (by decide) (fun c14 => ?_) (fun c14 => ?_)
    · have hw := hw.1 c14
      refine lv_iconst (v := (0 : Int32)) hx hb d_Req_readNumber_67 (by decide) ?_
      have hl := lv_sub hl (l' := [(0, .ref (ad 10)), (1, .ref (ad 8)), (2, .int v2), (3, .int v3), (4, .int r13)]) [1, 2, 3, 4, 0] rfl
      exact L68 _ _ _ _ _ _ _ _ hw hP hS hl
    · have hw := hw.2 c14
      refine lv_iload hx hb d_Req_readNumber_56 (lv_at hl 0 rfl) ?_
      refine lv_bipush (v := (127 : Int32)) hx hb d_Req_readNumber_58 (by decide) ?_
      refine lv_icmp_gt (tgt := 67) hx hb d_Req_readNumber_60 (by decide) (fun c15 => ?_) (fun c15 => ?_)
      · have hw := hw.1 c15
        refine lv_iconst (v := (0 : Int32)) hx hb d_Req_readNumber_67 (by decide) ?_
        have hl := lv_sub hl (l' := [(0, .ref (ad 10)), (1, .ref (ad 8)), (2, .int v2), (3, .int v3), (4, .int r13)]) [1, 2, 3, 4, 0] rfl
        exact L68 _ _ _ _ _ _ _ _ hw hP hS hl
      · have hw := hw.2 c15
        refine lv_iconst (v := (1 : Int32)) hx hb d_Req_readNumber_63 (by decide) ?_
        refine lv_goto (tgt := 68) hx hb d_Req_readNumber_64 (by decide) ?_
        have hl := lv_sub hl (l' := [(0, .ref (ad 10)), (1, .ref (ad 8)), (2, .int v2), (3, .int v3), (4, .int r13)]) [1, 2, 3, 4, 0] rfl
        exact L68 _ _ _ _ _ _ _ _ hw hP hS hl
  unfold wp_Req_readNumber at hw
  refine lv_aload_n hx hb d_Req_readNumber_0 rfl (lv_at hl 0 rfl) ?_
  refine lv_aload_n hx hb d_Req_readNumber_1 rfl (lv_at hl 1 rfl) ?_
  refine lv_iload_n hx hb d_Req_readNumber_2 rfl (lv_at hl 2 rfl) ?_
  refine lv_iconst (v := (2 : Int32)) hx hb d_Req_readNumber_3 (by decide) ?_
  refine va_callv (va_runV (As := [.ref (ad 8), .int a2, .int (2 : Int32)]) (rest := []) ⟨hx, hb, hml, hown, hts⟩ (mt_Req_skipTag l hl9 dC dI cA ad hI _ hw) (cwV 3 hts (gV gw_166 gw_167 gw_168 gw_164 gw_165) rfl rfl rfl (by decide +kernel) ⟨Nat.le_of_ble_eq_true rfl, Nat.le_of_ble_eq_true rfl⟩) ⟨zwC_blind, va_recv hK hP (ci := 3) (q0 := 10) rfl atC_Req, zwC_pre hP hS hG9⟩ rfl rfl hl.1 rfl (lv_room (Nat.le_of_ble_eq_true rfl)) d_Req_readNumber_4 ⟨Nat.le_of_ble_eq_true rfl, Nat.le_of_ble_eq_true rfl⟩) hS (fun q _ h => CA_le hS.1 q h) (fun q h => CA_le hS.1 q h) (fun X16 t H locs ht hvm hw hP hz1 hk1 hS => ?_)
  have hP : va_P (dC, dI) vwCl (wdC cA ad X16) H := by rw [← ht]; exact hP
  try dsimp only at hw
  refine lv_aload_n hx hb d_Req_readNumber_7 rfl (lv_at hl 0 rfl) ?_
  refine lv_aload_n hx hb d_Req_readNumber_8 rfl (lv_at hl 1 rfl) ?_
  refine lv_iload_n hx hb d_Req_readNumber_9 rfl (lv_at hl 2 rfl) ?_
  refine va_calli (va_runV (As := [.ref (ad 8), .int a2]) (rest := []) ⟨hx, hb, hml, hown, hts⟩ (mt_Req_readLength l hl9 dC dI cA ad hI _ hw) (cwV 2 hts (gV gw_170 gw_171 gw_172 gw_164 gw_169) rfl rfl rfl (by decide +kernel) ⟨Nat.le_of_ble_eq_true rfl, Nat.le_of_ble_eq_true rfl⟩) ⟨zwC_blind, va_recv hK hP (ci := 3) (q0 := 10) rfl atC_Req, zwC_pre hP hS hG9⟩ rfl rfl hl.1 rfl (lv_room (Nat.le_of_ble_eq_true rfl)) d_Req_readNumber_10 ⟨Nat.le_of_ble_eq_true rfl, Nat.le_of_ble_eq_true rfl⟩) hS (fun q _ h => CA_le hS.1 q h) (fun q h => CA_le hS.1 q h) (fun r19 X18 t H locs ht hvm hw hP hz1 hk1 hS => ?_)
  have hP : va_P (dC, dI) vwCl (wdC cA ad X18) H := by rw [← ht]; exact hP
  try dsimp only at hw
  refine lv_istore_n (lv' := [(3, .int r19), (0, .ref (ad 10)), (1, .ref (ad 8)), (2, .int a2)]) hx hb d_Req_readNumber_13 rfl hl (by decide) rfl (fun ls hl => ?_)
  refine lv_aload_n hx hb d_Req_readNumber_14 rfl (lv_at hl 1 rfl) ?_
  refine lv_aload_n hx hb d_Req_readNumber_15 rfl (lv_at hl 1 rfl) ?_
  refine va_get (D := (dC, dI)) (ci := 3) (v := .int (X18 67 0)) (C := R_Req) (T := T_Req) (N := 4) hx hb hts in_Req hown hK hP (10) atC_Req rfl 3 (by decide) (hts _ gw_156) (fun _ h9 => h9) rfl d_Req_readNumber_16 ?_
  refine lv_if_eq (tgt := 36) hx hb d_Req_readNumber_19 (by decide) (fun c20 => ?_) (fun c20 => ?_)
  · have hw := hw.1 c20
    refine lv_iconst (v := (0 : Int32)) hx hb d_Req_readNumber_36 (by decide) ?_
    have hl := lv_sub hl (l' := [(0, .ref (ad 10)), (1, .ref (ad 8)), (2, .int a2), (3, .int r19)]) [1, 2, 3, 0] rfl
    exact L37 _ _ _ _ _ _ _ hw hP hS hl
  · have hw := hw.2 c20
    refine lv_iload_n hx hb d_Req_readNumber_22 rfl (lv_at hl 0 rfl) ?_
    refine lv_iconst (v := (1 : Int32)) hx hb d_Req_readNumber_23 (by decide) ?_
    refine lv_icmp_lt (tgt := 36) hx hb d_Req_readNumber_24 (by decide) (fun c21 => ?_) (fun c21 => ?_)
    · have hw := hw.1 c21
      refine lv_iconst (v := (0 : Int32)) hx hb d_Req_readNumber_36 (by decide) ?_
      have hl := lv_sub hl (l' := [(0, .ref (ad 10)), (1, .ref (ad 8)), (2, .int a2), (3, .int r19)]) [1, 2, 3, 0] rfl
      exact L37 _ _ _ _ _ _ _ hw hP hS hl
    · have hw := hw.2 c21
      refine lv_iload_n hx hb d_Req_readNumber_27 rfl (lv_at hl 0 rfl) ?_
      refine lv_iconst (v := (4 : Int32)) hx hb d_Req_readNumber_28 (by decide) ?_
      refine lv_icmp_gt (tgt := 36) hx hb d_Req_readNumber_29 (by decide) (fun c22 => ?_) (fun c22 => ?_)
      · have hw := hw.1 c22
        refine lv_iconst (v := (0 : Int32)) hx hb d_Req_readNumber_36 (by decide) ?_
        have hl := lv_sub hl (l' := [(0, .ref (ad 10)), (1, .ref (ad 8)), (2, .int a2), (3, .int r19)]) [1, 2, 3, 0] rfl
        exact L37 _ _ _ _ _ _ _ hw hP hS hl
      · have hw := hw.2 c22
        refine lv_iconst (v := (1 : Int32)) hx hb d_Req_readNumber_32 (by decide) ?_
        refine lv_goto (tgt := 37) hx hb d_Req_readNumber_33 (by decide) ?_
        have hl := lv_sub hl (l' := [(0, .ref (ad 10)), (1, .ref (ad 8)), (2, .int a2), (3, .int r19)]) [1, 2, 3, 0] rfl
        exact L37 _ _ _ _ _ _ _ hw hP hS hl
