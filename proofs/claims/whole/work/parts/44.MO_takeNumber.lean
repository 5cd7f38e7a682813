def ws_MO_takeNumber : List Cond := Cond.code y_MO_takeNumber c_MO_takeNumber 6 (Option.some Jvm.ClassFile.FieldType.int) :: GW
theorem d_MO_takeNumber_0 : decode c_MO_takeNumber 0 = .ok (.aload_n 0, 1) := by decide +kernel
theorem d_MO_takeNumber_1 : decode c_MO_takeNumber 1 = .ok (.iconst 2, 1) := by decide +kernel
theorem d_MO_takeNumber_2 : decode c_MO_takeNumber 2 = .ok (.invokevirtual 188, 3) := by decide +kernel
theorem d_MO_takeNumber_5 : decode c_MO_takeNumber 5 = .ok (.aload_n 0, 1) := by decide +kernel
theorem d_MO_takeNumber_6 : decode c_MO_takeNumber 6 = .ok (.invokevirtual 191, 3) := by decide +kernel
theorem d_MO_takeNumber_9 : decode c_MO_takeNumber 9 = .ok (.istore_n 1, 1) := by decide +kernel
theorem d_MO_takeNumber_10 : decode c_MO_takeNumber 10 = .ok (.aload_n 0, 1) := by decide +kernel
theorem d_MO_takeNumber_11 : decode c_MO_takeNumber 11 = .ok (.aload_n 0, 1) := by decide +kernel
theorem d_MO_takeNumber_12 : decode c_MO_takeNumber 12 = .ok (.getfield 175, 3) := by decide +kernel
theorem d_MO_takeNumber_15 : decode c_MO_takeNumber 15 = .ok (.ifCond .eq 17, 3) := by decide +kernel
theorem d_MO_takeNumber_18 : decode c_MO_takeNumber 18 = .ok (.iload_n 1, 1) := by decide +kernel
theorem d_MO_takeNumber_19 : decode c_MO_takeNumber 19 = .ok (.iconst 1, 1) := by decide +kernel
theorem d_MO_takeNumber_20 : decode c_MO_takeNumber 20 = .ok (.if_icmp .lt 12, 3) := by decide +kernel
theorem d_MO_takeNumber_23 : decode c_MO_takeNumber 23 = .ok (.iload_n 1, 1) := by decide +kernel
theorem d_MO_takeNumber_24 : decode c_MO_takeNumber 24 = .ok (.iconst 4, 1) := by decide +kernel
theorem d_MO_takeNumber_25 : decode c_MO_takeNumber 25 = .ok (.if_icmp .gt 7, 3) := by decide +kernel
theorem d_MO_takeNumber_28 : decode c_MO_takeNumber 28 = .ok (.iconst 1, 1) := by decide +kernel
theorem d_MO_takeNumber_29 : decode c_MO_takeNumber 29 = .ok (.goto 4, 3) := by decide +kernel
theorem d_MO_takeNumber_32 : decode c_MO_takeNumber 32 = .ok (.iconst 0, 1) := by decide +kernel
theorem d_MO_takeNumber_33 : decode c_MO_takeNumber 33 = .ok (.putfield 175, 3) := by decide +kernel
theorem d_MO_takeNumber_36 : decode c_MO_takeNumber 36 = .ok (.iconst 0, 1) := by decide +kernel
theorem d_MO_takeNumber_37 : decode c_MO_takeNumber 37 = .ok (.istore_n 2, 1) := by decide +kernel
theorem d_MO_takeNumber_38 : decode c_MO_takeNumber 38 = .ok (.iconst 0, 1) := by decide +kernel
theorem d_MO_takeNumber_39 : decode c_MO_takeNumber 39 = .ok (.istore_n 3, 1) := by decide +kernel
theorem d_MO_takeNumber_40 : decode c_MO_takeNumber 40 = .ok (.iconst 0, 1) := by decide +kernel
theorem d_MO_takeNumber_41 : decode c_MO_takeNumber 41 = .ok (.istore 4, 2) := by decide +kernel
theorem d_MO_takeNumber_43 : decode c_MO_takeNumber 43 = .ok (.iload 4, 2) := by decide +kernel
theorem d_MO_takeNumber_45 : decode c_MO_takeNumber 45 = .ok (.iload_n 1, 1) := by decide +kernel
theorem d_MO_takeNumber_46 : decode c_MO_takeNumber 46 = .ok (.if_icmp .ge 88, 3) := by decide +kernel
theorem d_MO_takeNumber_49 : decode c_MO_takeNumber 49 = .ok (.aload_n 0, 1) := by decide +kernel
theorem d_MO_takeNumber_50 : decode c_MO_takeNumber 50 = .ok (.getfield 175, 3) := by decide +kernel
theorem d_MO_takeNumber_53 : decode c_MO_takeNumber 53 = .ok (.ifCond .eq 81, 3) := by decide +kernel
theorem d_MO_takeNumber_56 : decode c_MO_takeNumber 56 = .ok (.aload_n 0, 1) := by decide +kernel
theorem d_MO_takeNumber_57 : decode c_MO_takeNumber 57 = .ok (.invokevirtual 185, 3) := by decide +kernel
theorem d_MO_takeNumber_60 : decode c_MO_takeNumber 60 = .ok (.istore 5, 2) := by decide +kernel
theorem d_MO_takeNumber_62 : decode c_MO_takeNumber 62 = .ok (.iload 4, 2) := by decide +kernel
theorem d_MO_takeNumber_64 : decode c_MO_takeNumber 64 = .ok (.ifCond .ne 8, 3) := by decide +kernel
theorem d_MO_takeNumber_67 : decode c_MO_takeNumber 67 = .ok (.iload 5, 2) := by decide +kernel
theorem d_MO_takeNumber_69 : decode c_MO_takeNumber 69 = .ok (.goto 4, 3) := by decide +kernel
theorem d_MO_takeNumber_72 : decode c_MO_takeNumber 72 = .ok (.iload_n 2, 1) := by decide +kernel
theorem d_MO_takeNumber_73 : decode c_MO_takeNumber 73 = .ok (.istore_n 2, 1) := by decide +kernel
theorem d_MO_takeNumber_74 : decode c_MO_takeNumber 74 = .ok (.aload_n 0, 1) := by decide +kernel
theorem d_MO_takeNumber_75 : decode c_MO_takeNumber 75 = .ok (.aload_n 0, 1) := by decide +kernel
theorem d_MO_takeNumber_76 : decode c_MO_takeNumber 76 = .ok (.getfield 175, 3) := by decide +kernel
theorem d_MO_takeNumber_79 : decode c_MO_takeNumber 79 = .ok (.ifCond .eq 37, 3) := by decide +kernel
theorem d_MO_takeNumber_82 : decode c_MO_takeNumber 82 = .ok (.iload 4, 2) := by decide +kernel
theorem d_MO_takeNumber_84 : decode c_MO_takeNumber 84 = .ok (.ifCond .gt 11, 3) := by decide +kernel
theorem d_MO_takeNumber_87 : decode c_MO_takeNumber 87 = .ok (.iload 5, 2) := by decide +kernel
theorem d_MO_takeNumber_89 : decode c_MO_takeNumber 89 = .ok (.sipush 128, 3) := by decide +kernel
theorem d_MO_takeNumber_92 : decode c_MO_takeNumber 92 = .ok (.if_icmp .ge 24, 3) := by decide +kernel
theorem d_MO_takeNumber_95 : decode c_MO_takeNumber 95 = .ok (.iload 4, 2) := by decide +kernel
theorem d_MO_takeNumber_97 : decode c_MO_takeNumber 97 = .ok (.iconst 1, 1) := by decide +kernel
theorem d_MO_takeNumber_98 : decode c_MO_takeNumber 98 = .ok (.if_icmp .ne 14, 3) := by decide +kernel
theorem d_MO_takeNumber_101 : decode c_MO_takeNumber 101 = .ok (.iload_n 2, 1) := by decide +kernel
theorem d_MO_takeNumber_102 : decode c_MO_takeNumber 102 = .ok (.ifCond .gt 10, 3) := by decide +kernel
theorem d_MO_takeNumber_105 : decode c_MO_takeNumber 105 = .ok (.iload 5, 2) := by decide +kernel
theorem d_MO_takeNumber_107 : decode c_MO_takeNumber 107 = .ok (.bipush 127, 2) := by decide +kernel
theorem d_MO_takeNumber_109 : decode c_MO_takeNumber 109 = .ok (.if_icmp .le 7, 3) := by decide +kernel
theorem d_MO_takeNumber_112 : decode c_MO_takeNumber 112 = .ok (.iconst 1, 1) := by decide +kernel
theorem d_MO_takeNumber_113 : decode c_MO_takeNumber 113 = .ok (.goto 4, 3) := by decide +kernel
theorem d_MO_takeNumber_116 : decode c_MO_takeNumber 116 = .ok (.iconst 0, 1) := by decide +kernel
theorem d_MO_takeNumber_117 : decode c_MO_takeNumber 117 = .ok (.putfield 175, 3) := by decide +kernel
theorem d_MO_takeNumber_120 : decode c_MO_takeNumber 120 = .ok (.iload_n 3, 1) := by decide +kernel
theorem d_MO_takeNumber_121 : decode c_MO_takeNumber 121 = .ok (.bipush 8, 2) := by decide +kernel
theorem d_MO_takeNumber_123 : decode c_MO_takeNumber 123 = .ok (.ishl, 1) := by decide +kernel
theorem d_MO_takeNumber_124 : decode c_MO_takeNumber 124 = .ok (.iload 5, 2) := by decide +kernel
theorem d_MO_takeNumber_126 : decode c_MO_takeNumber 126 = .ok (.ior, 1) := by decide +kernel
theorem d_MO_takeNumber_127 : decode c_MO_takeNumber 127 = .ok (.istore_n 3, 1) := by decide +kernel
theorem d_MO_takeNumber_128 : decode c_MO_takeNumber 128 = .ok (.iinc 4 1, 3) := by decide +kernel
theorem d_MO_takeNumber_131 : decode c_MO_takeNumber 131 = .ok (.goto (-88), 3) := by decide +kernel
theorem d_MO_takeNumber_134 : decode c_MO_takeNumber 134 = .ok (.iload_n 3, 1) := by decide +kernel
theorem d_MO_takeNumber_135 : decode c_MO_takeNumber 135 = .ok (.ireturn, 1) := by decide +kernel
def wq_MO_takeNumber_117 (post : Int32 → ST → Int64 → Prop) (J43 : Int32 → Int32 → Int32 → ST → Int64 → Prop) (s0 : Int32) (v1 : Int32) (v2 : Int32) (v3 : Int32) (v4 : Int32) (v5 : Int32) (X : ST) (Y : Int64) : Prop := ((s0 = 0 ∨ s0 = 1) ∧ J43 v2 ((v3 <<< ((8 : Int32) &&& 31)) ||| v5) (v4 + (1 : Int32)) (up X 67 0 s0) Y)
def wq_MO_takeNumber_95 (post : Int32 → ST → Int64 → Prop) (J43 : Int32 → Int32 → Int32 → ST → Int64 → Prop) (v1 : Int32) (v2 : Int32) (v3 : Int32) (v4 : Int32) (v5 : Int32) (X : ST) (Y : Int64) : Prop := ((v4 = (1 : Int32) → ((0 < v2 → wq_MO_takeNumber_117 post J43 (1 : Int32) v1 v2 v3 v4 v5 X Y) ∧ (¬ 0 < v2 → ((v5 ≤ (127 : Int32) → wq_MO_takeNumber_117 post J43 (0 : Int32) v1 v2 v3 v4 v5 X Y) ∧ (¬ v5 ≤ (127 : Int32) → wq_MO_takeNumber_117 post J43 (1 : Int32) v1 v2 v3 v4 v5 X Y))))) ∧ (¬ v4 = (1 : Int32) → wq_MO_takeNumber_117 post J43 (1 : Int32) v1 v2 v3 v4 v5 X Y))
def wq_MO_takeNumber_73 (post : Int32 → ST → Int64 → Prop) (J43 : Int32 → Int32 → Int32 → ST → Int64 → Prop) (s0 : Int32) (v1 : Int32) (v3 : Int32) (v4 : Int32) (v5 : Int32) (X : ST) (Y : Int64) : Prop := (((X 67 0) = 0 → wq_MO_takeNumber_117 post J43 (0 : Int32) v1 s0 v3 v4 v5 X Y) ∧ (¬ (X 67 0) = 0 → ((0 < v4 → wq_MO_takeNumber_95 post J43 v1 s0 v3 v4 v5 X Y) ∧ (¬ 0 < v4 → (((128 : Int32) ≤ v5 → wq_MO_takeNumber_117 post J43 (0 : Int32) v1 s0 v3 v4 v5 X Y) ∧ (¬ (128 : Int32) ≤ v5 → wq_MO_takeNumber_95 post J43 v1 s0 v3 v4 v5 X Y))))))
def wq_MO_takeNumber_43 (post : Int32 → ST → Int64 → Prop) (v1 : Int32) : Nat → Int32 → Int32 → Int32 → ST → Int64 → Prop
  | 0 => fun _ _ _ _ _ => False
  | n + 1 => fun v2 v3 v4 X Y => ((v1 ≤ v4 → post v3 X Y) ∧ (¬ v1 ≤ v4 → (((X 67 0) = 0 → post v3 X Y) ∧ (¬ (X 67 0) = 0 → wp_MO_next (fun (r12 : Int32) (X10 : ST) (Y11 : Int64) => ((v4 = 0 → wq_MO_takeNumber_73 post (wq_MO_takeNumber_43 post v1 n) r12 v1 v3 v4 r12 X10 Y11) ∧ (¬ v4 = 0 → wq_MO_takeNumber_73 post (wq_MO_takeNumber_43 post v1 n) v2 v1 v3 v4 r12 X10 Y11))) X Y))))
def wq_MO_takeNumber_33 (post : Int32 → ST → Int64 → Prop) (s0 : Int32) (v1 : Int32) (X : ST) (Y : Int64) : Prop := ((s0 = 0 ∨ s0 = 1) ∧ (∃ n9, wq_MO_takeNumber_43 post v1 n9 (0 : Int32) (0 : Int32) (0 : Int32) (up X 67 0 s0) Y))
def wp_MO_takeNumber (post : Int32 → ST → Int64 → Prop) (X : ST) (Y : Int64) : Prop := wp_MO_must (fun (X15 : ST) (Y16 : Int64) => wp_MO_takeLength (fun (r20 : Int32) (X18 : ST) (Y19 : Int64) => (((X18 67 0) = 0 → wq_MO_takeNumber_33 post (0 : Int32) r20 X18 Y19) ∧ (¬ (X18 67 0) = 0 → ((r20 < (1 : Int32) → wq_MO_takeNumber_33 post (0 : Int32) r20 X18 Y19) ∧ (¬ r20 < (1 : Int32) → (((4 : Int32) < r20 → wq_MO_takeNumber_33 post (0 : Int32) r20 X18 Y19) ∧ (¬ (4 : Int32) < r20 → wq_MO_takeNumber_33 post (1 : Int32) r20 X18 Y19))))))) X15 Y16) X Y (2 : Int32)
set_option maxHeartbeats 4000000 in
set_option maxRecDepth 100000 in
theorem mt_MO_takeNumber (l : Launch) (hl9 : l.stackTraces = false) (dC : Nat → ClassId) (dI : Nat → Nat → Nat) (cA : Nat → ClassId) (ad : Nat → Nat) (hI : INJ ad 23) (sz : Nat) {X : ST} {Y : Int64} {post : Int32 → ST → Int64 → Prop} (hw : wp_MO_takeNumber post X Y) : Met l y_MO_takeNumber ws_MO_takeNumber ({ frames := 2, cells := 0, slots := 0, locals := 43 } : Room) (va_Pc [.ref (ad 0)] (fun U => PM dC dI cA ad sz X Y U)) (va_Qi (fun r (u : ST × Int64) => post r u.1 u.2) (fun (u : ST × Int64) t => va_P (dC, dI) vwCl (wdM cA ad u.1 u.2) t.heap) (CA ad 23 sz)) 0 0 (CA ad 23 sz) := by
  refine Met.ofW (cc := c_MO_takeNumber) (maxL := 6) (ret := (some .int)) (by decide) rfl ?_
  intro p e s m args below meth c s₁ B hml hv
  obtain ⟨rfl, hsz, hP, hG⟩ := hv
  have hx := B.exec
  have hb := B.bytes
  have hr := B.returns
  have hts : ∀ w ∈ GW, w.before (([.ref (ad 0)] : List Value).toArray) s = true := fun w h => atoms_spec (ws := ws_MO_takeNumber) B.pre w (List.mem_cons_of_mem _ h)
  have hown : s.vm.findClass R_MO = some m.cls := findClass_of_methodNamed B.named
  have hlocks := B.notSynchronized
  subst hsz
  have hK := hG.1
  have hG9 := hG
  have hNW := hG.2
  have hD0 : ∀ (X : ST) (Y : Int64), va_D (CA ad 23 s.heap.size) (wdM cA ad X Y) := fun _ _ => zwM_D hI
  have hS : va_S (CA ad 23 s.heap.size) s.heap s.heap [] := va_S.rf
  have hl := lv_entry ([.ref (ad 0)]) (n := 6) (Nat.le_of_ble_eq_true rfl)
  rw [lg_entry_eq]
  generalize (lg_sl ([.ref (ad 0)]) ++ List.replicate (6 - (lg_sl ([.ref (ad 0)])).length) Slot.unset).toArray = ls at hl ⊢
  have hl : lv_has ls 6 [(0, .ref (ad 0))] := hl
  have L117 : ∀ (v1 : Int32), ∀ (J43 : Int32 → Int32 → Int32 → ST → Int64 → Prop), (∀ (v2 : Int32) (v3 : Int32) (v4 : Int32) (X : ST) (Y : Int64) (H : Heap) (locs : List Loc) (ls : Array Slot), J43 v2 v3 v4 X Y → va_P (dC, dI) vwCl (wdM cA ad X Y) H → va_S (CA ad 23 s.heap.size) s.heap H locs → lv_has ls 6 [(0, .ref (ad 0)), (1, .int v1), (2, .int v2), (3, .int v3), (4, .int v4)] → W p l e (headSpec ws_MO_takeNumber ({ frames := 2, cells := 0, slots := 0, locals := 43 } : Room)).room s m (([.ref (ad 0)] : List Value).toArray) below meth c H locs 0 0 (MQ below (va_Qi (fun r (u : ST × Int64) => post r u.1 u.2) (fun (u : ST × Int64) t => va_P (dC, dI) vwCl (wdM cA ad u.1 u.2) t.heap) (CA ad 23 s.heap.size)) (([.ref (ad 0)] : List Value).toArray) s 0 0 (CA ad 23 s.heap.size)) (F0 m 43 ls [])) → ∀ (s0 : Int32) (v2 : Int32) (v3 : Int32) (v4 : Int32) (v5 : Int32) (X : ST) (Y : Int64) (H : Heap) (locs : List Loc) (ls : Array Slot), wq_MO_takeNumber_117 post J43 s0 v1 v2 v3 v4 v5 X Y → va_P (dC, dI) vwCl (wdM cA ad X Y) H → va_S (CA ad 23 s.heap.size) s.heap H locs → lv_has ls 6 [(0, .ref (ad 0)), (1, .int v1), (2, .int v2), (3, .int v3), (4, .int v4), (5, .int v5)] → W p l e (headSpec ws_MO_takeNumber ({ frames := 2, cells := 0, slots := 0, locals := 43 } : Room)).room s m (([.ref (ad 0)] : List Value).toArray) below meth c H locs 0 0 (MQ below (va_Qi (fun r (u : ST × Int64) => post r u.1 u.2) (fun (u : ST × Int64) t => va_P (dC, dI) vwCl (wdM cA ad u.1 u.2) t.heap) (CA ad 23 s.heap.size)) (([.ref (ad 0)] : List Value).toArray) s 0 0 (CA ad 23 s.heap.size)) (F0 m 117 ls [.int s0, .ref (ad 0)]) := by
    intro v1 J43 hJ43 s0 v2 v3 v4 v5 X Y H locs ls hw hP hS hl
    unfold wq_MO_takeNumber_117 at hw
    obtain ⟨h1, hw⟩ := hw
    refine va_put (D := (dC, dI)) (ci := 9) (v := .int s0) (ty := .boolean) (C := R_MO) (T := T_MO) (N := 36) hx hb hts in_MO ty_MO ty_MO_ok nm_MO hown hK hP (hD0 _ _) hS (0) atM_MO rfl 32 (by decide) (hts _ gw_397) (fun _ h9 => h9) rfl (by decide +kernel) (zw_bn h1) (zw_bf h1) (Nat.le_of_ble_eq_true rfl) d_MO_takeNumber_117 (fun H locs hP _ hS => ?_)
    have hP : va_P (dC, dI) vwCl (wdM cA ad (up X 67 0 s0) Y) H := by rw [← stM_MO_32]; exact hP
    refine lv_iload_n hx hb d_MO_takeNumber_120 rfl (lv_at hl 3 rfl) ?_
    refine lv_bipush (v := (8 : Int32)) hx hb d_MO_takeNumber_121 (by decide) ?_
    refine lv_ishl hx hb d_MO_takeNumber_123 ?_
    refine lv_iload hx hb d_MO_takeNumber_124 (lv_at hl 5 rfl) ?_
    refine lv_ior hx hb d_MO_takeNumber_126 ?_
    refine lv_istore_n (lv' := [(3, .int ((v3 <<< ((8 : Int32) &&& 31)) ||| v5)), (0, .ref (ad 0)), (1, .int v1), (2, .int v2), (4, .int v4), (5, .int v5)]) hx hb d_MO_takeNumber_127 rfl hl (by decide) rfl (fun ls hl => ?_)
    refine lv_iinc (k := 4) (v := v4 + (1 : Int32)) (lv' := [(4, .int (v4 + (1 : Int32))), (3, .int ((v3 <<< ((8 : Int32) &&& 31)) ||| v5)), (0, .ref (ad 0)), (1, .int v1), (2, .int v2), (5, .int v5)]) hx hb d_MO_takeNumber_128 hl rfl rfl (by decide) rfl (fun ls hl => ?_)
    refine lv_goto (tgt := 43) hx hb d_MO_takeNumber_131 (by decide) ?_
    have hl := lv_sub hl (l' := [(0, .ref (ad 0)), (1, .int v1), (2, .int v2), (3, .int ((v3 <<< ((8 : Int32) &&& 31)) ||| v5)), (4, .int (v4 + (1 : Int32)))]) [2, 3, 4, 1, 0] rfl
    exact hJ43 _ _ _ _ _ _ _ _ hw hP hS hl
  have L95 : ∀ (v1 : Int32), ∀ (J43 : Int32 → Int32 → Int32 → ST → Int64 → Prop), (∀ (v2 : Int32) (v3 : Int32) (v4 : Int32) (X : ST) (Y : Int64) (H : Heap) (locs : List Loc) (ls : Array Slot), J43 v2 v3 v4 X Y → va_P (dC, dI) vwCl (wdM cA ad X Y) H → va_S (CA ad 23 s.heap.size) s.heap H locs → lv_has ls 6 [(0, .ref (ad 0)), (1, .int v1), (2, .int v2), (3, .int v3), (4, .int v4)] → W p l e (headSpec ws_MO_takeNumber ({ frames := 2, cells := 0, slots := 0, locals := 43 } : Room)).room s m (([.ref (ad 0)] : List Value).toArray) below meth c H locs 0 0 (MQ below (va_Qi (fun r (u : ST × Int64) => post r u.1 u.2) (fun (u : ST × Int64) t => va_P (dC, dI) vwCl (wdM cA ad u.1 u.2) t.heap) (CA ad 23 s.heap.size)) (([.ref (ad 0)] : List Value).toArray) s 0 0 (CA ad 23 s.heap.size)) (F0 m 43 ls [])) → ∀ (v2 : Int32) (v3 : Int32) (v4 : Int32) (v5 : Int32) (X : ST) (Y : Int64) (H : Heap) (locs : List Loc) (ls : Array Slot), wq_MO_takeNumber_95 post J43 v1 v2 v3 v4 v5 X Y → va_P (dC, dI) vwCl (wdM cA ad X Y) H → va_S (CA ad 23 s.heap.size) s.heap H locs → lv_has ls 6 [(0, .ref (ad 0)), (1, .int v1), (2, .int v2), (3, .int v3), (4, .int v4), (5, .int v5)] → W p l e (headSpec ws_MO_takeNumber ({ frames := 2, cells := 0, slots := 0, locals := 43 } : Room)).room s m (([.ref (ad 0)] : List Value).toArray) below meth c H locs 0 0 (MQ below (va_Qi (fun r (u : ST × Int64) => post r u.1 u.2) (fun (u : ST × Int64) t => va_P (dC, dI) vwCl (wdM cA ad u.1 u.2) t.heap) (CA ad 23 s.heap.size)) (([.ref (ad 0)] : List Value).toArray) s 0 0 (CA ad 23 s.heap.size)) (F0 m 95 ls [.ref (ad 0)]) := by
    intro v1 J43 hJ43 v2 v3 v4 v5 X Y H locs ls hw hP hS hl
    unfold wq_MO_takeNumber_95 at hw
    refine lv_iload hx hb d_MO_takeNumber_95 (lv_at hl 4 rfl) ?_
    refine lv_iconst (v := (1 : Int32)) hx hb d_MO_takeNumber_97 (by decide) ?_
    refine lv_icmp_ne (tgt := 112) hx hb d_MO_takeNumber_98 (by decide) (fun c2 => ?_) (fun c2 => ?_)
    · have hw := hw.2 c2
      refine lv_iconst (v := (1 : Int32)) hx hb d_MO_takeNumber_112 (by decide) ?_
      refine lv_goto (tgt := 117) hx hb d_MO_takeNumber_113 (by decide) ?_
      have hl := lv_sub hl (l' := [(0, .ref (ad 0)), (1, .int v1), (2, .int v2), (3, .int v3), (4, .int v4), (5, .int v5)]) [0, 1, 2, 3, 4, 5] rfl
      exact L117 _ J43 hJ43 _ _ _ _ _ _ _ _ _ _ hw hP hS hl
    · have hw := hw.1 c2
      refine lv_iload_n hx hb d_MO_takeNumber_101 rfl (lv_at hl 2 rfl) ?_
      refine lv_if_gt (tgt := 112) hx hb d_MO_takeNumber_102 (by decide) (fun c3 => ?_) (fun c3 => ?_)
      · have hw := hw.1 c3
        refine lv_iconst (v := (1 : Int32)) hx hb d_MO_takeNumber_112 (by decide) ?_
        refine lv_goto (tgt := 117) hx hb d_MO_takeNumber_113 (by decide) ?_
        have hl := lv_sub hl (l' := [(0, .ref (ad 0)), (1, .int v1), (2, .int v2), (3, .int v3), (4, .int v4), (5, .int v5)]) [0, 1, 2, 3, 4, 5] rfl
        exact L117 _ J43 hJ43 _ _ _ _ _ _ _ _ _ _ hw hP hS hl
      · have hw := hw.2 c3
        refine lv_iload hx hb d_MO_takeNumber_105 (lv_at hl 5 rfl) ?_
        refine lv_bipush (v := (127 : Int32)) hx hb d_MO_takeNumber_107 (by decide) ?_
        refine lv_icmp_le (tgt := 116) hx hb d_MO_takeNumber_109 (by decide) (fun c4 => ?_) (fun c4 => ?_)
        · have hw := hw.1 c4
          refine lv_iconst (v := (0 : Int32)) hx hb d_MO_takeNumber_116 (by decide) ?_
          have hl := lv_sub hl (l' := [(0, .ref (ad 0)), (1, .int v1), (2, .int v2), (3, .int v3), (4, .int v4), (5, .int v5)]) [0, 1, 2, 3, 4, 5] rfl
          exact L117 _ J43 hJ43 _ _ _ _ _ _ _ _ _ _ hw hP hS hl
        · have hw := hw.2 c4
          refine lv_iconst (v := (1 : Int32)) hx hb d_MO_takeNumber_112 (by decide) ?_
          refine lv_goto (tgt := 117) hx hb d_MO_takeNumber_113 (by decide) ?_
          have hl := lv_sub hl (l' := [(0, .ref (ad 0)), (1, .int v1), (2, .int v2), (3, .int v3), (4, .int v4), (5, .int v5)]) [0, 1, 2, 3, 4, 5] rfl
          exact L117 _ J43 hJ43 _ _ _ _ _ _ _ _ _ _ hw hP hS hl
  have L73 : ∀ (v1 : Int32), ∀ (J43 : Int32 → Int32 → Int32 → ST → Int64 → Prop), (∀ (v2 : Int32) (v3 : Int32) (v4 : Int32) (X : ST) (Y : Int64) (H : Heap) (locs : List Loc) (ls : Array Slot), J43 v2 v3 v4 X Y → va_P (dC, dI) vwCl (wdM cA ad X Y) H → va_S (CA ad 23 s.heap.size) s.heap H locs → lv_has ls 6 [(0, .ref (ad 0)), (1, .int v1), (2, .int v2), (3, .int v3), (4, .int v4)] → W p l e (headSpec ws_MO_takeNumber ({ frames := 2, cells := 0, slots := 0, locals := 43 } : Room)).room s m (([.ref (ad 0)] : List Value).toArray) below meth c H locs 0 0 (MQ below (va_Qi (fun r (u : ST × Int64) => post r u.1 u.2) (fun (u : ST × Int64) t => va_P (dC, dI) vwCl (wdM cA ad u.1 u.2) t.heap) (CA ad 23 s.heap.size)) (([.ref (ad 0)] : List Value).toArray) s 0 0 (CA ad 23 s.heap.size)) (F0 m 43 ls [])) → ∀ (s0 : Int32) (v3 : Int32) (v4 : Int32) (v5 : Int32) (X : ST) (Y : Int64) (H : Heap) (locs : List Loc) (ls : Array Slot), wq_MO_takeNumber_73 post J43 s0 v1 v3 v4 v5 X Y → va_P (dC, dI) vwCl (wdM cA ad X Y) H → va_S (CA ad 23 s.heap.size) s.heap H locs → lv_has ls 6 [(0, .ref (ad 0)), (1, .int v1), (3, .int v3), (4, .int v4), (5, .int v5)] → W p l e (headSpec ws_MO_takeNumber ({ frames := 2, cells := 0, slots := 0, locals := 43 } : Room)).room s m (([.ref (ad 0)] : List Value).toArray) below meth c H locs 0 0 (MQ below (va_Qi (fun r (u : ST × Int64) => post r u.1 u.2) (fun (u : ST × Int64) t => va_P (dC, dI) vwCl (wdM cA ad u.1 u.2) t.heap) (CA ad 23 s.heap.size)) (([.ref (ad 0)] : List Value).toArray) s 0 0 (CA ad 23 s.heap.size)) (F0 m 73 ls [.int s0]) := by
    intro v1 J43 hJ43 s0 v3 v4 v5 X Y H locs ls hw hP hS hl
    unfold wq_MO_takeNumber_73 at hw
    refine lv_istore_n (lv' := [(2, .int s0), (0, .ref (ad 0)), (1, .int v1), (3, .int v3), (4, .int v4), (5, .int v5)]) hx hb d_MO_takeNumber_73 rfl hl (by decide) rfl (fun ls hl => ?_)
    refine lv_aload_n hx hb d_MO_takeNumber_74 rfl (lv_at hl 1 rfl) ?_
    refine lv_aload_n hx hb d_MO_takeNumber_75 rfl (lv_at hl 1 rfl) ?_
    refine va_get (D := (dC, dI)) (ci := 9) (v := .int (X 67 0)) (C := R_MO) (T := T_MO) (N := 36) hx hb hts in_MO hown hK hP (0) atM_MO rfl 32 (by decide) (hts _ gw_397) (fun _ h9 => h9) rfl d_MO_takeNumber_76 ?_
    refine lv_if_eq (tgt := 116) hx hb d_MO_takeNumber_79 (by decide) (fun c5 => ?_) (fun c5 => ?_)
    · have hw := hw.1 c5
      refine lv_iconst (v := (0 : Int32)) hx hb d_MO_takeNumber_116 (by decide) ?_
      have hl := lv_sub hl (l' := [(0, .ref (ad 0)), (1, .int v1), (2, .int s0), (3, .int v3), (4, .int v4), (5, .int v5)]) [1, 2, 0, 3, 4, 5] rfl
      exact L117 _ J43 hJ43 _ _ _ _ _ _ _ _ _ _ hw hP hS hl
    · have hw := hw.2 c5
      refine lv_iload hx hb d_MO_takeNumber_82 (lv_at hl 4 rfl) ?_
      refine lv_if_gt (tgt := 95) hx hb d_MO_takeNumber_84 (by decide) (fun c6 => ?_) (fun c6 => ?_)
      · have hw := hw.1 c6
        have hl := lv_sub hl (l' := [(0, .ref (ad 0)), (1, .int v1), (2, .int s0), (3, .int v3), (4, .int v4), (5, .int v5)]) [1, 2, 0, 3, 4, 5] rfl
        exact L95 _ J43 hJ43 _ _ _ _ _ _ _ _ _ hw hP hS hl
      · have hw := hw.2 c6
        refine lv_iload hx hb d_MO_takeNumber_87 (lv_at hl 5 rfl) ?_
        refine lv_sipush (v := (128 : Int32)) hx hb d_MO_takeNumber_89 (by decide) ?_
        refine lv_icmp_ge (tgt := 116) hx hb d_MO_takeNumber_92 (by decide) (fun c7 => ?_) (fun c7 => ?_)
        · have hw := hw.1 c7
          refine lv_iconst (v := (0 : Int32)) hx hb d_MO_takeNumber_116 (by decide) ?_
          have hl := lv_sub hl (l' := [(0, .ref (ad 0)), (1, .int v1), (2, .int s0), (3, .int v3), (4, .int v4), (5, .int v5)]) [1, 2, 0, 3, 4, 5] rfl
          exact L117 _ J43 hJ43 _ _ _ _ _ _ _ _ _ _ hw hP hS hl
        · have hw := hw.2 c7
          have hl := lv_sub hl (l' := [(0, .ref (ad 0)), (1, .int v1), (2, .int s0), (3, .int v3), (4, .int v4), (5, .int v5)]) [1, 2, 0, 3, 4, 5] rfl
          exact L95 _ J43 hJ43 _ _ _ _ _ _ _ _ _ hw hP hS hl
  have L43 : ∀ (v1 : Int32), ∀ (n : Nat), ∀ (v2 : Int32) (v3 : Int32) (v4 : Int32) (X : ST) (Y : Int64) (H : Heap) (locs : List Loc) (ls : Array Slot), wq_MO_takeNumber_43 post v1 n v2 v3 v4 X Y → va_P (dC, dI) vwCl (wdM cA ad X Y) H → va_S (CA ad 23 s.heap.size) s.heap H locs → lv_has ls 6 [(0, .ref (ad 0)), (1, .int v1), (2, .int v2), (3, .int v3), (4, .int v4)] → W p l e (headSpec ws_MO_takeNumber ({ frames := 2, cells := 0, slots := 0, locals := 43 } : Room)).room s m (([.ref (ad 0)] : List Value).toArray) below meth c H locs 0 0 (MQ below (va_Qi (fun r (u : ST × Int64) => post r u.1 u.2) (fun (u : ST × Int64) t => va_P (dC, dI) vwCl (wdM cA ad u.1 u.2) t.heap) (CA ad 23 s.heap.size)) (([.ref (ad 0)] : List Value).toArray) s 0 0 (CA ad 23 s.heap.size)) (F0 m 43 ls []) := by
    intro v1 n
    induction n with
    | zero => intro v2 v3 v4 X Y H locs ls hw hP hS hl; exact False.elim hw
    | succ n ih =>
      intro v2 v3 v4 X Y H locs ls hw hP hS hl
      dsimp only [wq_MO_takeNumber_43] at hw
      refine lv_iload hx hb d_MO_takeNumber_43 (lv_at hl 4 rfl) ?_
      refine lv_iload_n hx hb d_MO_takeNumber_45 rfl (lv_at hl 1 rfl) ?_
      refine lv_icmp_ge (tgt := 134) hx hb d_MO_takeNumber_46 (by decide) (fun c8 => ?_) (fun c8 => ?_)
      · have hw := hw.1 c8
        refine lv_iload_n hx hb d_MO_takeNumber_134 rfl (lv_at hl 3 rfl) ?_
        exact W.iret (v := v3) hx hb hr (fun t ht _ => ⟨⟨v3, (X, Y), rfl, hw, by show va_P _ _ _ t.heap; rw [ht]; exact hP⟩, hS.F ht⟩) hS.2.2 d_MO_takeNumber_135
      · have hw := hw.2 c8
        refine lv_aload_n hx hb d_MO_takeNumber_49 rfl (lv_at hl 0 rfl) ?_
        refine va_get (D := (dC, dI)) (ci := 9) (v := .int (X 67 0)) (C := R_MO) (T := T_MO) (N := 36) hx hb hts in_MO hown hK hP (0) atM_MO rfl 32 (by decide) (hts _ gw_397) (fun _ h9 => h9) rfl d_MO_takeNumber_50 ?_
        refine lv_if_eq (tgt := 134) hx hb d_MO_takeNumber_53 (by decide) (fun c9 => ?_) (fun c9 => ?_)
        · have hw := hw.1 c9
          refine lv_iload_n hx hb d_MO_takeNumber_134 rfl (lv_at hl 3 rfl) ?_
          exact W.iret (v := v3) hx hb hr (fun t ht _ => ⟨⟨v3, (X, Y), rfl, hw, by show va_P _ _ _ t.heap; rw [ht]; exact hP⟩, hS.F ht⟩) hS.2.2 d_MO_takeNumber_135
        · have hw := hw.2 c9
          refine lv_aload_n hx hb d_MO_takeNumber_56 rfl (lv_at hl 0 rfl) ?_
          refine va_calli (va_runV (As := []) (rest := []) ⟨hx, hb, hml, hown, hts⟩ (mt_MO_next l hl9 dC dI cA ad hI _ hw) (cwV 0 hts (gV gw_401 gw_402 gw_403 gw_306 gw_400) rfl rfl rfl (by decide +kernel) ⟨Nat.le_of_ble_eq_true rfl, Nat.le_of_ble_eq_true rfl⟩) ⟨zwM_blind, va_recv hK hP (ci := 9) (q0 := 0) rfl atM_MO, zwM_pre hP hS hG9⟩ rfl rfl hl.1 rfl (lv_room (Nat.le_of_ble_eq_true rfl)) d_MO_takeNumber_57 ⟨Nat.le_of_ble_eq_true rfl, Nat.le_of_ble_eq_true rfl⟩) hS (fun q _ h => CA_le hS.1 q h) (fun q h => CA_le hS.1 q h) (fun r12 u9 t H locs ht hvm hw hP hz1 hk1 hS => ?_)
          obtain ⟨X10, Y11⟩ := u9
          have hP : va_P (dC, dI) vwCl (wdM cA ad X10 Y11) H := by rw [← ht]; exact hP
          try dsimp only at hw
          refine lv_istore (lv' := [(5, .int r12), (0, .ref (ad 0)), (1, .int v1), (2, .int v2), (3, .int v3), (4, .int v4)]) hx hb d_MO_takeNumber_60 hl (by decide) rfl (fun ls hl => ?_)
          refine lv_iload hx hb d_MO_takeNumber_62 (lv_at hl 5 rfl) ?_
          refine lv_if_ne (tgt := 72) hx hb d_MO_takeNumber_64 (by decide) (fun c13 => ?_) (fun c13 => ?_)
          · have hw := hw.2 c13
            refine lv_iload_n hx hb d_MO_takeNumber_72 rfl (lv_at hl 3 rfl) ?_
            have hl := lv_sub hl (l' := [(0, .ref (ad 0)), (1, .int v1), (3, .int v3), (4, .int v4), (5, .int r12)]) [1, 2, 4, 5, 0] rfl
            exact L73 _ (wq_MO_takeNumber_43 post v1 n) ih _ _ _ _ _ _ _ _ _ hw hP hS hl
          · have hw := hw.1 c13
            refine lv_iload hx hb d_MO_takeNumber_67 (lv_at hl 0 rfl) ?_
            refine lv_goto (tgt := 73) hx hb d_MO_takeNumber_69 (by decide) ?_
            have hl := lv_sub hl (l' := [(0, .ref (ad 0)), (1, .int v1), (3, .int v3), (4, .int v4), (5, .int r12)]) [1, 2, 4, 5, 0] rfl
            exact L73 _ (wq_MO_takeNumber_43 post v1 n) ih _ _ _ _ _ _ _ _ _ hw hP hS hl
  have L33 : ∀ (s0 : Int32) (v1 : Int32) (X : ST) (Y : Int64) (H : Heap) (locs : List Loc) (ls : Array Slot), wq_MO_takeNumber_33 post s0 v1 X Y → va_P (dC, dI) vwCl (wdM cA ad X Y) H → va_S (CA ad 23 s.heap.size) s.heap H locs → lv_has ls 6 [(0, .ref (ad 0)), (1, .int v1)] → W p l e (headSpec ws_MO_takeNumber ({ frames := 2, cells := 0, slots := 0, locals := 43 } : Room)).room s m (([.ref (ad 0)] : List Value).toArray) below meth c H locs 0 0 (MQ below (va_Qi (fun r (u : ST × Int64) => post r u.1 u.2) (fun (u : ST × Int64) t => va_P (dC, dI) vwCl (wdM cA ad u.1 u.2) t.heap) (CA ad 23 s.heap.size)) (([.ref (ad 0)] : List Value).toArray) s 0 0 (CA ad 23 s.heap.size)) (F0 m 33 ls [.int s0, .ref (ad 0)]) := by
    intro s0 v1 X Y H locs ls hw hP hS hl
    unfold wq_MO_takeNumber_33 at hw
    obtain ⟨h14, hw⟩ := hw
    refine va_put (D := (dC, dI)) (ci := 9) (v := .int s0) (ty := .boolean) (C := R_MO) (T := T_MO) (N := 36) hx hb hts in_MO ty_MO ty_MO_ok nm_MO hown hK hP (hD0 _ _) hS (0) atM_MO rfl 32 (by decide) (hts _ gw_397) (fun _ h9 => h9) rfl (by decide +kernel) (zw_bn h14) (zw_bf h14) (Nat.le_of_ble_eq_true rfl) d_MO_takeNumber_33 (fun H locs hP _ hS => ?_)
    have hP : va_P (dC, dI) vwCl (wdM cA ad (up X 67 0 s0) Y) H := by rw [← stM_MO_32]; exact hP
    refine lv_iconst (v := (0 : Int32)) hx hb d_MO_takeNumber_36 (by decide) ?_
    refine lv_istore_n (lv' := [(2, .int (0 : Int32)), (0, .ref (ad 0)), (1, .int v1)]) hx hb d_MO_takeNumber_37 rfl hl (by decide) rfl (fun ls hl => ?_)
    refine lv_iconst (v := (0 : Int32)) hx hb d_MO_takeNumber_38 (by decide) ?_
    refine lv_istore_n (lv' := [(3, .int (0 : Int32)), (2, .int (0 : Int32)), (0, .ref (ad 0)), (1, .int v1)]) hx hb d_MO_takeNumber_39 rfl hl (by decide) rfl (fun ls hl => ?_)
    refine lv_iconst (v := (0 : Int32)) hx hb d_MO_takeNumber_40 (by decide) ?_
    refine lv_istore (lv' := [(4, .int (0 : Int32)), (3, .int (0 : Int32)), (2, .int (0 : Int32)), (0, .ref (ad 0)), (1, .int v1)]) hx hb d_MO_takeNumber_41 hl (by decide) rfl (fun ls hl => ?_)
    have hl := lv_sub hl (l' := [(0, .ref (ad 0)), (1, .int v1), (2, .int (0 : Int32)), (3, .int (0 : Int32)), (4, .int (0 : Int32))]) [3, 4, 2, 1, 0] rfl
    obtain ⟨n9, hw⟩ := hw
    exact L43 _ n9 _ _ _ _ _ _ _ _ hw hP hS hl
  unfold wp_MO_takeNumber at hw
  refine lv_aload_n hx hb d_MO_takeNumber_0 rfl (lv_at hl 0 rfl) ?_
  refine lv_iconst (v := (2 : Int32)) hx hb d_MO_takeNumber_1 (by decide) ?_
  refine va_callv (va_runV (As := [.int (2 : Int32)]) (rest := []) ⟨hx, hb, hml, hown, hts⟩ (mt_MO_must l hl9 dC dI cA ad hI _ hw) (cwV 1 hts (gV gw_405 gw_406 gw_407 gw_306 gw_404) rfl rfl rfl (by decide +kernel) ⟨Nat.le_of_ble_eq_true rfl, Nat.le_of_ble_eq_true rfl⟩) ⟨zwM_blind, va_recv hK hP (ci := 9) (q0 := 0) rfl atM_MO, zwM_pre hP hS hG9⟩ rfl rfl hl.1 rfl (lv_room (Nat.le_of_ble_eq_true rfl)) d_MO_takeNumber_2 ⟨Nat.le_of_ble_eq_true rfl, Nat.le_of_ble_eq_true rfl⟩) hS (fun q _ h => CA_le hS.1 q h) (fun q h => CA_le hS.1 q h) (fun u9 t H locs ht hvm hw hP hz1 hk1 hS => ?_)
  obtain ⟨X15, Y16⟩ := u9
  have hP : va_P (dC, dI) vwCl (wdM cA ad X15 Y16) H := by rw [← ht]; exact hP
  try dsimp only at hw
  refine lv_aload_n hx hb d_MO_takeNumber_5 rfl (lv_at hl 0 rfl) ?_
  refine va_calli (va_runV (As := []) (rest := []) ⟨hx, hb, hml, hown, hts⟩ (mt_MO_takeLength l hl9 dC dI cA ad hI _ hw) (cwV 0 hts (gV gw_409 gw_410 gw_411 gw_306 gw_408) rfl rfl rfl (by decide +kernel) ⟨Nat.le_of_ble_eq_true rfl, Nat.le_of_ble_eq_true rfl⟩) ⟨zwM_blind, va_recv hK hP (ci := 9) (q0 := 0) rfl atM_MO, zwM_pre hP hS hG9⟩ rfl rfl hl.1 rfl (lv_room (Nat.le_of_ble_eq_true rfl)) d_MO_takeNumber_6 ⟨Nat.le_of_ble_eq_true rfl, Nat.le_of_ble_eq_true rfl⟩) hS (fun q _ h => CA_le hS.1 q h) (fun q h => CA_le hS.1 q h) (fun r20 u9 t H locs ht hvm hw hP hz1 hk1 hS => ?_)
  obtain ⟨X18, Y19⟩ := u9
  have hP : va_P (dC, dI) vwCl (wdM cA ad X18 Y19) H := by rw [← ht]; exact hP
  try dsimp only at hw
  refine lv_istore_n (lv' := [(1, .int r20), (0, .ref (ad 0))]) hx hb d_MO_takeNumber_9 rfl hl (by decide) rfl (fun ls hl => ?_)
  refine lv_aload_n hx hb d_MO_takeNumber_10 rfl (lv_at hl 1 rfl) ?_
  refine lv_aload_n hx hb d_MO_takeNumber_11 rfl (lv_at hl 1 rfl) ?_
  refine va_get (D := (dC, dI)) (ci := 9) (v := .int (X18 67 0)) (C := R_MO) (T := T_MO) (N := 36) hx hb hts in_MO hown hK hP (0) atM_MO rfl 32 (by decide) (hts _ gw_397) (fun _ h9 => h9) rfl d_MO_takeNumber_12 ?_
  refine lv_if_eq (tgt := 32) hx hb d_MO_takeNumber_15 (by decide) (fun c21 => ?_) (fun c21 => ?_)
  · have hw := hw.1 c21
    refine lv_iconst (v := (0 : Int32)) hx hb d_MO_takeNumber_32 (by decide) ?_
    have hl := lv_sub hl (l' := [(0, .ref (ad 0)), (1, .int r20)]) [1, 0] rfl
    exact L33 _ _ _ _ _ _ _ hw hP hS hl
  · have hw := hw.2 c21
    refine lv_iload_n hx hb d_MO_takeNumber_18 rfl (lv_at hl 0 rfl) ?_
    refine lv_iconst (v := (1 : Int32)) hx hb d_MO_takeNumber_19 (by decide) ?_
    refine lv_icmp_lt (tgt := 32) hx hb d_MO_takeNumber_20 (by decide) (fun c22 => ?_) (fun c22 => ?_)
    · have hw := hw.1 c22
      refine lv_iconst (v := (0 : Int32)) hx hb d_MO_takeNumber_32 (by decide) ?_
      have hl := lv_sub hl (l' := [(0, .ref (ad 0)), (1, .int r20)]) [1, 0] rfl
      exact L33 _ _ _ _ _ _ _ hw hP hS hl
    · have hw := hw.2 c22
      refine lv_iload_n hx hb d_MO_takeNumber_23 rfl (lv_at hl 0 rfl) ?_
      refine lv_iconst (v := (4 : Int32)) hx hb d_MO_takeNumber_24 (by decide) ?_
      refine lv_icmp_gt (tgt := 32) hx hb d_MO_takeNumber_25 (by decide) (fun c23 => ?_) (fun c23 => ?_)
      · have hw := hw.1 c23
        refine lv_iconst (v := (0 : Int32)) hx hb d_MO_takeNumber_32 (by decide) ?_
        have hl := lv_sub hl (l' := [(0, .ref (ad 0)), (1, .int r20)]) [1, 0] rfl
        exact L33 _ _ _ _ _ _ _ hw hP hS hl
      · have hw := hw.2 c23
        refine lv_iconst (v := (1 : Int32)) hx hb d_MO_takeNumber_28 (by decide) ?_
        refine lv_goto (tgt := 33) hx hb d_MO_takeNumber_29 (by decide) ?_
        have hl := lv_sub hl (l' := [(0, .ref (ad 0)), (1, .int r20)]) [1, 0] rfl
        exact L33 _ _ _ _ _ _ _ hw hP hS hl
