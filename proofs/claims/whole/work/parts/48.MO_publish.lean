def ws_MO_publish : List Cond := Cond.code y_MO_publish c_MO_publish 3 (Option.some Jvm.ClassFile.FieldType.int) :: GW
theorem d_MO_publish_0 : decode c_MO_publish 0 = .ok (.aload_n 0, 1) := by decide +kernel
theorem d_MO_publish_1 : decode c_MO_publish 1 = .ok (.iconst 0, 1) := by decide +kernel
theorem d_MO_publish_2 : decode c_MO_publish 2 = .ok (.putfield 81, 3) := by decide +kernel
theorem d_MO_publish_5 : decode c_MO_publish 5 = .ok (.iconst 0, 1) := by decide +kernel
theorem d_MO_publish_6 : decode c_MO_publish 6 = .ok (.istore_n 1, 1) := by decide +kernel
theorem d_MO_publish_7 : decode c_MO_publish 7 = .ok (.iconst 0, 1) := by decide +kernel
theorem d_MO_publish_8 : decode c_MO_publish 8 = .ok (.istore_n 2, 1) := by decide +kernel
theorem d_MO_publish_9 : decode c_MO_publish 9 = .ok (.iload_n 2, 1) := by decide +kernel
theorem d_MO_publish_10 : decode c_MO_publish 10 = .ok (.aload_n 0, 1) := by decide +kernel
theorem d_MO_publish_11 : decode c_MO_publish 11 = .ok (.getfield 134, 3) := by decide +kernel
theorem d_MO_publish_14 : decode c_MO_publish 14 = .ok (.if_icmp .ge 29, 3) := by decide +kernel
theorem d_MO_publish_17 : decode c_MO_publish 17 = .ok (.aload_n 0, 1) := by decide +kernel
theorem d_MO_publish_18 : decode c_MO_publish 18 = .ok (.getfield 26, 3) := by decide +kernel
theorem d_MO_publish_21 : decode c_MO_publish 21 = .ok (.iload_n 2, 1) := by decide +kernel
theorem d_MO_publish_22 : decode c_MO_publish 22 = .ok (.iaload, 1) := by decide +kernel
theorem d_MO_publish_23 : decode c_MO_publish 23 = .ok (.iconst 2, 1) := by decide +kernel
theorem d_MO_publish_24 : decode c_MO_publish 24 = .ok (.if_icmp .ne 13, 3) := by decide +kernel
theorem d_MO_publish_27 : decode c_MO_publish 27 = .ok (.aload_n 0, 1) := by decide +kernel
theorem d_MO_publish_28 : decode c_MO_publish 28 = .ok (.getfield 26, 3) := by decide +kernel
theorem d_MO_publish_31 : decode c_MO_publish 31 = .ok (.iload_n 2, 1) := by decide +kernel
theorem d_MO_publish_32 : decode c_MO_publish 32 = .ok (.iconst 3, 1) := by decide +kernel
theorem d_MO_publish_33 : decode c_MO_publish 33 = .ok (.iastore, 1) := by decide +kernel
theorem d_MO_publish_34 : decode c_MO_publish 34 = .ok (.iinc 1 1, 3) := by decide +kernel
theorem d_MO_publish_37 : decode c_MO_publish 37 = .ok (.iinc 2 1, 3) := by decide +kernel
theorem d_MO_publish_40 : decode c_MO_publish 40 = .ok (.goto (-31), 3) := by decide +kernel
theorem d_MO_publish_43 : decode c_MO_publish 43 = .ok (.iload_n 1, 1) := by decide +kernel
theorem d_MO_publish_44 : decode c_MO_publish 44 = .ok (.ireturn, 1) := by decide +kernel
def wq_MO_publish_9 (post : Int32 → ST → Int64 → Prop) : Nat → Int32 → Int32 → ST → Int64 → Prop
  | 0 => fun _ _ _ _ => False
  | n + 1 => fun v1 v2 X Y => (((X 3 0) ≤ v2 → post v1 X Y) ∧ (¬ (X 3 0) ≤ v2 → (vp_in v2 12 ∧ (((X 20 v2.toNatClampNeg) = (2 : Int32) → wq_MO_publish_9 post n (v1 + (1 : Int32)) (v2 + (1 : Int32)) (up X 20 v2.toNatClampNeg (3 : Int32)) Y) ∧ (¬ (X 20 v2.toNatClampNeg) = (2 : Int32) → wq_MO_publish_9 post n v1 (v2 + (1 : Int32)) X Y)))))
def wp_MO_publish (post : Int32 → ST → Int64 → Prop) (X : ST) (Y : Int64) : Prop := (∃ n9, wq_MO_publish_9 post n9 (0 : Int32) (0 : Int32) (up X 90 0 (0 : Int32)) Y)
set_option maxHeartbeats 4000000 in
set_option maxRecDepth 100000 in
theorem mt_MO_publish (l : Launch) (hl9 : l.stackTraces = false) (dC : Nat → ClassId) (dI : Nat → Nat → Nat) (cA : Nat → ClassId) (ad : Nat → Nat) (hI : INJ ad 23) (sz : Nat) {X : ST} {Y : Int64} {post : Int32 → ST → Int64 → Prop} (hw : wp_MO_publish post X Y) : Met l y_MO_publish ws_MO_publish ({ frames := 0, cells := 0, slots := 0, locals := 0 } : Room) (va_Pc [.ref (ad 0)] (fun U => PM dC dI cA ad sz X Y U)) (va_Qi (fun r (u : ST × Int64) => post r u.1 u.2) (fun (u : ST × Int64) t => va_P (dC, dI) vwCl (wdM cA ad u.1 u.2) t.heap) (CA ad 23 sz)) 0 0 (CA ad 23 sz) := by
  refine Met.ofW (cc := c_MO_publish) (maxL := 3) (ret := (some .int)) (by decide) rfl ?_
  intro p e s m args below meth c s₁ B hml hv
  obtain ⟨rfl, hsz, hP, hG⟩ := hv
  have hx := B.exec
  have hb := B.bytes
  have hr := B.returns
  have hts : ∀ w ∈ GW, w.before (([.ref (ad 0)] : List Value).toArray) s = true := fun w h => atoms_spec (ws := ws_MO_publish) B.pre w (List.mem_cons_of_mem _ h)
  have hown : s.vm.findClass R_MO = some m.cls := findClass_of_methodNamed B.named
  have hlocks := B.notSynchronized
  subst hsz
  have hK := hG.1
  have hG9 := hG
  have hNW := hG.2
  have hD0 : ∀ (X : ST) (Y : Int64), va_D (CA ad 23 s.heap.size) (wdM cA ad X Y) := fun _ _ => zwM_D hI
  have hS : va_S (CA ad 23 s.heap.size) s.heap s.heap [] := va_S.rf
  have hl := lv_entry ([.ref (ad 0)]) (n := 3) (Nat.le_of_ble_eq_true rfl)
  rw [lg_entry_eq]
  generalize (lg_sl ([.ref (ad 0)]) ++ List.replicate (3 - (lg_sl ([.ref (ad 0)])).length) Slot.unset).toArray = ls at hl ⊢
  have hl : lv_has ls 3 [(0, .ref (ad 0))] := hl
  have L9 : ∀ (n : Nat), ∀ (v1 : Int32) (v2 : Int32) (X : ST) (Y : Int64) (H : Heap) (locs : List Loc) (ls : Array Slot), wq_MO_publish_9 post n v1 v2 X Y → va_P (dC, dI) vwCl (wdM cA ad X Y) H → va_S (CA ad 23 s.heap.size) s.heap H locs → lv_has ls 3 [(0, .ref (ad 0)), (1, .int v1), (2, .int v2)] → W p l e (headSpec ws_MO_publish ({ frames := 0, cells := 0, slots := 0, locals := 0 } : Room)).room s m (([.ref (ad 0)] : List Value).toArray) below meth c H locs 0 0 (MQ below (va_Qi (fun r (u : ST × Int64) => post r u.1 u.2) (fun (u : ST × Int64) t => va_P (dC, dI) vwCl (wdM cA ad u.1 u.2) t.heap) (CA ad 23 s.heap.size)) (([.ref (ad 0)] : List Value).toArray) s 0 0 (CA ad 23 s.heap.size)) (F0 m 9 ls []) := by
    intro n
    induction n with
    | zero => intro v1 v2 X Y H locs ls hw hP hS hl; exact False.elim hw
    | succ n ih =>
      intro v1 v2 X Y H locs ls hw hP hS hl
      dsimp only [wq_MO_publish_9] at hw
      refine lv_iload_n hx hb d_MO_publish_9 rfl (lv_at hl 2 rfl) ?_
      refine lv_aload_n hx hb d_MO_publish_10 rfl (lv_at hl 0 rfl) ?_
      refine va_get (D := (dC, dI)) (ci := 9) (v := .int (X 3 0)) (C := R_MO) (T := T_MO) (N := 36) hx hb hts in_MO hown hK hP (0) atM_MO rfl 6 (by decide) (hts _ gw_349) (fun _ h9 => h9) rfl d_MO_publish_11 ?_
      refine lv_icmp_ge (tgt := 43) hx hb d_MO_publish_14 (by decide) (fun c1 => ?_) (fun c1 => ?_)
      · have hw := hw.1 c1
        refine lv_iload_n hx hb d_MO_publish_43 rfl (lv_at hl 1 rfl) ?_
        exact W.iret (v := v1) hx hb hr (fun t ht _ => ⟨⟨v1, (X, Y), rfl, hw, by show va_P _ _ _ t.heap; rw [ht]; exact hP⟩, hS.F ht⟩) hS.2.2 d_MO_publish_44
      · have hw := hw.2 c1
        refine lv_aload_n hx hb d_MO_publish_17 rfl (lv_at hl 0 rfl) ?_
        refine va_get (D := (dC, dI)) (ci := 9) (v := .ref (ad 6)) (C := R_MO) (T := T_MO) (N := 36) hx hb hts in_MO hown hK hP (0) atM_MO rfl 10 (by decide) (hts _ gw_345) (fun _ h9 => h9) rfl d_MO_publish_18 ?_
        refine lv_iload_n hx hb d_MO_publish_21 rfl (lv_at hl 2 rfl) ?_
        obtain ⟨h2, hw⟩ := hw
        refine va_iald hx hb hK hP (6) 5 atM_orderState rfl h2 d_MO_publish_22 ?_
        refine lv_iconst (v := (2 : Int32)) hx hb d_MO_publish_23 (by decide) ?_
        refine lv_icmp_ne (tgt := 37) hx hb d_MO_publish_24 (by decide) (fun c3 => ?_) (fun c3 => ?_)
        · have hw := hw.2 c3
          refine lv_iinc (k := 2) (v := v2 + (1 : Int32)) (lv' := [(2, .int (v2 + (1 : Int32))), (0, .ref (ad 0)), (1, .int v1)]) hx hb d_MO_publish_37 hl rfl rfl (by decide) rfl (fun ls hl => ?_)
          refine lv_goto (tgt := 9) hx hb d_MO_publish_40 (by decide) ?_
          have hl := lv_sub hl (l' := [(0, .ref (ad 0)), (1, .int v1), (2, .int (v2 + (1 : Int32)))]) [1, 2, 0] rfl
          exact ih _ _ _ _ _ _ _ hw hP hS hl
        · have hw := hw.1 c3
          refine lv_aload_n hx hb d_MO_publish_27 rfl (lv_at hl 0 rfl) ?_
          refine va_get (D := (dC, dI)) (ci := 9) (v := .ref (ad 6)) (C := R_MO) (T := T_MO) (N := 36) hx hb hts in_MO hown hK hP (0) atM_MO rfl 10 (by decide) (hts _ gw_345) (fun _ h9 => h9) rfl d_MO_publish_28 ?_
          refine lv_iload_n hx hb d_MO_publish_31 rfl (lv_at hl 2 rfl) ?_
          refine lv_iconst (v := (3 : Int32)) hx hb d_MO_publish_32 (by decide) ?_
          refine va_iast hx hb hK hP (hD0 _ _) hS (6) 5 atM_orderState rfl h2 d_MO_publish_33 (fun H locs hP _ hS => ?_)
          have hP : va_P (dC, dI) vwCl (wdM cA ad (up X 20 v2.toNatClampNeg (3 : Int32)) Y) H := by rw [← stM_orderState]; exact hP
          refine lv_iinc (k := 1) (v := v1 + (1 : Int32)) (lv' := [(1, .int (v1 + (1 : Int32))), (0, .ref (ad 0)), (2, .int v2)]) hx hb d_MO_publish_34 hl rfl rfl (by decide) rfl (fun ls hl => ?_)
          refine lv_iinc (k := 2) (v := v2 + (1 : Int32)) (lv' := [(2, .int (v2 + (1 : Int32))), (1, .int (v1 + (1 : Int32))), (0, .ref (ad 0))]) hx hb d_MO_publish_37 hl rfl rfl (by decide) rfl (fun ls hl => ?_)
          refine lv_goto (tgt := 9) hx hb d_MO_publish_40 (by decide) ?_
          have hl := lv_sub hl (l' := [(0, .ref (ad 0)), (1, .int (v1 + (1 : Int32))), (2, .int (v2 + (1 : Int32)))]) [2, 1, 0] rfl
          exact ih _ _ _ _ _ _ _ hw hP hS hl
  unfold wp_MO_publish at hw
  refine lv_aload_n hx hb d_MO_publish_0 rfl (lv_at hl 0 rfl) ?_
  refine lv_iconst (v := (0 : Int32)) hx hb d_MO_publish_1 (by decide) ?_
  refine va_put (D := (dC, dI)) (ci := 9) (v := .int (0 : Int32)) (ty := .int) (C := R_MO) (T := T_MO) (N := 36) hx hb hts in_MO ty_MO ty_MO_ok nm_MO hown hK hP (hD0 _ _) hS (0) atM_MO rfl 0 (by decide) (hts _ gw_297) (fun _ h9 => h9) rfl (by decide +kernel) rfl rfl (Nat.le_of_ble_eq_true rfl) d_MO_publish_2 (fun H locs hP _ hS => ?_)
  have hP : va_P (dC, dI) vwCl (wdM cA ad (up X 90 0 (0 : Int32)) Y) H := by rw [← stM_MO_0]; exact hP
  refine lv_iconst (v := (0 : Int32)) hx hb d_MO_publish_5 (by decide) ?_
  refine lv_istore_n (lv' := [(1, .int (0 : Int32)), (0, .ref (ad 0))]) hx hb d_MO_publish_6 rfl hl (by decide) rfl (fun ls hl => ?_)
  refine lv_iconst (v := (0 : Int32)) hx hb d_MO_publish_7 (by decide) ?_
  refine lv_istore_n (lv' := [(2, .int (0 : Int32)), (1, .int (0 : Int32)), (0, .ref (ad 0))]) hx hb d_MO_publish_8 rfl hl (by decide) rfl (fun ls hl => ?_)
  have hl := lv_sub hl (l' := [(0, .ref (ad 0)), (1, .int (0 : Int32)), (2, .int (0 : Int32))]) [2, 1, 0] rfl
  obtain ⟨n9, hw⟩ := hw
  exact L9 n9 _ _ _ _ _ _ _ hw hP hS hl
def ws_MO_may : List Cond := Cond.code y_MO_may c_MO_may 5 (Option.some Jvm.ClassFile.FieldType.boolean) :: GW
theorem d_MO_may_0 : decode c_MO_may 0 = .ok (.iconst 1, 1) := by decide +kernel
theorem d_MO_may_1 : decode c_MO_may 1 = .ok (.istore_n 3, 1) := by decide +kernel
theorem d_MO_may_2 : decode c_MO_may 2 = .ok (.iconst 0, 1) := by decide +kernel
theorem d_MO_may_3 : decode c_MO_may 3 = .ok (.istore 4, 2) := by decide +kernel
theorem d_MO_may_5 : decode c_MO_may 5 = .ok (.iload 4, 2) := by decide +kernel
theorem d_MO_may_7 : decode c_MO_may 7 = .ok (.bipush 16, 2) := by decide +kernel
theorem d_MO_may_9 : decode c_MO_may 9 = .ok (.if_icmp .ge 48, 3) := by decide +kernel
theorem d_MO_may_12 : decode c_MO_may 12 = .ok (.iload_n 3, 1) := by decide +kernel
theorem d_MO_may_13 : decode c_MO_may 13 = .ok (.ifCond .eq 36, 3) := by decide +kernel
theorem d_MO_may_16 : decode c_MO_may 16 = .ok (.aload_n 0, 1) := by decide +kernel
theorem d_MO_may_17 : decode c_MO_may 17 = .ok (.getfield 20, 3) := by decide +kernel
theorem d_MO_may_20 : decode c_MO_may 20 = .ok (.aload_n 0, 1) := by decide +kernel
theorem d_MO_may_21 : decode c_MO_may 21 = .ok (.getfield 59, 3) := by decide +kernel
theorem d_MO_may_24 : decode c_MO_may 24 = .ok (.iload_n 2, 1) := by decide +kernel
theorem d_MO_may_25 : decode c_MO_may 25 = .ok (.iaload, 1) := by decide +kernel
theorem d_MO_may_26 : decode c_MO_may 26 = .ok (.iaload, 1) := by decide +kernel
theorem d_MO_may_27 : decode c_MO_may 27 = .ok (.iload 4, 2) := by decide +kernel
theorem d_MO_may_29 : decode c_MO_may 29 = .ok (.invokestatic 140, 3) := by decide +kernel
theorem d_MO_may_32 : decode c_MO_may 32 = .ok (.ifCond .eq 13, 3) := by decide +kernel
theorem d_MO_may_35 : decode c_MO_may 35 = .ok (.aload_n 0, 1) := by decide +kernel
theorem d_MO_may_36 : decode c_MO_may 36 = .ok (.iload_n 1, 1) := by decide +kernel
theorem d_MO_may_37 : decode c_MO_may 37 = .ok (.iload 4, 2) := by decide +kernel
theorem d_MO_may_39 : decode c_MO_may 39 = .ok (.invokevirtual 147, 3) := by decide +kernel
theorem d_MO_may_42 : decode c_MO_may 42 = .ok (.ifCond .lt 7, 3) := by decide +kernel
theorem d_MO_may_45 : decode c_MO_may 45 = .ok (.iconst 1, 1) := by decide +kernel
theorem d_MO_may_46 : decode c_MO_may 46 = .ok (.goto 4, 3) := by decide +kernel
theorem d_MO_may_49 : decode c_MO_may 49 = .ok (.iconst 0, 1) := by decide +kernel
theorem d_MO_may_50 : decode c_MO_may 50 = .ok (.istore_n 3, 1) := by decide +kernel
theorem d_MO_may_51 : decode c_MO_may 51 = .ok (.iinc 4 1, 3) := by decide +kernel
theorem d_MO_may_54 : decode c_MO_may 54 = .ok (.goto (-49), 3) := by decide +kernel
theorem d_MO_may_57 : decode c_MO_may 57 = .ok (.iload_n 3, 1) := by decide +kernel
theorem d_MO_may_58 : decode c_MO_may 58 = .ok (.ifCond .ne 18, 3) := by decide +kernel
theorem d_MO_may_61 : decode c_MO_may 61 = .ok (.aload_n 0, 1) := by decide +kernel
theorem d_MO_may_62 : decode c_MO_may 62 = .ok (.getfield 17, 3) := by decide +kernel
theorem d_MO_may_65 : decode c_MO_may 65 = .ok (.aload_n 0, 1) := by decide +kernel
theorem d_MO_may_66 : decode c_MO_may 66 = .ok (.getfield 59, 3) := by decide +kernel
theorem d_MO_may_69 : decode c_MO_may 69 = .ok (.iload_n 2, 1) := by decide +kernel
theorem d_MO_may_70 : decode c_MO_may 70 = .ok (.iaload, 1) := by decide +kernel
theorem d_MO_may_71 : decode c_MO_may 71 = .ok (.iaload, 1) := by decide +kernel
theorem d_MO_may_72 : decode c_MO_may 72 = .ok (.iload_n 1, 1) := by decide +kernel
theorem d_MO_may_73 : decode c_MO_may 73 = .ok (.if_icmp .ne 7, 3) := by decide +kernel
theorem d_MO_may_76 : decode c_MO_may 76 = .ok (.iconst 1, 1) := by decide +kernel
theorem d_MO_may_77 : decode c_MO_may 77 = .ok (.goto 4, 3) := by decide +kernel
theorem d_MO_may_80 : decode c_MO_may 80 = .ok (.iconst 0, 1) := by decide +kernel
theorem d_MO_may_81 : decode c_MO_may 81 = .ok (.ireturn, 1) := by decide +kernel
def wq_MO_may_5 (post : Int32 → ST → Int64 → Prop) (v1 : Int32) (v2 : Int32) : Nat → Int32 → Int32 → ST → Int64 → Prop
  | 0 => fun _ _ _ _ => False
  | n + 1 => fun v3 v4 X Y => (((16 : Int32) ≤ v4 → ((v3 = 0 → (vp_in v2 12 ∧ (vp_in (X 51 v2.toNatClampNeg) 12 ∧ (((X 21 (X 51 v2.toNatClampNeg).toNatClampNeg) = v1 → post (1 : Int32) X Y) ∧ (¬ (X 21 (X 51 v2.toNatClampNeg).toNatClampNeg) = v1 → post (0 : Int32) X Y))))) ∧ (¬ v3 = 0 → post (1 : Int32) X Y))) ∧ (¬ (16 : Int32) ≤ v4 → ((v3 = 0 → wq_MO_may_5 post v1 v2 n (0 : Int32) (v4 + (1 : Int32)) X Y) ∧ (¬ v3 = 0 → (vp_in v2 12 ∧ (vp_in (X 51 v2.toNatClampNeg) 12 ∧ wp_MO_has (fun (r11 : Int32) (X9 : ST) (Y10 : Int64) => ((r11 = 0 → wq_MO_may_5 post v1 v2 n (1 : Int32) (v4 + (1 : Int32)) X9 Y10) ∧ (¬ r11 = 0 → wp_MO_valid (fun (r15 : Int32) (X13 : ST) (Y14 : Int64) => ((r15 < 0 → wq_MO_may_5 post v1 v2 n (0 : Int32) (v4 + (1 : Int32)) X13 Y14) ∧ (¬ r15 < 0 → wq_MO_may_5 post v1 v2 n (1 : Int32) (v4 + (1 : Int32)) X13 Y14))) X9 Y10 v1 v4))) X Y (X 22 (X 51 v2.toNatClampNeg).toNatClampNeg) v4))))))
def wp_MO_may (post : Int32 → ST → Int64 → Prop) (X : ST) (Y : Int64) (a1 : Int32) (a2 : Int32) : Prop := (∃ n9, wq_MO_may_5 post a1 a2 n9 (1 : Int32) (0 : Int32) X Y)
set_option maxHeartbeats 4000000 in
set_option maxRecDepth 100000 in
theorem mt_MO_may (l : Launch) (hl9 : l.stackTraces = false) (dC : Nat → ClassId) (dI : Nat → Nat → Nat) (cA : Nat → ClassId) (ad : Nat → Nat) (hI : INJ ad 23) (sz : Nat) {X : ST} {Y : Int64} {a1 : Int32} {a2 : Int32} {post : Int32 → ST → Int64 → Prop} (hw : wp_MO_may post X Y a1 a2) : Met l y_MO_may ws_MO_may ({ frames := 1, cells := 0, slots := 0, locals := 24 } : Room) (va_Pc [.ref (ad 0), .int a1, .int a2] (fun U => PM dC dI cA ad sz X Y U)) (va_Qi (fun r (u : ST × Int64) => post r u.1 u.2) (fun (u : ST × Int64) t => va_P (dC, dI) vwCl (wdM cA ad u.1 u.2) t.heap) (CA ad 23 sz)) 0 0 (CA ad 23 sz) := by
  refine Met.ofW (cc := c_MO_may) (maxL := 5) (ret := (some .boolean)) (by decide) rfl ?_
  intro p e s m args below meth c s₁ B hml hv
  obtain ⟨rfl, hsz, hP, hG⟩ := hv
  have hx := B.exec
  have hb := B.bytes
  have hr := B.returns
  have hts : ∀ w ∈ GW, w.before (([.ref (ad 0), .int a1, .int a2] : List Value).toArray) s = true := fun w h => atoms_spec (ws := ws_MO_may) B.pre w (List.mem_cons_of_mem _ h)
  have hown : s.vm.findClass R_MO = some m.cls := findClass_of_methodNamed B.named
  have hlocks := B.notSynchronized
  subst hsz
  have hK := hG.1
  have hG9 := hG
  have hNW := hG.2
  have hD0 : ∀ (X : ST) (Y : Int64), va_D (CA ad 23 s.heap.size) (wdM cA ad X Y) := fun _ _ => zwM_D hI
  have hS : va_S (CA ad 23 s.heap.size) s.heap s.heap [] := va_S.rf
  have hl := lv_entry ([.ref (ad 0), .int a1, .int a2]) (n := 5) (Nat.le_of_ble_eq_true rfl)
  rw [lg_entry_eq]
  generalize (lg_sl ([.ref (ad 0), .int a1, .int a2]) ++ List.replicate (5 - (lg_sl ([.ref (ad 0), .int a1, .int a2])).length) Slot.unset).toArray = ls at hl ⊢
  have hl : lv_has ls 5 [(0, .ref (ad 0)), (1, .int a1), (2, .int a2)] := hl
  have L5 : ∀ (v1 : Int32) (v2 : Int32), ∀ (n : Nat), ∀ (v3 : Int32) (v4 : Int32) (X : ST) (Y : Int64) (H : Heap) (locs : List Loc) (ls : Array Slot), wq_MO_may_5 post v1 v2 n v3 v4 X Y → va_P (dC, dI) vwCl (wdM cA ad X Y) H → va_S (CA ad 23 s.heap.size) s.heap H locs → lv_has ls 5 [(0, .ref (ad 0)), (1, .int v1), (2, .int v2), (3, .int v3), (4, .int v4)] → W p l e (headSpec ws_MO_may ({ frames := 1, cells := 0, slots := 0, locals := 24 } : Room)).room s m (([.ref (ad 0), .int a1, .int a2] : List Value).toArray) below meth c H locs 0 0 (MQ below (va_Qi (fun r (u : ST × Int64) => post r u.1 u.2) (fun (u : ST × Int64) t => va_P (dC, dI) vwCl (wdM cA ad u.1 u.2) t.heap) (CA ad 23 s.heap.size)) (([.ref (ad 0), .int a1, .int a2] : List Value).toArray) s 0 0 (CA ad 23 s.heap.size)) (F0 m 5 ls []) := by
    intro v1 v2 n
    induction n with
    | zero => intro v3 v4 X Y H locs ls hw hP hS hl; exact False.elim hw
    | succ n ih =>
      intro v3 v4 X Y H locs ls hw hP hS hl
      dsimp only [wq_MO_may_5] at hw
      refine lv_iload hx hb d_MO_may_5 (lv_at hl 4 rfl) ?_
      refine lv_bipush (v := (16 : Int32)) hx hb d_MO_may_7 (by decide) ?_
      refine lv_icmp_ge (tgt := 57) hx hb d_MO_may_9 (by decide) (fun c1 => ?_) (fun c1 => ?_)
      · have hw := hw.1 c1
        refine lv_iload_n hx hb d_MO_may_57 rfl (lv_at hl 3 rfl) ?_
        refine lv_if_ne (tgt := 76) hx hb d_MO_may_58 (by decide) (fun c2 => ?_) (fun c2 => ?_)
        · have hw := hw.2 c2
          refine lv_iconst (v := (1 : Int32)) hx hb d_MO_may_76 (by decide) ?_
          refine lv_goto (tgt := 81) hx hb d_MO_may_77 (by decide) ?_
          exact W.zret (v := (1 : Int32)) hx hb hr (by decide) (fun t ht _ => ⟨⟨(1 : Int32), (X, Y), rfl, hw, by show va_P _ _ _ t.heap; rw [ht]; exact hP⟩, hS.F ht⟩) hS.2.2 d_MO_may_81
        · have hw := hw.1 c2
          refine lv_aload_n hx hb d_MO_may_61 rfl (lv_at hl 0 rfl) ?_
          refine va_get (D := (dC, dI)) (ci := 9) (v := .ref (ad 3)) (C := R_MO) (T := T_MO) (N := 36) hx hb hts in_MO hown hK hP (0) atM_MO rfl 7 (by decide) (hts _ gw_373) (fun _ h9 => h9) rfl d_MO_may_62 ?_
          refine lv_aload_n hx hb d_MO_may_65 rfl (lv_at hl 0 rfl) ?_
          refine va_get (D := (dC, dI)) (ci := 9) (v := .ref (ad 17)) (C := R_MO) (T := T_MO) (N := 36) hx hb hts in_MO hown hK hP (0) atM_MO rfl 23 (by decide) (hts _ gw_427) (fun _ h9 => h9) rfl d_MO_may_66 ?_
          refine lv_iload_n hx hb d_MO_may_69 rfl (lv_at hl 2 rfl) ?_
          obtain ⟨h3, hw⟩ := hw
          refine va_iald hx hb hK hP (17) 16 atM_paperOrder rfl h3 d_MO_may_70 ?_
          obtain ⟨h4, hw⟩ := hw
          refine va_iald hx hb hK hP (3) 2 atM_orderAccount rfl h4 d_MO_may_71 ?_
          refine lv_iload_n hx hb d_MO_may_72 rfl (lv_at hl 1 rfl) ?_
          refine lv_icmp_ne (tgt := 80) hx hb d_MO_may_73 (by decide) (fun c5 => ?_) (fun c5 => ?_)
          · have hw := hw.2 c5
            refine lv_iconst (v := (0 : Int32)) hx hb d_MO_may_80 (by decide) ?_
            exact W.zret (v := (0 : Int32)) hx hb hr (by decide) (fun t ht _ => ⟨⟨(0 : Int32), (X, Y), rfl, hw, by show va_P _ _ _ t.heap; rw [ht]; exact hP⟩, hS.F ht⟩) hS.2.2 d_MO_may_81
          · have hw := hw.1 c5
            refine lv_iconst (v := (1 : Int32)) hx hb d_MO_may_76 (by decide) ?_
            refine lv_goto (tgt := 81) hx hb d_MO_may_77 (by decide) ?_
            exact W.zret (v := (1 : Int32)) hx hb hr (by decide) (fun t ht _ => ⟨⟨(1 : Int32), (X, Y), rfl, hw, by show va_P _ _ _ t.heap; rw [ht]; exact hP⟩, hS.F ht⟩) hS.2.2 d_MO_may_81
      · have hw := hw.2 c1
        refine lv_iload_n hx hb d_MO_may_12 rfl (lv_at hl 3 rfl) ?_
        refine lv_if_eq (tgt := 49) hx hb d_MO_may_13 (by decide) (fun c6 => ?_) (fun c6 => ?_)
        · have hw := hw.1 c6
          refine lv_iconst (v := (0 : Int32)) hx hb d_MO_may_49 (by decide) ?_
          refine lv_istore_n (lv' := [(3, .int (0 : Int32)), (0, .ref (ad 0)), (1, .int v1), (2, .int v2), (4, .int v4)]) hx hb d_MO_may_50 rfl hl (by decide) rfl (fun ls hl => ?_)
          refine lv_iinc (k := 4) (v := v4 + (1 : Int32)) (lv' := [(4, .int (v4 + (1 : Int32))), (3, .int (0 : Int32)), (0, .ref (ad 0)), (1, .int v1), (2, .int v2)]) hx hb d_MO_may_51 hl rfl rfl (by decide) rfl (fun ls hl => ?_)
          refine lv_goto (tgt := 5) hx hb d_MO_may_54 (by decide) ?_
          have hl := lv_sub hl (l' := [(0, .ref (ad 0)), (1, .int v1), (2, .int v2), (3, .int (0 : Int32)), (4, .int (v4 + (1 : Int32)))]) [2, 3, 4, 1, 0] rfl
          exact ih _ _ _ _ _ _ _ hw hP hS hl
        · have hw := hw.2 c6
          refine lv_aload_n hx hb d_MO_may_16 rfl (lv_at hl 0 rfl) ?_
          refine va_get (D := (dC, dI)) (ci := 9) (v := .ref (ad 4)) (C := R_MO) (T := T_MO) (N := 36) hx hb hts in_MO hown hK hP (0) atM_MO rfl 8 (by decide) (hts _ gw_374) (fun _ h9 => h9) rfl d_MO_may_17 ?_
          refine lv_aload_n hx hb d_MO_may_20 rfl (lv_at hl 0 rfl) ?_
          refine va_get (D := (dC, dI)) (ci := 9) (v := .ref (ad 17)) (C := R_MO) (T := T_MO) (N := 36) hx hb hts in_MO hown hK hP (0) atM_MO rfl 23 (by decide) (hts _ gw_427) (fun _ h9 => h9) rfl d_MO_may_21 ?_
          refine lv_iload_n hx hb d_MO_may_24 rfl (lv_at hl 2 rfl) ?_
          obtain ⟨h7, hw⟩ := hw
          refine va_iald hx hb hK hP (17) 16 atM_paperOrder rfl h7 d_MO_may_25 ?_
          obtain ⟨h8, hw⟩ := hw
          refine va_iald hx hb hK hP (4) 3 atM_orderNames rfl h8 d_MO_may_26 ?_
          refine lv_iload hx hb d_MO_may_27 (lv_at hl 4 rfl) ?_
          refine va_calli (va_runS (As := [.int (X 22 (X 51 v2.toNatClampNeg).toNatClampNeg), .int v4]) (rest := []) ⟨hx, hb, hml, hown, hts⟩ (mt_MO_has l hl9 dC dI cA ad hI _ hw) (va_cwS 2 hts (gS gw_354 gw_355 gw_306 gw_353) rfl rfl rfl (by decide +kernel) ⟨Nat.le_of_ble_eq_true rfl, Nat.le_of_ble_eq_true rfl⟩) ⟨zwM_blind, zwM_pre hP hS hG9⟩ rfl rfl hl.1 rfl (lv_room (Nat.le_of_ble_eq_true rfl)) d_MO_may_29 ⟨Nat.le_of_ble_eq_true rfl, Nat.le_of_ble_eq_true rfl⟩) hS (fun q _ h => CA_le hS.1 q h) (fun q h => CA_le hS.1 q h) (fun r11 u9 t H locs ht hvm hw hP hz1 hk1 hS => ?_)
          obtain ⟨X9, Y10⟩ := u9
          have hP : va_P (dC, dI) vwCl (wdM cA ad X9 Y10) H := by rw [← ht]; exact hP
          try dsimp only at hw
          refine lv_if_eq (tgt := 45) hx hb d_MO_may_32 (by decide) (fun c12 => ?_) (fun c12 => ?_)
          · have hw := hw.1 c12
            refine lv_iconst (v := (1 : Int32)) hx hb d_MO_may_45 (by decide) ?_
            refine lv_goto (tgt := 50) hx hb d_MO_may_46 (by decide) ?_
            refine lv_istore_n (lv' := [(3, .int (1 : Int32)), (0, .ref (ad 0)), (1, .int v1), (2, .int v2), (4, .int v4)]) hx hb d_MO_may_50 rfl hl (by decide) rfl (fun ls hl => ?_)
            refine lv_iinc (k := 4) (v := v4 + (1 : Int32)) (lv' := [(4, .int (v4 + (1 : Int32))), (3, .int (1 : Int32)), (0, .ref (ad 0)), (1, .int v1), (2, .int v2)]) hx hb d_MO_may_51 hl rfl rfl (by decide) rfl (fun ls hl => ?_)
            refine lv_goto (tgt := 5) hx hb d_MO_may_54 (by decide) ?_
            have hl := lv_sub hl (l' := [(0, .ref (ad 0)), (1, .int v1), (2, .int v2), (3, .int (1 : Int32)), (4, .int (v4 + (1 : Int32)))]) [2, 3, 4, 1, 0] rfl
            exact ih _ _ _ _ _ _ _ hw hP hS hl
          · have hw := hw.2 c12
            refine lv_aload_n hx hb d_MO_may_35 rfl (lv_at hl 0 rfl) ?_
            refine lv_iload_n hx hb d_MO_may_36 rfl (lv_at hl 1 rfl) ?_
            refine lv_iload hx hb d_MO_may_37 (lv_at hl 4 rfl) ?_
            refine va_calli (va_runV (As := [.int v1, .int v4]) (rest := []) ⟨hx, hb, hml, hown, hts⟩ (mt_MO_valid l hl9 dC dI cA ad hI _ hw) (cwV 2 hts (gV gw_362 gw_363 gw_364 gw_306 gw_361) rfl rfl rfl (by decide +kernel) ⟨Nat.le_of_ble_eq_true rfl, Nat.le_of_ble_eq_true rfl⟩) ⟨zwM_blind, va_recv hK hP (ci := 9) (q0 := 0) rfl atM_MO, zwM_pre hP hS hG9⟩ rfl rfl hl.1 rfl (lv_room (Nat.le_of_ble_eq_true rfl)) d_MO_may_39 ⟨Nat.le_of_ble_eq_true rfl, Nat.le_of_ble_eq_true rfl⟩) hS (fun q _ h => CA_le hS.1 q h) (fun q h => CA_le hS.1 q h) (fun r15 u9 t H locs ht hvm hw hP hz1 hk1 hS => ?_)
            obtain ⟨X13, Y14⟩ := u9
            have hP : va_P (dC, dI) vwCl (wdM cA ad X13 Y14) H := by rw [← ht]; exact hP
            try dsimp only at hw
            refine lv_if_lt (tgt := 49) hx hb d_MO_may_42 (by decide) (fun c16 => ?_) (fun c16 => ?_)
            · have hw := hw.1 c16
              refine lv_iconst (v := (0 : Int32)) hx hb d_MO_may_49 (by decide) ?_
              refine lv_istore_n (lv' := [(3, .int (0 : Int32)), (0, .ref (ad 0)), (1, .int v1), (2, .int v2), (4, .int v4)]) hx hb d_MO_may_50 rfl hl (by decide) rfl (fun ls hl => ?_)
              refine lv_iinc (k := 4) (v := v4 + (1 : Int32)) (lv' := [(4, .int (v4 + (1 : Int32))), (3, .int (0 : Int32)), (0, .ref (ad 0)), (1, .int v1), (2, .int v2)]) hx hb d_MO_may_51 hl rfl rfl (by decide) rfl (fun ls hl => ?_)
              refine lv_goto (tgt := 5) hx hb d_MO_may_54 (by decide) ?_
              have hl := lv_sub hl (l' := [(0, .ref (ad 0)), (1, .int v1), (2, .int v2), (3, .int (0 : Int32)), (4, .int (v4 + (1 : Int32)))]) [2, 3, 4, 1, 0] rfl
              exact ih _ _ _ _ _ _ _ hw hP hS hl
            · have hw := hw.2 c16
              refine lv_iconst (v := (1 : Int32)) hx hb d_MO_may_45 (by decide) ?_
              refine lv_goto (tgt := 50) hx hb d_MO_may_46 (by decide) ?_
              refine lv_istore_n (lv' := [(3, .int (1 : Int32)), (0, .ref (ad 0)), (1, .int v1), (2, .int v2), (4, .int v4)]) hx hb d_MO_may_50 rfl hl (by decide) rfl (fun ls hl => ?_)
              refine lv_iinc (k := 4) (v := v4 + (1 : Int32)) (lv' := [(4, .int (v4 + (1 : Int32))), (3, .int (1 : Int32)), (0, .ref (ad 0)), (1, .int v1), (2, .int v2)]) hx hb d_MO_may_51 hl rfl rfl (by decide) rfl (fun ls hl => ?_)
              refine lv_goto (tgt := 5) hx hb d_MO_may_54 (by decide) ?_
              have hl := lv_sub hl (l' := [(0, .ref (ad 0)), (1, .int v1), (2, .int v2), (3, .int (1 : Int32)), (4, .int (v4 + (1 : Int32)))]) [2, 3, 4, 1, 0] rfl
              exact ih _ _ _ _ _ _ _ hw hP hS hl
  unfold wp_MO_may at hw
  refine lv_iconst (v := (1 : Int32)) hx hb d_MO_may_0 (by decide) ?_
  refine lv_istore_n (lv' := [(3, .int (1 : Int32)), (0, .ref (ad 0)), (1, .int a1), (2, .int a2)]) hx hb d_MO_may_1 rfl hl (by decide) rfl (fun ls hl => ?_)
  refine lv_iconst (v := (0 : Int32)) hx hb d_MO_may_2 (by decide) ?_
  refine lv_istore (lv' := [(4, .int (0 : Int32)), (3, .int (1 : Int32)), (0, .ref (ad 0)), (1, .int a1), (2, .int a2)]) hx hb d_MO_may_3 hl (by decide) rfl (fun ls hl => ?_)
  have hl := lv_sub hl (l' := [(0, .ref (ad 0)), (1, .int a1), (2, .int a2), (3, .int (1 : Int32)), (4, .int (0 : Int32))]) [2, 3, 4, 1, 0] rfl
  obtain ⟨n9, hw⟩ := hw
  exact L5 _ _ n9 _ _ _ _ _ _ _ hw hP hS hl
