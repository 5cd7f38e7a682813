def ws_MO_valid : List Cond := Cond.code y_MO_valid c_MO_valid 5 (Option.some Jvm.ClassFile.FieldType.int) :: GW
theorem d_MO_valid_0 : decode c_MO_valid 0 = .ok (.iconst (-1), 1) := by decide +kernel
theorem d_MO_valid_1 : decode c_MO_valid 1 = .ok (.istore_n 3, 1) := by decide +kernel
theorem d_MO_valid_2 : decode c_MO_valid 2 = .ok (.iconst 0, 1) := by decide +kernel
theorem d_MO_valid_3 : decode c_MO_valid 3 = .ok (.istore 4, 2) := by decide +kernel
theorem d_MO_valid_5 : decode c_MO_valid 5 = .ok (.iload 4, 2) := by decide +kernel
theorem d_MO_valid_7 : decode c_MO_valid 7 = .ok (.aload_n 0, 1) := by decide +kernel
theorem d_MO_valid_8 : decode c_MO_valid 8 = .ok (.getfield 137, 3) := by decide +kernel
theorem d_MO_valid_11 : decode c_MO_valid 11 = .ok (.if_icmp .ge 49, 3) := by decide +kernel
theorem d_MO_valid_14 : decode c_MO_valid 14 = .ok (.aload_n 0, 1) := by decide +kernel
theorem d_MO_valid_15 : decode c_MO_valid 15 = .ok (.getfield 38, 3) := by decide +kernel
theorem d_MO_valid_18 : decode c_MO_valid 18 = .ok (.iload 4, 2) := by decide +kernel
theorem d_MO_valid_20 : decode c_MO_valid 20 = .ok (.iaload, 1) := by decide +kernel
theorem d_MO_valid_21 : decode c_MO_valid 21 = .ok (.iload_n 1, 1) := by decide +kernel
theorem d_MO_valid_22 : decode c_MO_valid 22 = .ok (.if_icmp .ne 30, 3) := by decide +kernel
theorem d_MO_valid_25 : decode c_MO_valid 25 = .ok (.aload_n 0, 1) := by decide +kernel
theorem d_MO_valid_26 : decode c_MO_valid 26 = .ok (.getfield 41, 3) := by decide +kernel
theorem d_MO_valid_29 : decode c_MO_valid 29 = .ok (.iload 4, 2) := by decide +kernel
theorem d_MO_valid_31 : decode c_MO_valid 31 = .ok (.iaload, 1) := by decide +kernel
theorem d_MO_valid_32 : decode c_MO_valid 32 = .ok (.iload_n 2, 1) := by decide +kernel
theorem d_MO_valid_33 : decode c_MO_valid 33 = .ok (.if_icmp .ne 19, 3) := by decide +kernel
theorem d_MO_valid_36 : decode c_MO_valid 36 = .ok (.aload_n 0, 1) := by decide +kernel
theorem d_MO_valid_37 : decode c_MO_valid 37 = .ok (.getfield 47, 3) := by decide +kernel
theorem d_MO_valid_40 : decode c_MO_valid 40 = .ok (.iload 4, 2) := by decide +kernel
theorem d_MO_valid_42 : decode c_MO_valid 42 = .ok (.iaload, 1) := by decide +kernel
theorem d_MO_valid_43 : decode c_MO_valid 43 = .ok (.iconst 1, 1) := by decide +kernel
theorem d_MO_valid_44 : decode c_MO_valid 44 = .ok (.if_icmp .ne 8, 3) := by decide +kernel
theorem d_MO_valid_47 : decode c_MO_valid 47 = .ok (.iload 4, 2) := by decide +kernel
theorem d_MO_valid_49 : decode c_MO_valid 49 = .ok (.goto 4, 3) := by decide +kernel
theorem d_MO_valid_52 : decode c_MO_valid 52 = .ok (.iload_n 3, 1) := by decide +kernel
theorem d_MO_valid_53 : decode c_MO_valid 53 = .ok (.istore_n 3, 1) := by decide +kernel
theorem d_MO_valid_54 : decode c_MO_valid 54 = .ok (.iinc 4 1, 3) := by decide +kernel
theorem d_MO_valid_57 : decode c_MO_valid 57 = .ok (.goto (-52), 3) := by decide +kernel
theorem d_MO_valid_60 : decode c_MO_valid 60 = .ok (.iload_n 3, 1) := by decide +kernel
theorem d_MO_valid_61 : decode c_MO_valid 61 = .ok (.ireturn, 1) := by decide +kernel
def wq_MO_valid_5 (post : Int32 → ST → Int64 → Prop) (v1 : Int32) (v2 : Int32) : Nat → Int32 → Int32 → ST → Int64 → Prop
  | 0 => fun _ _ _ _ => False
  | n + 1 => fun v3 v4 X Y => (((X 4 0) ≤ v4 → post v3 X Y) ∧ (¬ (X 4 0) ≤ v4 → (vp_in v4 24 ∧ (((X 31 v4.toNatClampNeg) = v1 → (((X 32 v4.toNatClampNeg) = v2 → (((X 30 v4.toNatClampNeg) = (1 : Int32) → wq_MO_valid_5 post v1 v2 n v4 (v4 + (1 : Int32)) X Y) ∧ (¬ (X 30 v4.toNatClampNeg) = (1 : Int32) → wq_MO_valid_5 post v1 v2 n v3 (v4 + (1 : Int32)) X Y))) ∧ (¬ (X 32 v4.toNatClampNeg) = v2 → wq_MO_valid_5 post v1 v2 n v3 (v4 + (1 : Int32)) X Y))) ∧ (¬ (X 31 v4.toNatClampNeg) = v1 → wq_MO_valid_5 post v1 v2 n v3 (v4 + (1 : Int32)) X Y)))))
def wp_MO_valid (post : Int32 → ST → Int64 → Prop) (X : ST) (Y : Int64) (a1 : Int32) (a2 : Int32) : Prop := (∃ n9, wq_MO_valid_5 post a1 a2 n9 (-1 : Int32) (0 : Int32) X Y)
set_option maxHeartbeats 4000000 in
set_option maxRecDepth 100000 in
theorem mt_MO_valid (l : Launch) (hl9 : l.stackTraces = false) (dC : Nat → ClassId) (dI : Nat → Nat → Nat) (cA : Nat → ClassId) (ad : Nat → Nat) (hI : INJ ad 23) (sz : Nat) {X : ST} {Y : Int64} {a1 : Int32} {a2 : Int32} {post : Int32 → ST → Int64 → Prop} (hw : wp_MO_valid post X Y a1 a2) : Met l y_MO_valid ws_MO_valid ({ frames := 0, cells := 0, slots := 0, locals := 0 } : Room) (va_Pc [.ref (ad 0), .int a1, .int a2] (fun U => PM dC dI cA ad sz X Y U)) (va_Qi (fun r (u : ST × Int64) => post r u.1 u.2) (fun (u : ST × Int64) t => va_P (dC, dI) vwCl (wdM cA ad u.1 u.2) t.heap) (CA ad 23 sz)) 0 0 (CA ad 23 sz) := by
  refine Met.ofW (cc := c_MO_valid) (maxL := 5) (ret := (some .int)) (by decide) rfl ?_
  intro p e s m args below meth c s₁ B hml hv
  obtain ⟨rfl, hsz, hP, hG⟩ := hv
  have hx := B.exec
  have hb := B.bytes
  have hr := B.returns
  have hts : ∀ w ∈ GW, w.before (([.ref (ad 0), .int a1, .int a2] : List Value).toArray) s = true := fun w h => atoms_spec (ws := ws_MO_valid) B.pre w (List.mem_cons_of_mem _ h)
  have hown : s.vm.findClass R_MO = some m.cls := findClass_of_methodNamed B.named
  have hlocks := B.notSynchronized
  subst hsz
  have hK := hG.1
  have hG9 := hG
  have hNW := hG.2
  have hD0 : ∀ (X : ST) (Y : Int64), va_D (CA ad 23 s.heap.size) (wdM cA ad X Y) := fun _ _ => zwM_D hI
  have hS : va_S (CA ad 23 s.heap.size) s.heap s.heap [] := va_S.rf
  have hl := lv_entry ([.ref (ad 0), .int a1, .int a2]) (n := 5) (Nat.le_of_ble_eq_true rfl)
  rw [lg_entry_eq]
  generalize (lg_sl ([.ref (ad 0), .int a1, .int a2]) ++ List.replicate (5 - (lg_sl ([.ref (ad 0), .int a1, .int a2])).length) Slot.unset).toArray = ls at hl ⊢
  have hl : lv_has ls 5 [(0, .ref (ad 0)), (1, .int a1), (2, .int a2)] := hl
  have L5 : ∀ (v1 : Int32) (v2 : Int32), ∀ (n : Nat), ∀ (v3 : Int32) (v4 : Int32) (X : ST) (Y : Int64) (H : Heap) (locs : List Loc) (ls : Array Slot), wq_MO_valid_5 post v1 v2 n v3 v4 X Y → va_P (dC, dI) vwCl (wdM cA ad X Y) H → va_S (CA ad 23 s.heap.size) s.heap H locs → lv_has ls 5 [(0, .ref (ad 0)), (1, .int v1), (2, .int v2), (3, .int v3), (4, .int v4)] → W p l e (headSpec ws_MO_valid ({ frames := 0, cells := 0, slots := 0, locals := 0 } : Room)).room s m (([.ref (ad 0), .int a1, .int a2] : List Value).toArray) below meth c H locs 0 0 (MQ below (va_Qi (fun r (u : ST × Int64) => post r u.1 u.2) (fun (u : ST × Int64) t => va_P (dC, dI) vwCl (wdM cA ad u.1 u.2) t.heap) (CA ad 23 s.heap.size)) (([.ref (ad 0), .int a1, .int a2] : List Value).toArray) s 0 0 (CA ad 23 s.heap.size)) (F0 m 5 ls []) := by
    intro v1 v2 n
    induction n with
    | zero => intro v3 v4 X Y H locs ls hw hP hS hl; exact False.elim hw
    | succ n ih =>
      intro v3 v4 X Y H locs ls hw hP hS hl
      dsimp only [wq_MO_valid_5] at hw
      refine lv_iload hx hb d_MO_valid_5 (lv_at hl 4 rfl) ?_
      refine lv_aload_n hx hb d_MO_valid_7 rfl (lv_at hl 0 rfl) ?_
      refine va_get (D := (dC, dI)) (ci := 9) (v := .int (X 4 0)) (C := R_MO) (T := T_MO) (N := 36) hx hb hts in_MO hown hK hP (0) atM_MO rfl 14 (by decide) (hts _ gw_350) (fun _ h9 => h9) rfl d_MO_valid_8 ?_
      refine lv_icmp_ge (tgt := 60) hx hb d_MO_valid_11 (by decide) (fun c1 => ?_) (fun c1 => ?_)
      · have hw := hw.1 c1
        refine lv_iload_n hx hb d_MO_valid_60 rfl (lv_at hl 3 rfl) ?_
        exact W.iret (v := v3) hx hb hr (fun t ht _ => ⟨⟨v3, (X, Y), rfl, hw, by show va_P _ _ _ t.heap; rw [ht]; exact hP⟩, hS.F ht⟩) hS.2.2 d_MO_valid_61
      · have hw := hw.2 c1
        refine lv_aload_n hx hb d_MO_valid_14 rfl (lv_at hl 0 rfl) ?_
        refine va_get (D := (dC, dI)) (ci := 9) (v := .ref (ad 10)) (C := R_MO) (T := T_MO) (N := 36) hx hb hts in_MO hown hK hP (0) atM_MO rfl 15 (by decide) (hts _ gw_351) (fun _ h9 => h9) rfl d_MO_valid_15 ?_
        refine lv_iload hx hb d_MO_valid_18 (lv_at hl 4 rfl) ?_
        obtain ⟨h2, hw⟩ := hw
        refine va_iald hx hb hK hP (10) 9 atM_authAccount rfl h2 d_MO_valid_20 ?_
        refine lv_iload_n hx hb d_MO_valid_21 rfl (lv_at hl 1 rfl) ?_
        refine lv_icmp_ne (tgt := 52) hx hb d_MO_valid_22 (by decide) (fun c3 => ?_) (fun c3 => ?_)
        · have hw := hw.2 c3
          refine lv_iload_n hx hb d_MO_valid_52 rfl (lv_at hl 3 rfl) ?_
          refine lv_istore_n (lv' := [(3, .int v3), (0, .ref (ad 0)), (1, .int v1), (2, .int v2), (4, .int v4)]) hx hb d_MO_valid_53 rfl hl (by decide) rfl (fun ls hl => ?_)
          refine lv_iinc (k := 4) (v := v4 + (1 : Int32)) (lv' := [(4, .int (v4 + (1 : Int32))), (3, .int v3), (0, .ref (ad 0)), (1, .int v1), (2, .int v2)]) hx hb d_MO_valid_54 hl rfl rfl (by decide) rfl (fun ls hl => ?_)
          refine lv_goto (tgt := 5) hx hb d_MO_valid_57 (by decide) ?_
          have hl := lv_sub hl (l' := [(0, .ref (ad 0)), (1, .int v1), (2, .int v2), (3, .int v3), (4, .int (v4 + (1 : Int32)))]) [2, 3, 4, 1, 0] rfl
          exact ih _ _ _ _ _ _ _ hw hP hS hl
        · have hw := hw.1 c3
          refine lv_aload_n hx hb d_MO_valid_25 rfl (lv_at hl 0 rfl) ?_
          refine va_get (D := (dC, dI)) (ci := 9) (v := .ref (ad 11)) (C := R_MO) (T := T_MO) (N := 36) hx hb hts in_MO hown hK hP (0) atM_MO rfl 16 (by decide) (hts _ gw_352) (fun _ h9 => h9) rfl d_MO_valid_26 ?_
          refine lv_iload hx hb d_MO_valid_29 (lv_at hl 4 rfl) ?_
          refine va_iald hx hb hK hP (11) 10 atM_authName rfl h2 d_MO_valid_31 ?_
          refine lv_iload_n hx hb d_MO_valid_32 rfl (lv_at hl 2 rfl) ?_
          refine lv_icmp_ne (tgt := 52) hx hb d_MO_valid_33 (by decide) (fun c4 => ?_) (fun c4 => ?_)
          · have hw := hw.2 c4
            refine lv_iload_n hx hb d_MO_valid_52 rfl (lv_at hl 3 rfl) ?_
            refine lv_istore_n (lv' := [(3, .int v3), (0, .ref (ad 0)), (1, .int v1), (2, .int v2), (4, .int v4)]) hx hb d_MO_valid_53 rfl hl (by decide) rfl (fun ls hl => ?_)
            refine lv_iinc (k := 4) (v := v4 + (1 : Int32)) (lv' := [(4, .int (v4 + (1 : Int32))), (3, .int v3), (0, .ref (ad 0)), (1, .int v1), (2, .int v2)]) hx hb d_MO_valid_54 hl rfl rfl (by decide) rfl (fun ls hl => ?_)
            refine lv_goto (tgt := 5) hx hb d_MO_valid_57 (by decide) ?_
            have hl := lv_sub hl (l' := [(0, .ref (ad 0)), (1, .int v1), (2, .int v2), (3, .int v3), (4, .int (v4 + (1 : Int32)))]) [2, 3, 4, 1, 0] rfl
            exact ih _ _ _ _ _ _ _ hw hP hS hl
          · have hw := hw.1 c4
            refine lv_aload_n hx hb d_MO_valid_36 rfl (lv_at hl 0 rfl) ?_
            refine va_get (D := (dC, dI)) (ci := 9) (v := .ref (ad 13)) (C := R_MO) (T := T_MO) (N := 36) hx hb hts in_MO hown hK hP (0) atM_MO rfl 18 (by decide) (hts _ gw_347) (fun _ h9 => h9) rfl d_MO_valid_37 ?_
            refine lv_iload hx hb d_MO_valid_40 (lv_at hl 4 rfl) ?_
            refine va_iald hx hb hK hP (13) 12 atM_authState rfl h2 d_MO_valid_42 ?_
            refine lv_iconst (v := (1 : Int32)) hx hb d_MO_valid_43 (by decide) ?_
            refine lv_icmp_ne (tgt := 52) hx hb d_MO_valid_44 (by decide) (fun c5 => ?_) (fun c5 => ?_)
            · have hw := hw.2 c5
              refine lv_iload_n hx hb d_MO_valid_52 rfl (lv_at hl 3 rfl) ?_
              refine lv_istore_n (lv' := [(3, .int v3), (0, .ref (ad 0)), (1, .int v1), (2, .int v2), (4, .int v4)]) hx hb d_MO_valid_53 rfl hl (by decide) rfl (fun ls hl => ?_)
              refine lv_iinc (k := 4) (v := v4 + (1 : Int32)) (lv' := [(4, .int (v4 + (1 : Int32))), (3, .int v3), (0, .ref (ad 0)), (1, .int v1), (2, .int v2)]) hx hb d_MO_valid_54 hl rfl rfl (by decide) rfl (fun ls hl => ?_)
              refine lv_goto (tgt := 5) hx hb d_MO_valid_57 (by decide) ?_
              have hl := lv_sub hl (l' := [(0, .ref (ad 0)), (1, .int v1), (2, .int v2), (3, .int v3), (4, .int (v4 + (1 : Int32)))]) [2, 3, 4, 1, 0] rfl
              exact ih _ _ _ _ _ _ _ hw hP hS hl
            · have hw := hw.1 c5
              refine lv_iload hx hb d_MO_valid_47 (lv_at hl 4 rfl) ?_
              refine lv_goto (tgt := 53) hx hb d_MO_valid_49 (by decide) ?_
              refine lv_istore_n (lv' := [(3, .int v4), (0, .ref (ad 0)), (1, .int v1), (2, .int v2), (4, .int v4)]) hx hb d_MO_valid_53 rfl hl (by decide) rfl (fun ls hl => ?_)
              refine lv_iinc (k := 4) (v := v4 + (1 : Int32)) (lv' := [(4, .int (v4 + (1 : Int32))), (3, .int v4), (0, .ref (ad 0)), (1, .int v1), (2, .int v2)]) hx hb d_MO_valid_54 hl rfl rfl (by decide) rfl (fun ls hl => ?_)
              refine lv_goto (tgt := 5) hx hb d_MO_valid_57 (by decide) ?_
              have hl := lv_sub hl (l' := [(0, .ref (ad 0)), (1, .int v1), (2, .int v2), (3, .int v4), (4, .int (v4 + (1 : Int32)))]) [2, 3, 4, 1, 0] rfl
              exact ih _ _ _ _ _ _ _ hw hP hS hl
  unfold wp_MO_valid at hw
  refine lv_iconst (v := (-1 : Int32)) hx hb d_MO_valid_0 (by decide) ?_
  refine lv_istore_n (lv' := [(3, .int (-1 : Int32)), (0, .ref (ad 0)), (1, .int a1), (2, .int a2)]) hx hb d_MO_valid_1 rfl hl (by decide) rfl (fun ls hl => ?_)
  refine lv_iconst (v := (0 : Int32)) hx hb d_MO_valid_2 (by decide) ?_
  refine lv_istore (lv' := [(4, .int (0 : Int32)), (3, .int (-1 : Int32)), (0, .ref (ad 0)), (1, .int a1), (2, .int a2)]) hx hb d_MO_valid_3 hl (by decide) rfl (fun ls hl => ?_)
  have hl := lv_sub hl (l' := [(0, .ref (ad 0)), (1, .int a1), (2, .int a2), (3, .int (-1 : Int32)), (4, .int (0 : Int32))]) [2, 3, 4, 1, 0] rfl
  obtain ⟨n9, hw⟩ := hw
  exact L5 _ _ n9 _ _ _ _ _ _ _ hw hP hS hl
def ws_MO_has : List Cond := Cond.code y_MO_has c_MO_has 2 (Option.some Jvm.ClassFile.FieldType.boolean) :: GW
theorem d_MO_has_0 : decode c_MO_has 0 = .ok (.iload_n 0, 1) := by decide +kernel
theorem d_MO_has_1 : decode c_MO_has 1 = .ok (.iload_n 1, 1) := by decide +kernel
theorem d_MO_has_2 : decode c_MO_has 2 = .ok (.ishr, 1) := by decide +kernel
theorem d_MO_has_3 : decode c_MO_has 3 = .ok (.iconst 1, 1) := by decide +kernel
theorem d_MO_has_4 : decode c_MO_has 4 = .ok (.iand, 1) := by decide +kernel
theorem d_MO_has_5 : decode c_MO_has 5 = .ok (.iconst 1, 1) := by decide +kernel
theorem d_MO_has_6 : decode c_MO_has 6 = .ok (.if_icmp .ne 7, 3) := by decide +kernel
theorem d_MO_has_9 : decode c_MO_has 9 = .ok (.iconst 1, 1) := by decide +kernel
theorem d_MO_has_10 : decode c_MO_has 10 = .ok (.goto 4, 3) := by decide +kernel
theorem d_MO_has_13 : decode c_MO_has 13 = .ok (.iconst 0, 1) := by decide +kernel
theorem d_MO_has_14 : decode c_MO_has 14 = .ok (.ireturn, 1) := by decide +kernel
def wp_MO_has (post : Int32 → ST → Int64 → Prop) (X : ST) (Y : Int64) (a1 : Int32) (a2 : Int32) : Prop := ((((a1 >>> (a2 &&& 31)) &&& (1 : Int32)) = (1 : Int32) → post (1 : Int32) X Y) ∧ (¬ ((a1 >>> (a2 &&& 31)) &&& (1 : Int32)) = (1 : Int32) → post (0 : Int32) X Y))
set_option maxHeartbeats 4000000 in
set_option maxRecDepth 100000 in
theorem mt_MO_has (l : Launch) (hl9 : l.stackTraces = false) (dC : Nat → ClassId) (dI : Nat → Nat → Nat) (cA : Nat → ClassId) (ad : Nat → Nat) (hI : INJ ad 23) (sz : Nat) {X : ST} {Y : Int64} {a1 : Int32} {a2 : Int32} {post : Int32 → ST → Int64 → Prop} (hw : wp_MO_has post X Y a1 a2) : Met l y_MO_has ws_MO_has ({ frames := 0, cells := 0, slots := 0, locals := 0 } : Room) (va_Pc [.int a1, .int a2] (fun U => PM dC dI cA ad sz X Y U)) (va_Qi (fun r (u : ST × Int64) => post r u.1 u.2) (fun (u : ST × Int64) t => va_P (dC, dI) vwCl (wdM cA ad u.1 u.2) t.heap) (CA ad 23 sz)) 0 0 (CA ad 23 sz) := by
  refine Met.ofW (cc := c_MO_has) (maxL := 2) (ret := (some .boolean)) (by decide) rfl ?_
  intro p e s m args below meth c s₁ B hml hv
  obtain ⟨rfl, hsz, hP, hG⟩ := hv
  have hx := B.exec
  have hb := B.bytes
  have hr := B.returns
  have hts : ∀ w ∈ GW, w.before (([.int a1, .int a2] : List Value).toArray) s = true := fun w h => atoms_spec (ws := ws_MO_has) B.pre w (List.mem_cons_of_mem _ h)
  have hown : s.vm.findClass R_MO = some m.cls := findClass_of_methodNamed B.named
  have hlocks := B.notSynchronized
  subst hsz
  have hK := hG.1
  have hG9 := hG
  have hNW := hG.2
  have hD0 : ∀ (X : ST) (Y : Int64), va_D (CA ad 23 s.heap.size) (wdM cA ad X Y) := fun _ _ => zwM_D hI
  have hS : va_S (CA ad 23 s.heap.size) s.heap s.heap [] := va_S.rf
  have hl := lv_entry ([.int a1, .int a2]) (n := 2) (Nat.le_of_ble_eq_true rfl)
  rw [lg_entry_eq]
  generalize (lg_sl ([.int a1, .int a2]) ++ List.replicate (2 - (lg_sl ([.int a1, .int a2])).length) Slot.unset).toArray = ls at hl ⊢
  have hl : lv_has ls 2 [(0, .int a1), (1, .int a2)] := hl
  unfold wp_MO_has at hw
  refine lv_iload_n hx hb d_MO_has_0 rfl (lv_at hl 0 rfl) ?_
  refine lv_iload_n hx hb d_MO_has_1 rfl (lv_at hl 1 rfl) ?_
  refine lv_ishr hx hb d_MO_has_2 ?_
  refine lv_iconst (v := (1 : Int32)) hx hb d_MO_has_3 (by decide) ?_
  refine lv_iand hx hb d_MO_has_4 ?_
  refine lv_iconst (v := (1 : Int32)) hx hb d_MO_has_5 (by decide) ?_
  refine lv_icmp_ne (tgt := 13) hx hb d_MO_has_6 (by decide) (fun c1 => ?_) (fun c1 => ?_)
  · have hw := hw.2 c1
    refine lv_iconst (v := (0 : Int32)) hx hb d_MO_has_13 (by decide) ?_
    exact W.zret (v := (0 : Int32)) hx hb hr (by decide) (fun t ht _ => ⟨⟨(0 : Int32), (X, Y), rfl, hw, by show va_P _ _ _ t.heap; rw [ht]; exact hP⟩, hS.F ht⟩) hS.2.2 d_MO_has_14
  · have hw := hw.1 c1
    refine lv_iconst (v := (1 : Int32)) hx hb d_MO_has_9 (by decide) ?_
    refine lv_goto (tgt := 14) hx hb d_MO_has_10 (by decide) ?_
    exact W.zret (v := (1 : Int32)) hx hb hr (by decide) (fun t ht _ => ⟨⟨(1 : Int32), (X, Y), rfl, hw, by show va_P _ _ _ t.heap; rw [ht]; exact hP⟩, hS.F ht⟩) hS.2.2 d_MO_has_14
def ws_MO_many : List Cond := Cond.code y_MO_many c_MO_many 3 (Option.some Jvm.ClassFile.FieldType.int) :: GW
theorem d_MO_many_0 : decode c_MO_many 0 = .ok (.iconst 0, 1) := by decide +kernel
theorem d_MO_many_1 : decode c_MO_many 1 = .ok (.istore_n 1, 1) := by decide +kernel
theorem d_MO_many_2 : decode c_MO_many 2 = .ok (.iconst 0, 1) := by decide +kernel
theorem d_MO_many_3 : decode c_MO_many 3 = .ok (.istore_n 2, 1) := by decide +kernel
theorem d_MO_many_4 : decode c_MO_many 4 = .ok (.iload_n 2, 1) := by decide +kernel
theorem d_MO_many_5 : decode c_MO_many 5 = .ok (.bipush 16, 2) := by decide +kernel
theorem d_MO_many_7 : decode c_MO_many 7 = .ok (.if_icmp .ge 25, 3) := by decide +kernel
theorem d_MO_many_10 : decode c_MO_many 10 = .ok (.iload_n 0, 1) := by decide +kernel
theorem d_MO_many_11 : decode c_MO_many 11 = .ok (.iload_n 2, 1) := by decide +kernel
theorem d_MO_many_12 : decode c_MO_many 12 = .ok (.invokestatic 140, 3) := by decide +kernel
theorem d_MO_many_15 : decode c_MO_many 15 = .ok (.ifCond .eq 9, 3) := by decide +kernel
theorem d_MO_many_18 : decode c_MO_many 18 = .ok (.iload_n 1, 1) := by decide +kernel
theorem d_MO_many_19 : decode c_MO_many 19 = .ok (.iconst 1, 1) := by decide +kernel
theorem d_MO_many_20 : decode c_MO_many 20 = .ok (.iadd, 1) := by decide +kernel
theorem d_MO_many_21 : decode c_MO_many 21 = .ok (.goto 4, 3) := by decide +kernel
theorem d_MO_many_24 : decode c_MO_many 24 = .ok (.iload_n 1, 1) := by decide +kernel
theorem d_MO_many_25 : decode c_MO_many 25 = .ok (.istore_n 1, 1) := by decide +kernel
theorem d_MO_many_26 : decode c_MO_many 26 = .ok (.iinc 2 1, 3) := by decide +kernel
theorem d_MO_many_29 : decode c_MO_many 29 = .ok (.goto (-25), 3) := by decide +kernel
theorem d_MO_many_32 : decode c_MO_many 32 = .ok (.iload_n 1, 1) := by decide +kernel
theorem d_MO_many_33 : decode c_MO_many 33 = .ok (.ireturn, 1) := by decide +kernel
def wq_MO_many_4 (post : Int32 → ST → Int64 → Prop) (v0 : Int32) : Nat → Int32 → Int32 → ST → Int64 → Prop
  | 0 => fun _ _ _ _ => False
  | n + 1 => fun v1 v2 X Y => (((16 : Int32) ≤ v2 → post v1 X Y) ∧ (¬ (16 : Int32) ≤ v2 → wp_MO_has (fun (r4 : Int32) (X2 : ST) (Y3 : Int64) => ((r4 = 0 → wq_MO_many_4 post v0 n v1 (v2 + (1 : Int32)) X2 Y3) ∧ (¬ r4 = 0 → wq_MO_many_4 post v0 n (v1 + (1 : Int32)) (v2 + (1 : Int32)) X2 Y3))) X Y v0 v2))
def wp_MO_many (post : Int32 → ST → Int64 → Prop) (X : ST) (Y : Int64) (a1 : Int32) : Prop := (∃ n9, wq_MO_many_4 post a1 n9 (0 : Int32) (0 : Int32) X Y)
set_option maxHeartbeats 4000000 in
set_option maxRecDepth 100000 in
theorem mt_MO_many (l : Launch) (hl9 : l.stackTraces = false) (dC : Nat → ClassId) (dI : Nat → Nat → Nat) (cA : Nat → ClassId) (ad : Nat → Nat) (hI : INJ ad 23) (sz : Nat) {X : ST} {Y : Int64} {a1 : Int32} {post : Int32 → ST → Int64 → Prop} (hw : wp_MO_many post X Y a1) : Met l y_MO_many ws_MO_many ({ frames := 1, cells := 0, slots := 0, locals := 21 } : Room) (va_Pc [.int a1] (fun U => PM dC dI cA ad sz X Y U)) (va_Qi (fun r (u : ST × Int64) => post r u.1 u.2) (fun (u : ST × Int64) t => va_P (dC, dI) vwCl (wdM cA ad u.1 u.2) t.heap) (CA ad 23 sz)) 0 0 (CA ad 23 sz) := by
  refine Met.ofW (cc := c_MO_many) (maxL := 3) (ret := (some .int)) (by decide) rfl ?_
  intro p e s m args below meth c s₁ B hml hv
  obtain ⟨rfl, hsz, hP, hG⟩ := hv
  have hx := B.exec
  have hb := B.bytes
  have hr := B.returns
  have hts : ∀ w ∈ GW, w.before (([.int a1] : List Value).toArray) s = true := fun w h => atoms_spec (ws := ws_MO_many) B.pre w (List.mem_cons_of_mem _ h)
  have hown : s.vm.findClass R_MO = some m.cls := findClass_of_methodNamed B.named
  have hlocks := B.notSynchronized
  subst hsz
  have hK := hG.1
  have hG9 := hG
  have hNW := hG.2
  have hD0 : ∀ (X : ST) (Y : Int64), va_D (CA ad 23 s.heap.size) (wdM cA ad X Y) := fun _ _ => zwM_D hI
  have hS : va_S (CA ad 23 s.heap.size) s.heap s.heap [] := va_S.rf
  have hl := lv_entry ([.int a1]) (n := 3) (Nat.le_of_ble_eq_true rfl)
  rw [lg_entry_eq]
  generalize (lg_sl ([.int a1]) ++ List.replicate (3 - (lg_sl ([.int a1])).length) Slot.unset).toArray = ls at hl ⊢
  have hl : lv_has ls 3 [(0, .int a1)] := hl
  have L4 : ∀ (v0 : Int32), ∀ (n : Nat), ∀ (v1 : Int32) (v2 : Int32) (X : ST) (Y : Int64) (H : Heap) (locs : List Loc) (ls : Array Slot), wq_MO_many_4 post v0 n v1 v2 X Y → va_P (dC, dI) vwCl (wdM cA ad X Y) H → va_S (CA ad 23 s.heap.size) s.heap H locs → lv_has ls 3 [(0, .int v0), (1, .int v1), (2, .int v2)] → W p l e (headSpec ws_MO_many ({ frames := 1, cells := 0, slots := 0, locals := 21 } : Room)).room s m (([.int a1] : List Value).toArray) below meth c H locs 0 0 (MQ below (va_Qi (fun r (u : ST × Int64) => post r u.1 u.2) (fun (u : ST × Int64) t => va_P (dC, dI) vwCl (wdM cA ad u.1 u.2) t.heap) (CA ad 23 s.heap.size)) (([.int a1] : List Value).toArray) s 0 0 (CA ad 23 s.heap.size)) (F0 m 4 ls []) := by
    intro v0 n
    induction n with
    | zero => intro v1 v2 X Y H locs ls hw hP hS hl; exact False.elim hw
    | succ n ih =>
      intro v1 v2 X Y H locs ls hw hP hS hl
      dsimp only [wq_MO_many_4] at hw
      refine lv_iload_n hx hb d_MO_many_4 rfl (lv_at hl 2 rfl) ?_
      refine lv_bipush (v := (16 : Int32)) hx hb d_MO_many_5 (by decide) ?_
      refine lv_icmp_ge (tgt := 32) hx hb d_MO_many_7 (by decide) (fun c1 => ?_) (fun c1 => ?_)
      · have hw := hw.1 c1
        refine lv_iload_n hx hb d_MO_many_32 rfl (lv_at hl 1 rfl) ?_
        exact W.iret (v := v1) hx hb hr (fun t ht _ => ⟨⟨v1, (X, Y), rfl, hw, by show va_P _ _ _ t.heap; rw [ht]; exact hP⟩, hS.F ht⟩) hS.2.2 d_MO_many_33
      · have hw := hw.2 c1
        refine lv_iload_n hx hb d_MO_many_10 rfl (lv_at hl 0 rfl) ?_
        refine lv_iload_n hx hb d_MO_many_11 rfl (lv_at hl 2 rfl) ?_
        refine va_calli (va_runS (As := [.int v0, .int v2]) (rest := []) ⟨hx, hb, hml, hown, hts⟩ (mt_MO_has l hl9 dC dI cA ad hI _ hw) (va_cwS 2 hts (gS gw_354 gw_355 gw_306 gw_353) rfl rfl rfl (by decide +kernel) ⟨Nat.le_of_ble_eq_true rfl, Nat.le_of_ble_eq_true rfl⟩) ⟨zwM_blind, zwM_pre hP hS hG9⟩ rfl rfl hl.1 rfl (lv_room (Nat.le_of_ble_eq_true rfl)) d_MO_many_12 ⟨Nat.le_of_ble_eq_true rfl, Nat.le_of_ble_eq_true rfl⟩) hS (fun q _ h => CA_le hS.1 q h) (fun q h => CA_le hS.1 q h) (fun r4 u9 t H locs ht hvm hw hP hz1 hk1 hS => ?_)
        obtain ⟨X2, Y3⟩ := u9
        have hP : va_P (dC, dI) vwCl (wdM cA ad X2 Y3) H := by rw [← ht]; exact hP
        try dsimp only at hw
        refine lv_if_eq (tgt := 24) hx hb d_MO_many_15 (by decide) (fun c5 => ?_) (fun c5 => ?_)
        · have hw := hw.1 c5
          refine lv_iload_n hx hb d_MO_many_24 rfl (lv_at hl 1 rfl) ?_
          refine lv_istore_n (lv' := [(1, .int v1), (0, .int v0), (2, .int v2)]) hx hb d_MO_many_25 rfl hl (by decide) rfl (fun ls hl => ?_)
          refine lv_iinc (k := 2) (v := v2 + (1 : Int32)) (lv' := [(2, .int (v2 + (1 : Int32))), (1, .int v1), (0, .int v0)]) hx hb d_MO_many_26 hl rfl rfl (by decide) rfl (fun ls hl => ?_)
          refine lv_goto (tgt := 4) hx hb d_MO_many_29 (by decide) ?_
          have hl := lv_sub hl (l' := [(0, .int v0), (1, .int v1), (2, .int (v2 + (1 : Int32)))]) [2, 1, 0] rfl
          exact ih _ _ _ _ _ _ _ hw hP hS hl
        · have hw := hw.2 c5
          refine lv_iload_n hx hb d_MO_many_18 rfl (lv_at hl 1 rfl) ?_
          refine lv_iconst (v := (1 : Int32)) hx hb d_MO_many_19 (by decide) ?_
          refine lv_iadd hx hb d_MO_many_20 ?_
          refine lv_goto (tgt := 25) hx hb d_MO_many_21 (by decide) ?_
          refine lv_istore_n (lv' := [(1, .int (v1 + (1 : Int32))), (0, .int v0), (2, .int v2)]) hx hb d_MO_many_25 rfl hl (by decide) rfl (fun ls hl => ?_)
          refine lv_iinc (k := 2) (v := v2 + (1 : Int32)) (lv' := [(2, .int (v2 + (1 : Int32))), (1, .int (v1 + (1 : Int32))), (0, .int v0)]) hx hb d_MO_many_26 hl rfl rfl (by decide) rfl (fun ls hl => ?_)
          refine lv_goto (tgt := 4) hx hb d_MO_many_29 (by decide) ?_
          have hl := lv_sub hl (l' := [(0, .int v0), (1, .int (v1 + (1 : Int32))), (2, .int (v2 + (1 : Int32)))]) [2, 1, 0] rfl
          exact ih _ _ _ _ _ _ _ hw hP hS hl
  unfold wp_MO_many at hw
  refine lv_iconst (v := (0 : Int32)) hx hb d_MO_many_0 (by decide) ?_
  refine lv_istore_n (lv' := [(1, .int (0 : Int32)), (0, .int a1)]) hx hb d_MO_many_1 rfl hl (by decide) rfl (fun ls hl => ?_)
  refine lv_iconst (v := (0 : Int32)) hx hb d_MO_many_2 (by decide) ?_
  refine lv_istore_n (lv' := [(2, .int (0 : Int32)), (1, .int (0 : Int32)), (0, .int a1)]) hx hb d_MO_many_3 rfl hl (by decide) rfl (fun ls hl => ?_)
  have hl := lv_sub hl (l' := [(0, .int a1), (1, .int (0 : Int32)), (2, .int (0 : Int32))]) [2, 1, 0] rfl
  obtain ⟨n9, hw⟩ := hw
  exact L4 _ n9 _ _ _ _ _ _ _ hw hP hS hl
