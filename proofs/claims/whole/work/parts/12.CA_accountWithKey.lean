def ws_CA_accountWithKey : List Cond := Cond.code y_CA_accountWithKey c_CA_accountWithKey 3 (Option.some Jvm.ClassFile.FieldType.int) :: GW
theorem d_CA_accountWithKey_0 : decode c_CA_accountWithKey 0 = .ok (.iconst 0, 1) := by decide +kernel
theorem d_CA_accountWithKey_1 : decode c_CA_accountWithKey 1 = .ok (.istore_n 2, 1) := by decide +kernel
theorem d_CA_accountWithKey_2 : decode c_CA_accountWithKey 2 = .ok (.iload_n 2, 1) := by decide +kernel
theorem d_CA_accountWithKey_3 : decode c_CA_accountWithKey 3 = .ok (.aload_n 0, 1) := by decide +kernel
theorem d_CA_accountWithKey_4 : decode c_CA_accountWithKey 4 = .ok (.getfield 114, 3) := by decide +kernel
theorem d_CA_accountWithKey_7 : decode c_CA_accountWithKey 7 = .ok (.if_icmp .ge 24, 3) := by decide +kernel
theorem d_CA_accountWithKey_10 : decode c_CA_accountWithKey 10 = .ok (.aload_n 0, 1) := by decide +kernel
theorem d_CA_accountWithKey_11 : decode c_CA_accountWithKey 11 = .ok (.getfield 11, 3) := by decide +kernel
theorem d_CA_accountWithKey_14 : decode c_CA_accountWithKey 14 = .ok (.iload_n 2, 1) := by decide +kernel
theorem d_CA_accountWithKey_15 : decode c_CA_accountWithKey 15 = .ok (.aaload, 1) := by decide +kernel
theorem d_CA_accountWithKey_16 : decode c_CA_accountWithKey 16 = .ok (.getfield 164, 3) := by decide +kernel
theorem d_CA_accountWithKey_19 : decode c_CA_accountWithKey 19 = .ok (.iload_n 1, 1) := by decide +kernel
theorem d_CA_accountWithKey_20 : decode c_CA_accountWithKey 20 = .ok (.if_icmp .ne 5, 3) := by decide +kernel
theorem d_CA_accountWithKey_23 : decode c_CA_accountWithKey 23 = .ok (.iload_n 2, 1) := by decide +kernel
theorem d_CA_accountWithKey_24 : decode c_CA_accountWithKey 24 = .ok (.ireturn, 1) := by decide +kernel
theorem d_CA_accountWithKey_25 : decode c_CA_accountWithKey 25 = .ok (.iinc 2 1, 3) := by decide +kernel
theorem d_CA_accountWithKey_28 : decode c_CA_accountWithKey 28 = .ok (.goto (-26), 3) := by decide +kernel
theorem d_CA_accountWithKey_31 : decode c_CA_accountWithKey 31 = .ok (.iconst (-1), 1) := by decide +kernel
theorem d_CA_accountWithKey_32 : decode c_CA_accountWithKey 32 = .ok (.ireturn, 1) := by decide +kernel
def wq_CA_accountWithKey_2 (post : Int32 → ST → Prop) (v1 : Int32) : Nat → Int32 → ST → Prop
  | 0 => fun _ _ => False
  | n + 1 => fun v2 X => (((X 2 0) ≤ v2 → post (-1 : Int32) X) ∧ (¬ (X 2 0) ≤ v2 → (vp_in v2 6 ∧ (((X 11 v2.toNatClampNeg) = v1 → post v2 X) ∧ (¬ (X 11 v2.toNatClampNeg) = v1 → wq_CA_accountWithKey_2 post v1 n (v2 + (1 : Int32)) X)))))
def wp_CA_accountWithKey (post : Int32 → ST → Prop) (X : ST) (a1 : Int32) : Prop := (∃ n9, wq_CA_accountWithKey_2 post a1 n9 (0 : Int32) X)
set_option maxHeartbeats 4000000 in
set_option maxRecDepth 100000 in
theorem mt_CA_accountWithKey (l : Launch) (hl9 : l.stackTraces = false) (dC : Nat → ClassId) (dI : Nat → Nat → Nat) (cA : Nat → ClassId) (ad : Nat → Nat) (hI : INJ ad 125) (sz : Nat) {X : ST} {a1 : Int32} {post : Int32 → ST → Prop} (hw : wp_CA_accountWithKey post X a1) : Met l y_CA_accountWithKey ws_CA_accountWithKey ({ frames := 0, cells := 0, slots := 0, locals := 0 } : Room) (va_Pc [.ref (ad 0), .int a1] (fun U => PC dC dI cA ad sz X U)) (va_Qi (fun r (u : ST) => post r u) (fun (u : ST) t => va_P (dC, dI) vwCl (wdC cA ad u) t.heap) (CA ad 125 sz)) 0 0 (CA ad 125 sz) := by
  refine Met.ofW (cc := c_CA_accountWithKey) (maxL := 3) (ret := (some .int)) (by decide) rfl ?_
  intro p e s m args below meth c s₁ B hml hv
  obtain ⟨rfl, hsz, hP, hG⟩ := hv
  have hx := B.exec
  have hb := B.bytes
  have hr := B.returns
  have hts : ∀ w ∈ GW, w.before (([.ref (ad 0), .int a1] : List Value).toArray) s = true := fun w h => atoms_spec (ws := ws_CA_accountWithKey) B.pre w (List.mem_cons_of_mem _ h)
  have hown : s.vm.findClass R_CA = some m.cls := findClass_of_methodNamed B.named
  have hlocks := B.notSynchronized
  subst hsz
  have hK := hG.1
  have hG9 := hG
  have hNW := hG.2.1
  have hD0 : ∀ (X : ST), va_D (CA ad 125 s.heap.size) (wdC cA ad X) := fun _ => zwC_D hI
  have hS : va_S (CA ad 125 s.heap.size) s.heap s.heap [] := va_S.rf
  have hl := lv_entry ([.ref (ad 0), .int a1]) (n := 3) (Nat.le_of_ble_eq_true rfl)
  rw [lg_entry_eq]
  generalize (lg_sl ([.ref (ad 0), .int a1]) ++ List.replicate (3 - (lg_sl ([.ref (ad 0), .int a1])).length) Slot.unset).toArray = ls at hl ⊢
  have hl : lv_has ls 3 [(0, .ref (ad 0)), (1, .int a1)] := hl
  have L2 : ∀ (v1 : Int32), ∀ (n : Nat), ∀ (v2 : Int32) (X : ST) (H : Heap) (locs : List Loc) (ls : Array Slot), wq_CA_accountWithKey_2 post v1 n v2 X → va_P (dC, dI) vwCl (wdC cA ad X) H → va_S (CA ad 125 s.heap.size) s.heap H locs → lv_has ls 3 [(0, .ref (ad 0)), (1, .int v1), (2, .int v2)] → W p l e (headSpec ws_CA_accountWithKey ({ frames := 0, cells := 0, slots := 0, locals := 0 } : Room)).room s m (([.ref (ad 0), .int a1] : List Value).toArray) below meth c H locs 0 0 (MQ below (va_Qi (fun r (u : ST) => post r u) (fun (u : ST) t => va_P (dC, dI) vwCl (wdC cA ad u) t.heap) (CA ad 125 s.heap.size)) (([.ref (ad 0), .int a1] : List Value).toArray) s 0 0 (CA ad 125 s.heap.size)) (F0 m 2 ls []) := by
    intro v1 n
    induction n with
    | zero => intro v2 X H locs ls hw hP hS hl; exact False.elim hw
    | succ n ih =>
      intro v2 X H locs ls hw hP hS hl
      dsimp only [wq_CA_accountWithKey_2] at hw
      refine lv_iload_n hx hb d_CA_accountWithKey_2 rfl (lv_at hl 2 rfl) ?_
      refine lv_aload_n hx hb d_CA_accountWithKey_3 rfl (lv_at hl 0 rfl) ?_
      refine va_get (D := (dC, dI)) (ci := 0) (v := .int (X 2 0)) (C := R_CA) (T := T_CA) (N := 14) hx hb hts in_CA hown hK hP (0) atC_CA rfl 2 (by decide) (hts _ gw_32) (fun _ h9 => h9) rfl d_CA_accountWithKey_4 ?_
      refine lv_icmp_ge (tgt := 31) hx hb d_CA_accountWithKey_7 (by decide) (fun c1 => ?_) (fun c1 => ?_)
      · have hw := hw.1 c1
        refine lv_iconst (v := (-1 : Int32)) hx hb d_CA_accountWithKey_31 (by decide) ?_
        exact W.iret (v := (-1 : Int32)) hx hb hr (fun t ht _ => ⟨⟨(-1 : Int32), X, rfl, hw, by show va_P _ _ _ t.heap; rw [ht]; exact hP⟩, hS.F ht⟩) hS.2.2 d_CA_accountWithKey_32
      · have hw := hw.2 c1
        refine lv_aload_n hx hb d_CA_accountWithKey_10 rfl (lv_at hl 0 rfl) ?_
        refine va_get (D := (dC, dI)) (ci := 0) (v := .ref (ad 1)) (C := R_CA) (T := T_CA) (N := 14) hx hb hts in_CA hown hK hP (0) atC_CA rfl 6 (by decide) (hts _ gw_33) (fun _ h9 => h9) rfl d_CA_accountWithKey_11 ?_
        refine lv_iload_n hx hb d_CA_accountWithKey_14 rfl (lv_at hl 2 rfl) ?_
        obtain ⟨h2, hw⟩ := hw
        refine va_aldq hx hb hK hP (1) 0 atC_aAcc rfl h2 d_CA_accountWithKey_15 ?_
        refine W.eq (g2 := F0 m 16 ls [.ref (ad (11 + v2.toNatClampNeg))]) rfl ?_
        refine va_get (D := (dC, dI)) (ci := 4) (v := .int (X 11 v2.toNatClampNeg)) (C := R_Acc) (T := T_Acc) (N := 2) hx hb hts in_Acc hown hK hP (11 + v2.toNatClampNeg) (atC_Acc (zw_lt h2)) rfl 1 (by decide) (hts _ gw_34) (fun _ h9 => h9) rfl d_CA_accountWithKey_16 ?_
        refine lv_iload_n hx hb d_CA_accountWithKey_19 rfl (lv_at hl 1 rfl) ?_
        refine lv_icmp_ne (tgt := 25) hx hb d_CA_accountWithKey_20 (by decide) (fun c3 => ?_) (fun c3 => ?_)
        · have hw := hw.2 c3
          refine lv_iinc (k := 2) (v := v2 + (1 : Int32)) (lv' := [(2, .int (v2 + (1 : Int32))), (0, .ref (ad 0)), (1, .int v1)]) hx hb d_CA_accountWithKey_25 hl rfl rfl (by decide) rfl (fun ls hl => ?_)
          refine lv_goto (tgt := 2) hx hb d_CA_accountWithKey_28 (by decide) ?_
          have hl := lv_sub hl (l' := [(0, .ref (ad 0)), (1, .int v1), (2, .int (v2 + (1 : Int32)))]) [1, 2, 0] rfl
          exact ih _ _ _ _ _ hw hP hS hl
        · have hw := hw.1 c3
          refine lv_iload_n hx hb d_CA_accountWithKey_23 rfl (lv_at hl 2 rfl) ?_
          exact W.iret (v := v2) hx hb hr (fun t ht _ => ⟨⟨v2, X, rfl, hw, by show va_P _ _ _ t.heap; rw [ht]; exact hP⟩, hS.F ht⟩) hS.2.2 d_CA_accountWithKey_24
  unfold wp_CA_accountWithKey at hw
  refine lv_iconst (v := (0 : Int32)) hx hb d_CA_accountWithKey_0 (by decide) ?_
  refine lv_istore_n (lv' := [(2, .int (0 : Int32)), (0, .ref (ad 0)), (1, .int a1)]) hx hb d_CA_accountWithKey_1 rfl hl (by decide) rfl (fun ls hl => ?_)
  have hl := lv_sub hl (l' := [(0, .ref (ad 0)), (1, .int a1), (2, .int (0 : Int32))]) [1, 2, 0] rfl
  obtain ⟨n9, hw⟩ := hw
  exact L2 _ n9 _ _ _ _ _ hw hP hS hl
def ws_CA_makeAccount : List Cond := Cond.code y_CA_makeAccount c_CA_makeAccount 2 (Option.some Jvm.ClassFile.FieldType.int) :: GW
theorem d_CA_makeAccount_0 : decode c_CA_makeAccount 0 = .ok (.aload_n 0, 1) := by decide +kernel
theorem d_CA_makeAccount_1 : decode c_CA_makeAccount 1 = .ok (.getfield 11, 3) := by decide +kernel
theorem d_CA_makeAccount_4 : decode c_CA_makeAccount 4 = .ok (.aload_n 0, 1) := by decide +kernel
theorem d_CA_makeAccount_5 : decode c_CA_makeAccount 5 = .ok (.getfield 114, 3) := by decide +kernel
theorem d_CA_makeAccount_8 : decode c_CA_makeAccount 8 = .ok (.aaload, 1) := by decide +kernel
theorem d_CA_makeAccount_9 : decode c_CA_makeAccount 9 = .ok (.iload_n 1, 1) := by decide +kernel
theorem d_CA_makeAccount_10 : decode c_CA_makeAccount 10 = .ok (.putfield 164, 3) := by decide +kernel
theorem d_CA_makeAccount_13 : decode c_CA_makeAccount 13 = .ok (.aload_n 0, 1) := by decide +kernel
theorem d_CA_makeAccount_14 : decode c_CA_makeAccount 14 = .ok (.dup, 1) := by decide +kernel
theorem d_CA_makeAccount_15 : decode c_CA_makeAccount 15 = .ok (.getfield 114, 3) := by decide +kernel
theorem d_CA_makeAccount_18 : decode c_CA_makeAccount 18 = .ok (.dup_x1, 1) := by decide +kernel
theorem d_CA_makeAccount_19 : decode c_CA_makeAccount 19 = .ok (.iconst 1, 1) := by decide +kernel
theorem d_CA_makeAccount_20 : decode c_CA_makeAccount 20 = .ok (.iadd, 1) := by decide +kernel
theorem d_CA_makeAccount_21 : decode c_CA_makeAccount 21 = .ok (.putfield 114, 3) := by decide +kernel
theorem d_CA_makeAccount_24 : decode c_CA_makeAccount 24 = .ok (.ireturn, 1) := by decide +kernel
def wp_CA_makeAccount (post : Int32 → ST → Prop) (X : ST) (a1 : Int32) : Prop := (vp_in (X 2 0) 6 ∧ post (X 2 0) (up (up X 11 ((X 2 0).toNatClampNeg) a1) 2 0 ((X 2 0) + (1 : Int32))))
set_option maxHeartbeats 4000000 in
set_option maxRecDepth 100000 in
theorem mt_CA_makeAccount (l : Launch) (hl9 : l.stackTraces = false) (dC : Nat → ClassId) (dI : Nat → Nat → Nat) (cA : Nat → ClassId) (ad : Nat → Nat) (hI : INJ ad 125) (sz : Nat) {X : ST} {a1 : Int32} {post : Int32 → ST → Prop} (hw : wp_CA_makeAccount post X a1) : Met l y_CA_makeAccount ws_CA_makeAccount ({ frames := 0, cells := 0, slots := 0, locals := 0 } : Room) (va_Pc [.ref (ad 0), .int a1] (fun U => PC dC dI cA ad sz X U)) (va_Qi (fun r (u : ST) => post r u) (fun (u : ST) t => va_P (dC, dI) vwCl (wdC cA ad u) t.heap) (CA ad 125 sz)) 0 0 (CA ad 125 sz) := by
  refine Met.ofW (cc := c_CA_makeAccount) (maxL := 2) (ret := (some .int)) (by decide) rfl ?_
  intro p e s m args below meth c s₁ B hml hv
  obtain ⟨rfl, hsz, hP, hG⟩ := hv
  have hx := B.exec
  have hb := B.bytes
  have hr := B.returns
  have hts : ∀ w ∈ GW, w.before (([.ref (ad 0), .int a1] : List Value).toArray) s = true := fun w h => atoms_spec (ws := ws_CA_makeAccount) B.pre w (List.mem_cons_of_mem _ h)
  have hown : s.vm.findClass R_CA = some m.cls := findClass_of_methodNamed B.named
  have hlocks := B.notSynchronized
  subst hsz
  have hK := hG.1
  have hG9 := hG
  have hNW := hG.2.1
  have hD0 : ∀ (X : ST), va_D (CA ad 125 s.heap.size) (wdC cA ad X) := fun _ => zwC_D hI
  have hS : va_S (CA ad 125 s.heap.size) s.heap s.heap [] := va_S.rf
  have hl := lv_entry ([.ref (ad 0), .int a1]) (n := 2) (Nat.le_of_ble_eq_true rfl)
  rw [lg_entry_eq]
  generalize (lg_sl ([.ref (ad 0), .int a1]) ++ List.replicate (2 - (lg_sl ([.ref (ad 0), .int a1])).length) Slot.unset).toArray = ls at hl ⊢
  have hl : lv_has ls 2 [(0, .ref (ad 0)), (1, .int a1)] := hl
  unfold wp_CA_makeAccount at hw
  refine lv_aload_n hx hb d_CA_makeAccount_0 rfl (lv_at hl 0 rfl) ?_
  refine va_get (D := (dC, dI)) (ci := 0) (v := .ref (ad 1)) (C := R_CA) (T := T_CA) (N := 14) hx hb hts in_CA hown hK hP (0) atC_CA rfl 6 (by decide) (hts _ gw_33) (fun _ h9 => h9) rfl d_CA_makeAccount_1 ?_
  refine lv_aload_n hx hb d_CA_makeAccount_4 rfl (lv_at hl 0 rfl) ?_
  refine va_get (D := (dC, dI)) (ci := 0) (v := .int (X 2 0)) (C := R_CA) (T := T_CA) (N := 14) hx hb hts in_CA hown hK hP (0) atC_CA rfl 2 (by decide) (hts _ gw_32) (fun _ h9 => h9) rfl d_CA_makeAccount_5 ?_
  obtain ⟨h1, hw⟩ := hw
  refine va_aldq hx hb hK hP (1) 0 atC_aAcc rfl h1 d_CA_makeAccount_8 ?_
  refine W.eq (g2 := F0 m 9 ls [.ref (ad (11 + ((X 2 0).toNatClampNeg)))]) rfl ?_
  refine lv_iload_n hx hb d_CA_makeAccount_9 rfl (lv_at hl 1 rfl) ?_
  refine va_put (D := (dC, dI)) (ci := 4) (v := .int a1) (ty := .int) (C := R_Acc) (T := T_Acc) (N := 2) hx hb hts in_Acc ty_Acc ty_Acc_ok nm_Acc hown hK hP (hD0 _) hS (11 + ((X 2 0).toNatClampNeg)) (atC_Acc (zw_lt h1)) rfl 1 (by decide) (hts _ gw_34) (fun _ h9 => h9) rfl (by decide +kernel) rfl rfl (Nat.le_of_ble_eq_true rfl) d_CA_makeAccount_10 (fun H locs hP _ hS => ?_)
  have hP : va_P (dC, dI) vwCl (wdC cA ad (up X 11 ((X 2 0).toNatClampNeg) a1)) H := by rw [← stC_Acc_1 (zw_lt h1)]; exact hP
  refine lv_aload_n hx hb d_CA_makeAccount_13 rfl (lv_at hl 0 rfl) ?_
  refine lv_dup hx hb d_CA_makeAccount_14 rfl ?_
  refine va_get (D := (dC, dI)) (ci := 0) (v := .int (X 2 0)) (C := R_CA) (T := T_CA) (N := 14) hx hb hts in_CA hown hK hP (0) atC_CA rfl 2 (by decide) (hts _ gw_32) (fun _ h9 => h9) rfl d_CA_makeAccount_15 ?_
  refine lv_dup_x1 hx hb d_CA_makeAccount_18 rfl rfl ?_
  refine lv_iconst (v := (1 : Int32)) hx hb d_CA_makeAccount_19 (by decide) ?_
  refine lv_iadd hx hb d_CA_makeAccount_20 ?_
  refine va_put (D := (dC, dI)) (ci := 0) (v := .int ((X 2 0) + (1 : Int32))) (ty := .int) (C := R_CA) (T := T_CA) (N := 14) hx hb hts in_CA ty_CA ty_CA_ok nm_CA hown hK hP (hD0 _) hS (0) atC_CA rfl 2 (by decide) (hts _ gw_32) (fun _ h9 => h9) rfl (by decide +kernel) rfl rfl (Nat.le_of_ble_eq_true rfl) d_CA_makeAccount_21 (fun H locs hP _ hS => ?_)
  have hP : va_P (dC, dI) vwCl (wdC cA ad (up (up X 11 ((X 2 0).toNatClampNeg) a1) 2 0 ((X 2 0) + (1 : Int32)))) H := by rw [← stC_CA_2]; exact hP
  exact W.iret (v := X 2 0) hx hb hr (fun t ht _ => ⟨⟨X 2 0, up (up X 11 ((X 2 0).toNatClampNeg) a1) 2 0 ((X 2 0) + (1 : Int32)), rfl, hw, by show va_P _ _ _ t.heap; rw [ht]; exact hP⟩, hS.F ht⟩) hS.2.2 d_CA_makeAccount_24
def ws_CA_account : List Cond := Cond.code y_CA_account c_CA_account 5 (Option.some Jvm.ClassFile.FieldType.int) :: GW
theorem d_CA_account_0 : decode c_CA_account 0 = .ok (.iload_n 1, 1) := by decide +kernel
theorem d_CA_account_1 : decode c_CA_account 1 = .ok (.invokestatic 77, 3) := by decide +kernel
theorem d_CA_account_4 : decode c_CA_account 4 = .ok (.ifCond .ne 11, 3) := by decide +kernel
theorem d_CA_account_7 : decode c_CA_account 7 = .ok (.new 93, 3) := by decide +kernel
theorem d_CA_account_10 : decode c_CA_account 10 = .ok (.dup, 1) := by decide +kernel
theorem d_CA_account_11 : decode c_CA_account 11 = .ok (.invokespecial 95, 3) := by decide +kernel
theorem d_CA_account_14 : decode c_CA_account 14 = .ok (.athrow, 1) := by decide +kernel
theorem d_CA_account_15 : decode c_CA_account 15 = .ok (.iload_n 3, 1) := by decide +kernel
theorem d_CA_account_16 : decode c_CA_account 16 = .ok (.aload_n 0, 1) := by decide +kernel
theorem d_CA_account_17 : decode c_CA_account 17 = .ok (.iconst 1, 1) := by decide +kernel
theorem d_CA_account_18 : decode c_CA_account 18 = .ok (.iload_n 1, 1) := by decide +kernel
theorem d_CA_account_19 : decode c_CA_account 19 = .ok (.iload_n 2, 1) := by decide +kernel
theorem d_CA_account_20 : decode c_CA_account 20 = .ok (.iconst 0, 1) := by decide +kernel
theorem d_CA_account_21 : decode c_CA_account 21 = .ok (.iconst 0, 1) := by decide +kernel
theorem d_CA_account_22 : decode c_CA_account 22 = .ok (.invokevirtual 96, 3) := by decide +kernel
theorem d_CA_account_25 : decode c_CA_account 25 = .ok (.iload_n 1, 1) := by decide +kernel
theorem d_CA_account_26 : decode c_CA_account 26 = .ok (.invokestatic 100, 3) := by decide +kernel
theorem d_CA_account_29 : decode c_CA_account 29 = .ok (.ifCond .ne 11, 3) := by decide +kernel
theorem d_CA_account_32 : decode c_CA_account 32 = .ok (.new 104, 3) := by decide +kernel
theorem d_CA_account_35 : decode c_CA_account 35 = .ok (.dup, 1) := by decide +kernel
theorem d_CA_account_36 : decode c_CA_account 36 = .ok (.invokespecial 106, 3) := by decide +kernel
theorem d_CA_account_39 : decode c_CA_account 39 = .ok (.athrow, 1) := by decide +kernel
theorem d_CA_account_40 : decode c_CA_account 40 = .ok (.aload_n 0, 1) := by decide +kernel
theorem d_CA_account_41 : decode c_CA_account 41 = .ok (.getfield 42, 3) := by decide +kernel
theorem d_CA_account_44 : decode c_CA_account 44 = .ok (.iload_n 2, 1) := by decide +kernel
theorem d_CA_account_45 : decode c_CA_account 45 = .ok (.invokevirtual 107, 3) := by decide +kernel
theorem d_CA_account_48 : decode c_CA_account 48 = .ok (.ifCond .ne 11, 3) := by decide +kernel
theorem d_CA_account_51 : decode c_CA_account 51 = .ok (.new 93, 3) := by decide +kernel
theorem d_CA_account_54 : decode c_CA_account 54 = .ok (.dup, 1) := by decide +kernel
theorem d_CA_account_55 : decode c_CA_account 55 = .ok (.invokespecial 95, 3) := by decide +kernel
theorem d_CA_account_58 : decode c_CA_account 58 = .ok (.athrow, 1) := by decide +kernel
theorem d_CA_account_59 : decode c_CA_account 59 = .ok (.aload_n 0, 1) := by decide +kernel
theorem d_CA_account_60 : decode c_CA_account 60 = .ok (.iload_n 1, 1) := by decide +kernel
theorem d_CA_account_61 : decode c_CA_account 61 = .ok (.invokevirtual 110, 3) := by decide +kernel
theorem d_CA_account_64 : decode c_CA_account 64 = .ok (.istore 4, 2) := by decide +kernel
theorem d_CA_account_66 : decode c_CA_account 66 = .ok (.iload 4, 2) := by decide +kernel
theorem d_CA_account_68 : decode c_CA_account 68 = .ok (.iconst (-1), 1) := by decide +kernel
theorem d_CA_account_69 : decode c_CA_account 69 = .ok (.if_icmp .ne 15, 3) := by decide +kernel
theorem d_CA_account_72 : decode c_CA_account 72 = .ok (.aload_n 0, 1) := by decide +kernel
theorem d_CA_account_73 : decode c_CA_account 73 = .ok (.getfield 114, 3) := by decide +kernel
theorem d_CA_account_76 : decode c_CA_account 76 = .ok (.bipush 6, 2) := by decide +kernel
theorem d_CA_account_78 : decode c_CA_account 78 = .ok (.if_icmp .lt 28, 3) := by decide +kernel
theorem d_CA_account_81 : decode c_CA_account 81 = .ok (.goto 17, 3) := by decide +kernel
theorem d_CA_account_84 : decode c_CA_account 84 = .ok (.aload_n 0, 1) := by decide +kernel
theorem d_CA_account_85 : decode c_CA_account 85 = .ok (.getfield 11, 3) := by decide +kernel
theorem d_CA_account_88 : decode c_CA_account 88 = .ok (.iload 4, 2) := by decide +kernel
theorem d_CA_account_90 : decode c_CA_account 90 = .ok (.aaload, 1) := by decide +kernel
theorem d_CA_account_91 : decode c_CA_account 91 = .ok (.getfield 117, 3) := by decide +kernel
theorem d_CA_account_94 : decode c_CA_account 94 = .ok (.iconst 1, 1) := by decide +kernel
theorem d_CA_account_95 : decode c_CA_account 95 = .ok (.if_icmp .ne 11, 3) := by decide +kernel
theorem d_CA_account_98 : decode c_CA_account 98 = .ok (.new 120, 3) := by decide +kernel
theorem d_CA_account_101 : decode c_CA_account 101 = .ok (.dup, 1) := by decide +kernel
theorem d_CA_account_102 : decode c_CA_account 102 = .ok (.invokespecial 122, 3) := by decide +kernel
theorem d_CA_account_105 : decode c_CA_account 105 = .ok (.athrow, 1) := by decide +kernel
theorem d_CA_account_106 : decode c_CA_account 106 = .ok (.iload 4, 2) := by decide +kernel
theorem d_CA_account_108 : decode c_CA_account 108 = .ok (.iconst (-1), 1) := by decide +kernel
theorem d_CA_account_109 : decode c_CA_account 109 = .ok (.if_icmp .ne 11, 3) := by decide +kernel
theorem d_CA_account_112 : decode c_CA_account 112 = .ok (.aload_n 0, 1) := by decide +kernel
theorem d_CA_account_113 : decode c_CA_account 113 = .ok (.iload_n 1, 1) := by decide +kernel
theorem d_CA_account_114 : decode c_CA_account 114 = .ok (.invokevirtual 123, 3) := by decide +kernel
theorem d_CA_account_117 : decode c_CA_account 117 = .ok (.goto 5, 3) := by decide +kernel
theorem d_CA_account_120 : decode c_CA_account 120 = .ok (.iload 4, 2) := by decide +kernel
theorem d_CA_account_122 : decode c_CA_account 122 = .ok (.ireturn, 1) := by decide +kernel
def wq_CA_account_106 (post : Int32 → ST → Prop) (px : String → ST → Prop) (v1 : Int32) (v4 : Int32) (X : ST) : Prop := ((v4 = (-1 : Int32) → wp_CA_makeAccount (fun (r3 : Int32) (X2 : ST) => post r3 X2) X v1) ∧ (¬ v4 = (-1 : Int32) → post v4 X))
def wp_CA_account (post : Int32 → ST → Prop) (px : String → ST → Prop) (X : ST) (a1 : Int32) (a2 : Int32) (a3 : Int32) : Prop := wp_CA_isKey (fun (r5 : Int32) (X4 : ST) => ((r5 = 0 → px "java/lang/IllegalArgumentException" X4) ∧ (¬ r5 = 0 → wp_CA_digest (fun (r8 : Int32) (X7 : ST) => wp_CA_isRight (fun (r10 : Int32) (X9 : ST) => ((r10 = 0 → px "java/lang/UnsupportedOperationException" X9) ∧ (¬ r10 = 0 → wp_Non_takeBack (fun (r13 : Int32) (X12 : ST) => ((r13 = 0 → px "java/lang/IllegalArgumentException" X12) ∧ (¬ r13 = 0 → wp_CA_accountWithKey (fun (r16 : Int32) (X15 : ST) => ((r16 = (-1 : Int32) → (((X15 2 0) < (6 : Int32) → wq_CA_account_106 post px a1 r16 X15) ∧ (¬ (X15 2 0) < (6 : Int32) → px "java/lang/IllegalStateException" X15))) ∧ (¬ r16 = (-1 : Int32) → (vp_in r16 6 ∧ (((X15 10 r16.toNatClampNeg) = (1 : Int32) → px "java/lang/IllegalStateException" X15) ∧ (¬ (X15 10 r16.toNatClampNeg) = (1 : Int32) → wq_CA_account_106 post px a1 r16 X15)))))) X12 a1))) X9 a2))) X7 a3 r8 a1) X4 (1 : Int32) a1 a2 (0 : Int32) (0 : Int32)))) X a1
set_option maxHeartbeats 4000000 in
set_option maxRecDepth 100000 in
theorem mt_CA_account (l : Launch) (hl9 : l.stackTraces = false) (dC : Nat → ClassId) (dI : Nat → Nat → Nat) (cA : Nat → ClassId) (ad : Nat → Nat) (hI : INJ ad 125) (sz : Nat) {X : ST} {a1 : Int32} {a2 : Int32} {a3 : Int32} {post : Int32 → ST → Prop} {px : String → ST → Prop} (hw : wp_CA_account post px X a1 a2 a3) : xt_Met l y_CA_account ws_CA_account ({ frames := 6, cells := 1, slots := 6, locals := 90 } : Room) (va_Pc [.ref (ad 0), .int a1, .int a2, .int a3] (fun U => PC dC dI cA ad sz X U)) (va_Qi (fun r (u : ST) => post r u) (fun (u : ST) t => va_P (dC, dI) vwCl (wdC cA ad u) t.heap) (CA ad 125 sz)) (xt_X (fun (u : String × ST) => px u.1 u.2) (fun E (u : String × ST) t => u.1 = E ∧ va_P (dC, dI) vwCl (wdC cA ad u.2) t.heap) (CA ad 125 sz)) 1 6 (CA ad 125 sz) := by
  refine xt_ofW (cc := c_CA_account) (maxL := 5) (ret := (some .int)) (by decide) rfl ?_
  intro p e s m args below meth c s₁ B hml hEx hv
  obtain ⟨rfl, hsz, hP, hG⟩ := hv
  have hx := B.exec
  have hb := B.bytes
  have hr := B.returns
  have hts : ∀ w ∈ GW, w.before (([.ref (ad 0), .int a1, .int a2, .int a3] : List Value).toArray) s = true := fun w h => atoms_spec (ws := ws_CA_account) B.pre w (List.mem_cons_of_mem _ h)
  have hown : s.vm.findClass R_CA = some m.cls := findClass_of_methodNamed B.named
  have hlocks := B.notSynchronized
  subst hsz
  have hK := hG.1
  have hG9 := hG
  have hNW := hG.2.1
  have hD0 : ∀ (X : ST), va_D (CA ad 125 s.heap.size) (wdC cA ad X) := fun _ => zwC_D hI
  have hS : va_S (CA ad 125 s.heap.size) s.heap s.heap [] := va_S.rf
  have hl := lv_entry ([.ref (ad 0), .int a1, .int a2, .int a3]) (n := 5) (Nat.le_of_ble_eq_true rfl)
  rw [lg_entry_eq]
  generalize (lg_sl ([.ref (ad 0), .int a1, .int a2, .int a3]) ++ List.replicate (5 - (lg_sl ([.ref (ad 0), .int a1, .int a2, .int a3])).length) Slot.unset).toArray = ls at hl ⊢
  have hl : lv_has ls 5 [(0, .ref (ad 0)), (1, .int a1), (2, .int a2), (3, .int a3)] := hl
  have L106 : ∀ (v1 : Int32) (v4 : Int32) (X : ST) (H : Heap) (locs : List Loc) (ls : Array Slot), wq_CA_account_106 post px v1 v4 X → va_P (dC, dI) vwCl (wdC cA ad X) H → va_S (CA ad 125 s.heap.size) s.heap H locs → lv_has ls 5 [(0, .ref (ad 0)), (1, .int v1), (4, .int v4)] → W p l e (headSpec ws_CA_account ({ frames := 6, cells := 1, slots := 6, locals := 90 } : Room)).room s m (([.ref (ad 0), .int a1, .int a2, .int a3] : List Value).toArray) below meth c H locs 0 0 (xt_Q below (va_Qi (fun r (u : ST) => post r u) (fun (u : ST) t => va_P (dC, dI) vwCl (wdC cA ad u) t.heap) (CA ad 125 s.heap.size)) (xt_X (fun (u : String × ST) => px u.1 u.2) (fun E (u : String × ST) t => u.1 = E ∧ va_P (dC, dI) vwCl (wdC cA ad u.2) t.heap) (CA ad 125 s.heap.size)) (([.ref (ad 0), .int a1, .int a2, .int a3] : List Value).toArray) s 1 6 (CA ad 125 s.heap.size)) (F0 m 106 ls []) := by
    intro v1 v4 X H locs ls hw hP hS hl
    unfold wq_CA_account_106 at hw
    refine lv_iload hx hb d_CA_account_106 (lv_at hl 2 rfl) ?_
    refine lv_iconst (v := (-1 : Int32)) hx hb d_CA_account_108 (by decide) ?_
    refine lv_icmp_ne (tgt := 120) hx hb d_CA_account_109 (by decide) (fun c1 => ?_) (fun c1 => ?_)
    · have hw := hw.2 c1
      refine lv_iload hx hb d_CA_account_120 (lv_at hl 2 rfl) ?_
      refine xt_ret ?_
      refine W.widen (k := 1) (n := 6) (Nat.le_of_ble_eq_true rfl) (Nat.le_of_ble_eq_true rfl) ?_
      exact W.iret (v := v4) hx hb hr (fun t ht _ => ⟨⟨v4, X, rfl, hw, by show va_P _ _ _ t.heap; rw [ht]; exact hP⟩, hS.F ht⟩) hS.2.2 d_CA_account_122
    · have hw := hw.1 c1
      refine lv_aload_n hx hb d_CA_account_112 rfl (lv_at hl 0 rfl) ?_
      refine lv_iload_n hx hb d_CA_account_113 rfl (lv_at hl 1 rfl) ?_
      refine va_calli (va_runV (As := [.int v1]) (rest := []) ⟨hx, hb, hml, hown, hts⟩ (mt_CA_makeAccount l hl9 dC dI cA ad hI _ hw) (cwV 1 hts (gV gw_36 gw_37 gw_38 gw_13 gw_35) rfl rfl rfl (by decide +kernel) ⟨Nat.le_of_ble_eq_true rfl, Nat.le_of_ble_eq_true rfl⟩) ⟨zwC_blind, va_recv hK hP (ci := 0) (q0 := 0) rfl atC_CA, zwC_pre hP hS hG9⟩ rfl rfl hl.1 rfl (lv_room (Nat.le_of_ble_eq_true rfl)) d_CA_account_114 ⟨Nat.le_of_ble_eq_true rfl, Nat.le_of_ble_eq_true rfl⟩) hS (fun q _ h => CA_le hS.1 q h) (fun q h => CA_le hS.1 q h) (fun r3 X2 t H locs ht hvm hw hP hz1 hk1 hS => ?_)
      have hP : va_P (dC, dI) vwCl (wdC cA ad X2) H := by rw [← ht]; exact hP
      try dsimp only at hw
      refine lv_goto (tgt := 122) hx hb d_CA_account_117 (by decide) ?_
      refine xt_ret ?_
      refine W.widen (k := 1) (n := 6) (Nat.le_of_ble_eq_true rfl) (Nat.le_of_ble_eq_true rfl) ?_
      exact W.iret (v := r3) hx hb hr (fun t ht _ => ⟨⟨r3, X2, rfl, hw, by show va_P _ _ _ t.heap; rw [ht]; exact hP⟩, hS.F ht⟩) hS.2.2 d_CA_account_122
  unfold wp_CA_account at hw
  refine lv_iload_n hx hb d_CA_account_0 rfl (lv_at hl 1 rfl) ?_
  refine va_calli (va_runS (As := [.int a1]) (rest := []) ⟨hx, hb, hml, hown, hts⟩ (mt_CA_isKey l hl9 dC dI cA ad hI _ hw) (va_cwS 1 hts (gS gw_20 gw_21 gw_13 gw_19) rfl rfl rfl (by decide +kernel) ⟨Nat.le_of_ble_eq_true rfl, Nat.le_of_ble_eq_true rfl⟩) ⟨zwC_blind, zwC_pre hP hS hG9⟩ rfl rfl hl.1 rfl (lv_room (Nat.le_of_ble_eq_true rfl)) d_CA_account_1 ⟨Nat.le_of_ble_eq_true rfl, Nat.le_of_ble_eq_true rfl⟩) hS (fun q _ h => CA_le hS.1 q h) (fun q h => CA_le hS.1 q h) (fun r5 X4 t H locs ht hvm hw hP hz1 hk1 hS => ?_)
  have hP : va_P (dC, dI) vwCl (wdC cA ad X4) H := by rw [← ht]; exact hP
  try dsimp only at hw
  refine lv_if_ne (tgt := 15) hx hb d_CA_account_4 (by decide) (fun c6 => ?_) (fun c6 => ?_)
  · have hw := hw.2 c6
    refine lv_iload_n hx hb d_CA_account_15 rfl (lv_at hl 3 rfl) ?_
    refine lv_aload_n hx hb d_CA_account_16 rfl (lv_at hl 0 rfl) ?_
    refine lv_iconst (v := (1 : Int32)) hx hb d_CA_account_17 (by decide) ?_
    refine lv_iload_n hx hb d_CA_account_18 rfl (lv_at hl 1 rfl) ?_
    refine lv_iload_n hx hb d_CA_account_19 rfl (lv_at hl 2 rfl) ?_
    refine lv_iconst (v := (0 : Int32)) hx hb d_CA_account_20 (by decide) ?_
    refine lv_iconst (v := (0 : Int32)) hx hb d_CA_account_21 (by decide) ?_
    refine va_calli (va_runV (As := [.int (1 : Int32), .int a1, .int a2, .int (0 : Int32), .int (0 : Int32)]) (rest := [.int a3]) ⟨hx, hb, hml, hown, hts⟩ (mt_CA_digest l hl9 dC dI cA ad hI _ hw) (cwV 5 hts (gV gw_43 gw_44 gw_45 gw_13 gw_42) rfl rfl rfl (by decide +kernel) ⟨Nat.le_of_ble_eq_true rfl, Nat.le_of_ble_eq_true rfl⟩) ⟨zwC_blind, va_recv hK hP (ci := 0) (q0 := 0) rfl atC_CA, zwC_pre hP hS hG9⟩ rfl rfl hl.1 rfl (lv_room (Nat.le_of_ble_eq_true rfl)) d_CA_account_22 ⟨Nat.le_of_ble_eq_true rfl, Nat.le_of_ble_eq_true rfl⟩) hS (fun q _ h => CA_le hS.1 q h) (fun q h => CA_le hS.1 q h) (fun r8 X7 t H locs ht hvm hw hP hz1 hk1 hS => ?_)
    have hP : va_P (dC, dI) vwCl (wdC cA ad X7) H := by rw [← ht]; exact hP
    try dsimp only at hw
    refine lv_iload_n hx hb d_CA_account_25 rfl (lv_at hl 1 rfl) ?_
    refine va_calli (va_runS (As := [.int a3, .int r8, .int a1]) (rest := []) ⟨hx, hb, hml, hown, hts⟩ (mt_CA_isRight l hl9 dC dI cA ad hI _ hw) (va_cwS 3 hts (gS gw_47 gw_48 gw_13 gw_46) rfl rfl rfl (by decide +kernel) ⟨Nat.le_of_ble_eq_true rfl, Nat.le_of_ble_eq_true rfl⟩) ⟨zwC_blind, zwC_pre hP hS hG9⟩ rfl rfl hl.1 rfl (lv_room (Nat.le_of_ble_eq_true rfl)) d_CA_account_26 ⟨Nat.le_of_ble_eq_true rfl, Nat.le_of_ble_eq_true rfl⟩) hS (fun q _ h => CA_le hS.1 q h) (fun q h => CA_le hS.1 q h) (fun r10 X9 t H locs ht hvm hw hP hz1 hk1 hS => ?_)
    have hP : va_P (dC, dI) vwCl (wdC cA ad X9) H := by rw [← ht]; exact hP
    try dsimp only at hw
    refine lv_if_ne (tgt := 40) hx hb d_CA_account_29 (by decide) (fun c11 => ?_) (fun c11 => ?_)
    · have hw := hw.2 c11
      refine lv_aload_n hx hb d_CA_account_40 rfl (lv_at hl 0 rfl) ?_
      refine va_get (D := (dC, dI)) (ci := 0) (v := .ref (ad 6)) (C := R_CA) (T := T_CA) (N := 14) hx hb hts in_CA hown hK hP (0) atC_CA rfl 11 (by decide) (hts _ gw_14) (fun _ h9 => h9) rfl d_CA_account_41 ?_
      refine lv_iload_n hx hb d_CA_account_44 rfl (lv_at hl 2 rfl) ?_
      refine va_calli (va_runV (As := [.int a2]) (rest := []) ⟨hx, hb, hml, hown, hts⟩ (mt_Non_takeBack l hl9 dC dI cA ad hI _ hw) (cwV 1 hts (gV gw_53 gw_54 gw_55 gw_8 gw_52) rfl rfl rfl (by decide +kernel) ⟨Nat.le_of_ble_eq_true rfl, Nat.le_of_ble_eq_true rfl⟩) ⟨zwC_blind, va_recv hK hP (ci := 1) (q0 := 6) rfl atC_Non, zwC_pre hP hS hG9⟩ rfl rfl hl.1 rfl (lv_room (Nat.le_of_ble_eq_true rfl)) d_CA_account_45 ⟨Nat.le_of_ble_eq_true rfl, Nat.le_of_ble_eq_true rfl⟩) hS (fun q _ h => CA_le hS.1 q h) (fun q h => CA_le hS.1 q h) (fun r13 X12 t H locs ht hvm hw hP hz1 hk1 hS => ?_)
      have hP : va_P (dC, dI) vwCl (wdC cA ad X12) H := by rw [← ht]; exact hP
      try dsimp only at hw
      refine lv_if_ne (tgt := 59) hx hb d_CA_account_48 (by decide) (fun c14 => ?_) (fun c14 => ?_)
      · have hw := hw.2 c14
        refine lv_aload_n hx hb d_CA_account_59 rfl (lv_at hl 0 rfl) ?_
        refine lv_iload_n hx hb d_CA_account_60 rfl (lv_at hl 1 rfl) ?_
        refine va_calli (va_runV (As := [.int a1]) (rest := []) ⟨hx, hb, hml, hown, hts⟩ (mt_CA_accountWithKey l hl9 dC dI cA ad hI _ hw) (cwV 1 hts (gV gw_57 gw_58 gw_59 gw_13 gw_56) rfl rfl rfl (by decide +kernel) ⟨Nat.le_of_ble_eq_true rfl, Nat.le_of_ble_eq_true rfl⟩) ⟨zwC_blind, va_recv hK hP (ci := 0) (q0 := 0) rfl atC_CA, zwC_pre hP hS hG9⟩ rfl rfl hl.1 rfl (lv_room (Nat.le_of_ble_eq_true rfl)) d_CA_account_61 ⟨Nat.le_of_ble_eq_true rfl, Nat.le_of_ble_eq_true rfl⟩) hS (fun q _ h => CA_le hS.1 q h) (fun q h => CA_le hS.1 q h) (fun r16 X15 t H locs ht hvm hw hP hz1 hk1 hS => ?_)
        have hP : va_P (dC, dI) vwCl (wdC cA ad X15) H := by rw [← ht]; exact hP
        try dsimp only at hw
        refine lv_istore (lv' := [(4, .int r16), (0, .ref (ad 0)), (1, .int a1), (2, .int a2), (3, .int a3)]) hx hb d_CA_account_64 hl (by decide) rfl (fun ls hl => ?_)
        refine lv_iload hx hb d_CA_account_66 (lv_at hl 0 rfl) ?_
        refine lv_iconst (v := (-1 : Int32)) hx hb d_CA_account_68 (by decide) ?_
        refine lv_icmp_ne (tgt := 84) hx hb d_CA_account_69 (by decide) (fun c17 => ?_) (fun c17 => ?_)
        · have hw := hw.2 c17
          refine lv_aload_n hx hb d_CA_account_84 rfl (lv_at hl 1 rfl) ?_
          refine va_get (D := (dC, dI)) (ci := 0) (v := .ref (ad 1)) (C := R_CA) (T := T_CA) (N := 14) hx hb hts in_CA hown hK hP (0) atC_CA rfl 6 (by decide) (hts _ gw_33) (fun _ h9 => h9) rfl d_CA_account_85 ?_
          refine lv_iload hx hb d_CA_account_88 (lv_at hl 0 rfl) ?_
          obtain ⟨h19, hw⟩ := hw
          refine va_aldq hx hb hK hP (1) 0 atC_aAcc rfl h19 d_CA_account_90 ?_
          refine W.eq (g2 := F0 m 91 ls [.ref (ad (11 + r16.toNatClampNeg))]) rfl ?_
          refine va_get (D := (dC, dI)) (ci := 4) (v := .int (X15 10 r16.toNatClampNeg)) (C := R_Acc) (T := T_Acc) (N := 2) hx hb hts in_Acc hown hK hP (11 + r16.toNatClampNeg) (atC_Acc (zw_lt h19)) rfl 0 (by decide) (hts _ gw_63) (fun _ h9 => h9) rfl d_CA_account_91 ?_
          refine lv_iconst (v := (1 : Int32)) hx hb d_CA_account_94 (by decide) ?_
          refine lv_icmp_ne (tgt := 106) hx hb d_CA_account_95 (by decide) (fun c20 => ?_) (fun c20 => ?_)
          · have hw := hw.2 c20
            have hl := lv_sub hl (l' := [(0, .ref (ad 0)), (1, .int a1), (4, .int r16)]) [1, 2, 0] rfl
            exact L106 _ _ _ _ _ _ hw hP hS hl
          · have hw := hw.1 c20
            exact xt_throw0 (cls := "java/lang/IllegalStateException") (names := ["java/lang/RuntimeException", "java/lang/Exception"]) (ic := 122) hx hb hl9 hown (by decide +kernel) (by decide +kernel) (hts _ gw_60) (hts _ gw_61) (hts _ gw_62) (xc_hat xa_2 hts hG9 hP hS) (hl.1.trans hml.symm) d_CA_account_98 d_CA_account_101 d_CA_account_102 d_CA_account_105 (fun x hx => (hEx x hx).elim) hlocks (fun t ha hz hk => ⟨("java/lang/IllegalStateException", X15), hw, ⟨rfl, zw_keep hP hk⟩, zw_F hS hz hk⟩) hS.2.2 (Nat.le_of_ble_eq_true rfl) (Nat.le_of_ble_eq_true rfl) (Nat.le_of_ble_eq_true rfl) (Nat.le_of_ble_eq_true rfl) (Nat.le_of_ble_eq_true rfl) (Nat.le_of_ble_eq_true rfl)
        · have hw := hw.1 c17
          refine lv_aload_n hx hb d_CA_account_72 rfl (lv_at hl 1 rfl) ?_
          refine va_get (D := (dC, dI)) (ci := 0) (v := .int (X15 2 0)) (C := R_CA) (T := T_CA) (N := 14) hx hb hts in_CA hown hK hP (0) atC_CA rfl 2 (by decide) (hts _ gw_32) (fun _ h9 => h9) rfl d_CA_account_73 ?_
          refine lv_bipush (v := (6 : Int32)) hx hb d_CA_account_76 (by decide) ?_
          refine lv_icmp_lt (tgt := 106) hx hb d_CA_account_78 (by decide) (fun c18 => ?_) (fun c18 => ?_)
          · have hw := hw.1 c18
            have hl := lv_sub hl (l' := [(0, .ref (ad 0)), (1, .int a1), (4, .int r16)]) [1, 2, 0] rfl
            exact L106 _ _ _ _ _ _ hw hP hS hl
          · have hw := hw.2 c18
            refine lv_goto (tgt := 98) hx hb d_CA_account_81 (by decide) ?_
            exact xt_throw0 (cls := "java/lang/IllegalStateException") (names := ["java/lang/RuntimeException", "java/lang/Exception"]) (ic := 122) hx hb hl9 hown (by decide +kernel) (by decide +kernel) (hts _ gw_60) (hts _ gw_61) (hts _ gw_62) (xc_hat xa_2 hts hG9 hP hS) (hl.1.trans hml.symm) d_CA_account_98 d_CA_account_101 d_CA_account_102 d_CA_account_105 (fun x hx => (hEx x hx).elim) hlocks (fun t ha hz hk => ⟨("java/lang/IllegalStateException", X15), hw, ⟨rfl, zw_keep hP hk⟩, zw_F hS hz hk⟩) hS.2.2 (Nat.le_of_ble_eq_true rfl) (Nat.le_of_ble_eq_true rfl) (Nat.le_of_ble_eq_true rfl) (Nat.le_of_ble_eq_true rfl) (Nat.le_of_ble_eq_true rfl) (Nat.le_of_ble_eq_true rfl)
      · have hw := hw.1 c14
        exact xt_throw0 (cls := "java/lang/IllegalArgumentException") (names := ["java/lang/RuntimeException", "java/lang/Exception"]) (ic := 95) hx hb hl9 hown (by decide +kernel) (by decide +kernel) (hts _ gw_39) (hts _ gw_40) (hts _ gw_41) (xc_hat xa_0 hts hG9 hP hS) (hl.1.trans hml.symm) d_CA_account_51 d_CA_account_54 d_CA_account_55 d_CA_account_58 (fun x hx => (hEx x hx).elim) hlocks (fun t ha hz hk => ⟨("java/lang/IllegalArgumentException", X12), hw, ⟨rfl, zw_keep hP hk⟩, zw_F hS hz hk⟩) hS.2.2 (Nat.le_of_ble_eq_true rfl) (Nat.le_of_ble_eq_true rfl) (Nat.le_of_ble_eq_true rfl) (Nat.le_of_ble_eq_true rfl) (Nat.le_of_ble_eq_true rfl) (Nat.le_of_ble_eq_true rfl)
    · have hw := hw.1 c11
      exact xt_throw0 (cls := "java/lang/UnsupportedOperationException") (names := ["java/lang/RuntimeException", "java/lang/Exception"]) (ic := 106) hx hb hl9 hown (by decide +kernel) (by decide +kernel) (hts _ gw_49) (hts _ gw_50) (hts _ gw_51) (xc_hat xa_1 hts hG9 hP hS) (hl.1.trans hml.symm) d_CA_account_32 d_CA_account_35 d_CA_account_36 d_CA_account_39 (fun x hx => (hEx x hx).elim) hlocks (fun t ha hz hk => ⟨("java/lang/UnsupportedOperationException", X9), hw, ⟨rfl, zw_keep hP hk⟩, zw_F hS hz hk⟩) hS.2.2 (Nat.le_of_ble_eq_true rfl) (Nat.le_of_ble_eq_true rfl) (Nat.le_of_ble_eq_true rfl) (Nat.le_of_ble_eq_true rfl) (Nat.le_of_ble_eq_true rfl) (Nat.le_of_ble_eq_true rfl)
  · have hw := hw.1 c6
    exact xt_throw0 (cls := "java/lang/IllegalArgumentException") (names := ["java/lang/RuntimeException", "java/lang/Exception"]) (ic := 95) hx hb hl9 hown (by decide +kernel) (by decide +kernel) (hts _ gw_39) (hts _ gw_40) (hts _ gw_41) (xc_hat xa_0 hts hG9 hP hS) (hl.1.trans hml.symm) d_CA_account_7 d_CA_account_10 d_CA_account_11 d_CA_account_14 (fun x hx => (hEx x hx).elim) hlocks (fun t ha hz hk => ⟨("java/lang/IllegalArgumentException", X4), hw, ⟨rfl, zw_keep hP hk⟩, zw_F hS hz hk⟩) hS.2.2 (Nat.le_of_ble_eq_true rfl) (Nat.le_of_ble_eq_true rfl) (Nat.le_of_ble_eq_true rfl) (Nat.le_of_ble_eq_true rfl) (Nat.le_of_ble_eq_true rfl) (Nat.le_of_ble_eq_true rfl)
