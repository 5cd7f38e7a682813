theorem gw_588 : Cond.methodLink "ChallengeAuthority$Account" 1 (⟨"java/lang/Object", "<init>", "()V"⟩ : MethodName) ∈ GW := gw_t (tb_1 (List.mem_of_getElem? (i := 94) rfl)) rfl
theorem gw_589 : Cond.instanceMethod (⟨"java/lang/Object", "<init>", "()V"⟩ : MethodName) ∈ GW := gw_t (tb_1 (List.mem_of_getElem? (i := 25) rfl)) rfl
theorem gw_590 : Cond.code (⟨"java/lang/Object", "<init>", "()V"⟩ : MethodName) object_method_1_code 1 (Option.none : Option Jvm.ClassFile.FieldType) ∈ GW := gw_t (tb_1 (List.mem_of_getElem? (i := 26) rfl)) rfl
theorem gw_591 : Cond.methodLink "ChallengeAuthority$Authorization" 1 (⟨"java/lang/Object", "<init>", "()V"⟩ : MethodName) ∈ GW := gw_t (tb_1 (List.mem_of_getElem? (i := 140) rfl)) rfl
theorem gw_592 : Cond.methodLink "ChallengeAuthority$Challenge" 1 (⟨"java/lang/Object", "<init>", "()V"⟩ : MethodName) ∈ GW := gw_t (tb_1 (List.mem_of_getElem? (i := 162) rfl)) rfl
theorem gw_593 : Cond.methodLink "ChallengeAuthority$Request" 3 (⟨"java/lang/Object", "<init>", "()V"⟩ : MethodName) ∈ GW := gw_t (tb_1 (List.mem_of_getElem? (i := 74) rfl)) rfl
theorem gw_594 : Cond.methodLink "ChallengeAuthority$Certificate" 3 (⟨"java/lang/Object", "<init>", "()V"⟩ : MethodName) ∈ GW := gw_t (tb_1 (List.mem_of_getElem? (i := 179) rfl)) rfl
theorem gw_595 : Cond.methodLink "ChallengeAuthority$Nonces" 3 (⟨"java/lang/Object", "<init>", "()V"⟩ : MethodName) ∈ GW := gw_t (tb_1 (List.mem_of_getElem? (i := 42) rfl)) rfl
theorem gw_596 : Cond.arrayClass Jvm.ClassFile.FieldType.int ∈ GW := gw_t (tb_1 (List.mem_of_getElem? (i := 51) rfl)) rfl
theorem gw_597 : Cond.methodLink "ChallengeAuthority$Text" 3 (⟨"java/lang/Object", "<init>", "()V"⟩ : MethodName) ∈ GW := gw_t (tb_1 (List.mem_of_getElem? (i := 57) rfl)) rfl
theorem gw_598 : Cond.methodLink "ChallengeAuthority$Order" 3 (⟨"java/lang/Object", "<init>", "()V"⟩ : MethodName) ∈ GW := gw_t (tb_1 (List.mem_of_getElem? (i := 106) rfl)) rfl
theorem ky_int {D : va_G} {cl : List vw_C} {tys : List (ClassId × FieldType)} {s : State} {c1 c2 : ClassId} {k : Nat} (hK : va_K D cl tys s) (h1 : tys[k]? = some (c1, .int)) (hK' : va_K D cl (tys ++ [(c2, .int)]) s) : c2 = c1 := by
  have a : s.vm.findClass ("[" ++ FieldType.int.toString) = some c1 := (hK.2 k _ h1).2
  have b : s.vm.findClass ("[" ++ FieldType.int.toString) = some c2 := (hK'.2 tys.length (c2, .int) (by simp)).2
  exact Option.some.inj (b.symm.trans a)
theorem ky_bool {D : va_G} {cl : List vw_C} {tys : List (ClassId × FieldType)} {s : State} {c1 c2 : ClassId} {k : Nat} (hK : va_K D cl tys s) (h1 : tys[k]? = some (c1, .boolean)) (hK' : va_K D cl (tys ++ [(c2, .boolean)]) s) : c2 = c1 := by
  have a : s.vm.findClass ("[" ++ FieldType.boolean.toString) = some c1 := (hK.2 k _ h1).2
  have b : s.vm.findClass ("[" ++ FieldType.boolean.toString) = some c2 := (hK'.2 tys.length (c2, .boolean) (by simp)).2
  exact Option.some.inj (b.symm.trans a)
theorem ky_long {D : va_G} {cl : List vw_C} {tys : List (ClassId × FieldType)} {s : State} {c1 c2 : ClassId} {k : Nat} (hK : va_K D cl tys s) (h1 : tys[k]? = some (c1, .long)) (hK' : va_K D cl (tys ++ [(c2, .long)]) s) : c2 = c1 := by
  have a : s.vm.findClass ("[" ++ FieldType.long.toString) = some c1 := (hK.2 k _ h1).2
  have b : s.vm.findClass ("[" ++ FieldType.long.toString) = some c2 := (hK'.2 tys.length (c2, .long) (by simp)).2
  exact Option.some.inj (b.symm.trans a)
theorem ky_obj {D : va_G} {cl : List vw_C} {tys : List (ClassId × FieldType)} {s : State} {c1 c2 : ClassId} {C : String} {k : Nat} (hK : va_K D cl tys s) (h1 : tys[k]? = some (c1, .object C)) (hK' : va_K D cl (tys ++ [(c2, .object C)]) s) : c2 = c1 := by
  obtain ⟨-, -, -, -, -, a⟩ := (hK.2 k _ h1).2
  obtain ⟨-, -, -, -, -, b⟩ := (hK'.2 tys.length (c2, .object C) (by simp)).2
  exact Option.some.inj (b.symm.trans a)
/-- what a constructor may write: its own object, and what it makes -/
def B1 (h0 sz : Nat) : Nat → Prop := fun q => q = h0 ∨ sz ≤ q
theorem va_D1 {h0 sz : Nat} {e : va_E} : va_D (B1 h0 sz) [(h0, e)] := by
  refine ⟨fun i j p q hp hq _ => ?_, fun k q hk => ?_⟩
  · have h1 := (List.getElem?_eq_some_iff.mp hp).1
    have h2 := (List.getElem?_eq_some_iff.mp hq).1
    simp at h1 h2
    omega
  · have h1 := (List.getElem?_eq_some_iff.mp hk).1
    have h0 : k = 0 := by simp at h1; exact h1
    subst h0
    cases hk
    exact Or.inl rfl
theorem va_D.re {A : Nat → Prop} {ws ws' : va_W} (h : va_D A ws) (hm : ws'.map (fun q => q.1) = ws.map (fun q => q.1)) : va_D A ws' := by
  have key : ∀ (k : Nat) (q : Nat × va_E), ws'[k]? = some q → ∃ q0, ws[k]? = some q0 ∧ q0.1 = q.1 := by
    intro k q hk
    have h1 : (ws'.map (fun q => q.1))[k]? = some q.1 := by rw [List.getElem?_map, hk]; rfl
    rw [hm, List.getElem?_map] at h1
    cases h2 : ws[k]? with
    | none => rw [h2] at h1; cases h1
    | some q0 => rw [h2] at h1; exact ⟨q0, rfl, Option.some.inj h1⟩
  refine ⟨fun i j p q hp hq he => ?_, fun k q hk => ?_⟩
  · obtain ⟨p0, h1, e1⟩ := key i p hp
    obtain ⟨q0, h2, e2⟩ := key j q hq
    exact h.1 i j p0 q0 h1 h2 (by rw [e1, e2]; exact he)
  · obtain ⟨q0, h1, e1⟩ := key k q hk
    have h9 := h.2 k q0 h1
    rw [e1] at h9
    exact h9
theorem va_P.lasts {D : va_G} {cl : List vw_C} {A : Nat → Prop} {ws w1 : va_W} {q : Nat} {e e' : va_E} {H H1 : Heap} (hP : va_P D cl (ws ++ [(q, e)]) H) (hD : va_D A (ws ++ [(q, e)])) (hP1 : va_P D cl ((q, e') :: w1) H1) (hk : ∀ x : Nat, x < H.size → ¬ B1 q H.size x → H1[x]? = H[x]?) : va_P D cl (ws ++ (q, e') :: w1) H1 := by
  refine va_P.app (fun k x hx => ?_) hP1
  have hlt : k < ws.length := (List.getElem?_eq_some_iff.mp hx).1
  have h1 : (ws ++ [(q, e)])[k]? = some x := by rw [List.getElem?_append_left hlt]; exact hx
  have h2 : (ws ++ [(q, e)])[ws.length]? = some (q, e) := by rw [List.getElem?_append_right (Nat.le_refl _), Nat.sub_self]; rfl
  have hx1 := (hP k x h1).lt
  refine (hP k x h1).kept (hk x.1 hx1 ?_)
  rintro (h3 | h3)
  · have := hD.1 k ws.length x (q, e) h1 h2 h3
    omega
  · omega
theorem va_D.two {D : va_G} {cl : List vw_C} {A : Nat → Prop} {ws : va_W} {q q2 : Nat} {e e' e2 : va_E} {H : Heap} (hD : va_D A (ws ++ [(q, e)])) (hP : va_P D cl (ws ++ [(q, e)]) H) (h2 : H.size ≤ q2) (hA : A q2) : va_D A (ws ++ [(q, e'), (q2, e2)]) := by
  have h1 : va_D A (ws ++ [(q, e')]) := hD.re (by simp)
  have h3 : ws ++ [(q, e'), (q2, e2)] = (ws ++ [(q, e')]) ++ [(q2, e2)] := by simp
  rw [h3]
  refine va_D.app h1 ⟨fun i j p r hp hr _ => ?_, fun k r hk => ?_⟩ (fun i j p r hp hr => ?_)
  · have a1 := (List.getElem?_eq_some_iff.mp hp).1
    have a2 := (List.getElem?_eq_some_iff.mp hr).1
    simp at a1 a2
    omega
  · have a1 := (List.getElem?_eq_some_iff.mp hk).1
    have a0 : k = 0 := by simp at a1; exact a1
    subst a0
    cases hk
    exact hA
  · have a1 := (List.getElem?_eq_some_iff.mp hr).1
    have a0 : j = 0 := by simp at a1; exact a1
    subst a0
    cases hr
    have hm : (ws ++ [(q, e')]).map (fun x => x.1) = (ws ++ [(q, e)]).map (fun x => x.1) := by simp
    have b1 : ((ws ++ [(q, e')]).map (fun x => x.1))[i]? = some p.1 := by rw [List.getElem?_map, hp]; rfl
    rw [hm, List.getElem?_map] at b1
    cases b2 : (ws ++ [(q, e)])[i]? with
    | none => rw [b2] at b1; cases b1
    | some p0 =>
      rw [b2] at b1
      have b3 : p0.1 = p.1 := Option.some.inj b1
      have b4 := (hP i p0 b2).lt
      show p.1 ≠ q2
      omega
theorem zK_blind {av : List Value} {D : va_G} {cl : List vw_C} {tys : List (ClassId × FieldType)} {ws : va_W} {sz : Nat} : FrameBlind (va_Pc av (fun U => U.heap.size = sz ∧ va_P D cl ws U.heap ∧ va_K D cl tys U)) := by
  intro a U g mk h
  obtain ⟨h0, h1, h2, h3⟩ := h
  exact ⟨h0, h1, h2, va_K.moved (u := U) (U := U.calling g mk a) (Vm.Alike.refl U.vm) h3⟩
theorem zK_pre {av : List Value} {D : va_G} {cl : List vw_C} {tys : List (ClassId × FieldType)} {ws : va_W} {s : State} {H : Heap} (hP : va_P D cl ws H) (hK : va_K D cl tys s) : ∀ U : State, U.heap = H → s.WarmedH U.vm → va_Pc av (fun U => U.heap.size = H.size ∧ va_P D cl ws U.heap ∧ va_K D cl tys U) av.toArray U := by
  intro U hU hW
  exact ⟨rfl, by rw [hU], by rw [hU]; exact hP, va_K.moved hW.alike hK⟩
theorem z0_blind {av : List Value} {sz : Nat} : FrameBlind (va_Pc av (fun U => U.heap.size = sz)) := by
  intro a U g mk h
  exact h
theorem z0_pre {av : List Value} {s : State} {H : Heap} : ∀ U : State, U.heap = H → s.WarmedH U.vm → va_Pc av (fun U => U.heap.size = H.size) av.toArray U := by
  intro U hU hW
  exact ⟨rfl, by show U.heap.size = H.size; rw [hU]⟩
abbrev c_Acc_init : ByteArray := prog_2_method_1_code
def ws_Acc_init : List Cond := Cond.code y_Acc_init c_Acc_init 1 (Option.none : Option Jvm.ClassFile.FieldType) :: GW
theorem d_Acc_init_0 : decode c_Acc_init 0 = .ok (.aload_n 0, 1) := by decide +kernel
theorem d_Acc_init_1 : decode c_Acc_init 1 = .ok (.invokespecial 1, 3) := by decide +kernel
theorem d_Acc_init_4 : decode c_Acc_init 4 = .ok (.return_, 1) := by decide +kernel
set_option maxHeartbeats 4000000 in
set_option maxRecDepth 100000 in
theorem mt_Acc_init (l : Launch) (h0 sz : Nat) : Met l y_Acc_init ws_Acc_init ({ frames := 1, cells := 0, slots := 0, locals := 12 } : Room) (va_Pc [.ref h0] (fun U => U.heap.size = sz)) (va_Qv (fun (_ : Unit) => True) (fun (_ : Unit) _ => True) (fun _ => False)) 0 0 (fun _ => False) := by
  refine Met.ofW (cc := c_Acc_init) (maxL := 1) (ret := none) (by decide) rfl ?_
  intro p e s m args below meth c s₁ B hml hv
  obtain ⟨rfl, hsz⟩ := hv
  have hx := B.exec
  have hb := B.bytes
  have hr := B.returns
  have hts : ∀ w ∈ GW, w.before (([.ref h0] : List Value).toArray) s = true := fun w h => atoms_spec (ws := ws_Acc_init) B.pre w (List.mem_cons_of_mem _ h)
  have hown : s.vm.findClass R_Acc = some m.cls := findClass_of_methodNamed B.named
  have hlocks := B.notSynchronized
  have hin : meth.name = "<init>" := (name_of_methodNamed B.named B.method).1
  subst hsz
  have hS : va_S (fun _ => False) s.heap s.heap [] := va_S.rf
  have hl := lv_entry ([.ref h0]) (n := 1) (Nat.le_of_ble_eq_true rfl)
  rw [lg_entry_eq]
  generalize (lg_sl ([.ref h0]) ++ List.replicate (1 - (lg_sl ([.ref h0])).length) Slot.unset).toArray = ls at hl ⊢
  have hl : lv_has ls 1 [(0, .ref h0)] := hl
  refine lv_aload_n hx hb d_Acc_init_0 rfl (lv_at hl 0 rfl) ?_
  refine W.objInit hx hb hown (hts _ gw_588) (hts _ gw_589) (hts _ gw_590) rfl (by rw [hml]; exact hl.1) rfl d_Acc_init_1 (Nat.le_of_ble_eq_true rfl) (Nat.le_of_ble_eq_true rfl) ?_
  refine W.eq (g2 := F0 m 4 ls []) rfl ?_
  exact W.vret hx hb hr (fun t ht _ => ⟨⟨(), rfl, trivial, trivial⟩, hS.F ht⟩) hS.2.2 d_Acc_init_4
abbrev c_Aut_init : ByteArray := prog_3_method_1_code
def ws_Aut_init : List Cond := Cond.code y_Aut_init c_Aut_init 1 (Option.none : Option Jvm.ClassFile.FieldType) :: GW
theorem d_Aut_init_0 : decode c_Aut_init 0 = .ok (.aload_n 0, 1) := by decide +kernel
theorem d_Aut_init_1 : decode c_Aut_init 1 = .ok (.invokespecial 1, 3) := by decide +kernel
theorem d_Aut_init_4 : decode c_Aut_init 4 = .ok (.return_, 1) := by decide +kernel
set_option maxHeartbeats 4000000 in
set_option maxRecDepth 100000 in
theorem mt_Aut_init (l : Launch) (h0 sz : Nat) : Met l y_Aut_init ws_Aut_init ({ frames := 1, cells := 0, slots := 0, locals := 12 } : Room) (va_Pc [.ref h0] (fun U => U.heap.size = sz)) (va_Qv (fun (_ : Unit) => True) (fun (_ : Unit) _ => True) (fun _ => False)) 0 0 (fun _ => False) := by
  refine Met.ofW (cc := c_Aut_init) (maxL := 1) (ret := none) (by decide) rfl ?_
  intro p e s m args below meth c s₁ B hml hv
  obtain ⟨rfl, hsz⟩ := hv
  have hx := B.exec
  have hb := B.bytes
  have hr := B.returns
  have hts : ∀ w ∈ GW, w.before (([.ref h0] : List Value).toArray) s = true := fun w h => atoms_spec (ws := ws_Aut_init) B.pre w (List.mem_cons_of_mem _ h)
  have hown : s.vm.findClass R_Aut = some m.cls := findClass_of_methodNamed B.named
  have hlocks := B.notSynchronized
  have hin : meth.name = "<init>" := (name_of_methodNamed B.named B.method).1
  subst hsz
  have hS : va_S (fun _ => False) s.heap s.heap [] := va_S.rf
  have hl := lv_entry ([.ref h0]) (n := 1) (Nat.le_of_ble_eq_true rfl)
  rw [lg_entry_eq]
  generalize (lg_sl ([.ref h0]) ++ List.replicate (1 - (lg_sl ([.ref h0])).length) Slot.unset).toArray = ls at hl ⊢
  have hl : lv_has ls 1 [(0, .ref h0)] := hl
  refine lv_aload_n hx hb d_Aut_init_0 rfl (lv_at hl 0 rfl) ?_
  refine W.objInit hx hb hown (hts _ gw_591) (hts _ gw_589) (hts _ gw_590) rfl (by rw [hml]; exact hl.1) rfl d_Aut_init_1 (Nat.le_of_ble_eq_true rfl) (Nat.le_of_ble_eq_true rfl) ?_
  refine W.eq (g2 := F0 m 4 ls []) rfl ?_
  exact W.vret hx hb hr (fun t ht _ => ⟨⟨(), rfl, trivial, trivial⟩, hS.F ht⟩) hS.2.2 d_Aut_init_4
abbrev c_Cha_init : ByteArray := prog_5_method_1_code
def ws_Cha_init : List Cond := Cond.code y_Cha_init c_Cha_init 1 (Option.none : Option Jvm.ClassFile.FieldType) :: GW
theorem d_Cha_init_0 : decode c_Cha_init 0 = .ok (.aload_n 0, 1) := by decide +kernel
theorem d_Cha_init_1 : decode c_Cha_init 1 = .ok (.invokespecial 1, 3) := by decide +kernel
theorem d_Cha_init_4 : decode c_Cha_init 4 = .ok (.return_, 1) := by decide +kernel
set_option maxHeartbeats 4000000 in
set_option maxRecDepth 100000 in
theorem mt_Cha_init (l : Launch) (h0 sz : Nat) : Met l y_Cha_init ws_Cha_init ({ frames := 1, cells := 0, slots := 0, locals := 12 } : Room) (va_Pc [.ref h0] (fun U => U.heap.size = sz)) (va_Qv (fun (_ : Unit) => True) (fun (_ : Unit) _ => True) (fun _ => False)) 0 0 (fun _ => False) := by
  refine Met.ofW (cc := c_Cha_init) (maxL := 1) (ret := none) (by decide) rfl ?_
  intro p e s m args below meth c s₁ B hml hv
  obtain ⟨rfl, hsz⟩ := hv
  have hx := B.exec
  have hb := B.bytes
  have hr := B.returns
  have hts : ∀ w ∈ GW, w.before (([.ref h0] : List Value).toArray) s = true := fun w h => atoms_spec (ws := ws_Cha_init) B.pre w (List.mem_cons_of_mem _ h)
  have hown : s.vm.findClass R_Cha = some m.cls := findClass_of_methodNamed B.named
  have hlocks := B.notSynchronized
  have hin : meth.name = "<init>" := (name_of_methodNamed B.named B.method).1
  subst hsz
  have hS : va_S (fun _ => False) s.heap s.heap [] := va_S.rf
  have hl := lv_entry ([.ref h0]) (n := 1) (Nat.le_of_ble_eq_true rfl)
  rw [lg_entry_eq]
  generalize (lg_sl ([.ref h0]) ++ List.replicate (1 - (lg_sl ([.ref h0])).length) Slot.unset).toArray = ls at hl ⊢
  have hl : lv_has ls 1 [(0, .ref h0)] := hl
  refine lv_aload_n hx hb d_Cha_init_0 rfl (lv_at hl 0 rfl) ?_
  refine W.objInit hx hb hown (hts _ gw_592) (hts _ gw_589) (hts _ gw_590) rfl (by rw [hml]; exact hl.1) rfl d_Cha_init_1 (Nat.le_of_ble_eq_true rfl) (Nat.le_of_ble_eq_true rfl) ?_
  refine W.eq (g2 := F0 m 4 ls []) rfl ?_
  exact W.vret hx hb hr (fun t ht _ => ⟨⟨(), rfl, trivial, trivial⟩, hS.F ht⟩) hS.2.2 d_Cha_init_4
abbrev c_Req_init : ByteArray := prog_8_method_1_code
def ws_Req_init : List Cond := Cond.code y_Req_init c_Req_init 1 (Option.none : Option Jvm.ClassFile.FieldType) :: GW
theorem d_Req_init_0 : decode c_Req_init 0 = .ok (.aload_n 0, 1) := by decide +kernel
theorem d_Req_init_1 : decode c_Req_init 1 = .ok (.invokespecial 3, 3) := by decide +kernel
theorem d_Req_init_4 : decode c_Req_init 4 = .ok (.return_, 1) := by decide +kernel
set_option maxHeartbeats 4000000 in
set_option maxRecDepth 100000 in
theorem mt_Req_init (l : Launch) (h0 sz : Nat) : Met l y_Req_init ws_Req_init ({ frames := 1, cells := 0, slots := 0, locals := 12 } : Room) (va_Pc [.ref h0] (fun U => U.heap.size = sz)) (va_Qv (fun (_ : Unit) => True) (fun (_ : Unit) _ => True) (fun _ => False)) 0 0 (fun _ => False) := by
  refine Met.ofW (cc := c_Req_init) (maxL := 1) (ret := none) (by decide) rfl ?_
  intro p e s m args below meth c s₁ B hml hv
  obtain ⟨rfl, hsz⟩ := hv
  have hx := B.exec
  have hb := B.bytes
  have hr := B.returns
  have hts : ∀ w ∈ GW, w.before (([.ref h0] : List Value).toArray) s = true := fun w h => atoms_spec (ws := ws_Req_init) B.pre w (List.mem_cons_of_mem _ h)
  have hown : s.vm.findClass R_Req = some m.cls := findClass_of_methodNamed B.named
  have hlocks := B.notSynchronized
  have hin : meth.name = "<init>" := (name_of_methodNamed B.named B.method).1
  subst hsz
  have hS : va_S (fun _ => False) s.heap s.heap [] := va_S.rf
  have hl := lv_entry ([.ref h0]) (n := 1) (Nat.le_of_ble_eq_true rfl)
  rw [lg_entry_eq]
  generalize (lg_sl ([.ref h0]) ++ List.replicate (1 - (lg_sl ([.ref h0])).length) Slot.unset).toArray = ls at hl ⊢
  have hl : lv_has ls 1 [(0, .ref h0)] := hl
  refine lv_aload_n hx hb d_Req_init_0 rfl (lv_at hl 0 rfl) ?_
  refine W.objInit hx hb hown (hts _ gw_593) (hts _ gw_589) (hts _ gw_590) rfl (by rw [hml]; exact hl.1) rfl d_Req_init_1 (Nat.le_of_ble_eq_true rfl) (Nat.le_of_ble_eq_true rfl) ?_
  refine W.eq (g2 := F0 m 4 ls []) rfl ?_
  exact W.vret hx hb hr (fun t ht _ => ⟨⟨(), rfl, trivial, trivial⟩, hS.F ht⟩) hS.2.2 d_Req_init_4
abbrev c_Cer_init : ByteArray := prog_4_method_1_code
def ws_Cer_init : List Cond := Cond.code y_Cer_init c_Cer_init 1 (Option.none : Option Jvm.ClassFile.FieldType) :: GW
theorem d_Cer_init_0 : decode c_Cer_init 0 = .ok (.aload_n 0, 1) := by decide +kernel
theorem d_Cer_init_1 : decode c_Cer_init 1 = .ok (.invokespecial 3, 3) := by decide +kernel
theorem d_Cer_init_4 : decode c_Cer_init 4 = .ok (.aload_n 0, 1) := by decide +kernel
theorem d_Cer_init_5 : decode c_Cer_init 5 = .ok (.iconst (-1), 1) := by decide +kernel
theorem d_Cer_init_6 : decode c_Cer_init 6 = .ok (.putfield 9, 3) := by decide +kernel
theorem d_Cer_init_9 : decode c_Cer_init 9 = .ok (.return_, 1) := by decide +kernel
set_option maxHeartbeats 4000000 in
set_option maxRecDepth 100000 in
theorem mt_Cer_init (l : Launch) (dC : Nat → ClassId) (dI : Nat → Nat → Nat) (cA : Nat → ClassId) (h0 sz : Nat) (hlt : h0 < sz) : Met l y_Cer_init ws_Cer_init ({ frames := 1, cells := 0, slots := 0, locals := 12 } : Room) (va_Pc [.ref h0] (fun U => U.heap.size = sz ∧ va_P (dC, dI) vwCl [(h0, .inr (8, [.int 0, .int 0, .int 0, .int 0, .int 0, .int 0]))] U.heap ∧ va_K (dC, dI) vwCl (tyC cA) U)) (va_Qv (fun (_ : Unit) => True) (fun (_ : Unit) t => va_P (dC, dI) vwCl [(h0, .inr (8, [.int 0, .int 0, .int 0, .int 0, .int 0, .int (-1)]))] t.heap) (B1 h0 sz)) 0 0 (B1 h0 sz) := by
  refine Met.ofW (cc := c_Cer_init) (maxL := 1) (ret := none) (by decide) rfl ?_
  intro p e s m args below meth c s₁ B hml hv
  obtain ⟨rfl, hsz, hP, hK⟩ := hv
  have hx := B.exec
  have hb := B.bytes
  have hr := B.returns
  have hts : ∀ w ∈ GW, w.before (([.ref h0] : List Value).toArray) s = true := fun w h => atoms_spec (ws := ws_Cer_init) B.pre w (List.mem_cons_of_mem _ h)
  have hown : s.vm.findClass R_Cer = some m.cls := findClass_of_methodNamed B.named
  have hlocks := B.notSynchronized
  have hin : meth.name = "<init>" := (name_of_methodNamed B.named B.method).1
  subst hsz
  have hS : va_S (B1 h0 s.heap.size) s.heap s.heap [] := va_S.rf
  have hA : ∀ q : Nat, s.heap.size ≤ q → B1 h0 s.heap.size q := fun q h => Or.inr h
  have hD : va_D (B1 h0 s.heap.size) [(h0, .inr (8, [.int 0, .int 0, .int 0, .int 0, .int 0, .int 0]))] := va_D1
  have hl := lv_entry ([.ref h0]) (n := 1) (Nat.le_of_ble_eq_true rfl)
  rw [lg_entry_eq]
  generalize (lg_sl ([.ref h0]) ++ List.replicate (1 - (lg_sl ([.ref h0])).length) Slot.unset).toArray = ls at hl ⊢
  have hl : lv_has ls 1 [(0, .ref h0)] := hl
  refine lv_aload_n hx hb d_Cer_init_0 rfl (lv_at hl 0 rfl) ?_
  refine W.objInit hx hb hown (hts _ gw_594) (hts _ gw_589) (hts _ gw_590) rfl (by rw [hml]; exact hl.1) rfl d_Cer_init_1 (Nat.le_of_ble_eq_true rfl) (Nat.le_of_ble_eq_true rfl) ?_
  refine W.eq (g2 := F0 m 4 ls []) rfl ?_
  refine lv_aload_n hx hb d_Cer_init_4 rfl (lv_at hl 0 rfl) ?_
  refine lv_iconst (v := (-1 : Int32)) hx hb d_Cer_init_5 (by decide) ?_
  refine va_put (D := (dC, dI)) (ci := 8) (v := .int (-1)) (ty := .int) (C := R_Cer) (T := T_Cer) (N := 6) hx hb hts in_Cer ty_Cer ty_Cer_ok nm_Cer hown hK hP hD hS 0 rfl rfl 5 (by decide) (hts _ gw_274) (fun _ h9 => h9) rfl (by decide +kernel) rfl rfl (Nat.le_of_ble_eq_true rfl) d_Cer_init_6 (fun H locs hP hD hS => ?_)
  have hP : va_P (dC, dI) vwCl [(h0, .inr (8, [.int 0, .int 0, .int 0, .int 0, .int 0, .int (-1)]))] H := hP
  have hD : va_D (B1 h0 s.heap.size) [(h0, .inr (8, [.int 0, .int 0, .int 0, .int 0, .int 0, .int (-1)]))] := hD
  exact W.vret hx hb hr (fun t ht _ => ⟨⟨(), rfl, trivial, by show va_P _ _ _ t.heap; rw [ht]; exact hP⟩, hS.F ht⟩) hS.2.2 d_Cer_init_9
abbrev c_Non_init : ByteArray := prog_6_method_1_code
def ws_Non_init : List Cond := Cond.code y_Non_init c_Non_init 1 (Option.none : Option Jvm.ClassFile.FieldType) :: GW
theorem d_Non_init_0 : decode c_Non_init 0 = .ok (.aload_n 0, 1) := by decide +kernel
theorem d_Non_init_1 : decode c_Non_init 1 = .ok (.invokespecial 3, 3) := by decide +kernel
theorem d_Non_init_4 : decode c_Non_init 4 = .ok (.aload_n 0, 1) := by decide +kernel
theorem d_Non_init_5 : decode c_Non_init 5 = .ok (.bipush 8, 2) := by decide +kernel
theorem d_Non_init_7 : decode c_Non_init 7 = .ok (.newarray .int, 2) := by decide +kernel
theorem d_Non_init_9 : decode c_Non_init 9 = .ok (.putfield 9, 3) := by decide +kernel
theorem d_Non_init_12 : decode c_Non_init 12 = .ok (.return_, 1) := by decide +kernel
set_option maxHeartbeats 4000000 in
set_option maxRecDepth 100000 in
theorem mt_Non_init (l : Launch) (dC : Nat → ClassId) (dI : Nat → Nat → Nat) (cA : Nat → ClassId) (h0 sz : Nat) (hlt : h0 < sz) : Met l y_Non_init ws_Non_init ({ frames := 1, cells := 1, slots := 8, locals := 12 } : Room) (va_Pc [.ref h0] (fun U => U.heap.size = sz ∧ va_P (dC, dI) vwCl [(h0, .inr (1, [.int 0, .null]))] U.heap ∧ va_K (dC, dI) vwCl (tyC cA) U)) (va_Qv (fun (q : Nat) => sz ≤ q) (fun (q : Nat) t => va_P (dC, dI) vwCl [(h0, .inr (1, [.int 0, .ref q])), (q, .inl (cA 5, 8, .inl (fun _ => 0)))] t.heap) (B1 h0 sz)) 1 8 (B1 h0 sz) := by
  refine Met.ofW (cc := c_Non_init) (maxL := 1) (ret := none) (by decide) rfl ?_
  intro p e s m args below meth c s₁ B hml hv
  obtain ⟨rfl, hsz, hP, hK⟩ := hv
  have hx := B.exec
  have hb := B.bytes
  have hr := B.returns
  have hts : ∀ w ∈ GW, w.before (([.ref h0] : List Value).toArray) s = true := fun w h => atoms_spec (ws := ws_Non_init) B.pre w (List.mem_cons_of_mem _ h)
  have hown : s.vm.findClass R_Non = some m.cls := findClass_of_methodNamed B.named
  have hlocks := B.notSynchronized
  have hin : meth.name = "<init>" := (name_of_methodNamed B.named B.method).1
  subst hsz
  have hS : va_S (B1 h0 s.heap.size) s.heap s.heap [] := va_S.rf
  have hA : ∀ q : Nat, s.heap.size ≤ q → B1 h0 s.heap.size q := fun q h => Or.inr h
  have hD : va_D (B1 h0 s.heap.size) [(h0, .inr (1, [.int 0, .null]))] := va_D1
  have hl := lv_entry ([.ref h0]) (n := 1) (Nat.le_of_ble_eq_true rfl)
  rw [lg_entry_eq]
  generalize (lg_sl ([.ref h0]) ++ List.replicate (1 - (lg_sl ([.ref h0])).length) Slot.unset).toArray = ls at hl ⊢
  have hl : lv_has ls 1 [(0, .ref h0)] := hl
  refine lv_aload_n hx hb d_Non_init_0 rfl (lv_at hl 0 rfl) ?_
  refine W.objInit hx hb hown (hts _ gw_595) (hts _ gw_589) (hts _ gw_590) rfl (by rw [hml]; exact hl.1) rfl d_Non_init_1 (Nat.le_of_ble_eq_true rfl) (Nat.le_of_ble_eq_true rfl) ?_
  refine W.eq (g2 := F0 m 4 ls []) rfl ?_
  refine lv_aload_n hx hb d_Non_init_4 rfl (lv_at hl 0 rfl) ?_
  refine lv_bipush (v := (8 : Int32)) hx hb d_Non_init_5 (by decide) ?_
  refine va_newa (atype := .int) (a0 := (8, .inl (fun _ => 0))) hx hb (hts _ gw_596) rfl hK hP hD hS hA (fun _ => rfl) (by decide) rfl (by decide) (Nat.le_of_ble_eq_true rfl) (Nat.le_of_ble_eq_true rfl) d_Non_init_7 (fun q cA9 H hK9 hP hD hS => ?_)
  have e9 : cA9 = cA 5 := ky_int hK (k := 5) rfl hK9
  subst e9
  have hP : va_P (dC, dI) vwCl [(h0, .inr (1, [.int 0, .null])), (q, .inl (cA 5, 8, .inl (fun _ => 0)))] H := hP
  have hD : va_D (B1 h0 s.heap.size) [(h0, .inr (1, [.int 0, .null])), (q, .inl (cA 5, 8, .inl (fun _ => 0)))] := hD
  refine va_putF (D := (dC, dI)) (ci := 1) (v := .ref q) (ty := (.array .int)) (C := R_Non) (T := T_Non) (N := 2) hx hb hts in_Non ty_Non ty_Non_ok nm_Non hown hK hP hD hS 0 rfl rfl 1 (by decide) (hts _ gw_3) (fun _ h9 => h9) rfl hin rfl (by decide +kernel) rfl rfl (Nat.le_of_ble_eq_true rfl) d_Non_init_9 (fun H locs hP hD hS => ?_)
  have hP : va_P (dC, dI) vwCl [(h0, .inr (1, [.int 0, .ref q])), (q, .inl (cA 5, 8, .inl (fun _ => 0)))] H := hP
  have hD : va_D (B1 h0 s.heap.size) [(h0, .inr (1, [.int 0, .ref q])), (q, .inl (cA 5, 8, .inl (fun _ => 0)))] := hD
  have hq9 : s.heap.size ≤ q := by
    rcases hD.2 1 (q, _) rfl with h9 | h9
    · have h8 := hD.1 0 1 (h0, _) (q, _) rfl rfl (show h0 = q from h9.symm)
      cases h8
    · exact h9
  exact W.vret hx hb hr (fun t ht _ => ⟨⟨q, rfl, hq9, by show va_P _ _ _ t.heap; rw [ht]; exact hP⟩, hS.F ht⟩) hS.2.2 d_Non_init_12
abbrev c_Txt_init : ByteArray := prog_9_method_1_code
def ws_Txt_init : List Cond := Cond.code y_Txt_init c_Txt_init 1 (Option.none : Option Jvm.ClassFile.FieldType) :: GW
theorem d_Txt_init_0 : decode c_Txt_init 0 = .ok (.aload_n 0, 1) := by decide +kernel
theorem d_Txt_init_1 : decode c_Txt_init 1 = .ok (.invokespecial 3, 3) := by decide +kernel
theorem d_Txt_init_4 : decode c_Txt_init 4 = .ok (.aload_n 0, 1) := by decide +kernel
theorem d_Txt_init_5 : decode c_Txt_init 5 = .ok (.bipush 96, 2) := by decide +kernel
theorem d_Txt_init_7 : decode c_Txt_init 7 = .ok (.newarray .int, 2) := by decide +kernel
theorem d_Txt_init_9 : decode c_Txt_init 9 = .ok (.putfield 9, 3) := by decide +kernel
theorem d_Txt_init_12 : decode c_Txt_init 12 = .ok (.return_, 1) := by decide +kernel
set_option maxHeartbeats 4000000 in
set_option maxRecDepth 100000 in
theorem mt_Txt_init (l : Launch) (dC : Nat → ClassId) (dI : Nat → Nat → Nat) (cA : Nat → ClassId) (h0 sz : Nat) (hlt : h0 < sz) : Met l y_Txt_init ws_Txt_init ({ frames := 1, cells := 1, slots := 96, locals := 12 } : Room) (va_Pc [.ref h0] (fun U => U.heap.size = sz ∧ va_P (dC, dI) vwCl [(h0, .inr (2, [.int 0, .null]))] U.heap ∧ va_K (dC, dI) vwCl (tyC cA) U)) (va_Qv (fun (q : Nat) => sz ≤ q) (fun (q : Nat) t => va_P (dC, dI) vwCl [(h0, .inr (2, [.int 0, .ref q])), (q, .inl (cA 6, 96, .inl (fun _ => 0)))] t.heap) (B1 h0 sz)) 1 96 (B1 h0 sz) := by
  refine Met.ofW (cc := c_Txt_init) (maxL := 1) (ret := none) (by decide) rfl ?_
  intro p e s m args below meth c s₁ B hml hv
  obtain ⟨rfl, hsz, hP, hK⟩ := hv
  have hx := B.exec
  have hb := B.bytes
  have hr := B.returns
  have hts : ∀ w ∈ GW, w.before (([.ref h0] : List Value).toArray) s = true := fun w h => atoms_spec (ws := ws_Txt_init) B.pre w (List.mem_cons_of_mem _ h)
  have hown : s.vm.findClass R_Txt = some m.cls := findClass_of_methodNamed B.named
  have hlocks := B.notSynchronized
  have hin : meth.name = "<init>" := (name_of_methodNamed B.named B.method).1
  subst hsz
  have hS : va_S (B1 h0 s.heap.size) s.heap s.heap [] := va_S.rf
  have hA : ∀ q : Nat, s.heap.size ≤ q → B1 h0 s.heap.size q := fun q h => Or.inr h
  have hD : va_D (B1 h0 s.heap.size) [(h0, .inr (2, [.int 0, .null]))] := va_D1
  have hl := lv_entry ([.ref h0]) (n := 1) (Nat.le_of_ble_eq_true rfl)
  rw [lg_entry_eq]
  generalize (lg_sl ([.ref h0]) ++ List.replicate (1 - (lg_sl ([.ref h0])).length) Slot.unset).toArray = ls at hl ⊢
  have hl : lv_has ls 1 [(0, .ref h0)] := hl
  refine lv_aload_n hx hb d_Txt_init_0 rfl (lv_at hl 0 rfl) ?_
  refine W.objInit hx hb hown (hts _ gw_597) (hts _ gw_589) (hts _ gw_590) rfl (by rw [hml]; exact hl.1) rfl d_Txt_init_1 (Nat.le_of_ble_eq_true rfl) (Nat.le_of_ble_eq_true rfl) ?_
  refine W.eq (g2 := F0 m 4 ls []) rfl ?_
  refine lv_aload_n hx hb d_Txt_init_4 rfl (lv_at hl 0 rfl) ?_
  refine lv_bipush (v := (96 : Int32)) hx hb d_Txt_init_5 (by decide) ?_
  refine va_newa (atype := .int) (a0 := (96, .inl (fun _ => 0))) hx hb (hts _ gw_596) rfl hK hP hD hS hA (fun _ => rfl) (by decide) rfl (by decide) (Nat.le_of_ble_eq_true rfl) (Nat.le_of_ble_eq_true rfl) d_Txt_init_7 (fun q cA9 H hK9 hP hD hS => ?_)
  have e9 : cA9 = cA 6 := ky_int hK (k := 6) rfl hK9
  subst e9
  have hP : va_P (dC, dI) vwCl [(h0, .inr (2, [.int 0, .null])), (q, .inl (cA 6, 96, .inl (fun _ => 0)))] H := hP
  have hD : va_D (B1 h0 s.heap.size) [(h0, .inr (2, [.int 0, .null])), (q, .inl (cA 6, 96, .inl (fun _ => 0)))] := hD
  refine va_putF (D := (dC, dI)) (ci := 2) (v := .ref q) (ty := (.array .int)) (C := R_Txt) (T := T_Txt) (N := 2) hx hb hts in_Txt ty_Txt ty_Txt_ok nm_Txt hown hK hP hD hS 0 rfl rfl 1 (by decide) (hts _ gw_227) (fun _ h9 => h9) rfl hin rfl (by decide +kernel) rfl rfl (Nat.le_of_ble_eq_true rfl) d_Txt_init_9 (fun H locs hP hD hS => ?_)
  have hP : va_P (dC, dI) vwCl [(h0, .inr (2, [.int 0, .ref q])), (q, .inl (cA 6, 96, .inl (fun _ => 0)))] H := hP
  have hD : va_D (B1 h0 s.heap.size) [(h0, .inr (2, [.int 0, .ref q])), (q, .inl (cA 6, 96, .inl (fun _ => 0)))] := hD
  have hq9 : s.heap.size ≤ q := by
    rcases hD.2 1 (q, _) rfl with h9 | h9
    · have h8 := hD.1 0 1 (h0, _) (q, _) rfl rfl (show h0 = q from h9.symm)
      cases h8
    · exact h9
  exact W.vret hx hb hr (fun t ht _ => ⟨⟨q, rfl, hq9, by show va_P _ _ _ t.heap; rw [ht]; exact hP⟩, hS.F ht⟩) hS.2.2 d_Txt_init_12
abbrev c_Ord_init : ByteArray := prog_7_method_1_code
def ws_Ord_init : List Cond := Cond.code y_Ord_init c_Ord_init 1 (Option.none : Option Jvm.ClassFile.FieldType) :: GW
theorem d_Ord_init_0 : decode c_Ord_init 0 = .ok (.aload_n 0, 1) := by decide +kernel
theorem d_Ord_init_1 : decode c_Ord_init 1 = .ok (.invokespecial 3, 3) := by decide +kernel
theorem d_Ord_init_4 : decode c_Ord_init 4 = .ok (.aload_n 0, 1) := by decide +kernel
theorem d_Ord_init_5 : decode c_Ord_init 5 = .ok (.iconst (-1), 1) := by decide +kernel
theorem d_Ord_init_6 : decode c_Ord_init 6 = .ok (.putfield 9, 3) := by decide +kernel
theorem d_Ord_init_9 : decode c_Ord_init 9 = .ok (.aload_n 0, 1) := by decide +kernel
theorem d_Ord_init_10 : decode c_Ord_init 10 = .ok (.iconst 4, 1) := by decide +kernel
theorem d_Ord_init_11 : decode c_Ord_init 11 = .ok (.newarray .int, 2) := by decide +kernel
theorem d_Ord_init_13 : decode c_Ord_init 13 = .ok (.putfield 15, 3) := by decide +kernel
theorem d_Ord_init_16 : decode c_Ord_init 16 = .ok (.return_, 1) := by decide +kernel
set_option maxHeartbeats 4000000 in
set_option maxRecDepth 100000 in
theorem mt_Ord_init (l : Launch) (dC : Nat → ClassId) (dI : Nat → Nat → Nat) (cA : Nat → ClassId) (h0 sz : Nat) (hlt : h0 < sz) : Met l y_Ord_init ws_Ord_init ({ frames := 1, cells := 1, slots := 4, locals := 12 } : Room) (va_Pc [.ref h0] (fun U => U.heap.size = sz ∧ va_P (dC, dI) vwCl [(h0, .inr (5, [.int 0, .int 0, .int 0, .int 0, .int 0, .int 0, .null]))] U.heap ∧ va_K (dC, dI) vwCl (tyC cA) U)) (va_Qv (fun (q : Nat) => sz ≤ q) (fun (q : Nat) t => va_P (dC, dI) vwCl [(h0, .inr (5, [.int 0, .int 0, .int 0, .int 0, .int (-1), .int 0, .ref q])), (q, .inl (cA 7, 4, .inl (fun _ => 0)))] t.heap) (B1 h0 sz)) 1 4 (B1 h0 sz) := by
  refine Met.ofW (cc := c_Ord_init) (maxL := 1) (ret := none) (by decide) rfl ?_
  intro p e s m args below meth c s₁ B hml hv
  obtain ⟨rfl, hsz, hP, hK⟩ := hv
  have hx := B.exec
  have hb := B.bytes
  have hr := B.returns
  have hts : ∀ w ∈ GW, w.before (([.ref h0] : List Value).toArray) s = true := fun w h => atoms_spec (ws := ws_Ord_init) B.pre w (List.mem_cons_of_mem _ h)
  have hown : s.vm.findClass R_Ord = some m.cls := findClass_of_methodNamed B.named
  have hlocks := B.notSynchronized
  have hin : meth.name = "<init>" := (name_of_methodNamed B.named B.method).1
  subst hsz
  have hS : va_S (B1 h0 s.heap.size) s.heap s.heap [] := va_S.rf
  have hA : ∀ q : Nat, s.heap.size ≤ q → B1 h0 s.heap.size q := fun q h => Or.inr h
  have hD : va_D (B1 h0 s.heap.size) [(h0, .inr (5, [.int 0, .int 0, .int 0, .int 0, .int 0, .int 0, .null]))] := va_D1
  have hl := lv_entry ([.ref h0]) (n := 1) (Nat.le_of_ble_eq_true rfl)
  rw [lg_entry_eq]
  generalize (lg_sl ([.ref h0]) ++ List.replicate (1 - (lg_sl ([.ref h0])).length) Slot.unset).toArray = ls at hl ⊢
  have hl : lv_has ls 1 [(0, .ref h0)] := hl
  refine lv_aload_n hx hb d_Ord_init_0 rfl (lv_at hl 0 rfl) ?_
  refine W.objInit hx hb hown (hts _ gw_598) (hts _ gw_589) (hts _ gw_590) rfl (by rw [hml]; exact hl.1) rfl d_Ord_init_1 (Nat.le_of_ble_eq_true rfl) (Nat.le_of_ble_eq_true rfl) ?_
  refine W.eq (g2 := F0 m 4 ls []) rfl ?_
  refine lv_aload_n hx hb d_Ord_init_4 rfl (lv_at hl 0 rfl) ?_
  refine lv_iconst (v := (-1 : Int32)) hx hb d_Ord_init_5 (by decide) ?_
  refine va_put (D := (dC, dI)) (ci := 5) (v := .int (-1)) (ty := .int) (C := R_Ord) (T := T_Ord) (N := 7) hx hb hts in_Ord ty_Ord ty_Ord_ok nm_Ord hown hK hP hD hS 0 rfl rfl 4 (by decide) (hts _ gw_265) (fun _ h9 => h9) rfl (by decide +kernel) rfl rfl (Nat.le_of_ble_eq_true rfl) d_Ord_init_6 (fun H locs hP hD hS => ?_)
  have hP : va_P (dC, dI) vwCl [(h0, .inr (5, [.int 0, .int 0, .int 0, .int 0, .int (-1), .int 0, .null]))] H := hP
  have hD : va_D (B1 h0 s.heap.size) [(h0, .inr (5, [.int 0, .int 0, .int 0, .int 0, .int (-1), .int 0, .null]))] := hD
  refine lv_aload_n hx hb d_Ord_init_9 rfl (lv_at hl 0 rfl) ?_
  refine lv_iconst (v := (4 : Int32)) hx hb d_Ord_init_10 (by decide) ?_
  refine va_newa (atype := .int) (a0 := (4, .inl (fun _ => 0))) hx hb (hts _ gw_596) rfl hK hP hD hS hA (fun _ => rfl) (by decide) rfl (by decide) (Nat.le_of_ble_eq_true rfl) (Nat.le_of_ble_eq_true rfl) d_Ord_init_11 (fun q cA9 H hK9 hP hD hS => ?_)
  have e9 : cA9 = cA 7 := ky_int hK (k := 7) rfl hK9
  subst e9
  have hP : va_P (dC, dI) vwCl [(h0, .inr (5, [.int 0, .int 0, .int 0, .int 0, .int (-1), .int 0, .null])), (q, .inl (cA 7, 4, .inl (fun _ => 0)))] H := hP
  have hD : va_D (B1 h0 s.heap.size) [(h0, .inr (5, [.int 0, .int 0, .int 0, .int 0, .int (-1), .int 0, .null])), (q, .inl (cA 7, 4, .inl (fun _ => 0)))] := hD
  refine va_putF (D := (dC, dI)) (ci := 5) (v := .ref q) (ty := (.array .int)) (C := R_Ord) (T := T_Ord) (N := 7) hx hb hts in_Ord ty_Ord ty_Ord_ok nm_Ord hown hK hP hD hS 0 rfl rfl 6 (by decide) (hts _ gw_91) (fun _ h9 => h9) rfl hin rfl (by decide +kernel) rfl rfl (Nat.le_of_ble_eq_true rfl) d_Ord_init_13 (fun H locs hP hD hS => ?_)
  have hP : va_P (dC, dI) vwCl [(h0, .inr (5, [.int 0, .int 0, .int 0, .int 0, .int (-1), .int 0, .ref q])), (q, .inl (cA 7, 4, .inl (fun _ => 0)))] H := hP
  have hD : va_D (B1 h0 s.heap.size) [(h0, .inr (5, [.int 0, .int 0, .int 0, .int 0, .int (-1), .int 0, .ref q])), (q, .inl (cA 7, 4, .inl (fun _ => 0)))] := hD
  have hq9 : s.heap.size ≤ q := by
    rcases hD.2 1 (q, _) rfl with h9 | h9
    · have h8 := hD.1 0 1 (h0, _) (q, _) rfl rfl (show h0 = q from h9.symm)
      cases h8
    · exact h9
  exact W.vret hx hb hr (fun t ht _ => ⟨⟨q, rfl, hq9, by show va_P _ _ _ t.heap; rw [ht]; exact hP⟩, hS.F ht⟩) hS.2.2 d_Ord_init_16
