theorem gw_540 : Cond.code y_CA_account prog_1_method_5_code 5 (Option.some Jvm.ClassFile.FieldType.int) ∈ GW := gw_t (tb_2 (List.mem_of_getElem? (i := 81) rfl)) rfl
theorem gw_541 : Cond.methodLink "ChallengeAuthorityLaw" 7 y_CA_account ∈ GW := gw_t (tb_2 (List.mem_of_getElem? (i := 78) rfl)) rfl
theorem gw_542 : Cond.instanceMethod y_CA_account ∈ GW := gw_t (tb_2 (List.mem_of_getElem? (i := 79) rfl)) rfl
theorem gw_543 : Cond.selects "ChallengeAuthority" y_CA_account y_CA_account ∈ GW := gw_t (tb_2 (List.mem_of_getElem? (i := 80) rfl)) rfl
theorem gw_544 : Cond.classLink "ChallengeAuthorityLaw" 13 "java/lang/UnsupportedOperationException" ∈ GW := gw_t (tb_2 (List.mem_of_getElem? (i := 75) rfl)) rfl
theorem gw_545 : Cond.classLink "ChallengeAuthorityLaw" 15 "java/lang/IllegalArgumentException" ∈ GW := gw_t (tb_2 (List.mem_of_getElem? (i := 76) rfl)) rfl
theorem gw_546 : Cond.classLink "ChallengeAuthorityLaw" 17 "java/lang/IllegalStateException" ∈ GW := gw_t (tb_2 (List.mem_of_getElem? (i := 77) rfl)) rfl
theorem gw_547 : Cond.code y_CA_order prog_1_method_6_code 7 (Option.some Jvm.ClassFile.FieldType.int) ∈ GW := gw_t (tb_2 (List.mem_of_getElem? (i := 199) rfl)) rfl
theorem gw_548 : Cond.methodLink "ChallengeAuthorityLaw" 19 y_CA_order ∈ GW := gw_t (tb_2 (List.mem_of_getElem? (i := 196) rfl)) rfl
theorem gw_549 : Cond.instanceMethod y_CA_order ∈ GW := gw_t (tb_2 (List.mem_of_getElem? (i := 197) rfl)) rfl
theorem gw_550 : Cond.selects "ChallengeAuthority" y_CA_order y_CA_order ∈ GW := gw_t (tb_2 (List.mem_of_getElem? (i := 198) rfl)) rfl
theorem gw_551 : Cond.classLink "ChallengeAuthorityLaw" 23 "java/util/NoSuchElementException" ∈ GW := gw_t (tb_2 (List.mem_of_getElem? (i := 195) rfl)) rfl
theorem gw_552 : Cond.code y_CA_answer prog_1_method_7_code 8 (Option.some Jvm.ClassFile.FieldType.int) ∈ GW := gw_t (tb_3 (List.mem_of_getElem? (i := 34) rfl)) rfl
theorem gw_553 : Cond.methodLink "ChallengeAuthorityLaw" 25 y_CA_answer ∈ GW := gw_t (tb_3 (List.mem_of_getElem? (i := 31) rfl)) rfl
theorem gw_554 : Cond.instanceMethod y_CA_answer ∈ GW := gw_t (tb_3 (List.mem_of_getElem? (i := 32) rfl)) rfl
theorem gw_555 : Cond.selects "ChallengeAuthority" y_CA_answer y_CA_answer ∈ GW := gw_t (tb_3 (List.mem_of_getElem? (i := 33) rfl)) rfl
theorem gw_556 : Cond.code y_CA_probe prog_1_method_8_code 7 (Option.some Jvm.ClassFile.FieldType.int) ∈ GW := gw_t (tb_3 (List.mem_of_getElem? (i := 45) rfl)) rfl
theorem gw_557 : Cond.methodLink "ChallengeAuthorityLaw" 28 y_CA_probe ∈ GW := gw_t (tb_3 (List.mem_of_getElem? (i := 42) rfl)) rfl
theorem gw_558 : Cond.instanceMethod y_CA_probe ∈ GW := gw_t (tb_3 (List.mem_of_getElem? (i := 43) rfl)) rfl
theorem gw_559 : Cond.selects "ChallengeAuthority" y_CA_probe y_CA_probe ∈ GW := gw_t (tb_3 (List.mem_of_getElem? (i := 44) rfl)) rfl
theorem gw_560 : Cond.code y_CA_finish prog_1_method_9_code 6 (Option.some Jvm.ClassFile.FieldType.int) ∈ GW := gw_t (tb_3 (List.mem_of_getElem? (i := 55) rfl)) rfl
theorem gw_561 : Cond.methodLink "ChallengeAuthorityLaw" 31 y_CA_finish ∈ GW := gw_t (tb_3 (List.mem_of_getElem? (i := 52) rfl)) rfl
theorem gw_562 : Cond.instanceMethod y_CA_finish ∈ GW := gw_t (tb_3 (List.mem_of_getElem? (i := 53) rfl)) rfl
theorem gw_563 : Cond.selects "ChallengeAuthority" y_CA_finish y_CA_finish ∈ GW := gw_t (tb_3 (List.mem_of_getElem? (i := 54) rfl)) rfl
theorem gw_564 : Cond.code y_CA_revoke prog_1_method_11_code 8 (Option.some Jvm.ClassFile.FieldType.int) ∈ GW := gw_t (tb_3 (List.mem_of_getElem? (i := 103) rfl)) rfl
theorem gw_565 : Cond.methodLink "ChallengeAuthorityLaw" 35 y_CA_revoke ∈ GW := gw_t (tb_3 (List.mem_of_getElem? (i := 100) rfl)) rfl
theorem gw_566 : Cond.instanceMethod y_CA_revoke ∈ GW := gw_t (tb_3 (List.mem_of_getElem? (i := 101) rfl)) rfl
theorem gw_567 : Cond.selects "ChallengeAuthority" y_CA_revoke y_CA_revoke ∈ GW := gw_t (tb_3 (List.mem_of_getElem? (i := 102) rfl)) rfl
theorem gw_568 : Cond.code y_CA_deactivate prog_1_method_12_code 6 (Option.some Jvm.ClassFile.FieldType.int) ∈ GW := gw_t (tb_3 (List.mem_of_getElem? (i := 114) rfl)) rfl
theorem gw_569 : Cond.methodLink "ChallengeAuthorityLaw" 38 y_CA_deactivate ∈ GW := gw_t (tb_3 (List.mem_of_getElem? (i := 111) rfl)) rfl
theorem gw_570 : Cond.instanceMethod y_CA_deactivate ∈ GW := gw_t (tb_3 (List.mem_of_getElem? (i := 112) rfl)) rfl
theorem gw_571 : Cond.selects "ChallengeAuthority" y_CA_deactivate y_CA_deactivate ∈ GW := gw_t (tb_3 (List.mem_of_getElem? (i := 113) rfl)) rfl
theorem gw_572 : Cond.code y_CA_rollover prog_1_method_13_code 8 (Option.some Jvm.ClassFile.FieldType.int) ∈ GW := gw_t (tb_3 (List.mem_of_getElem? (i := 129) rfl)) rfl
theorem gw_573 : Cond.methodLink "ChallengeAuthorityLaw" 41 y_CA_rollover ∈ GW := gw_t (tb_3 (List.mem_of_getElem? (i := 126) rfl)) rfl
theorem gw_574 : Cond.instanceMethod y_CA_rollover ∈ GW := gw_t (tb_3 (List.mem_of_getElem? (i := 127) rfl)) rfl
theorem gw_575 : Cond.selects "ChallengeAuthority" y_CA_rollover y_CA_rollover ∈ GW := gw_t (tb_3 (List.mem_of_getElem? (i := 128) rfl)) rfl
theorem gw_576 : Cond.code y_CA_tick prog_1_method_17_code 3 (Option.some Jvm.ClassFile.FieldType.int) ∈ GW := gw_t (tb_3 (List.mem_of_getElem? (i := 136) rfl)) rfl
theorem gw_577 : Cond.methodLink "ChallengeAuthorityLaw" 44 y_CA_tick ∈ GW := gw_t (tb_3 (List.mem_of_getElem? (i := 133) rfl)) rfl
theorem gw_578 : Cond.instanceMethod y_CA_tick ∈ GW := gw_t (tb_3 (List.mem_of_getElem? (i := 134) rfl)) rfl
theorem gw_579 : Cond.selects "ChallengeAuthority" y_CA_tick y_CA_tick ∈ GW := gw_t (tb_3 (List.mem_of_getElem? (i := 135) rfl)) rfl
theorem gw_580 : Cond.code y_CA_state prog_1_method_19_code 3 (Option.some Jvm.ClassFile.FieldType.int) ∈ GW := gw_t (tb_3 (List.mem_of_getElem? (i := 153) rfl)) rfl
theorem gw_581 : Cond.methodLink "ChallengeAuthorityLaw" 48 y_CA_state ∈ GW := gw_t (tb_3 (List.mem_of_getElem? (i := 150) rfl)) rfl
theorem gw_582 : Cond.instanceMethod y_CA_state ∈ GW := gw_t (tb_3 (List.mem_of_getElem? (i := 151) rfl)) rfl
theorem gw_583 : Cond.selects "ChallengeAuthority" y_CA_state y_CA_state ∈ GW := gw_t (tb_3 (List.mem_of_getElem? (i := 152) rfl)) rfl
theorem gw_584 : Cond.code y_CA_detail prog_1_method_20_code 4 (Option.some Jvm.ClassFile.FieldType.int) ∈ GW := gw_t (tb_3 (List.mem_of_getElem? (i := 165) rfl)) rfl
theorem gw_585 : Cond.methodLink "ChallengeAuthorityLaw" 52 y_CA_detail ∈ GW := gw_t (tb_3 (List.mem_of_getElem? (i := 162) rfl)) rfl
theorem gw_586 : Cond.instanceMethod y_CA_detail ∈ GW := gw_t (tb_3 (List.mem_of_getElem? (i := 163) rfl)) rfl
theorem gw_587 : Cond.selects "ChallengeAuthority" y_CA_detail y_CA_detail ∈ GW := gw_t (tb_3 (List.mem_of_getElem? (i := 164) rfl)) rfl
def R_LW : String := "ChallengeAuthorityLaw"
def wdL (cA : Nat → ClassId) (ad : Nat → Nat) (cL : ClassId) (ao : Nat) (X : ST) (O : Nat → Int64) : va_W := wdC cA ad X ++ [(ao, .inl (cL, 1, .inr (.inl O)))]
def CL (ad : Nat → Nat) (ao sz : Nat) : Nat → Prop := fun q => CA ad 125 sz q ∨ q = ao
section WL
variable {cA : Nat → ClassId} {ad : Nat → Nat} {cL : ClassId} {ao sz : Nat} {X X' : ST} {O O' : Nat → Int64} {D : va_G} {cl : List vw_C} {H H1 : Heap}
theorem wdC_len : (wdC cA ad X).length = 125 := by
  unfold wdC
  rw [List.length_map, List.length_range]
theorem atL_C {c : Nat} {q : Nat × va_E} (h : (wdC cA ad X)[c]? = some q) : (wdL cA ad cL ao X O)[c]? = some q := by
  have hlt : c < (wdC cA ad X).length := (List.getElem?_eq_some_iff.mp h).1
  unfold wdL
  rw [List.getElem?_append_left hlt]
  exact h
theorem atL_o : (wdL cA ad cL ao X O)[125]? = some (ao, .inl (cL, 1, .inr (.inl O))) := by
  unfold wdL
  rw [List.getElem?_append_right (by rw [wdC_len]; exact Nat.le_refl _), wdC_len]
  rfl
theorem stL_o : (wdL cA ad cL ao X O).set 125 (ao, .inl (cL, 1, .inr (.inl O'))) = wdL cA ad cL ao X O' := by
  unfold wdL
  rw [List.set_append_right _ _ (by rw [wdC_len]; exact Nat.le_refl _), wdC_len]
  rfl
theorem zwL_no (hO : ∀ k : Nat, k < 125 → ao ≠ ad k) (h : ao < sz) : ¬ CA ad 125 sz ao := by
  rintro (⟨k, hk, e⟩ | h2)
  · exact hO k hk e
  · exact absurd h (Nat.not_lt.mpr h2)
theorem zwL_D (hI : INJ ad 125) (hO : ∀ k : Nat, k < 125 → ao ≠ ad k) : va_D (CL ad ao sz) (wdL cA ad cL ao X O) := by
  refine va_D.app ((zwC_D (sz := sz) hI).weaken (fun k q _ h => Or.inl h)) ⟨fun i j p q hp hq _ => ?_, fun k q hk => ?_⟩ (fun i j p q hp hq => ?_)
  · have h1 := (List.getElem?_eq_some_iff.mp hp).1
    have h2 := (List.getElem?_eq_some_iff.mp hq).1
    simp at h1 h2
    omega
  · have h1 := (List.getElem?_eq_some_iff.mp hk).1
    have h0 : k = 0 := by simp at h1; exact h1
    subst h0
    cases hk
    exact Or.inr rfl
  · have h1 := (List.getElem?_eq_some_iff.mp hq).1
    have h0 : j = 0 := by simp at h1; exact h1
    subst h0
    cases hq
    rcases Nat.lt_or_ge i 125 with hi | hi
    · rw [zwC_at hi] at hp
      cases hp
      exact fun e => hO i hi e.symm
    · rw [zwC_no hi] at hp
      cases hp
theorem zwL_C (h : va_P D cl (wdL cA ad cL ao X O) H) : va_P D cl (wdC cA ad X) H := fun k q hk => h k q (atL_C hk)
theorem zwL_join (h1 : va_P D cl (wdC cA ad X') H1) (h2 : va_P D cl (wdL cA ad cL ao X O) H) (hk : H1[ao]? = H[ao]?) : va_P D cl (wdL cA ad cL ao X' O) H1 := by
  refine va_P.app h1 (fun k q hq => ?_)
  have h9 := (List.getElem?_eq_some_iff.mp hq).1
  have h0 : k = 0 := by simp at h9; exact h9
  subst h0
  cases hq
  exact (h2 125 _ atL_o).kept hk
end WL
def NCP : List (String × String) := [("java/util/NoSuchElementException", "java/lang/UnsupportedOperationException"), ("java/util/NoSuchElementException", "java/lang/IllegalArgumentException"), ("java/util/NoSuchElementException", "java/lang/IllegalStateException"), ("java/lang/UnsupportedOperationException", "java/util/NoSuchElementException"), ("java/lang/UnsupportedOperationException", "java/lang/IllegalArgumentException"), ("java/lang/UnsupportedOperationException", "java/lang/IllegalStateException"), ("java/lang/IllegalArgumentException", "java/util/NoSuchElementException"), ("java/lang/IllegalArgumentException", "java/lang/UnsupportedOperationException"), ("java/lang/IllegalArgumentException", "java/lang/IllegalStateException"), ("java/lang/IllegalStateException", "java/util/NoSuchElementException"), ("java/lang/IllegalStateException", "java/lang/UnsupportedOperationException"), ("java/lang/IllegalStateException", "java/lang/IllegalArgumentException")]
def GL (dC : Nat → ClassId) (dI : Nat → Nat → Nat) (cA : Nat → ClassId) (ad : Nat → Nat) (cL : ClassId) (U : State) : Prop := GC dC dI cA ad U ∧ va_K (dC, dI) vwCl [(cL, .long)] U ∧ ∀ q ∈ NCP, va_Nc q.1 q.2 U
def PL (dC : Nat → ClassId) (dI : Nat → Nat → Nat) (cA : Nat → ClassId) (ad : Nat → Nat) (cL : ClassId) (ao sz : Nat) (X : ST) (O : Nat → Int64) (U : State) : Prop := U.heap.size = sz ∧ va_P (dC, dI) vwCl (wdL cA ad cL ao X O) U.heap ∧ GL dC dI cA ad cL U
theorem GL.moved {dC : Nat → ClassId} {dI : Nat → Nat → Nat} {cA : Nat → ClassId} {ad : Nat → Nat} {cL : ClassId} {s U : State} (h : GL dC dI cA ad cL s) (hW : s.WarmedH U.vm) (hk : ∀ q : Nat, q < s.heap.size → (∀ j : Nat, j < 125 → q ≠ ad j) → U.heap[q]? = s.heap[q]?) : GL dC dI cA ad cL U :=
  ⟨h.1.moved hW hk, va_K.moved hW.alike h.2.1, fun q hq => (h.2.2 q hq).moved hW.alike⟩
theorem zwL_blind {av : List Value} {dC : Nat → ClassId} {dI : Nat → Nat → Nat} {cA : Nat → ClassId} {ad : Nat → Nat} {cL : ClassId} {ao sz : Nat} {X : ST} {O : Nat → Int64} : FrameBlind (va_Pc av (fun U => PL dC dI cA ad cL ao sz X O U)) := by
  intro a U g mk h
  obtain ⟨h0, h1, h2, h3⟩ := h
  exact ⟨h0, h1, h2, GL.moved (U := U.calling g mk a) h3 (State.WarmedH.refl U) (fun _ _ _ => rfl)⟩
abbrev c_LW_account : ByteArray := method_3_code
def y_LW_account : MethodName := ⟨"ChallengeAuthorityLaw", "account", "(LChallengeAuthority;III[J)I"⟩
def ws_LW_account : List Cond := Cond.codeWith y_LW_account c_LW_account 6 (Option.some Jvm.ClassFile.FieldType.int) [((0 : Nat), (12 : Nat), (15 : Nat), (13 : Nat)), ((0 : Nat), (12 : Nat), (19 : Nat), (15 : Nat)), ((0 : Nat), (12 : Nat), (23 : Nat), (17 : Nat))] :: GW
theorem d_LW_account_0 : decode c_LW_account 0 = .ok (.aload 4, 2) := by decide +kernel
theorem d_LW_account_2 : decode c_LW_account 2 = .ok (.iconst 0, 1) := by decide +kernel
theorem d_LW_account_3 : decode c_LW_account 3 = .ok (.aload_n 0, 1) := by decide +kernel
theorem d_LW_account_4 : decode c_LW_account 4 = .ok (.iload_n 1, 1) := by decide +kernel
theorem d_LW_account_5 : decode c_LW_account 5 = .ok (.iload_n 2, 1) := by decide +kernel
theorem d_LW_account_6 : decode c_LW_account 6 = .ok (.iload_n 3, 1) := by decide +kernel
theorem d_LW_account_7 : decode c_LW_account 7 = .ok (.invokevirtual 7, 3) := by decide +kernel
theorem d_LW_account_10 : decode c_LW_account 10 = .ok (.i2l, 1) := by decide +kernel
theorem d_LW_account_11 : decode c_LW_account 11 = .ok (.lastore, 1) := by decide +kernel
theorem d_LW_account_12 : decode c_LW_account 12 = .ok (.goto 15, 3) := by decide +kernel
theorem d_LW_account_15 : decode c_LW_account 15 = .ok (.astore 5, 2) := by decide +kernel
theorem d_LW_account_17 : decode c_LW_account 17 = .ok (.iconst 1, 1) := by decide +kernel
theorem d_LW_account_18 : decode c_LW_account 18 = .ok (.ireturn, 1) := by decide +kernel
theorem d_LW_account_19 : decode c_LW_account 19 = .ok (.astore 5, 2) := by decide +kernel
theorem d_LW_account_21 : decode c_LW_account 21 = .ok (.iconst 2, 1) := by decide +kernel
theorem d_LW_account_22 : decode c_LW_account 22 = .ok (.ireturn, 1) := by decide +kernel
theorem d_LW_account_23 : decode c_LW_account 23 = .ok (.astore 5, 2) := by decide +kernel
theorem d_LW_account_25 : decode c_LW_account 25 = .ok (.iconst 3, 1) := by decide +kernel
theorem d_LW_account_26 : decode c_LW_account 26 = .ok (.ireturn, 1) := by decide +kernel
theorem d_LW_account_27 : decode c_LW_account 27 = .ok (.iconst 0, 1) := by decide +kernel
theorem d_LW_account_28 : decode c_LW_account 28 = .ok (.ireturn, 1) := by decide +kernel
def wp_LW_account (post : Int32 → ST → (Nat → Int64) → Prop) (X : ST) (O : Nat → Int64) (a1 : Int32) (a2 : Int32) (a3 : Int32) : Prop := wp_CA_account (fun (r : Int32) (X1 : ST) => post 0 X1 (vp_updL O 0 r.toInt64)) (fun (E : String) (X1 : ST) => (E = "java/lang/UnsupportedOperationException" ∧ post 1 X1 O) ∨ (E = "java/lang/IllegalArgumentException" ∧ post 2 X1 O) ∨ (E = "java/lang/IllegalStateException" ∧ post 3 X1 O)) X a1 a2 a3
set_option maxHeartbeats 4000000 in
set_option maxRecDepth 100000 in
theorem mt_LW_account (l : Launch) (hl9 : l.stackTraces = false) (dC : Nat → ClassId) (dI : Nat → Nat → Nat) (cA : Nat → ClassId) (ad : Nat → Nat) (hI : INJ ad 125) (cL : ClassId) (ao : Nat) (hO : ∀ k : Nat, k < 125 → ao ≠ ad k) (sz : Nat) {X : ST} {O : Nat → Int64} {a1 : Int32} {a2 : Int32} {a3 : Int32} {post : Int32 → ST → (Nat → Int64) → Prop} (hw : wp_LW_account post X O a1 a2 a3) : Met l y_LW_account ws_LW_account ({ frames := 7, cells := 1, slots := 6, locals := 114 } : Room) (va_Pc [.ref (ad 0), .int a1, .int a2, .int a3, .ref ao] (fun U => PL dC dI cA ad cL ao sz X O U)) (va_Qi (fun r (u : ST × (Nat → Int64)) => post r u.1 u.2) (fun (u : ST × (Nat → Int64)) t => va_P (dC, dI) vwCl (wdL cA ad cL ao u.1 u.2) t.heap) (CL ad ao sz)) 1 6 (CL ad ao sz) := by
  refine xt_ofT (cc := c_LW_account) (maxL := 6) (ret := (some .int)) (rows := [((0 : Nat), (12 : Nat), (15 : Nat), (13 : Nat)), ((0 : Nat), (12 : Nat), (19 : Nat), (15 : Nat)), ((0 : Nat), (12 : Nat), (23 : Nat), (17 : Nat))]) (by decide) rfl ?_
  intro p e s m args below meth c s₁ B hml htab hv
  obtain ⟨rfl, hsz, hP, hG⟩ := hv
  have hx := B.exec
  have hb := B.bytes
  have hr := B.returns
  have hts : ∀ w ∈ GW, w.before (([.ref (ad 0), .int a1, .int a2, .int a3, .ref ao] : List Value).toArray) s = true := fun w h => atoms_spec (ws := ws_LW_account) B.pre w (List.mem_cons_of_mem _ h)
  have hown : s.vm.findClass R_LW = some m.cls := findClass_of_methodNamed B.named
  have hlocks := B.notSynchronized
  subst hsz
  have hK := hG.1.1
  have hKo := hG.2.1
  have hNW := hG.1.2.1
  have hNC := hG.2.2
  have hS : va_S (CL ad ao s.heap.size) s.heap s.heap [] := va_S.rf
  have hao : ao < s.heap.size := (hP 125 _ atL_o).lt
  have hl := lv_entry ([.ref (ad 0), .int a1, .int a2, .int a3, .ref ao]) (n := 6) (Nat.le_of_ble_eq_true rfl)
  rw [lg_entry_eq]
  generalize (lg_sl ([.ref (ad 0), .int a1, .int a2, .int a3, .ref ao]) ++ List.replicate (6 - (lg_sl ([.ref (ad 0), .int a1, .int a2, .int a3, .ref ao])).length) Slot.unset).toArray = ls at hl ⊢
  have hl : lv_has ls 6 [(0, .ref (ad 0)), (1, .int a1), (2, .int a2), (3, .int a3), (4, .ref ao)] := hl
  unfold wp_LW_account at hw
  refine lv_aload hx hb d_LW_account_0 (lv_at hl 4 rfl) ?_
  refine lv_iconst (v := (0 : Int32)) hx hb d_LW_account_2 (by decide) ?_
  refine lv_aload_n hx hb d_LW_account_3 rfl (lv_at hl 0 rfl) ?_
  refine lv_iload_n hx hb d_LW_account_4 rfl (lv_at hl 1 rfl) ?_
  refine lv_iload_n hx hb d_LW_account_5 rfl (lv_at hl 2 rfl) ?_
  refine lv_iload_n hx hb d_LW_account_6 rfl (lv_at hl 3 rfl) ?_
  refine xt_calli (xt_runV (As := [.int a1, .int a2, .int a3]) (rest := [.int (0 : Int32), .ref ao]) ⟨hx, hb, hml, hown, hts⟩ (mt_CA_account l hl9 dC dI cA ad hI _ hw) (cwV 3 hts (gV gw_541 gw_542 gw_543 gw_13 gw_540) rfl rfl rfl (by decide +kernel) ⟨(Nat.le_of_ble_eq_true rfl), (Nat.le_of_ble_eq_true rfl)⟩) ⟨zwC_blind, va_recv hK (zwL_C hP) (ci := 0) (q0 := 0) rfl atC_CA, zwC_pre (zwL_C hP) va_S.rf hG.1⟩ rfl rfl hl.1 rfl (lv_room (Nat.le_of_ble_eq_true rfl)) d_LW_account_7 ⟨(Nat.le_of_ble_eq_true rfl), (Nat.le_of_ble_eq_true rfl)⟩) hS (fun q _ h => Or.inl h) (fun q h => Or.inl h) (fun q _ h => Or.inl h) (fun E ce q9 u9 t H locs ht ha hw hB hz1 hk1 hS hce hcv hcl => ?_) (fun r X1 t H locs ht hvm hw hP1 hz1 hk1 hS => ?_)
  · obtain ⟨E9, X9⟩ := u9
    obtain ⟨rfl, hP1⟩ := hB
    have hP1 : va_P (dC, dI) vwCl (wdL cA ad cL ao X9 O) H := zwL_join (by rw [← ht]; exact hP1) hP (hk1 ao hao (zwL_no hO hao))
    rcases hw with ⟨he, hw⟩ | ⟨he, hw⟩ | ⟨he, hw⟩
    · have hcl : s.vm.findClass "java/lang/UnsupportedOperationException" = some ce.cls := by rw [← show E9 = _ from he]; exact hcl
      refine xt_catch (r := 15) hown htab ⟨⟨(Nat.le_of_ble_eq_true rfl), (Nat.le_of_ble_eq_true rfl)⟩, (by decide), "java/lang/UnsupportedOperationException", hts _ gw_544, Or.inl ⟨va_Nw.use rfl (hNW (.castable "java/lang/UnsupportedOperationException" "java/lang/UnsupportedOperationException") (List.mem_of_getElem? (i := 15) rfl)), rfl⟩⟩ hce hcv hcl ?_
      refine lv_astore (lv' := [(5, .ref q9), (0, .ref (ad 0)), (1, .int a1), (2, .int a2), (3, .int a3), (4, .ref ao)]) hx hb d_LW_account_15 hl (by decide) rfl (fun ls hl => ?_)
      refine lv_iconst (v := (1 : Int32)) hx hb d_LW_account_17 (by decide) ?_
      exact W.iret (v := (1 : Int32)) hx hb hr (fun t9 ht9 _ => ⟨⟨1, (X9, O), rfl, hw, by show va_P _ _ _ t9.heap; rw [ht9]; exact hP1⟩, hS.F ht9⟩) hS.2.2 d_LW_account_18
    · have hcl : s.vm.findClass "java/lang/IllegalArgumentException" = some ce.cls := by rw [← show E9 = _ from he]; exact hcl
      refine xt_catch (r := 19) hown htab ⟨⟨(Nat.le_of_ble_eq_true rfl), (Nat.le_of_ble_eq_true rfl)⟩, (by decide), "java/lang/UnsupportedOperationException", hts _ gw_544, Or.inr ⟨hNC ("java/lang/IllegalArgumentException", "java/lang/UnsupportedOperationException") (List.mem_of_getElem? (i := 7) rfl), ⟨⟨(Nat.le_of_ble_eq_true rfl), (Nat.le_of_ble_eq_true rfl)⟩, (by decide), "java/lang/IllegalArgumentException", hts _ gw_545, Or.inl ⟨va_Nw.use rfl (hNW (.castable "java/lang/IllegalArgumentException" "java/lang/IllegalArgumentException") (List.mem_of_getElem? (i := 8) rfl)), rfl⟩⟩⟩⟩ hce hcv hcl ?_
      refine lv_astore (lv' := [(5, .ref q9), (0, .ref (ad 0)), (1, .int a1), (2, .int a2), (3, .int a3), (4, .ref ao)]) hx hb d_LW_account_19 hl (by decide) rfl (fun ls hl => ?_)
      refine lv_iconst (v := (2 : Int32)) hx hb d_LW_account_21 (by decide) ?_
      exact W.iret (v := (2 : Int32)) hx hb hr (fun t9 ht9 _ => ⟨⟨2, (X9, O), rfl, hw, by show va_P _ _ _ t9.heap; rw [ht9]; exact hP1⟩, hS.F ht9⟩) hS.2.2 d_LW_account_22
    · have hcl : s.vm.findClass "java/lang/IllegalStateException" = some ce.cls := by rw [← show E9 = _ from he]; exact hcl
      refine xt_catch (r := 23) hown htab ⟨⟨(Nat.le_of_ble_eq_true rfl), (Nat.le_of_ble_eq_true rfl)⟩, (by decide), "java/lang/UnsupportedOperationException", hts _ gw_544, Or.inr ⟨hNC ("java/lang/IllegalStateException", "java/lang/UnsupportedOperationException") (List.mem_of_getElem? (i := 10) rfl), ⟨⟨(Nat.le_of_ble_eq_true rfl), (Nat.le_of_ble_eq_true rfl)⟩, (by decide), "java/lang/IllegalArgumentException", hts _ gw_545, Or.inr ⟨hNC ("java/lang/IllegalStateException", "java/lang/IllegalArgumentException") (List.mem_of_getElem? (i := 11) rfl), ⟨⟨(Nat.le_of_ble_eq_true rfl), (Nat.le_of_ble_eq_true rfl)⟩, (by decide), "java/lang/IllegalStateException", hts _ gw_546, Or.inl ⟨va_Nw.use rfl (hNW (.castable "java/lang/IllegalStateException" "java/lang/IllegalStateException") (List.mem_of_getElem? (i := 16) rfl)), rfl⟩⟩⟩⟩⟩⟩ hce hcv hcl ?_
      refine lv_astore (lv' := [(5, .ref q9), (0, .ref (ad 0)), (1, .int a1), (2, .int a2), (3, .int a3), (4, .ref ao)]) hx hb d_LW_account_23 hl (by decide) rfl (fun ls hl => ?_)
      refine lv_iconst (v := (3 : Int32)) hx hb d_LW_account_25 (by decide) ?_
      exact W.iret (v := (3 : Int32)) hx hb hr (fun t9 ht9 _ => ⟨⟨3, (X9, O), rfl, hw, by show va_P _ _ _ t9.heap; rw [ht9]; exact hP1⟩, hS.F ht9⟩) hS.2.2 d_LW_account_26
  · have hP1 : va_P (dC, dI) vwCl (wdL cA ad cL ao X1 O) H := zwL_join (by rw [← ht]; exact hP1) hP (hk1 ao hao (zwL_no hO hao))
    try dsimp only at hw
    refine lv_i2l hx hb d_LW_account_10 rfl ?_
    refine va_last hx hb hKo hP1 (zwL_D hI hO) hS 125 0 atL_o rfl (by unfold vp_in; decide) d_LW_account_11 (fun H locs hP _ hS => ?_)
    have hP : va_P (dC, dI) vwCl (wdL cA ad cL ao X1 (vp_updL O 0 r.toInt64)) H := by rw [← stL_o]; exact hP
    refine lv_goto (tgt := 27) hx hb d_LW_account_12 (by decide) ?_
    refine lv_iconst (v := (0 : Int32)) hx hb d_LW_account_27 (by decide) ?_
    exact W.iret (v := (0 : Int32)) hx hb hr (fun t9 ht9 _ => ⟨⟨0, (X1, vp_updL O 0 r.toInt64), rfl, hw, by show va_P _ _ _ t9.heap; rw [ht9]; exact hP⟩, hS.F ht9⟩) hS.2.2 d_LW_account_28
abbrev c_LW_order : ByteArray := method_4_code
def y_LW_order : MethodName := ⟨"ChallengeAuthorityLaw", "order", "(LChallengeAuthority;IIIII[J)I"⟩
def ws_LW_order : List Cond := Cond.codeWith y_LW_order c_LW_order 8 (Option.some Jvm.ClassFile.FieldType.int) [((0 : Nat), (16 : Nat), (19 : Nat), (23 : Nat)), ((0 : Nat), (16 : Nat), (23 : Nat), (13 : Nat)), ((0 : Nat), (16 : Nat), (27 : Nat), (15 : Nat)), ((0 : Nat), (16 : Nat), (31 : Nat), (17 : Nat))] :: GW
theorem d_LW_order_0 : decode c_LW_order 0 = .ok (.aload 6, 2) := by decide +kernel
theorem d_LW_order_2 : decode c_LW_order 2 = .ok (.iconst 0, 1) := by decide +kernel
theorem d_LW_order_3 : decode c_LW_order 3 = .ok (.aload_n 0, 1) := by decide +kernel
theorem d_LW_order_4 : decode c_LW_order 4 = .ok (.iload_n 1, 1) := by decide +kernel
theorem d_LW_order_5 : decode c_LW_order 5 = .ok (.iload_n 2, 1) := by decide +kernel
theorem d_LW_order_6 : decode c_LW_order 6 = .ok (.iload_n 3, 1) := by decide +kernel
theorem d_LW_order_7 : decode c_LW_order 7 = .ok (.iload 4, 2) := by decide +kernel
theorem d_LW_order_9 : decode c_LW_order 9 = .ok (.iload 5, 2) := by decide +kernel
theorem d_LW_order_11 : decode c_LW_order 11 = .ok (.invokevirtual 19, 3) := by decide +kernel
theorem d_LW_order_14 : decode c_LW_order 14 = .ok (.i2l, 1) := by decide +kernel
theorem d_LW_order_15 : decode c_LW_order 15 = .ok (.lastore, 1) := by decide +kernel
theorem d_LW_order_16 : decode c_LW_order 16 = .ok (.goto 19, 3) := by decide +kernel
theorem d_LW_order_19 : decode c_LW_order 19 = .ok (.astore 7, 2) := by decide +kernel
theorem d_LW_order_21 : decode c_LW_order 21 = .ok (.iconst 1, 1) := by decide +kernel
theorem d_LW_order_22 : decode c_LW_order 22 = .ok (.ireturn, 1) := by decide +kernel
theorem d_LW_order_23 : decode c_LW_order 23 = .ok (.astore 7, 2) := by decide +kernel
theorem d_LW_order_25 : decode c_LW_order 25 = .ok (.iconst 2, 1) := by decide +kernel
theorem d_LW_order_26 : decode c_LW_order 26 = .ok (.ireturn, 1) := by decide +kernel
theorem d_LW_order_27 : decode c_LW_order 27 = .ok (.astore 7, 2) := by decide +kernel
theorem d_LW_order_29 : decode c_LW_order 29 = .ok (.iconst 3, 1) := by decide +kernel
theorem d_LW_order_30 : decode c_LW_order 30 = .ok (.ireturn, 1) := by decide +kernel
theorem d_LW_order_31 : decode c_LW_order 31 = .ok (.astore 7, 2) := by decide +kernel
theorem d_LW_order_33 : decode c_LW_order 33 = .ok (.iconst 4, 1) := by decide +kernel
theorem d_LW_order_34 : decode c_LW_order 34 = .ok (.ireturn, 1) := by decide +kernel
theorem d_LW_order_35 : decode c_LW_order 35 = .ok (.iconst 0, 1) := by decide +kernel
theorem d_LW_order_36 : decode c_LW_order 36 = .ok (.ireturn, 1) := by decide +kernel
def wp_LW_order (post : Int32 → ST → (Nat → Int64) → Prop) (X : ST) (O : Nat → Int64) (a1 : Int32) (a2 : Int32) (a3 : Int32) (a4 : Int32) (a5 : Int32) : Prop := wp_CA_order (fun (r : Int32) (X1 : ST) => post 0 X1 (vp_updL O 0 r.toInt64)) (fun (E : String) (X1 : ST) => (E = "java/util/NoSuchElementException" ∧ post 1 X1 O) ∨ (E = "java/lang/UnsupportedOperationException" ∧ post 2 X1 O) ∨ (E = "java/lang/IllegalArgumentException" ∧ post 3 X1 O) ∨ (E = "java/lang/IllegalStateException" ∧ post 4 X1 O)) X a1 a2 a3 a4 a5
set_option maxHeartbeats 4000000 in
set_option maxRecDepth 100000 in
theorem mt_LW_order (l : Launch) (hl9 : l.stackTraces = false) (dC : Nat → ClassId) (dI : Nat → Nat → Nat) (cA : Nat → ClassId) (ad : Nat → Nat) (hI : INJ ad 125) (cL : ClassId) (ao : Nat) (hO : ∀ k : Nat, k < 125 → ao ≠ ad k) (sz : Nat) {X : ST} {O : Nat → Int64} {a1 : Int32} {a2 : Int32} {a3 : Int32} {a4 : Int32} {a5 : Int32} {post : Int32 → ST → (Nat → Int64) → Prop} (hw : wp_LW_order post X O a1 a2 a3 a4 a5) : Met l y_LW_order ws_LW_order ({ frames := 8, cells := 2, slots := 12, locals := 140 } : Room) (va_Pc [.ref (ad 0), .int a1, .int a2, .int a3, .int a4, .int a5, .ref ao] (fun U => PL dC dI cA ad cL ao sz X O U)) (va_Qi (fun r (u : ST × (Nat → Int64)) => post r u.1 u.2) (fun (u : ST × (Nat → Int64)) t => va_P (dC, dI) vwCl (wdL cA ad cL ao u.1 u.2) t.heap) (CL ad ao sz)) 2 12 (CL ad ao sz) := by
  refine xt_ofT (cc := c_LW_order) (maxL := 8) (ret := (some .int)) (rows := [((0 : Nat), (16 : Nat), (19 : Nat), (23 : Nat)), ((0 : Nat), (16 : Nat), (23 : Nat), (13 : Nat)), ((0 : Nat), (16 : Nat), (27 : Nat), (15 : Nat)), ((0 : Nat), (16 : Nat), (31 : Nat), (17 : Nat))]) (by decide) rfl ?_
  intro p e s m args below meth c s₁ B hml htab hv
  obtain ⟨rfl, hsz, hP, hG⟩ := hv
  have hx := B.exec
  have hb := B.bytes
  have hr := B.returns
  have hts : ∀ w ∈ GW, w.before (([.ref (ad 0), .int a1, .int a2, .int a3, .int a4, .int a5, .ref ao] : List Value).toArray) s = true := fun w h => atoms_spec (ws := ws_LW_order) B.pre w (List.mem_cons_of_mem _ h)
  have hown : s.vm.findClass R_LW = some m.cls := findClass_of_methodNamed B.named
  have hlocks := B.notSynchronized
  subst hsz
  have hK := hG.1.1
  have hKo := hG.2.1
  have hNW := hG.1.2.1
  have hNC := hG.2.2
  have hS : va_S (CL ad ao s.heap.size) s.heap s.heap [] := va_S.rf
  have hao : ao < s.heap.size := (hP 125 _ atL_o).lt
  have hl := lv_entry ([.ref (ad 0), .int a1, .int a2, .int a3, .int a4, .int a5, .ref ao]) (n := 8) (Nat.le_of_ble_eq_true rfl)
  rw [lg_entry_eq]
  generalize (lg_sl ([.ref (ad 0), .int a1, .int a2, .int a3, .int a4, .int a5, .ref ao]) ++ List.replicate (8 - (lg_sl ([.ref (ad 0), .int a1, .int a2, .int a3, .int a4, .int a5, .ref ao])).length) Slot.unset).toArray = ls at hl ⊢
  have hl : lv_has ls 8 [(0, .ref (ad 0)), (1, .int a1), (2, .int a2), (3, .int a3), (4, .int a4), (5, .int a5), (6, .ref ao)] := hl
  unfold wp_LW_order at hw
  refine lv_aload hx hb d_LW_order_0 (lv_at hl 6 rfl) ?_
  refine lv_iconst (v := (0 : Int32)) hx hb d_LW_order_2 (by decide) ?_
  refine lv_aload_n hx hb d_LW_order_3 rfl (lv_at hl 0 rfl) ?_
  refine lv_iload_n hx hb d_LW_order_4 rfl (lv_at hl 1 rfl) ?_
  refine lv_iload_n hx hb d_LW_order_5 rfl (lv_at hl 2 rfl) ?_
  refine lv_iload_n hx hb d_LW_order_6 rfl (lv_at hl 3 rfl) ?_
  refine lv_iload hx hb d_LW_order_7 (lv_at hl 4 rfl) ?_
  refine lv_iload hx hb d_LW_order_9 (lv_at hl 5 rfl) ?_
  refine xt_calli (xt_runV (As := [.int a1, .int a2, .int a3, .int a4, .int a5]) (rest := [.int (0 : Int32), .ref ao]) ⟨hx, hb, hml, hown, hts⟩ (mt_CA_order l hl9 dC dI cA ad hI _ hw) (cwV 5 hts (gV gw_548 gw_549 gw_550 gw_13 gw_547) rfl rfl rfl (by decide +kernel) ⟨(Nat.le_of_ble_eq_true rfl), (Nat.le_of_ble_eq_true rfl)⟩) ⟨zwC_blind, va_recv hK (zwL_C hP) (ci := 0) (q0 := 0) rfl atC_CA, zwC_pre (zwL_C hP) va_S.rf hG.1⟩ rfl rfl hl.1 rfl (lv_room (Nat.le_of_ble_eq_true rfl)) d_LW_order_11 ⟨(Nat.le_of_ble_eq_true rfl), (Nat.le_of_ble_eq_true rfl)⟩) hS (fun q _ h => Or.inl h) (fun q h => Or.inl h) (fun q _ h => Or.inl h) (fun E ce q9 u9 t H locs ht ha hw hB hz1 hk1 hS hce hcv hcl => ?_) (fun r X1 t H locs ht hvm hw hP1 hz1 hk1 hS => ?_)
  · obtain ⟨E9, X9⟩ := u9
    obtain ⟨rfl, hP1⟩ := hB
    have hP1 : va_P (dC, dI) vwCl (wdL cA ad cL ao X9 O) H := zwL_join (by rw [← ht]; exact hP1) hP (hk1 ao hao (zwL_no hO hao))
    rcases hw with ⟨he, hw⟩ | ⟨he, hw⟩ | ⟨he, hw⟩ | ⟨he, hw⟩
    · have hcl : s.vm.findClass "java/util/NoSuchElementException" = some ce.cls := by rw [← show E9 = _ from he]; exact hcl
      refine xt_catch (r := 19) hown htab ⟨⟨(Nat.le_of_ble_eq_true rfl), (Nat.le_of_ble_eq_true rfl)⟩, (by decide), "java/util/NoSuchElementException", hts _ gw_551, Or.inl ⟨va_Nw.use rfl (hNW (.castable "java/util/NoSuchElementException" "java/util/NoSuchElementException") (List.mem_of_getElem? (i := 17) rfl)), rfl⟩⟩ hce hcv hcl ?_
      refine lv_astore (lv' := [(7, .ref q9), (0, .ref (ad 0)), (1, .int a1), (2, .int a2), (3, .int a3), (4, .int a4), (5, .int a5), (6, .ref ao)]) hx hb d_LW_order_19 hl (by decide) rfl (fun ls hl => ?_)
      refine lv_iconst (v := (1 : Int32)) hx hb d_LW_order_21 (by decide) ?_
      exact W.iret (v := (1 : Int32)) hx hb hr (fun t9 ht9 _ => ⟨⟨1, (X9, O), rfl, hw, by show va_P _ _ _ t9.heap; rw [ht9]; exact hP1⟩, hS.F ht9⟩) hS.2.2 d_LW_order_22
    · have hcl : s.vm.findClass "java/lang/UnsupportedOperationException" = some ce.cls := by rw [← show E9 = _ from he]; exact hcl
      refine xt_catch (r := 23) hown htab ⟨⟨(Nat.le_of_ble_eq_true rfl), (Nat.le_of_ble_eq_true rfl)⟩, (by decide), "java/util/NoSuchElementException", hts _ gw_551, Or.inr ⟨hNC ("java/lang/UnsupportedOperationException", "java/util/NoSuchElementException") (List.mem_of_getElem? (i := 3) rfl), ⟨⟨(Nat.le_of_ble_eq_true rfl), (Nat.le_of_ble_eq_true rfl)⟩, (by decide), "java/lang/UnsupportedOperationException", hts _ gw_544, Or.inl ⟨va_Nw.use rfl (hNW (.castable "java/lang/UnsupportedOperationException" "java/lang/UnsupportedOperationException") (List.mem_of_getElem? (i := 15) rfl)), rfl⟩⟩⟩⟩ hce hcv hcl ?_
      refine lv_astore (lv' := [(7, .ref q9), (0, .ref (ad 0)), (1, .int a1), (2, .int a2), (3, .int a3), (4, .int a4), (5, .int a5), (6, .ref ao)]) hx hb d_LW_order_23 hl (by decide) rfl (fun ls hl => ?_)
      refine lv_iconst (v := (2 : Int32)) hx hb d_LW_order_25 (by decide) ?_
      exact W.iret (v := (2 : Int32)) hx hb hr (fun t9 ht9 _ => ⟨⟨2, (X9, O), rfl, hw, by show va_P _ _ _ t9.heap; rw [ht9]; exact hP1⟩, hS.F ht9⟩) hS.2.2 d_LW_order_26
    · have hcl : s.vm.findClass "java/lang/IllegalArgumentException" = some ce.cls := by rw [← show E9 = _ from he]; exact hcl
      refine xt_catch (r := 27) hown htab ⟨⟨(Nat.le_of_ble_eq_true rfl), (Nat.le_of_ble_eq_true rfl)⟩, (by decide), "java/util/NoSuchElementException", hts _ gw_551, Or.inr ⟨hNC ("java/lang/IllegalArgumentException", "java/util/NoSuchElementException") (List.mem_of_getElem? (i := 6) rfl), ⟨⟨(Nat.le_of_ble_eq_true rfl), (Nat.le_of_ble_eq_true rfl)⟩, (by decide), "java/lang/UnsupportedOperationException", hts _ gw_544, Or.inr ⟨hNC ("java/lang/IllegalArgumentException", "java/lang/UnsupportedOperationException") (List.mem_of_getElem? (i := 7) rfl), ⟨⟨(Nat.le_of_ble_eq_true rfl), (Nat.le_of_ble_eq_true rfl)⟩, (by decide), "java/lang/IllegalArgumentException", hts _ gw_545, Or.inl ⟨va_Nw.use rfl (hNW (.castable "java/lang/IllegalArgumentException" "java/lang/IllegalArgumentException") (List.mem_of_getElem? (i := 8) rfl)), rfl⟩⟩⟩⟩⟩⟩ hce hcv hcl ?_
      refine lv_astore (lv' := [(7, .ref q9), (0, .ref (ad 0)), (1, .int a1), (2, .int a2), (3, .int a3), (4, .int a4), (5, .int a5), (6, .ref ao)]) hx hb d_LW_order_27 hl (by decide) rfl (fun ls hl => ?_)
      refine lv_iconst (v := (3 : Int32)) hx hb d_LW_order_29 (by decide) ?_
      exact W.iret (v := (3 : Int32)) hx hb hr (fun t9 ht9 _ => ⟨⟨3, (X9, O), rfl, hw, by show va_P _ _ _ t9.heap; rw [ht9]; exact hP1⟩, hS.F ht9⟩) hS.2.2 d_LW_order_30
    · have hcl : s.vm.findClass "java/lang/IllegalStateException" = some ce.cls := by rw [← show E9 = _ from he]; exact hcl
      refine xt_catch (r := 31) hown htab ⟨⟨(Nat.le_of_ble_eq_true rfl), (Nat.le_of_ble_eq_true rfl)⟩, (by decide), "java/util/NoSuchElementException", hts _ gw_551, Or.inr ⟨hNC ("java/lang/IllegalStateException", "java/util/NoSuchElementException") (List.mem_of_getElem? (i := 9) rfl), ⟨⟨(Nat.le_of_ble_eq_true rfl), (Nat.le_of_ble_eq_true rfl)⟩, (by decide), "java/lang/UnsupportedOperationException", hts _ gw_544, Or.inr ⟨hNC ("java/lang/IllegalStateException", "java/lang/UnsupportedOperationException") (List.mem_of_getElem? (i := 10) rfl), ⟨⟨(Nat.le_of_ble_eq_true rfl), (Nat.le_of_ble_eq_true rfl)⟩, (by decide), "java/lang/IllegalArgumentException", hts _ gw_545, Or.inr ⟨hNC ("java/lang/IllegalStateException", "java/lang/IllegalArgumentException") (List.mem_of_getElem? (i := 11) rfl), ⟨⟨(Nat.le_of_ble_eq_true rfl), (Nat.le_of_ble_eq_true rfl)⟩, (by decide), "java/lang/IllegalStateException", hts _ gw_546, Or.inl ⟨va_Nw.use rfl (hNW (.castable "java/lang/IllegalStateException" "java/lang/IllegalStateException") (List.mem_of_getElem? (i := 16) rfl)), rfl⟩⟩⟩⟩⟩⟩⟩⟩ hce hcv hcl ?_
      refine lv_astore (lv' := [(7, .ref q9), (0, .ref (ad 0)), (1, .int a1), (2, .int a2), (3, .int a3), (4, .int a4), (5, .int a5), (6, .ref ao)]) hx hb d_LW_order_31 hl (by decide) rfl (fun ls hl => ?_)
      refine lv_iconst (v := (4 : Int32)) hx hb d_LW_order_33 (by decide) ?_
      exact W.iret (v := (4 : Int32)) hx hb hr (fun t9 ht9 _ => ⟨⟨4, (X9, O), rfl, hw, by show va_P _ _ _ t9.heap; rw [ht9]; exact hP1⟩, hS.F ht9⟩) hS.2.2 d_LW_order_34
  · have hP1 : va_P (dC, dI) vwCl (wdL cA ad cL ao X1 O) H := zwL_join (by rw [← ht]; exact hP1) hP (hk1 ao hao (zwL_no hO hao))
    try dsimp only at hw
    refine lv_i2l hx hb d_LW_order_14 rfl ?_
    refine va_last hx hb hKo hP1 (zwL_D hI hO) hS 125 0 atL_o rfl (by unfold vp_in; decide) d_LW_order_15 (fun H locs hP _ hS => ?_)
    have hP : va_P (dC, dI) vwCl (wdL cA ad cL ao X1 (vp_updL O 0 r.toInt64)) H := by rw [← stL_o]; exact hP
    refine lv_goto (tgt := 35) hx hb d_LW_order_16 (by decide) ?_
    refine lv_iconst (v := (0 : Int32)) hx hb d_LW_order_35 (by decide) ?_
    exact W.iret (v := (0 : Int32)) hx hb hr (fun t9 ht9 _ => ⟨⟨0, (X1, vp_updL O 0 r.toInt64), rfl, hw, by show va_P _ _ _ t9.heap; rw [ht9]; exact hP⟩, hS.F ht9⟩) hS.2.2 d_LW_order_36
abbrev c_LW_answer : ByteArray := method_5_code
def y_LW_answer : MethodName := ⟨"ChallengeAuthorityLaw", "answer", "(LChallengeAuthority;IIIII[J)I"⟩
def ws_LW_answer : List Cond := Cond.codeWith y_LW_answer c_LW_answer 8 (Option.some Jvm.ClassFile.FieldType.int) [((0 : Nat), (16 : Nat), (19 : Nat), (23 : Nat)), ((0 : Nat), (16 : Nat), (23 : Nat), (13 : Nat)), ((0 : Nat), (16 : Nat), (27 : Nat), (15 : Nat)), ((0 : Nat), (16 : Nat), (31 : Nat), (17 : Nat))] :: GW
theorem d_LW_answer_0 : decode c_LW_answer 0 = .ok (.aload 6, 2) := by decide +kernel
theorem d_LW_answer_2 : decode c_LW_answer 2 = .ok (.iconst 0, 1) := by decide +kernel
theorem d_LW_answer_3 : decode c_LW_answer 3 = .ok (.aload_n 0, 1) := by decide +kernel
theorem d_LW_answer_4 : decode c_LW_answer 4 = .ok (.iload_n 1, 1) := by decide +kernel
theorem d_LW_answer_5 : decode c_LW_answer 5 = .ok (.iload_n 2, 1) := by decide +kernel
theorem d_LW_answer_6 : decode c_LW_answer 6 = .ok (.iload_n 3, 1) := by decide +kernel
theorem d_LW_answer_7 : decode c_LW_answer 7 = .ok (.iload 4, 2) := by decide +kernel
theorem d_LW_answer_9 : decode c_LW_answer 9 = .ok (.iload 5, 2) := by decide +kernel
theorem d_LW_answer_11 : decode c_LW_answer 11 = .ok (.invokevirtual 25, 3) := by decide +kernel
theorem d_LW_answer_14 : decode c_LW_answer 14 = .ok (.i2l, 1) := by decide +kernel
theorem d_LW_answer_15 : decode c_LW_answer 15 = .ok (.lastore, 1) := by decide +kernel
theorem d_LW_answer_16 : decode c_LW_answer 16 = .ok (.goto 19, 3) := by decide +kernel
theorem d_LW_answer_19 : decode c_LW_answer 19 = .ok (.astore 7, 2) := by decide +kernel
theorem d_LW_answer_21 : decode c_LW_answer 21 = .ok (.iconst 1, 1) := by decide +kernel
theorem d_LW_answer_22 : decode c_LW_answer 22 = .ok (.ireturn, 1) := by decide +kernel
theorem d_LW_answer_23 : decode c_LW_answer 23 = .ok (.astore 7, 2) := by decide +kernel
theorem d_LW_answer_25 : decode c_LW_answer 25 = .ok (.iconst 2, 1) := by decide +kernel
theorem d_LW_answer_26 : decode c_LW_answer 26 = .ok (.ireturn, 1) := by decide +kernel
theorem d_LW_answer_27 : decode c_LW_answer 27 = .ok (.astore 7, 2) := by decide +kernel
theorem d_LW_answer_29 : decode c_LW_answer 29 = .ok (.iconst 3, 1) := by decide +kernel
theorem d_LW_answer_30 : decode c_LW_answer 30 = .ok (.ireturn, 1) := by decide +kernel
theorem d_LW_answer_31 : decode c_LW_answer 31 = .ok (.astore 7, 2) := by decide +kernel
theorem d_LW_answer_33 : decode c_LW_answer 33 = .ok (.iconst 4, 1) := by decide +kernel
theorem d_LW_answer_34 : decode c_LW_answer 34 = .ok (.ireturn, 1) := by decide +kernel
theorem d_LW_answer_35 : decode c_LW_answer 35 = .ok (.iconst 0, 1) := by decide +kernel
theorem d_LW_answer_36 : decode c_LW_answer 36 = .ok (.ireturn, 1) := by decide +kernel
def wp_LW_answer (post : Int32 → ST → (Nat → Int64) → Prop) (X : ST) (O : Nat → Int64) (a1 : Int32) (a2 : Int32) (a3 : Int32) (a4 : Int32) (a5 : Int32) : Prop := wp_CA_answer (fun (r : Int32) (X1 : ST) => post 0 X1 (vp_updL O 0 r.toInt64)) (fun (E : String) (X1 : ST) => (E = "java/util/NoSuchElementException" ∧ post 1 X1 O) ∨ (E = "java/lang/UnsupportedOperationException" ∧ post 2 X1 O) ∨ (E = "java/lang/IllegalArgumentException" ∧ post 3 X1 O) ∨ (E = "java/lang/IllegalStateException" ∧ post 4 X1 O)) X a1 a2 a3 a4 a5
set_option maxHeartbeats 4000000 in
set_option maxRecDepth 100000 in
theorem mt_LW_answer (l : Launch) (hl9 : l.stackTraces = false) (dC : Nat → ClassId) (dI : Nat → Nat → Nat) (cA : Nat → ClassId) (ad : Nat → Nat) (hI : INJ ad 125) (cL : ClassId) (ao : Nat) (hO : ∀ k : Nat, k < 125 → ao ≠ ad k) (sz : Nat) {X : ST} {O : Nat → Int64} {a1 : Int32} {a2 : Int32} {a3 : Int32} {a4 : Int32} {a5 : Int32} {post : Int32 → ST → (Nat → Int64) → Prop} (hw : wp_LW_answer post X O a1 a2 a3 a4 a5) : Met l y_LW_answer ws_LW_answer ({ frames := 8, cells := 3, slots := 18, locals := 141 } : Room) (va_Pc [.ref (ad 0), .int a1, .int a2, .int a3, .int a4, .int a5, .ref ao] (fun U => PL dC dI cA ad cL ao sz X O U)) (va_Qi (fun r (u : ST × (Nat → Int64)) => post r u.1 u.2) (fun (u : ST × (Nat → Int64)) t => va_P (dC, dI) vwCl (wdL cA ad cL ao u.1 u.2) t.heap) (CL ad ao sz)) 3 18 (CL ad ao sz) := by
  refine xt_ofT (cc := c_LW_answer) (maxL := 8) (ret := (some .int)) (rows := [((0 : Nat), (16 : Nat), (19 : Nat), (23 : Nat)), ((0 : Nat), (16 : Nat), (23 : Nat), (13 : Nat)), ((0 : Nat), (16 : Nat), (27 : Nat), (15 : Nat)), ((0 : Nat), (16 : Nat), (31 : Nat), (17 : Nat))]) (by decide) rfl ?_
  intro p e s m args below meth c s₁ B hml htab hv
  obtain ⟨rfl, hsz, hP, hG⟩ := hv
  have hx := B.exec
  have hb := B.bytes
  have hr := B.returns
  have hts : ∀ w ∈ GW, w.before (([.ref (ad 0), .int a1, .int a2, .int a3, .int a4, .int a5, .ref ao] : List Value).toArray) s = true := fun w h => atoms_spec (ws := ws_LW_answer) B.pre w (List.mem_cons_of_mem _ h)
  have hown : s.vm.findClass R_LW = some m.cls := findClass_of_methodNamed B.named
  have hlocks := B.notSynchronized
  subst hsz
  have hK := hG.1.1
  have hKo := hG.2.1
  have hNW := hG.1.2.1
  have hNC := hG.2.2
  have hS : va_S (CL ad ao s.heap.size) s.heap s.heap [] := va_S.rf
  have hao : ao < s.heap.size := (hP 125 _ atL_o).lt
  have hl := lv_entry ([.ref (ad 0), .int a1, .int a2, .int a3, .int a4, .int a5, .ref ao]) (n := 8) (Nat.le_of_ble_eq_true rfl)
  rw [lg_entry_eq]
  generalize (lg_sl ([.ref (ad 0), .int a1, .int a2, .int a3, .int a4, .int a5, .ref ao]) ++ List.replicate (8 - (lg_sl ([.ref (ad 0), .int a1, .int a2, .int a3, .int a4, .int a5, .ref ao])).length) Slot.unset).toArray = ls at hl ⊢
  have hl : lv_has ls 8 [(0, .ref (ad 0)), (1, .int a1), (2, .int a2), (3, .int a3), (4, .int a4), (5, .int a5), (6, .ref ao)] := hl
  unfold wp_LW_answer at hw
  refine lv_aload hx hb d_LW_answer_0 (lv_at hl 6 rfl) ?_
  refine lv_iconst (v := (0 : Int32)) hx hb d_LW_answer_2 (by decide) ?_
  refine lv_aload_n hx hb d_LW_answer_3 rfl (lv_at hl 0 rfl) ?_
  refine lv_iload_n hx hb d_LW_answer_4 rfl (lv_at hl 1 rfl) ?_
  refine lv_iload_n hx hb d_LW_answer_5 rfl (lv_at hl 2 rfl) ?_
  refine lv_iload_n hx hb d_LW_answer_6 rfl (lv_at hl 3 rfl) ?_
  refine lv_iload hx hb d_LW_answer_7 (lv_at hl 4 rfl) ?_
  refine lv_iload hx hb d_LW_answer_9 (lv_at hl 5 rfl) ?_
  refine xt_calli (xt_runV (As := [.int a1, .int a2, .int a3, .int a4, .int a5]) (rest := [.int (0 : Int32), .ref ao]) ⟨hx, hb, hml, hown, hts⟩ (mt_CA_answer l hl9 dC dI cA ad hI _ hw) (cwV 5 hts (gV gw_553 gw_554 gw_555 gw_13 gw_552) rfl rfl rfl (by decide +kernel) ⟨(Nat.le_of_ble_eq_true rfl), (Nat.le_of_ble_eq_true rfl)⟩) ⟨zwC_blind, va_recv hK (zwL_C hP) (ci := 0) (q0 := 0) rfl atC_CA, zwC_pre (zwL_C hP) va_S.rf hG.1⟩ rfl rfl hl.1 rfl (lv_room (Nat.le_of_ble_eq_true rfl)) d_LW_answer_11 ⟨(Nat.le_of_ble_eq_true rfl), (Nat.le_of_ble_eq_true rfl)⟩) hS (fun q _ h => Or.inl h) (fun q h => Or.inl h) (fun q _ h => Or.inl h) (fun E ce q9 u9 t H locs ht ha hw hB hz1 hk1 hS hce hcv hcl => ?_) (fun r X1 t H locs ht hvm hw hP1 hz1 hk1 hS => ?_)
  · obtain ⟨E9, X9⟩ := u9
    obtain ⟨rfl, hP1⟩ := hB
    have hP1 : va_P (dC, dI) vwCl (wdL cA ad cL ao X9 O) H := zwL_join (by rw [← ht]; exact hP1) hP (hk1 ao hao (zwL_no hO hao))
    rcases hw with ⟨he, hw⟩ | ⟨he, hw⟩ | ⟨he, hw⟩ | ⟨he, hw⟩
    · have hcl : s.vm.findClass "java/util/NoSuchElementException" = some ce.cls := by rw [← show E9 = _ from he]; exact hcl
      refine xt_catch (r := 19) hown htab ⟨⟨(Nat.le_of_ble_eq_true rfl), (Nat.le_of_ble_eq_true rfl)⟩, (by decide), "java/util/NoSuchElementException", hts _ gw_551, Or.inl ⟨va_Nw.use rfl (hNW (.castable "java/util/NoSuchElementException" "java/util/NoSuchElementException") (List.mem_of_getElem? (i := 17) rfl)), rfl⟩⟩ hce hcv hcl ?_
      refine lv_astore (lv' := [(7, .ref q9), (0, .ref (ad 0)), (1, .int a1), (2, .int a2), (3, .int a3), (4, .int a4), (5, .int a5), (6, .ref ao)]) hx hb d_LW_answer_19 hl (by decide) rfl (fun ls hl => ?_)
      refine lv_iconst (v := (1 : Int32)) hx hb d_LW_answer_21 (by decide) ?_
      exact W.iret (v := (1 : Int32)) hx hb hr (fun t9 ht9 _ => ⟨⟨1, (X9, O), rfl, hw, by show va_P _ _ _ t9.heap; rw [ht9]; exact hP1⟩, hS.F ht9⟩) hS.2.2 d_LW_answer_22
    · have hcl : s.vm.findClass "java/lang/UnsupportedOperationException" = some ce.cls := by rw [← show E9 = _ from he]; exact hcl
      refine xt_catch (r := 23) hown htab ⟨⟨(Nat.le_of_ble_eq_true rfl), (Nat.le_of_ble_eq_true rfl)⟩, (by decide), "java/util/NoSuchElementException", hts _ gw_551, Or.inr ⟨hNC ("java/lang/UnsupportedOperationException", "java/util/NoSuchElementException") (List.mem_of_getElem? (i := 3) rfl), ⟨⟨(Nat.le_of_ble_eq_true rfl), (Nat.le_of_ble_eq_true rfl)⟩, (by decide), "java/lang/UnsupportedOperationException", hts _ gw_544, Or.inl ⟨va_Nw.use rfl (hNW (.castable "java/lang/UnsupportedOperationException" "java/lang/UnsupportedOperationException") (List.mem_of_getElem? (i := 15) rfl)), rfl⟩⟩⟩⟩ hce hcv hcl ?_
      refine lv_astore (lv' := [(7, .ref q9), (0, .ref (ad 0)), (1, .int a1), (2, .int a2), (3, .int a3), (4, .int a4), (5, .int a5), (6, .ref ao)]) hx hb d_LW_answer_23 hl (by decide) rfl (fun ls hl => ?_)
      refine lv_iconst (v := (2 : Int32)) hx hb d_LW_answer_25 (by decide) ?_
      exact W.iret (v := (2 : Int32)) hx hb hr (fun t9 ht9 _ => ⟨⟨2, (X9, O), rfl, hw, by show va_P _ _ _ t9.heap; rw [ht9]; exact hP1⟩, hS.F ht9⟩) hS.2.2 d_LW_answer_26
    · have hcl : s.vm.findClass "java/lang/IllegalArgumentException" = some ce.cls := by rw [← show E9 = _ from he]; exact hcl
      refine xt_catch (r := 27) hown htab ⟨⟨(Nat.le_of_ble_eq_true rfl), (Nat.le_of_ble_eq_true rfl)⟩, (by decide), "java/util/NoSuchElementException", hts _ gw_551, Or.inr ⟨hNC ("java/lang/IllegalArgumentException", "java/util/NoSuchElementException") (List.mem_of_getElem? (i := 6) rfl), ⟨⟨(Nat.le_of_ble_eq_true rfl), (Nat.le_of_ble_eq_true rfl)⟩, (by decide), "java/lang/UnsupportedOperationException", hts _ gw_544, Or.inr ⟨hNC ("java/lang/IllegalArgumentException", "java/lang/UnsupportedOperationException") (List.mem_of_getElem? (i := 7) rfl), ⟨⟨(Nat.le_of_ble_eq_true rfl), (Nat.le_of_ble_eq_true rfl)⟩, (by decide), "java/lang/IllegalArgumentException", hts _ gw_545, Or.inl ⟨va_Nw.use rfl (hNW (.castable "java/lang/IllegalArgumentException" "java/lang/IllegalArgumentException") (List.mem_of_getElem? (i := 8) rfl)), rfl⟩⟩⟩⟩⟩⟩ hce hcv hcl ?_
      refine lv_astore (lv' := [(7, .ref q9), (0, .ref (ad 0)), (1, .int a1), (2, .int a2), (3, .int a3), (4, .int a4), (5, .int a5), (6, .ref ao)]) hx hb d_LW_answer_27 hl (by decide) rfl (fun ls hl => ?_)
      refine lv_iconst (v := (3 : Int32)) hx hb d_LW_answer_29 (by decide) ?_
      exact W.iret (v := (3 : Int32)) hx hb hr (fun t9 ht9 _ => ⟨⟨3, (X9, O), rfl, hw, by show va_P _ _ _ t9.heap; rw [ht9]; exact hP1⟩, hS.F ht9⟩) hS.2.2 d_LW_answer_30
    · have hcl : s.vm.findClass "java/lang/IllegalStateException" = some ce.cls := by rw [← show E9 = _ from he]; exact hcl
      refine xt_catch (r := 31) hown htab ⟨⟨(Nat.le_of_ble_eq_true rfl), (Nat.le_of_ble_eq_true rfl)⟩, (by decide), "java/util/NoSuchElementException", hts _ gw_551, Or.inr ⟨hNC ("java/lang/IllegalStateException", "java/util/NoSuchElementException") (List.mem_of_getElem? (i := 9) rfl), ⟨⟨(Nat.le_of_ble_eq_true rfl), (Nat.le_of_ble_eq_true rfl)⟩, (by decide), "java/lang/UnsupportedOperationException", hts _ gw_544, Or.inr ⟨hNC ("java/lang/IllegalStateException", "java/lang/UnsupportedOperationException") (List.mem_of_getElem? (i := 10) rfl), ⟨⟨(Nat.le_of_ble_eq_true rfl), (Nat.le_of_ble_eq_true rfl)⟩, (by decide), "java/lang/IllegalArgumentException", hts _ gw_545, Or.inr ⟨hNC ("java/lang/IllegalStateException", "java/lang/IllegalArgumentException") (List.mem_of_getElem? (i := 11) rfl), ⟨⟨(Nat.le_of_ble_eq_true rfl), (Nat.le_of_ble_eq_true rfl)⟩, (by decide), "java/lang/IllegalStateException", hts _ gw_546, Or.inl ⟨va_Nw.use rfl (hNW (.castable "java/lang/IllegalStateException" "java/lang/IllegalStateException") (List.mem_of_getElem? (i := 16) rfl)), rfl⟩⟩⟩⟩⟩⟩⟩⟩ hce hcv hcl ?_
      refine lv_astore (lv' := [(7, .ref q9), (0, .ref (ad 0)), (1, .int a1), (2, .int a2), (3, .int a3), (4, .int a4), (5, .int a5), (6, .ref ao)]) hx hb d_LW_answer_31 hl (by decide) rfl (fun ls hl => ?_)
      refine lv_iconst (v := (4 : Int32)) hx hb d_LW_answer_33 (by decide) ?_
      exact W.iret (v := (4 : Int32)) hx hb hr (fun t9 ht9 _ => ⟨⟨4, (X9, O), rfl, hw, by show va_P _ _ _ t9.heap; rw [ht9]; exact hP1⟩, hS.F ht9⟩) hS.2.2 d_LW_answer_34
  · have hP1 : va_P (dC, dI) vwCl (wdL cA ad cL ao X1 O) H := zwL_join (by rw [← ht]; exact hP1) hP (hk1 ao hao (zwL_no hO hao))
    try dsimp only at hw
    refine lv_i2l hx hb d_LW_answer_14 rfl ?_
    refine va_last hx hb hKo hP1 (zwL_D hI hO) hS 125 0 atL_o rfl (by unfold vp_in; decide) d_LW_answer_15 (fun H locs hP _ hS => ?_)
    have hP : va_P (dC, dI) vwCl (wdL cA ad cL ao X1 (vp_updL O 0 r.toInt64)) H := by rw [← stL_o]; exact hP
    refine lv_goto (tgt := 35) hx hb d_LW_answer_16 (by decide) ?_
    refine lv_iconst (v := (0 : Int32)) hx hb d_LW_answer_35 (by decide) ?_
    exact W.iret (v := (0 : Int32)) hx hb hr (fun t9 ht9 _ => ⟨⟨0, (X1, vp_updL O 0 r.toInt64), rfl, hw, by show va_P _ _ _ t9.heap; rw [ht9]; exact hP⟩, hS.F ht9⟩) hS.2.2 d_LW_answer_36
abbrev c_LW_probe : ByteArray := method_6_code
def y_LW_probe : MethodName := ⟨"ChallengeAuthorityLaw", "probe", "(LChallengeAuthority;III[J)I"⟩
def ws_LW_probe : List Cond := Cond.codeWith y_LW_probe c_LW_probe 6 (Option.some Jvm.ClassFile.FieldType.int) [((0 : Nat), (12 : Nat), (15 : Nat), (23 : Nat)), ((0 : Nat), (12 : Nat), (19 : Nat), (17 : Nat))] :: GW
theorem d_LW_probe_0 : decode c_LW_probe 0 = .ok (.aload 4, 2) := by decide +kernel
theorem d_LW_probe_2 : decode c_LW_probe 2 = .ok (.iconst 0, 1) := by decide +kernel
theorem d_LW_probe_3 : decode c_LW_probe 3 = .ok (.aload_n 0, 1) := by decide +kernel
theorem d_LW_probe_4 : decode c_LW_probe 4 = .ok (.iload_n 1, 1) := by decide +kernel
theorem d_LW_probe_5 : decode c_LW_probe 5 = .ok (.iload_n 2, 1) := by decide +kernel
theorem d_LW_probe_6 : decode c_LW_probe 6 = .ok (.iload_n 3, 1) := by decide +kernel
theorem d_LW_probe_7 : decode c_LW_probe 7 = .ok (.invokevirtual 28, 3) := by decide +kernel
theorem d_LW_probe_10 : decode c_LW_probe 10 = .ok (.i2l, 1) := by decide +kernel
theorem d_LW_probe_11 : decode c_LW_probe 11 = .ok (.lastore, 1) := by decide +kernel
theorem d_LW_probe_12 : decode c_LW_probe 12 = .ok (.goto 11, 3) := by decide +kernel
theorem d_LW_probe_15 : decode c_LW_probe 15 = .ok (.astore 5, 2) := by decide +kernel
theorem d_LW_probe_17 : decode c_LW_probe 17 = .ok (.iconst 1, 1) := by decide +kernel
theorem d_LW_probe_18 : decode c_LW_probe 18 = .ok (.ireturn, 1) := by decide +kernel
theorem d_LW_probe_19 : decode c_LW_probe 19 = .ok (.astore 5, 2) := by decide +kernel
theorem d_LW_probe_21 : decode c_LW_probe 21 = .ok (.iconst 2, 1) := by decide +kernel
theorem d_LW_probe_22 : decode c_LW_probe 22 = .ok (.ireturn, 1) := by decide +kernel
theorem d_LW_probe_23 : decode c_LW_probe 23 = .ok (.iconst 0, 1) := by decide +kernel
theorem d_LW_probe_24 : decode c_LW_probe 24 = .ok (.ireturn, 1) := by decide +kernel
def wp_LW_probe (post : Int32 → ST → (Nat → Int64) → Prop) (X : ST) (O : Nat → Int64) (a1 : Int32) (a2 : Int32) (a3 : Int32) : Prop := wp_CA_probe (fun (r : Int32) (X1 : ST) => post 0 X1 (vp_updL O 0 r.toInt64)) (fun (E : String) (X1 : ST) => (E = "java/util/NoSuchElementException" ∧ post 1 X1 O) ∨ (E = "java/lang/IllegalStateException" ∧ post 2 X1 O)) X a1 a2 a3
set_option maxHeartbeats 4000000 in
set_option maxRecDepth 100000 in
theorem mt_LW_probe (l : Launch) (hl9 : l.stackTraces = false) (dC : Nat → ClassId) (dI : Nat → Nat → Nat) (cA : Nat → ClassId) (ad : Nat → Nat) (hI : INJ ad 125) (cL : ClassId) (ao : Nat) (hO : ∀ k : Nat, k < 125 → ao ≠ ad k) (sz : Nat) {X : ST} {O : Nat → Int64} {a1 : Int32} {a2 : Int32} {a3 : Int32} {post : Int32 → ST → (Nat → Int64) → Prop} (hw : wp_LW_probe post X O a1 a2 a3) : Met l y_LW_probe ws_LW_probe ({ frames := 8, cells := 2, slots := 12, locals := 138 } : Room) (va_Pc [.ref (ad 0), .int a1, .int a2, .int a3, .ref ao] (fun U => PL dC dI cA ad cL ao sz X O U)) (va_Qi (fun r (u : ST × (Nat → Int64)) => post r u.1 u.2) (fun (u : ST × (Nat → Int64)) t => va_P (dC, dI) vwCl (wdL cA ad cL ao u.1 u.2) t.heap) (CL ad ao sz)) 2 12 (CL ad ao sz) := by
  refine xt_ofT (cc := c_LW_probe) (maxL := 6) (ret := (some .int)) (rows := [((0 : Nat), (12 : Nat), (15 : Nat), (23 : Nat)), ((0 : Nat), (12 : Nat), (19 : Nat), (17 : Nat))]) (by decide) rfl ?_
  intro p e s m args below meth c s₁ B hml htab hv
  obtain ⟨rfl, hsz, hP, hG⟩ := hv
  have hx := B.exec
  have hb := B.bytes
  have hr := B.returns
  have hts : ∀ w ∈ GW, w.before (([.ref (ad 0), .int a1, .int a2, .int a3, .ref ao] : List Value).toArray) s = true := fun w h => atoms_spec (ws := ws_LW_probe) B.pre w (List.mem_cons_of_mem _ h)
  have hown : s.vm.findClass R_LW = some m.cls := findClass_of_methodNamed B.named
  have hlocks := B.notSynchronized
  subst hsz
  have hK := hG.1.1
  have hKo := hG.2.1
  have hNW := hG.1.2.1
  have hNC := hG.2.2
  have hS : va_S (CL ad ao s.heap.size) s.heap s.heap [] := va_S.rf
  have hao : ao < s.heap.size := (hP 125 _ atL_o).lt
  have hl := lv_entry ([.ref (ad 0), .int a1, .int a2, .int a3, .ref ao]) (n := 6) (Nat.le_of_ble_eq_true rfl)
  rw [lg_entry_eq]
  generalize (lg_sl ([.ref (ad 0), .int a1, .int a2, .int a3, .ref ao]) ++ List.replicate (6 - (lg_sl ([.ref (ad 0), .int a1, .int a2, .int a3, .ref ao])).length) Slot.unset).toArray = ls at hl ⊢
  have hl : lv_has ls 6 [(0, .ref (ad 0)), (1, .int a1), (2, .int a2), (3, .int a3), (4, .ref ao)] := hl
  unfold wp_LW_probe at hw
  refine lv_aload hx hb d_LW_probe_0 (lv_at hl 4 rfl) ?_
  refine lv_iconst (v := (0 : Int32)) hx hb d_LW_probe_2 (by decide) ?_
  refine lv_aload_n hx hb d_LW_probe_3 rfl (lv_at hl 0 rfl) ?_
  refine lv_iload_n hx hb d_LW_probe_4 rfl (lv_at hl 1 rfl) ?_
  refine lv_iload_n hx hb d_LW_probe_5 rfl (lv_at hl 2 rfl) ?_
  refine lv_iload_n hx hb d_LW_probe_6 rfl (lv_at hl 3 rfl) ?_
  refine xt_calli (xt_runV (As := [.int a1, .int a2, .int a3]) (rest := [.int (0 : Int32), .ref ao]) ⟨hx, hb, hml, hown, hts⟩ (mt_CA_probe l hl9 dC dI cA ad hI _ hw) (cwV 3 hts (gV gw_557 gw_558 gw_559 gw_13 gw_556) rfl rfl rfl (by decide +kernel) ⟨(Nat.le_of_ble_eq_true rfl), (Nat.le_of_ble_eq_true rfl)⟩) ⟨zwC_blind, va_recv hK (zwL_C hP) (ci := 0) (q0 := 0) rfl atC_CA, zwC_pre (zwL_C hP) va_S.rf hG.1⟩ rfl rfl hl.1 rfl (lv_room (Nat.le_of_ble_eq_true rfl)) d_LW_probe_7 ⟨(Nat.le_of_ble_eq_true rfl), (Nat.le_of_ble_eq_true rfl)⟩) hS (fun q _ h => Or.inl h) (fun q h => Or.inl h) (fun q _ h => Or.inl h) (fun E ce q9 u9 t H locs ht ha hw hB hz1 hk1 hS hce hcv hcl => ?_) (fun r X1 t H locs ht hvm hw hP1 hz1 hk1 hS => ?_)
  · obtain ⟨E9, X9⟩ := u9
    obtain ⟨rfl, hP1⟩ := hB
    have hP1 : va_P (dC, dI) vwCl (wdL cA ad cL ao X9 O) H := zwL_join (by rw [← ht]; exact hP1) hP (hk1 ao hao (zwL_no hO hao))
    rcases hw with ⟨he, hw⟩ | ⟨he, hw⟩
    · have hcl : s.vm.findClass "java/util/NoSuchElementException" = some ce.cls := by rw [← show E9 = _ from he]; exact hcl
      refine xt_catch (r := 15) hown htab ⟨⟨(Nat.le_of_ble_eq_true rfl), (Nat.le_of_ble_eq_true rfl)⟩, (by decide), "java/util/NoSuchElementException", hts _ gw_551, Or.inl ⟨va_Nw.use rfl (hNW (.castable "java/util/NoSuchElementException" "java/util/NoSuchElementException") (List.mem_of_getElem? (i := 17) rfl)), rfl⟩⟩ hce hcv hcl ?_
      refine lv_astore (lv' := [(5, .ref q9), (0, .ref (ad 0)), (1, .int a1), (2, .int a2), (3, .int a3), (4, .ref ao)]) hx hb d_LW_probe_15 hl (by decide) rfl (fun ls hl => ?_)
      refine lv_iconst (v := (1 : Int32)) hx hb d_LW_probe_17 (by decide) ?_
      exact W.iret (v := (1 : Int32)) hx hb hr (fun t9 ht9 _ => ⟨⟨1, (X9, O), rfl, hw, by show va_P _ _ _ t9.heap; rw [ht9]; exact hP1⟩, hS.F ht9⟩) hS.2.2 d_LW_probe_18
    · have hcl : s.vm.findClass "java/lang/IllegalStateException" = some ce.cls := by rw [← show E9 = _ from he]; exact hcl
      refine xt_catch (r := 19) hown htab ⟨⟨(Nat.le_of_ble_eq_true rfl), (Nat.le_of_ble_eq_true rfl)⟩, (by decide), "java/util/NoSuchElementException", hts _ gw_551, Or.inr ⟨hNC ("java/lang/IllegalStateException", "java/util/NoSuchElementException") (List.mem_of_getElem? (i := 9) rfl), ⟨⟨(Nat.le_of_ble_eq_true rfl), (Nat.le_of_ble_eq_true rfl)⟩, (by decide), "java/lang/IllegalStateException", hts _ gw_546, Or.inl ⟨va_Nw.use rfl (hNW (.castable "java/lang/IllegalStateException" "java/lang/IllegalStateException") (List.mem_of_getElem? (i := 16) rfl)), rfl⟩⟩⟩⟩ hce hcv hcl ?_
      refine lv_astore (lv' := [(5, .ref q9), (0, .ref (ad 0)), (1, .int a1), (2, .int a2), (3, .int a3), (4, .ref ao)]) hx hb d_LW_probe_19 hl (by decide) rfl (fun ls hl => ?_)
      refine lv_iconst (v := (2 : Int32)) hx hb d_LW_probe_21 (by decide) ?_
      exact W.iret (v := (2 : Int32)) hx hb hr (fun t9 ht9 _ => ⟨⟨2, (X9, O), rfl, hw, by show va_P _ _ _ t9.heap; rw [ht9]; exact hP1⟩, hS.F ht9⟩) hS.2.2 d_LW_probe_22
  · have hP1 : va_P (dC, dI) vwCl (wdL cA ad cL ao X1 O) H := zwL_join (by rw [← ht]; exact hP1) hP (hk1 ao hao (zwL_no hO hao))
    try dsimp only at hw
    refine lv_i2l hx hb d_LW_probe_10 rfl ?_
    refine va_last hx hb hKo hP1 (zwL_D hI hO) hS 125 0 atL_o rfl (by unfold vp_in; decide) d_LW_probe_11 (fun H locs hP _ hS => ?_)
    have hP : va_P (dC, dI) vwCl (wdL cA ad cL ao X1 (vp_updL O 0 r.toInt64)) H := by rw [← stL_o]; exact hP
    refine lv_goto (tgt := 23) hx hb d_LW_probe_12 (by decide) ?_
    refine lv_iconst (v := (0 : Int32)) hx hb d_LW_probe_23 (by decide) ?_
    exact W.iret (v := (0 : Int32)) hx hb hr (fun t9 ht9 _ => ⟨⟨0, (X1, vp_updL O 0 r.toInt64), rfl, hw, by show va_P _ _ _ t9.heap; rw [ht9]; exact hP⟩, hS.F ht9⟩) hS.2.2 d_LW_probe_24
abbrev c_LW_finish : ByteArray := method_7_code
def y_LW_finish : MethodName := ⟨"ChallengeAuthorityLaw", "finish", "(LChallengeAuthority;IIII[J)I"⟩
def ws_LW_finish : List Cond := Cond.codeWith y_LW_finish c_LW_finish 7 (Option.some Jvm.ClassFile.FieldType.int) [((0 : Nat), (14 : Nat), (17 : Nat), (23 : Nat)), ((0 : Nat), (14 : Nat), (21 : Nat), (13 : Nat)), ((0 : Nat), (14 : Nat), (25 : Nat), (15 : Nat)), ((0 : Nat), (14 : Nat), (29 : Nat), (17 : Nat))] :: GW
theorem d_LW_finish_0 : decode c_LW_finish 0 = .ok (.aload 5, 2) := by decide +kernel
theorem d_LW_finish_2 : decode c_LW_finish 2 = .ok (.iconst 0, 1) := by decide +kernel
theorem d_LW_finish_3 : decode c_LW_finish 3 = .ok (.aload_n 0, 1) := by decide +kernel
theorem d_LW_finish_4 : decode c_LW_finish 4 = .ok (.iload_n 1, 1) := by decide +kernel
theorem d_LW_finish_5 : decode c_LW_finish 5 = .ok (.iload_n 2, 1) := by decide +kernel
theorem d_LW_finish_6 : decode c_LW_finish 6 = .ok (.iload_n 3, 1) := by decide +kernel
theorem d_LW_finish_7 : decode c_LW_finish 7 = .ok (.iload 4, 2) := by decide +kernel
theorem d_LW_finish_9 : decode c_LW_finish 9 = .ok (.invokevirtual 31, 3) := by decide +kernel
theorem d_LW_finish_12 : decode c_LW_finish 12 = .ok (.i2l, 1) := by decide +kernel
theorem d_LW_finish_13 : decode c_LW_finish 13 = .ok (.lastore, 1) := by decide +kernel
theorem d_LW_finish_14 : decode c_LW_finish 14 = .ok (.goto 19, 3) := by decide +kernel
theorem d_LW_finish_17 : decode c_LW_finish 17 = .ok (.astore 6, 2) := by decide +kernel
theorem d_LW_finish_19 : decode c_LW_finish 19 = .ok (.iconst 1, 1) := by decide +kernel
theorem d_LW_finish_20 : decode c_LW_finish 20 = .ok (.ireturn, 1) := by decide +kernel
theorem d_LW_finish_21 : decode c_LW_finish 21 = .ok (.astore 6, 2) := by decide +kernel
theorem d_LW_finish_23 : decode c_LW_finish 23 = .ok (.iconst 2, 1) := by decide +kernel
theorem d_LW_finish_24 : decode c_LW_finish 24 = .ok (.ireturn, 1) := by decide +kernel
theorem d_LW_finish_25 : decode c_LW_finish 25 = .ok (.astore 6, 2) := by decide +kernel
theorem d_LW_finish_27 : decode c_LW_finish 27 = .ok (.iconst 3, 1) := by decide +kernel
theorem d_LW_finish_28 : decode c_LW_finish 28 = .ok (.ireturn, 1) := by decide +kernel
theorem d_LW_finish_29 : decode c_LW_finish 29 = .ok (.astore 6, 2) := by decide +kernel
theorem d_LW_finish_31 : decode c_LW_finish 31 = .ok (.iconst 4, 1) := by decide +kernel
theorem d_LW_finish_32 : decode c_LW_finish 32 = .ok (.ireturn, 1) := by decide +kernel
theorem d_LW_finish_33 : decode c_LW_finish 33 = .ok (.iconst 0, 1) := by decide +kernel
theorem d_LW_finish_34 : decode c_LW_finish 34 = .ok (.ireturn, 1) := by decide +kernel
def wp_LW_finish (post : Int32 → ST → (Nat → Int64) → Prop) (X : ST) (O : Nat → Int64) (a1 : Int32) (a2 : Int32) (a3 : Int32) (a4 : Int32) : Prop := wp_CA_finish (fun (r : Int32) (X1 : ST) => post 0 X1 (vp_updL O 0 r.toInt64)) (fun (E : String) (X1 : ST) => (E = "java/util/NoSuchElementException" ∧ post 1 X1 O) ∨ (E = "java/lang/UnsupportedOperationException" ∧ post 2 X1 O) ∨ (E = "java/lang/IllegalArgumentException" ∧ post 3 X1 O) ∨ (E = "java/lang/IllegalStateException" ∧ post 4 X1 O)) X a1 a2 a3 a4
set_option maxHeartbeats 4000000 in
set_option maxRecDepth 100000 in
theorem mt_LW_finish (l : Launch) (hl9 : l.stackTraces = false) (dC : Nat → ClassId) (dI : Nat → Nat → Nat) (cA : Nat → ClassId) (ad : Nat → Nat) (hI : INJ ad 125) (cL : ClassId) (ao : Nat) (hO : ∀ k : Nat, k < 125 → ao ≠ ad k) (sz : Nat) {X : ST} {O : Nat → Int64} {a1 : Int32} {a2 : Int32} {a3 : Int32} {a4 : Int32} {post : Int32 → ST → (Nat → Int64) → Prop} (hw : wp_LW_finish post X O a1 a2 a3 a4) : Met l y_LW_finish ws_LW_finish ({ frames := 8, cells := 2, slots := 12, locals := 147 } : Room) (va_Pc [.ref (ad 0), .int a1, .int a2, .int a3, .int a4, .ref ao] (fun U => PL dC dI cA ad cL ao sz X O U)) (va_Qi (fun r (u : ST × (Nat → Int64)) => post r u.1 u.2) (fun (u : ST × (Nat → Int64)) t => va_P (dC, dI) vwCl (wdL cA ad cL ao u.1 u.2) t.heap) (CL ad ao sz)) 2 12 (CL ad ao sz) := by
  refine xt_ofT (cc := c_LW_finish) (maxL := 7) (ret := (some .int)) (rows := [((0 : Nat), (14 : Nat), (17 : Nat), (23 : Nat)), ((0 : Nat), (14 : Nat), (21 : Nat), (13 : Nat)), ((0 : Nat), (14 : Nat), (25 : Nat), (15 : Nat)), ((0 : Nat), (14 : Nat), (29 : Nat), (17 : Nat))]) (by decide) rfl ?_
  intro p e s m args below meth c s₁ B hml htab hv
  obtain ⟨rfl, hsz, hP, hG⟩ := hv
  have hx := B.exec
  have hb := B.bytes
  have hr := B.returns
  have hts : ∀ w ∈ GW, w.before (([.ref (ad 0), .int a1, .int a2, .int a3, .int a4, .ref ao] : List Value).toArray) s = true := fun w h => atoms_spec (ws := ws_LW_finish) B.pre w (List.mem_cons_of_mem _ h)
  have hown : s.vm.findClass R_LW = some m.cls := findClass_of_methodNamed B.named
  have hlocks := B.notSynchronized
  subst hsz
  have hK := hG.1.1
  have hKo := hG.2.1
  have hNW := hG.1.2.1
  have hNC := hG.2.2
  have hS : va_S (CL ad ao s.heap.size) s.heap s.heap [] := va_S.rf
  have hao : ao < s.heap.size := (hP 125 _ atL_o).lt
  have hl := lv_entry ([.ref (ad 0), .int a1, .int a2, .int a3, .int a4, .ref ao]) (n := 7) (Nat.le_of_ble_eq_true rfl)
  rw [lg_entry_eq]
  generalize (lg_sl ([.ref (ad 0), .int a1, .int a2, .int a3, .int a4, .ref ao]) ++ List.replicate (7 - (lg_sl ([.ref (ad 0), .int a1, .int a2, .int a3, .int a4, .ref ao])).length) Slot.unset).toArray = ls at hl ⊢
  have hl : lv_has ls 7 [(0, .ref (ad 0)), (1, .int a1), (2, .int a2), (3, .int a3), (4, .int a4), (5, .ref ao)] := hl
  unfold wp_LW_finish at hw
  refine lv_aload hx hb d_LW_finish_0 (lv_at hl 5 rfl) ?_
  refine lv_iconst (v := (0 : Int32)) hx hb d_LW_finish_2 (by decide) ?_
  refine lv_aload_n hx hb d_LW_finish_3 rfl (lv_at hl 0 rfl) ?_
  refine lv_iload_n hx hb d_LW_finish_4 rfl (lv_at hl 1 rfl) ?_
  refine lv_iload_n hx hb d_LW_finish_5 rfl (lv_at hl 2 rfl) ?_
  refine lv_iload_n hx hb d_LW_finish_6 rfl (lv_at hl 3 rfl) ?_
  refine lv_iload hx hb d_LW_finish_7 (lv_at hl 4 rfl) ?_
  refine xt_calli (xt_runV (As := [.int a1, .int a2, .int a3, .int a4]) (rest := [.int (0 : Int32), .ref ao]) ⟨hx, hb, hml, hown, hts⟩ (mt_CA_finish l hl9 dC dI cA ad hI _ hw) (cwV 4 hts (gV gw_561 gw_562 gw_563 gw_13 gw_560) rfl rfl rfl (by decide +kernel) ⟨(Nat.le_of_ble_eq_true rfl), (Nat.le_of_ble_eq_true rfl)⟩) ⟨zwC_blind, va_recv hK (zwL_C hP) (ci := 0) (q0 := 0) rfl atC_CA, zwC_pre (zwL_C hP) va_S.rf hG.1⟩ rfl rfl hl.1 rfl (lv_room (Nat.le_of_ble_eq_true rfl)) d_LW_finish_9 ⟨(Nat.le_of_ble_eq_true rfl), (Nat.le_of_ble_eq_true rfl)⟩) hS (fun q _ h => Or.inl h) (fun q h => Or.inl h) (fun q _ h => Or.inl h) (fun E ce q9 u9 t H locs ht ha hw hB hz1 hk1 hS hce hcv hcl => ?_) (fun r X1 t H locs ht hvm hw hP1 hz1 hk1 hS => ?_)
  · obtain ⟨E9, X9⟩ := u9
    obtain ⟨rfl, hP1⟩ := hB
    have hP1 : va_P (dC, dI) vwCl (wdL cA ad cL ao X9 O) H := zwL_join (by rw [← ht]; exact hP1) hP (hk1 ao hao (zwL_no hO hao))
    rcases hw with ⟨he, hw⟩ | ⟨he, hw⟩ | ⟨he, hw⟩ | ⟨he, hw⟩
    · have hcl : s.vm.findClass "java/util/NoSuchElementException" = some ce.cls := by rw [← show E9 = _ from he]; exact hcl
      refine xt_catch (r := 17) hown htab ⟨⟨(Nat.le_of_ble_eq_true rfl), (Nat.le_of_ble_eq_true rfl)⟩, (by decide), "java/util/NoSuchElementException", hts _ gw_551, Or.inl ⟨va_Nw.use rfl (hNW (.castable "java/util/NoSuchElementException" "java/util/NoSuchElementException") (List.mem_of_getElem? (i := 17) rfl)), rfl⟩⟩ hce hcv hcl ?_
      refine lv_astore (lv' := [(6, .ref q9), (0, .ref (ad 0)), (1, .int a1), (2, .int a2), (3, .int a3), (4, .int a4), (5, .ref ao)]) hx hb d_LW_finish_17 hl (by decide) rfl (fun ls hl => ?_)
      refine lv_iconst (v := (1 : Int32)) hx hb d_LW_finish_19 (by decide) ?_
      exact W.iret (v := (1 : Int32)) hx hb hr (fun t9 ht9 _ => ⟨⟨1, (X9, O), rfl, hw, by show va_P _ _ _ t9.heap; rw [ht9]; exact hP1⟩, hS.F ht9⟩) hS.2.2 d_LW_finish_20
    · have hcl : s.vm.findClass "java/lang/UnsupportedOperationException" = some ce.cls := by rw [← show E9 = _ from he]; exact hcl
      refine xt_catch (r := 21) hown htab ⟨⟨(Nat.le_of_ble_eq_true rfl), (Nat.le_of_ble_eq_true rfl)⟩, (by decide), "java/util/NoSuchElementException", hts _ gw_551, Or.inr ⟨hNC ("java/lang/UnsupportedOperationException", "java/util/NoSuchElementException") (List.mem_of_getElem? (i := 3) rfl), ⟨⟨(Nat.le_of_ble_eq_true rfl), (Nat.le_of_ble_eq_true rfl)⟩, (by decide), "java/lang/UnsupportedOperationException", hts _ gw_544, Or.inl ⟨va_Nw.use rfl (hNW (.castable "java/lang/UnsupportedOperationException" "java/lang/UnsupportedOperationException") (List.mem_of_getElem? (i := 15) rfl)), rfl⟩⟩⟩⟩ hce hcv hcl ?_
      refine lv_astore (lv' := [(6, .ref q9), (0, .ref (ad 0)), (1, .int a1), (2, .int a2), (3, .int a3), (4, .int a4), (5, .ref ao)]) hx hb d_LW_finish_21 hl (by decide) rfl (fun ls hl => ?_)
      refine lv_iconst (v := (2 : Int32)) hx hb d_LW_finish_23 (by decide) ?_
      exact W.iret (v := (2 : Int32)) hx hb hr (fun t9 ht9 _ => ⟨⟨2, (X9, O), rfl, hw, by show va_P _ _ _ t9.heap; rw [ht9]; exact hP1⟩, hS.F ht9⟩) hS.2.2 d_LW_finish_24
    · have hcl : s.vm.findClass "java/lang/IllegalArgumentException" = some ce.cls := by rw [← show E9 = _ from he]; exact hcl
      refine xt_catch (r := 25) hown htab ⟨⟨(Nat.le_of_ble_eq_true rfl), (Nat.le_of_ble_eq_true rfl)⟩, (by decide), "java/util/NoSuchElementException", hts _ gw_551, Or.inr ⟨hNC ("java/lang/IllegalArgumentException", "java/util/NoSuchElementException") (List.mem_of_getElem? (i := 6) rfl), ⟨⟨(Nat.le_of_ble_eq_true rfl), (Nat.le_of_ble_eq_true rfl)⟩, (by decide), "java/lang/UnsupportedOperationException", hts _ gw_544, Or.inr ⟨hNC ("java/lang/IllegalArgumentException", "java/lang/UnsupportedOperationException") (List.mem_of_getElem? (i := 7) rfl), ⟨⟨(Nat.le_of_ble_eq_true rfl), (Nat.le_of_ble_eq_true rfl)⟩, (by decide), "java/lang/IllegalArgumentException", hts _ gw_545, Or.inl ⟨va_Nw.use rfl (hNW (.castable "java/lang/IllegalArgumentException" "java/lang/IllegalArgumentException") (List.mem_of_getElem? (i := 8) rfl)), rfl⟩⟩⟩⟩⟩⟩ hce hcv hcl ?_
      refine lv_astore (lv' := [(6, .ref q9), (0, .ref (ad 0)), (1, .int a1), (2, .int a2), (3, .int a3), (4, .int a4), (5, .ref ao)]) hx hb d_LW_finish_25 hl (by decide) rfl (fun ls hl => ?_)
      refine lv_iconst (v := (3 : Int32)) hx hb d_LW_finish_27 (by decide) ?_
      exact W.iret (v := (3 : Int32)) hx hb hr (fun t9 ht9 _ => ⟨⟨3, (X9, O), rfl, hw, by show va_P _ _ _ t9.heap; rw [ht9]; exact hP1⟩, hS.F ht9⟩) hS.2.2 d_LW_finish_28
    · have hcl : s.vm.findClass "java/lang/IllegalStateException" = some ce.cls := by rw [← show E9 = _ from he]; exact hcl
      refine xt_catch (r := 29) hown htab ⟨⟨(Nat.le_of_ble_eq_true rfl), (Nat.le_of_ble_eq_true rfl)⟩, (by decide), "java/util/NoSuchElementException", hts _ gw_551, Or.inr ⟨hNC ("java/lang/IllegalStateException", "java/util/NoSuchElementException") (List.mem_of_getElem? (i := 9) rfl), ⟨⟨(Nat.le_of_ble_eq_true rfl), (Nat.le_of_ble_eq_true rfl)⟩, (by decide), "java/lang/UnsupportedOperationException", hts _ gw_544, Or.inr ⟨hNC ("java/lang/IllegalStateException", "java/lang/UnsupportedOperationException") (List.mem_of_getElem? (i := 10) rfl), ⟨⟨(Nat.le_of_ble_eq_true rfl), (Nat.le_of_ble_eq_true rfl)⟩, (by decide), "java/lang/IllegalArgumentException", hts _ gw_545, Or.inr ⟨hNC ("java/lang/IllegalStateException", "java/lang/IllegalArgumentException") (List.mem_of_getElem? (i := 11) rfl), ⟨⟨(Nat.le_of_ble_eq_true rfl), (Nat.le_of_ble_eq_true rfl)⟩, (by decide), "java/lang/IllegalStateException", hts _ gw_546, Or.inl ⟨va_Nw.use rfl (hNW (.castable "java/lang/IllegalStateException" "java/lang/IllegalStateException") (List.mem_of_getElem? (i := 16) rfl)), rfl⟩⟩⟩⟩⟩⟩⟩⟩ hce hcv hcl ?_
      refine lv_astore (lv' := [(6, .ref q9), (0, .ref (ad 0)), (1, .int a1), (2, .int a2), (3, .int a3), (4, .int a4), (5, .ref ao)]) hx hb d_LW_finish_29 hl (by decide) rfl (fun ls hl => ?_)
      refine lv_iconst (v := (4 : Int32)) hx hb d_LW_finish_31 (by decide) ?_
      exact W.iret (v := (4 : Int32)) hx hb hr (fun t9 ht9 _ => ⟨⟨4, (X9, O), rfl, hw, by show va_P _ _ _ t9.heap; rw [ht9]; exact hP1⟩, hS.F ht9⟩) hS.2.2 d_LW_finish_32
  · have hP1 : va_P (dC, dI) vwCl (wdL cA ad cL ao X1 O) H := zwL_join (by rw [← ht]; exact hP1) hP (hk1 ao hao (zwL_no hO hao))
    try dsimp only at hw
    refine lv_i2l hx hb d_LW_finish_12 rfl ?_
    refine va_last hx hb hKo hP1 (zwL_D hI hO) hS 125 0 atL_o rfl (by unfold vp_in; decide) d_LW_finish_13 (fun H locs hP _ hS => ?_)
    have hP : va_P (dC, dI) vwCl (wdL cA ad cL ao X1 (vp_updL O 0 r.toInt64)) H := by rw [← stL_o]; exact hP
    refine lv_goto (tgt := 33) hx hb d_LW_finish_14 (by decide) ?_
    refine lv_iconst (v := (0 : Int32)) hx hb d_LW_finish_33 (by decide) ?_
    exact W.iret (v := (0 : Int32)) hx hb hr (fun t9 ht9 _ => ⟨⟨0, (X1, vp_updL O 0 r.toInt64), rfl, hw, by show va_P _ _ _ t9.heap; rw [ht9]; exact hP⟩, hS.F ht9⟩) hS.2.2 d_LW_finish_34
abbrev c_LW_revoke : ByteArray := method_8_code
def y_LW_revoke : MethodName := ⟨"ChallengeAuthorityLaw", "revoke", "(LChallengeAuthority;IIIII[J)I"⟩
def ws_LW_revoke : List Cond := Cond.codeWith y_LW_revoke c_LW_revoke 8 (Option.some Jvm.ClassFile.FieldType.int) [((0 : Nat), (16 : Nat), (19 : Nat), (23 : Nat)), ((0 : Nat), (16 : Nat), (23 : Nat), (13 : Nat)), ((0 : Nat), (16 : Nat), (27 : Nat), (15 : Nat)), ((0 : Nat), (16 : Nat), (31 : Nat), (17 : Nat))] :: GW
theorem d_LW_revoke_0 : decode c_LW_revoke 0 = .ok (.aload 6, 2) := by decide +kernel
theorem d_LW_revoke_2 : decode c_LW_revoke 2 = .ok (.iconst 0, 1) := by decide +kernel
theorem d_LW_revoke_3 : decode c_LW_revoke 3 = .ok (.aload_n 0, 1) := by decide +kernel
theorem d_LW_revoke_4 : decode c_LW_revoke 4 = .ok (.iload_n 1, 1) := by decide +kernel
theorem d_LW_revoke_5 : decode c_LW_revoke 5 = .ok (.iload_n 2, 1) := by decide +kernel
theorem d_LW_revoke_6 : decode c_LW_revoke 6 = .ok (.iload_n 3, 1) := by decide +kernel
theorem d_LW_revoke_7 : decode c_LW_revoke 7 = .ok (.iload 4, 2) := by decide +kernel
theorem d_LW_revoke_9 : decode c_LW_revoke 9 = .ok (.iload 5, 2) := by decide +kernel
theorem d_LW_revoke_11 : decode c_LW_revoke 11 = .ok (.invokevirtual 35, 3) := by decide +kernel
theorem d_LW_revoke_14 : decode c_LW_revoke 14 = .ok (.i2l, 1) := by decide +kernel
theorem d_LW_revoke_15 : decode c_LW_revoke 15 = .ok (.lastore, 1) := by decide +kernel
theorem d_LW_revoke_16 : decode c_LW_revoke 16 = .ok (.goto 19, 3) := by decide +kernel
theorem d_LW_revoke_19 : decode c_LW_revoke 19 = .ok (.astore 7, 2) := by decide +kernel
theorem d_LW_revoke_21 : decode c_LW_revoke 21 = .ok (.iconst 1, 1) := by decide +kernel
theorem d_LW_revoke_22 : decode c_LW_revoke 22 = .ok (.ireturn, 1) := by decide +kernel
theorem d_LW_revoke_23 : decode c_LW_revoke 23 = .ok (.astore 7, 2) := by decide +kernel
theorem d_LW_revoke_25 : decode c_LW_revoke 25 = .ok (.iconst 2, 1) := by decide +kernel
theorem d_LW_revoke_26 : decode c_LW_revoke 26 = .ok (.ireturn, 1) := by decide +kernel
theorem d_LW_revoke_27 : decode c_LW_revoke 27 = .ok (.astore 7, 2) := by decide +kernel
theorem d_LW_revoke_29 : decode c_LW_revoke 29 = .ok (.iconst 3, 1) := by decide +kernel
theorem d_LW_revoke_30 : decode c_LW_revoke 30 = .ok (.ireturn, 1) := by decide +kernel
theorem d_LW_revoke_31 : decode c_LW_revoke 31 = .ok (.astore 7, 2) := by decide +kernel
theorem d_LW_revoke_33 : decode c_LW_revoke 33 = .ok (.iconst 4, 1) := by decide +kernel
theorem d_LW_revoke_34 : decode c_LW_revoke 34 = .ok (.ireturn, 1) := by decide +kernel
theorem d_LW_revoke_35 : decode c_LW_revoke 35 = .ok (.iconst 0, 1) := by decide +kernel
theorem d_LW_revoke_36 : decode c_LW_revoke 36 = .ok (.ireturn, 1) := by decide +kernel
def wp_LW_revoke (post : Int32 → ST → (Nat → Int64) → Prop) (X : ST) (O : Nat → Int64) (a1 : Int32) (a2 : Int32) (a3 : Int32) (a4 : Int32) (a5 : Int32) : Prop := wp_CA_revoke (fun (r : Int32) (X1 : ST) => post 0 X1 (vp_updL O 0 r.toInt64)) (fun (E : String) (X1 : ST) => (E = "java/util/NoSuchElementException" ∧ post 1 X1 O) ∨ (E = "java/lang/UnsupportedOperationException" ∧ post 2 X1 O) ∨ (E = "java/lang/IllegalArgumentException" ∧ post 3 X1 O) ∨ (E = "java/lang/IllegalStateException" ∧ post 4 X1 O)) X a1 a2 a3 a4 a5
set_option maxHeartbeats 4000000 in
set_option maxRecDepth 100000 in
theorem mt_LW_revoke (l : Launch) (hl9 : l.stackTraces = false) (dC : Nat → ClassId) (dI : Nat → Nat → Nat) (cA : Nat → ClassId) (ad : Nat → Nat) (hI : INJ ad 125) (cL : ClassId) (ao : Nat) (hO : ∀ k : Nat, k < 125 → ao ≠ ad k) (sz : Nat) {X : ST} {O : Nat → Int64} {a1 : Int32} {a2 : Int32} {a3 : Int32} {a4 : Int32} {a5 : Int32} {post : Int32 → ST → (Nat → Int64) → Prop} (hw : wp_LW_revoke post X O a1 a2 a3 a4 a5) : Met l y_LW_revoke ws_LW_revoke ({ frames := 8, cells := 2, slots := 12, locals := 141 } : Room) (va_Pc [.ref (ad 0), .int a1, .int a2, .int a3, .int a4, .int a5, .ref ao] (fun U => PL dC dI cA ad cL ao sz X O U)) (va_Qi (fun r (u : ST × (Nat → Int64)) => post r u.1 u.2) (fun (u : ST × (Nat → Int64)) t => va_P (dC, dI) vwCl (wdL cA ad cL ao u.1 u.2) t.heap) (CL ad ao sz)) 2 12 (CL ad ao sz) := by
  refine xt_ofT (cc := c_LW_revoke) (maxL := 8) (ret := (some .int)) (rows := [((0 : Nat), (16 : Nat), (19 : Nat), (23 : Nat)), ((0 : Nat), (16 : Nat), (23 : Nat), (13 : Nat)), ((0 : Nat), (16 : Nat), (27 : Nat), (15 : Nat)), ((0 : Nat), (16 : Nat), (31 : Nat), (17 : Nat))]) (by decide) rfl ?_
  intro p e s m args below meth c s₁ B hml htab hv
  obtain ⟨rfl, hsz, hP, hG⟩ := hv
  have hx := B.exec
  have hb := B.bytes
  have hr := B.returns
  have hts : ∀ w ∈ GW, w.before (([.ref (ad 0), .int a1, .int a2, .int a3, .int a4, .int a5, .ref ao] : List Value).toArray) s = true := fun w h => atoms_spec (ws := ws_LW_revoke) B.pre w (List.mem_cons_of_mem _ h)
  have hown : s.vm.findClass R_LW = some m.cls := findClass_of_methodNamed B.named
  have hlocks := B.notSynchronized
  subst hsz
  have hK := hG.1.1
  have hKo := hG.2.1
  have hNW := hG.1.2.1
  have hNC := hG.2.2
  have hS : va_S (CL ad ao s.heap.size) s.heap s.heap [] := va_S.rf
  have hao : ao < s.heap.size := (hP 125 _ atL_o).lt
  have hl := lv_entry ([.ref (ad 0), .int a1, .int a2, .int a3, .int a4, .int a5, .ref ao]) (n := 8) (Nat.le_of_ble_eq_true rfl)
  rw [lg_entry_eq]
  generalize (lg_sl ([.ref (ad 0), .int a1, .int a2, .int a3, .int a4, .int a5, .ref ao]) ++ List.replicate (8 - (lg_sl ([.ref (ad 0), .int a1, .int a2, .int a3, .int a4, .int a5, .ref ao])).length) Slot.unset).toArray = ls at hl ⊢
  have hl : lv_has ls 8 [(0, .ref (ad 0)), (1, .int a1), (2, .int a2), (3, .int a3), (4, .int a4), (5, .int a5), (6, .ref ao)] := hl
  unfold wp_LW_revoke at hw
  refine lv_aload hx hb d_LW_revoke_0 (lv_at hl 6 rfl) ?_
  refine lv_iconst (v := (0 : Int32)) hx hb d_LW_revoke_2 (by decide) ?_
  refine lv_aload_n hx hb d_LW_revoke_3 rfl (lv_at hl 0 rfl) ?_
  refine lv_iload_n hx hb d_LW_revoke_4 rfl (lv_at hl 1 rfl) ?_
  refine lv_iload_n hx hb d_LW_revoke_5 rfl (lv_at hl 2 rfl) ?_
  refine lv_iload_n hx hb d_LW_revoke_6 rfl (lv_at hl 3 rfl) ?_
  refine lv_iload hx hb d_LW_revoke_7 (lv_at hl 4 rfl) ?_
  refine lv_iload hx hb d_LW_revoke_9 (lv_at hl 5 rfl) ?_
  refine xt_calli (xt_runV (As := [.int a1, .int a2, .int a3, .int a4, .int a5]) (rest := [.int (0 : Int32), .ref ao]) ⟨hx, hb, hml, hown, hts⟩ (mt_CA_revoke l hl9 dC dI cA ad hI _ hw) (cwV 5 hts (gV gw_565 gw_566 gw_567 gw_13 gw_564) rfl rfl rfl (by decide +kernel) ⟨(Nat.le_of_ble_eq_true rfl), (Nat.le_of_ble_eq_true rfl)⟩) ⟨zwC_blind, va_recv hK (zwL_C hP) (ci := 0) (q0 := 0) rfl atC_CA, zwC_pre (zwL_C hP) va_S.rf hG.1⟩ rfl rfl hl.1 rfl (lv_room (Nat.le_of_ble_eq_true rfl)) d_LW_revoke_11 ⟨(Nat.le_of_ble_eq_true rfl), (Nat.le_of_ble_eq_true rfl)⟩) hS (fun q _ h => Or.inl h) (fun q h => Or.inl h) (fun q _ h => Or.inl h) (fun E ce q9 u9 t H locs ht ha hw hB hz1 hk1 hS hce hcv hcl => ?_) (fun r X1 t H locs ht hvm hw hP1 hz1 hk1 hS => ?_)
  · obtain ⟨E9, X9⟩ := u9
    obtain ⟨rfl, hP1⟩ := hB
    have hP1 : va_P (dC, dI) vwCl (wdL cA ad cL ao X9 O) H := zwL_join (by rw [← ht]; exact hP1) hP (hk1 ao hao (zwL_no hO hao))
    rcases hw with ⟨he, hw⟩ | ⟨he, hw⟩ | ⟨he, hw⟩ | ⟨he, hw⟩
    · have hcl : s.vm.findClass "java/util/NoSuchElementException" = some ce.cls := by rw [← show E9 = _ from he]; exact hcl
      refine xt_catch (r := 19) hown htab ⟨⟨(Nat.le_of_ble_eq_true rfl), (Nat.le_of_ble_eq_true rfl)⟩, (by decide), "java/util/NoSuchElementException", hts _ gw_551, Or.inl ⟨va_Nw.use rfl (hNW (.castable "java/util/NoSuchElementException" "java/util/NoSuchElementException") (List.mem_of_getElem? (i := 17) rfl)), rfl⟩⟩ hce hcv hcl ?_
      refine lv_astore (lv' := [(7, .ref q9), (0, .ref (ad 0)), (1, .int a1), (2, .int a2), (3, .int a3), (4, .int a4), (5, .int a5), (6, .ref ao)]) hx hb d_LW_revoke_19 hl (by decide) rfl (fun ls hl => ?_)
      refine lv_iconst (v := (1 : Int32)) hx hb d_LW_revoke_21 (by decide) ?_
      exact W.iret (v := (1 : Int32)) hx hb hr (fun t9 ht9 _ => ⟨⟨1, (X9, O), rfl, hw, by show va_P _ _ _ t9.heap; rw [ht9]; exact hP1⟩, hS.F ht9⟩) hS.2.2 d_LW_revoke_22
    · have hcl : s.vm.findClass "java/lang/UnsupportedOperationException" = some ce.cls := by rw [← show E9 = _ from he]; exact hcl
      refine xt_catch (r := 23) hown htab ⟨⟨(Nat.le_of_ble_eq_true rfl), (Nat.le_of_ble_eq_true rfl)⟩, (by decide), "java/util/NoSuchElementException", hts _ gw_551, Or.inr ⟨hNC ("java/lang/UnsupportedOperationException", "java/util/NoSuchElementException") (List.mem_of_getElem? (i := 3) rfl), ⟨⟨(Nat.le_of_ble_eq_true rfl), (Nat.le_of_ble_eq_true rfl)⟩, (by decide), "java/lang/UnsupportedOperationException", hts _ gw_544, Or.inl ⟨va_Nw.use rfl (hNW (.castable "java/lang/UnsupportedOperationException" "java/lang/UnsupportedOperationException") (List.mem_of_getElem? (i := 15) rfl)), rfl⟩⟩⟩⟩ hce hcv hcl ?_
      refine lv_astore (lv' := [(7, .ref q9), (0, .ref (ad 0)), (1, .int a1), (2, .int a2), (3, .int a3), (4, .int a4), (5, .int a5), (6, .ref ao)]) hx hb d_LW_revoke_23 hl (by decide) rfl (fun ls hl => ?_)
      refine lv_iconst (v := (2 : Int32)) hx hb d_LW_revoke_25 (by decide) ?_
      exact W.iret (v := (2 : Int32)) hx hb hr (fun t9 ht9 _ => ⟨⟨2, (X9, O), rfl, hw, by show va_P _ _ _ t9.heap; rw [ht9]; exact hP1⟩, hS.F ht9⟩) hS.2.2 d_LW_revoke_26
    · have hcl : s.vm.findClass "java/lang/IllegalArgumentException" = some ce.cls := by rw [← show E9 = _ from he]; exact hcl
      refine xt_catch (r := 27) hown htab ⟨⟨(Nat.le_of_ble_eq_true rfl), (Nat.le_of_ble_eq_true rfl)⟩, (by decide), "java/util/NoSuchElementException", hts _ gw_551, Or.inr ⟨hNC ("java/lang/IllegalArgumentException", "java/util/NoSuchElementException") (List.mem_of_getElem? (i := 6) rfl), ⟨⟨(Nat.le_of_ble_eq_true rfl), (Nat.le_of_ble_eq_true rfl)⟩, (by decide), "java/lang/UnsupportedOperationException", hts _ gw_544, Or.inr ⟨hNC ("java/lang/IllegalArgumentException", "java/lang/UnsupportedOperationException") (List.mem_of_getElem? (i := 7) rfl), ⟨⟨(Nat.le_of_ble_eq_true rfl), (Nat.le_of_ble_eq_true rfl)⟩, (by decide), "java/lang/IllegalArgumentException", hts _ gw_545, Or.inl ⟨va_Nw.use rfl (hNW (.castable "java/lang/IllegalArgumentException" "java/lang/IllegalArgumentException") (List.mem_of_getElem? (i := 8) rfl)), rfl⟩⟩⟩⟩⟩⟩ hce hcv hcl ?_
      refine lv_astore (lv' := [(7, .ref q9), (0, .ref (ad 0)), (1, .int a1), (2, .int a2), (3, .int a3), (4, .int a4), (5, .int a5), (6, .ref ao)]) hx hb d_LW_revoke_27 hl (by decide) rfl (fun ls hl => ?_)
      refine lv_iconst (v := (3 : Int32)) hx hb d_LW_revoke_29 (by decide) ?_
      exact W.iret (v := (3 : Int32)) hx hb hr (fun t9 ht9 _ => ⟨⟨3, (X9, O), rfl, hw, by show va_P _ _ _ t9.heap; rw [ht9]; exact hP1⟩, hS.F ht9⟩) hS.2.2 d_LW_revoke_30
    · have hcl : s.vm.findClass "java/lang/IllegalStateException" = some ce.cls := by rw [← show E9 = _ from he]; exact hcl
      refine xt_catch (r := 31) hown htab ⟨⟨(Nat.le_of_ble_eq_true rfl), (Nat.le_of_ble_eq_true rfl)⟩, (by decide), "java/util/NoSuchElementException", hts _ gw_551, Or.inr ⟨hNC ("java/lang/IllegalStateException", "java/util/NoSuchElementException") (List.mem_of_getElem? (i := 9) rfl), ⟨⟨(Nat.le_of_ble_eq_true rfl), (Nat.le_of_ble_eq_true rfl)⟩, (by decide), "java/lang/UnsupportedOperationException", hts _ gw_544, Or.inr ⟨hNC ("java/lang/IllegalStateException", "java/lang/UnsupportedOperationException") (List.mem_of_getElem? (i := 10) rfl), ⟨⟨(Nat.le_of_ble_eq_true rfl), (Nat.le_of_ble_eq_true rfl)⟩, (by decide), "java/lang/IllegalArgumentException", hts _ gw_545, Or.inr ⟨hNC ("java/lang/IllegalStateException", "java/lang/IllegalArgumentException") (List.mem_of_getElem? (i := 11) rfl), ⟨⟨(Nat.le_of_ble_eq_true rfl), (Nat.le_of_ble_eq_true rfl)⟩, (by decide), "java/lang/IllegalStateException", hts _ gw_546, Or.inl ⟨va_Nw.use rfl (hNW (.castable "java/lang/IllegalStateException" "java/lang/IllegalStateException") (List.mem_of_getElem? (i := 16) rfl)), rfl⟩⟩⟩⟩⟩⟩⟩⟩ hce hcv hcl ?_
      refine lv_astore (lv' := [(7, .ref q9), (0, .ref (ad 0)), (1, .int a1), (2, .int a2), (3, .int a3), (4, .int a4), (5, .int a5), (6, .ref ao)]) hx hb d_LW_revoke_31 hl (by decide) rfl (fun ls hl => ?_)
      refine lv_iconst (v := (4 : Int32)) hx hb d_LW_revoke_33 (by decide) ?_
      exact W.iret (v := (4 : Int32)) hx hb hr (fun t9 ht9 _ => ⟨⟨4, (X9, O), rfl, hw, by show va_P _ _ _ t9.heap; rw [ht9]; exact hP1⟩, hS.F ht9⟩) hS.2.2 d_LW_revoke_34
  · have hP1 : va_P (dC, dI) vwCl (wdL cA ad cL ao X1 O) H := zwL_join (by rw [← ht]; exact hP1) hP (hk1 ao hao (zwL_no hO hao))
    try dsimp only at hw
    refine lv_i2l hx hb d_LW_revoke_14 rfl ?_
    refine va_last hx hb hKo hP1 (zwL_D hI hO) hS 125 0 atL_o rfl (by unfold vp_in; decide) d_LW_revoke_15 (fun H locs hP _ hS => ?_)
    have hP : va_P (dC, dI) vwCl (wdL cA ad cL ao X1 (vp_updL O 0 r.toInt64)) H := by rw [← stL_o]; exact hP
    refine lv_goto (tgt := 35) hx hb d_LW_revoke_16 (by decide) ?_
    refine lv_iconst (v := (0 : Int32)) hx hb d_LW_revoke_35 (by decide) ?_
    exact W.iret (v := (0 : Int32)) hx hb hr (fun t9 ht9 _ => ⟨⟨0, (X1, vp_updL O 0 r.toInt64), rfl, hw, by show va_P _ _ _ t9.heap; rw [ht9]; exact hP⟩, hS.F ht9⟩) hS.2.2 d_LW_revoke_36
abbrev c_LW_deactivate : ByteArray := method_9_code
def y_LW_deactivate : MethodName := ⟨"ChallengeAuthorityLaw", "deactivate", "(LChallengeAuthority;IIII[J)I"⟩
def ws_LW_deactivate : List Cond := Cond.codeWith y_LW_deactivate c_LW_deactivate 7 (Option.some Jvm.ClassFile.FieldType.int) [((0 : Nat), (14 : Nat), (17 : Nat), (23 : Nat)), ((0 : Nat), (14 : Nat), (21 : Nat), (13 : Nat)), ((0 : Nat), (14 : Nat), (25 : Nat), (15 : Nat)), ((0 : Nat), (14 : Nat), (29 : Nat), (17 : Nat))] :: GW
theorem d_LW_deactivate_0 : decode c_LW_deactivate 0 = .ok (.aload 5, 2) := by decide +kernel
theorem d_LW_deactivate_2 : decode c_LW_deactivate 2 = .ok (.iconst 0, 1) := by decide +kernel
theorem d_LW_deactivate_3 : decode c_LW_deactivate 3 = .ok (.aload_n 0, 1) := by decide +kernel
theorem d_LW_deactivate_4 : decode c_LW_deactivate 4 = .ok (.iload_n 1, 1) := by decide +kernel
theorem d_LW_deactivate_5 : decode c_LW_deactivate 5 = .ok (.iload_n 2, 1) := by decide +kernel
theorem d_LW_deactivate_6 : decode c_LW_deactivate 6 = .ok (.iload_n 3, 1) := by decide +kernel
theorem d_LW_deactivate_7 : decode c_LW_deactivate 7 = .ok (.iload 4, 2) := by decide +kernel
theorem d_LW_deactivate_9 : decode c_LW_deactivate 9 = .ok (.invokevirtual 38, 3) := by decide +kernel
theorem d_LW_deactivate_12 : decode c_LW_deactivate 12 = .ok (.i2l, 1) := by decide +kernel
theorem d_LW_deactivate_13 : decode c_LW_deactivate 13 = .ok (.lastore, 1) := by decide +kernel
theorem d_LW_deactivate_14 : decode c_LW_deactivate 14 = .ok (.goto 19, 3) := by decide +kernel
theorem d_LW_deactivate_17 : decode c_LW_deactivate 17 = .ok (.astore 6, 2) := by decide +kernel
theorem d_LW_deactivate_19 : decode c_LW_deactivate 19 = .ok (.iconst 1, 1) := by decide +kernel
theorem d_LW_deactivate_20 : decode c_LW_deactivate 20 = .ok (.ireturn, 1) := by decide +kernel
theorem d_LW_deactivate_21 : decode c_LW_deactivate 21 = .ok (.astore 6, 2) := by decide +kernel
theorem d_LW_deactivate_23 : decode c_LW_deactivate 23 = .ok (.iconst 2, 1) := by decide +kernel
theorem d_LW_deactivate_24 : decode c_LW_deactivate 24 = .ok (.ireturn, 1) := by decide +kernel
theorem d_LW_deactivate_25 : decode c_LW_deactivate 25 = .ok (.astore 6, 2) := by decide +kernel
theorem d_LW_deactivate_27 : decode c_LW_deactivate 27 = .ok (.iconst 3, 1) := by decide +kernel
theorem d_LW_deactivate_28 : decode c_LW_deactivate 28 = .ok (.ireturn, 1) := by decide +kernel
theorem d_LW_deactivate_29 : decode c_LW_deactivate 29 = .ok (.astore 6, 2) := by decide +kernel
theorem d_LW_deactivate_31 : decode c_LW_deactivate 31 = .ok (.iconst 4, 1) := by decide +kernel
theorem d_LW_deactivate_32 : decode c_LW_deactivate 32 = .ok (.ireturn, 1) := by decide +kernel
theorem d_LW_deactivate_33 : decode c_LW_deactivate 33 = .ok (.iconst 0, 1) := by decide +kernel
theorem d_LW_deactivate_34 : decode c_LW_deactivate 34 = .ok (.ireturn, 1) := by decide +kernel
def wp_LW_deactivate (post : Int32 → ST → (Nat → Int64) → Prop) (X : ST) (O : Nat → Int64) (a1 : Int32) (a2 : Int32) (a3 : Int32) (a4 : Int32) : Prop := wp_CA_deactivate (fun (r : Int32) (X1 : ST) => post 0 X1 (vp_updL O 0 r.toInt64)) (fun (E : String) (X1 : ST) => (E = "java/util/NoSuchElementException" ∧ post 1 X1 O) ∨ (E = "java/lang/UnsupportedOperationException" ∧ post 2 X1 O) ∨ (E = "java/lang/IllegalArgumentException" ∧ post 3 X1 O) ∨ (E = "java/lang/IllegalStateException" ∧ post 4 X1 O)) X a1 a2 a3 a4
set_option maxHeartbeats 4000000 in
set_option maxRecDepth 100000 in
theorem mt_LW_deactivate (l : Launch) (hl9 : l.stackTraces = false) (dC : Nat → ClassId) (dI : Nat → Nat → Nat) (cA : Nat → ClassId) (ad : Nat → Nat) (hI : INJ ad 125) (cL : ClassId) (ao : Nat) (hO : ∀ k : Nat, k < 125 → ao ≠ ad k) (sz : Nat) {X : ST} {O : Nat → Int64} {a1 : Int32} {a2 : Int32} {a3 : Int32} {a4 : Int32} {post : Int32 → ST → (Nat → Int64) → Prop} (hw : wp_LW_deactivate post X O a1 a2 a3 a4) : Met l y_LW_deactivate ws_LW_deactivate ({ frames := 8, cells := 2, slots := 12, locals := 139 } : Room) (va_Pc [.ref (ad 0), .int a1, .int a2, .int a3, .int a4, .ref ao] (fun U => PL dC dI cA ad cL ao sz X O U)) (va_Qi (fun r (u : ST × (Nat → Int64)) => post r u.1 u.2) (fun (u : ST × (Nat → Int64)) t => va_P (dC, dI) vwCl (wdL cA ad cL ao u.1 u.2) t.heap) (CL ad ao sz)) 2 12 (CL ad ao sz) := by
  refine xt_ofT (cc := c_LW_deactivate) (maxL := 7) (ret := (some .int)) (rows := [((0 : Nat), (14 : Nat), (17 : Nat), (23 : Nat)), ((0 : Nat), (14 : Nat), (21 : Nat), (13 : Nat)), ((0 : Nat), (14 : Nat), (25 : Nat), (15 : Nat)), ((0 : Nat), (14 : Nat), (29 : Nat), (17 : Nat))]) (by decide) rfl ?_
  intro p e s m args below meth c s₁ B hml htab hv
  obtain ⟨rfl, hsz, hP, hG⟩ := hv
  have hx := B.exec
  have hb := B.bytes
  have hr := B.returns
  have hts : ∀ w ∈ GW, w.before (([.ref (ad 0), .int a1, .int a2, .int a3, .int a4, .ref ao] : List Value).toArray) s = true := fun w h => atoms_spec (ws := ws_LW_deactivate) B.pre w (List.mem_cons_of_mem _ h)
  have hown : s.vm.findClass R_LW = some m.cls := findClass_of_methodNamed B.named
  have hlocks := B.notSynchronized
  subst hsz
  have hK := hG.1.1
  have hKo := hG.2.1
  have hNW := hG.1.2.1
  have hNC := hG.2.2
  have hS : va_S (CL ad ao s.heap.size) s.heap s.heap [] := va_S.rf
  have hao : ao < s.heap.size := (hP 125 _ atL_o).lt
  have hl := lv_entry ([.ref (ad 0), .int a1, .int a2, .int a3, .int a4, .ref ao]) (n := 7) (Nat.le_of_ble_eq_true rfl)
  rw [lg_entry_eq]
  generalize (lg_sl ([.ref (ad 0), .int a1, .int a2, .int a3, .int a4, .ref ao]) ++ List.replicate (7 - (lg_sl ([.ref (ad 0), .int a1, .int a2, .int a3, .int a4, .ref ao])).length) Slot.unset).toArray = ls at hl ⊢
  have hl : lv_has ls 7 [(0, .ref (ad 0)), (1, .int a1), (2, .int a2), (3, .int a3), (4, .int a4), (5, .ref ao)] := hl
  unfold wp_LW_deactivate at hw
  refine lv_aload hx hb d_LW_deactivate_0 (lv_at hl 5 rfl) ?_
  refine lv_iconst (v := (0 : Int32)) hx hb d_LW_deactivate_2 (by decide) ?_
  refine lv_aload_n hx hb d_LW_deactivate_3 rfl (lv_at hl 0 rfl) ?_
  refine lv_iload_n hx hb d_LW_deactivate_4 rfl (lv_at hl 1 rfl) ?_
  refine lv_iload_n hx hb d_LW_deactivate_5 rfl (lv_at hl 2 rfl) ?_
  refine lv_iload_n hx hb d_LW_deactivate_6 rfl (lv_at hl 3 rfl) ?_
  refine lv_iload hx hb d_LW_deactivate_7 (lv_at hl 4 rfl) ?_
  refine xt_calli (xt_runV (As := [.int a1, .int a2, .int a3, .int a4]) (rest := [.int (0 : Int32), .ref ao]) ⟨hx, hb, hml, hown, hts⟩ (mt_CA_deactivate l hl9 dC dI cA ad hI _ hw) (cwV 4 hts (gV gw_569 gw_570 gw_571 gw_13 gw_568) rfl rfl rfl (by decide +kernel) ⟨(Nat.le_of_ble_eq_true rfl), (Nat.le_of_ble_eq_true rfl)⟩) ⟨zwC_blind, va_recv hK (zwL_C hP) (ci := 0) (q0 := 0) rfl atC_CA, zwC_pre (zwL_C hP) va_S.rf hG.1⟩ rfl rfl hl.1 rfl (lv_room (Nat.le_of_ble_eq_true rfl)) d_LW_deactivate_9 ⟨(Nat.le_of_ble_eq_true rfl), (Nat.le_of_ble_eq_true rfl)⟩) hS (fun q _ h => Or.inl h) (fun q h => Or.inl h) (fun q _ h => Or.inl h) (fun E ce q9 u9 t H locs ht ha hw hB hz1 hk1 hS hce hcv hcl => ?_) (fun r X1 t H locs ht hvm hw hP1 hz1 hk1 hS => ?_)
  · obtain ⟨E9, X9⟩ := u9
    obtain ⟨rfl, hP1⟩ := hB
    have hP1 : va_P (dC, dI) vwCl (wdL cA ad cL ao X9 O) H := zwL_join (by rw [← ht]; exact hP1) hP (hk1 ao hao (zwL_no hO hao))
    rcases hw with ⟨he, hw⟩ | ⟨he, hw⟩ | ⟨he, hw⟩ | ⟨he, hw⟩
    · have hcl : s.vm.findClass "java/util/NoSuchElementException" = some ce.cls := by rw [← show E9 = _ from he]; exact hcl
      refine xt_catch (r := 17) hown htab ⟨⟨(Nat.le_of_ble_eq_true rfl), (Nat.le_of_ble_eq_true rfl)⟩, (by decide), "java/util/NoSuchElementException", hts _ gw_551, Or.inl ⟨va_Nw.use rfl (hNW (.castable "java/util/NoSuchElementException" "java/util/NoSuchElementException") (List.mem_of_getElem? (i := 17) rfl)), rfl⟩⟩ hce hcv hcl ?_
      refine lv_astore (lv' := [(6, .ref q9), (0, .ref (ad 0)), (1, .int a1), (2, .int a2), (3, .int a3), (4, .int a4), (5, .ref ao)]) hx hb d_LW_deactivate_17 hl (by decide) rfl (fun ls hl => ?_)
      refine lv_iconst (v := (1 : Int32)) hx hb d_LW_deactivate_19 (by decide) ?_
      exact W.iret (v := (1 : Int32)) hx hb hr (fun t9 ht9 _ => ⟨⟨1, (X9, O), rfl, hw, by show va_P _ _ _ t9.heap; rw [ht9]; exact hP1⟩, hS.F ht9⟩) hS.2.2 d_LW_deactivate_20
    · have hcl : s.vm.findClass "java/lang/UnsupportedOperationException" = some ce.cls := by rw [← show E9 = _ from he]; exact hcl
      refine xt_catch (r := 21) hown htab ⟨⟨(Nat.le_of_ble_eq_true rfl), (Nat.le_of_ble_eq_true rfl)⟩, (by decide), "java/util/NoSuchElementException", hts _ gw_551, Or.inr ⟨hNC ("java/lang/UnsupportedOperationException", "java/util/NoSuchElementException") (List.mem_of_getElem? (i := 3) rfl), ⟨⟨(Nat.le_of_ble_eq_true rfl), (Nat.le_of_ble_eq_true rfl)⟩, (by decide), "java/lang/UnsupportedOperationException", hts _ gw_544, Or.inl ⟨va_Nw.use rfl (hNW (.castable "java/lang/UnsupportedOperationException" "java/lang/UnsupportedOperationException") (List.mem_of_getElem? (i := 15) rfl)), rfl⟩⟩⟩⟩ hce hcv hcl ?_
      refine lv_astore (lv' := [(6, .ref q9), (0, .ref (ad 0)), (1, .int a1), (2, .int a2), (3, .int a3), (4, .int a4), (5, .ref ao)]) hx hb d_LW_deactivate_21 hl (by decide) rfl (fun ls hl => ?_)
      refine lv_iconst (v := (2 : Int32)) hx hb d_LW_deactivate_23 (by decide) ?_
      exact W.iret (v := (2 : Int32)) hx hb hr (fun t9 ht9 _ => ⟨⟨2, (X9, O), rfl, hw, by show va_P _ _ _ t9.heap; rw [ht9]; exact hP1⟩, hS.F ht9⟩) hS.2.2 d_LW_deactivate_24
    · have hcl : s.vm.findClass "java/lang/IllegalArgumentException" = some ce.cls := by rw [← show E9 = _ from he]; exact hcl
      refine xt_catch (r := 25) hown htab ⟨⟨(Nat.le_of_ble_eq_true rfl), (Nat.le_of_ble_eq_true rfl)⟩, (by decide), "java/util/NoSuchElementException", hts _ gw_551, Or.inr ⟨hNC ("java/lang/IllegalArgumentException", "java/util/NoSuchElementException") (List.mem_of_getElem? (i := 6) rfl), ⟨⟨(Nat.le_of_ble_eq_true rfl), (Nat.le_of_ble_eq_true rfl)⟩, (by decide), "java/lang/UnsupportedOperationException", hts _ gw_544, Or.inr ⟨hNC ("java/lang/IllegalArgumentException", "java/lang/UnsupportedOperationException") (List.mem_of_getElem? (i := 7) rfl), ⟨⟨(Nat.le_of_ble_eq_true rfl), (Nat.le_of_ble_eq_true rfl)⟩, (by decide), "java/lang/IllegalArgumentException", hts _ gw_545, Or.inl ⟨va_Nw.use rfl (hNW (.castable "java/lang/IllegalArgumentException" "java/lang/IllegalArgumentException") (List.mem_of_getElem? (i := 8) rfl)), rfl⟩⟩⟩⟩⟩⟩ hce hcv hcl ?_
      refine lv_astore (lv' := [(6, .ref q9), (0, .ref (ad 0)), (1, .int a1), (2, .int a2), (3, .int a3), (4, .int a4), (5, .ref ao)]) hx hb d_LW_deactivate_25 hl (by decide) rfl (fun ls hl => ?_)
      refine lv_iconst (v := (3 : Int32)) hx hb d_LW_deactivate_27 (by decide) ?_
      exact W.iret (v := (3 : Int32)) hx hb hr (fun t9 ht9 _ => ⟨⟨3, (X9, O), rfl, hw, by show va_P _ _ _ t9.heap; rw [ht9]; exact hP1⟩, hS.F ht9⟩) hS.2.2 d_LW_deactivate_28
    · have hcl : s.vm.findClass "java/lang/IllegalStateException" = some ce.cls := by rw [← show E9 = _ from he]; exact hcl
      refine xt_catch (r := 29) hown htab ⟨⟨(Nat.le_of_ble_eq_true rfl), (Nat.le_of_ble_eq_true rfl)⟩, (by decide), "java/util/NoSuchElementException", hts _ gw_551, Or.inr ⟨hNC ("java/lang/IllegalStateException", "java/util/NoSuchElementException") (List.mem_of_getElem? (i := 9) rfl), ⟨⟨(Nat.le_of_ble_eq_true rfl), (Nat.le_of_ble_eq_true rfl)⟩, (by decide), "java/lang/UnsupportedOperationException", hts _ gw_544, Or.inr ⟨hNC ("java/lang/IllegalStateException", "java/lang/UnsupportedOperationException") (List.mem_of_getElem? (i := 10) rfl), ⟨⟨(Nat.le_of_ble_eq_true rfl), (Nat.le_of_ble_eq_true rfl)⟩, (by decide), "java/lang/IllegalArgumentException", hts _ gw_545, Or.inr ⟨hNC ("java/lang/IllegalStateException", "java/lang/IllegalArgumentException") (List.mem_of_getElem? (i := 11) rfl), ⟨⟨(Nat.le_of_ble_eq_true rfl), (Nat.le_of_ble_eq_true rfl)⟩, (by decide), "java/lang/IllegalStateException", hts _ gw_546, Or.inl ⟨va_Nw.use rfl (hNW (.castable "java/lang/IllegalStateException" "java/lang/IllegalStateException") (List.mem_of_getElem? (i := 16) rfl)), rfl⟩⟩⟩⟩⟩⟩⟩⟩ hce hcv hcl ?_
      refine lv_astore (lv' := [(6, .ref q9), (0, .ref (ad 0)), (1, .int a1), (2, .int a2), (3, .int a3), (4, .int a4), (5, .ref ao)]) hx hb d_LW_deactivate_29 hl (by decide) rfl (fun ls hl => ?_)
      refine lv_iconst (v := (4 : Int32)) hx hb d_LW_deactivate_31 (by decide) ?_
      exact W.iret (v := (4 : Int32)) hx hb hr (fun t9 ht9 _ => ⟨⟨4, (X9, O), rfl, hw, by show va_P _ _ _ t9.heap; rw [ht9]; exact hP1⟩, hS.F ht9⟩) hS.2.2 d_LW_deactivate_32
  · have hP1 : va_P (dC, dI) vwCl (wdL cA ad cL ao X1 O) H := zwL_join (by rw [← ht]; exact hP1) hP (hk1 ao hao (zwL_no hO hao))
    try dsimp only at hw
    refine lv_i2l hx hb d_LW_deactivate_12 rfl ?_
    refine va_last hx hb hKo hP1 (zwL_D hI hO) hS 125 0 atL_o rfl (by unfold vp_in; decide) d_LW_deactivate_13 (fun H locs hP _ hS => ?_)
    have hP : va_P (dC, dI) vwCl (wdL cA ad cL ao X1 (vp_updL O 0 r.toInt64)) H := by rw [← stL_o]; exact hP
    refine lv_goto (tgt := 33) hx hb d_LW_deactivate_14 (by decide) ?_
    refine lv_iconst (v := (0 : Int32)) hx hb d_LW_deactivate_33 (by decide) ?_
    exact W.iret (v := (0 : Int32)) hx hb hr (fun t9 ht9 _ => ⟨⟨0, (X1, vp_updL O 0 r.toInt64), rfl, hw, by show va_P _ _ _ t9.heap; rw [ht9]; exact hP⟩, hS.F ht9⟩) hS.2.2 d_LW_deactivate_34
abbrev c_LW_rollover : ByteArray := method_10_code
def y_LW_rollover : MethodName := ⟨"ChallengeAuthorityLaw", "rollover", "(LChallengeAuthority;IIIII[J)I"⟩
def ws_LW_rollover : List Cond := Cond.codeWith y_LW_rollover c_LW_rollover 8 (Option.some Jvm.ClassFile.FieldType.int) [((0 : Nat), (16 : Nat), (19 : Nat), (23 : Nat)), ((0 : Nat), (16 : Nat), (23 : Nat), (13 : Nat)), ((0 : Nat), (16 : Nat), (27 : Nat), (15 : Nat)), ((0 : Nat), (16 : Nat), (31 : Nat), (17 : Nat))] :: GW
theorem d_LW_rollover_0 : decode c_LW_rollover 0 = .ok (.aload 6, 2) := by decide +kernel
theorem d_LW_rollover_2 : decode c_LW_rollover 2 = .ok (.iconst 0, 1) := by decide +kernel
theorem d_LW_rollover_3 : decode c_LW_rollover 3 = .ok (.aload_n 0, 1) := by decide +kernel
theorem d_LW_rollover_4 : decode c_LW_rollover 4 = .ok (.iload_n 1, 1) := by decide +kernel
theorem d_LW_rollover_5 : decode c_LW_rollover 5 = .ok (.iload_n 2, 1) := by decide +kernel
theorem d_LW_rollover_6 : decode c_LW_rollover 6 = .ok (.iload_n 3, 1) := by decide +kernel
theorem d_LW_rollover_7 : decode c_LW_rollover 7 = .ok (.iload 4, 2) := by decide +kernel
theorem d_LW_rollover_9 : decode c_LW_rollover 9 = .ok (.iload 5, 2) := by decide +kernel
theorem d_LW_rollover_11 : decode c_LW_rollover 11 = .ok (.invokevirtual 41, 3) := by decide +kernel
theorem d_LW_rollover_14 : decode c_LW_rollover 14 = .ok (.i2l, 1) := by decide +kernel
theorem d_LW_rollover_15 : decode c_LW_rollover 15 = .ok (.lastore, 1) := by decide +kernel
theorem d_LW_rollover_16 : decode c_LW_rollover 16 = .ok (.goto 19, 3) := by decide +kernel
theorem d_LW_rollover_19 : decode c_LW_rollover 19 = .ok (.astore 7, 2) := by decide +kernel
theorem d_LW_rollover_21 : decode c_LW_rollover 21 = .ok (.iconst 1, 1) := by decide +kernel
theorem d_LW_rollover_22 : decode c_LW_rollover 22 = .ok (.ireturn, 1) := by decide +kernel
theorem d_LW_rollover_23 : decode c_LW_rollover 23 = .ok (.astore 7, 2) := by decide +kernel
theorem d_LW_rollover_25 : decode c_LW_rollover 25 = .ok (.iconst 2, 1) := by decide +kernel
theorem d_LW_rollover_26 : decode c_LW_rollover 26 = .ok (.ireturn, 1) := by decide +kernel
theorem d_LW_rollover_27 : decode c_LW_rollover 27 = .ok (.astore 7, 2) := by decide +kernel
theorem d_LW_rollover_29 : decode c_LW_rollover 29 = .ok (.iconst 3, 1) := by decide +kernel
theorem d_LW_rollover_30 : decode c_LW_rollover 30 = .ok (.ireturn, 1) := by decide +kernel
theorem d_LW_rollover_31 : decode c_LW_rollover 31 = .ok (.astore 7, 2) := by decide +kernel
theorem d_LW_rollover_33 : decode c_LW_rollover 33 = .ok (.iconst 4, 1) := by decide +kernel
theorem d_LW_rollover_34 : decode c_LW_rollover 34 = .ok (.ireturn, 1) := by decide +kernel
theorem d_LW_rollover_35 : decode c_LW_rollover 35 = .ok (.iconst 0, 1) := by decide +kernel
theorem d_LW_rollover_36 : decode c_LW_rollover 36 = .ok (.ireturn, 1) := by decide +kernel
def wp_LW_rollover (post : Int32 → ST → (Nat → Int64) → Prop) (X : ST) (O : Nat → Int64) (a1 : Int32) (a2 : Int32) (a3 : Int32) (a4 : Int32) (a5 : Int32) : Prop := wp_CA_rollover (fun (r : Int32) (X1 : ST) => post 0 X1 (vp_updL O 0 r.toInt64)) (fun (E : String) (X1 : ST) => (E = "java/util/NoSuchElementException" ∧ post 1 X1 O) ∨ (E = "java/lang/UnsupportedOperationException" ∧ post 2 X1 O) ∨ (E = "java/lang/IllegalArgumentException" ∧ post 3 X1 O) ∨ (E = "java/lang/IllegalStateException" ∧ post 4 X1 O)) X a1 a2 a3 a4 a5
set_option maxHeartbeats 4000000 in
set_option maxRecDepth 100000 in
theorem mt_LW_rollover (l : Launch) (hl9 : l.stackTraces = false) (dC : Nat → ClassId) (dI : Nat → Nat → Nat) (cA : Nat → ClassId) (ad : Nat → Nat) (hI : INJ ad 125) (cL : ClassId) (ao : Nat) (hO : ∀ k : Nat, k < 125 → ao ≠ ad k) (sz : Nat) {X : ST} {O : Nat → Int64} {a1 : Int32} {a2 : Int32} {a3 : Int32} {a4 : Int32} {a5 : Int32} {post : Int32 → ST → (Nat → Int64) → Prop} (hw : wp_LW_rollover post X O a1 a2 a3 a4 a5) : Met l y_LW_rollover ws_LW_rollover ({ frames := 8, cells := 2, slots := 12, locals := 141 } : Room) (va_Pc [.ref (ad 0), .int a1, .int a2, .int a3, .int a4, .int a5, .ref ao] (fun U => PL dC dI cA ad cL ao sz X O U)) (va_Qi (fun r (u : ST × (Nat → Int64)) => post r u.1 u.2) (fun (u : ST × (Nat → Int64)) t => va_P (dC, dI) vwCl (wdL cA ad cL ao u.1 u.2) t.heap) (CL ad ao sz)) 2 12 (CL ad ao sz) := by
  refine xt_ofT (cc := c_LW_rollover) (maxL := 8) (ret := (some .int)) (rows := [((0 : Nat), (16 : Nat), (19 : Nat), (23 : Nat)), ((0 : Nat), (16 : Nat), (23 : Nat), (13 : Nat)), ((0 : Nat), (16 : Nat), (27 : Nat), (15 : Nat)), ((0 : Nat), (16 : Nat), (31 : Nat), (17 : Nat))]) (by decide) rfl ?_
  intro p e s m args below meth c s₁ B hml htab hv
  obtain ⟨rfl, hsz, hP, hG⟩ := hv
  have hx := B.exec
  have hb := B.bytes
  have hr := B.returns
  have hts : ∀ w ∈ GW, w.before (([.ref (ad 0), .int a1, .int a2, .int a3, .int a4, .int a5, .ref ao] : List Value).toArray) s = true := fun w h => atoms_spec (ws := ws_LW_rollover) B.pre w (List.mem_cons_of_mem _ h)
  have hown : s.vm.findClass R_LW = some m.cls := findClass_of_methodNamed B.named
  have hlocks := B.notSynchronized
  subst hsz
  have hK := hG.1.1
  have hKo := hG.2.1
  have hNW := hG.1.2.1
  have hNC := hG.2.2
  have hS : va_S (CL ad ao s.heap.size) s.heap s.heap [] := va_S.rf
  have hao : ao < s.heap.size := (hP 125 _ atL_o).lt
  have hl := lv_entry ([.ref (ad 0), .int a1, .int a2, .int a3, .int a4, .int a5, .ref ao]) (n := 8) (Nat.le_of_ble_eq_true rfl)
  rw [lg_entry_eq]
  generalize (lg_sl ([.ref (ad 0), .int a1, .int a2, .int a3, .int a4, .int a5, .ref ao]) ++ List.replicate (8 - (lg_sl ([.ref (ad 0), .int a1, .int a2, .int a3, .int a4, .int a5, .ref ao])).length) Slot.unset).toArray = ls at hl ⊢
  have hl : lv_has ls 8 [(0, .ref (ad 0)), (1, .int a1), (2, .int a2), (3, .int a3), (4, .int a4), (5, .int a5), (6, .ref ao)] := hl
  unfold wp_LW_rollover at hw
  refine lv_aload hx hb d_LW_rollover_0 (lv_at hl 6 rfl) ?_
  refine lv_iconst (v := (0 : Int32)) hx hb d_LW_rollover_2 (by decide) ?_
  refine lv_aload_n hx hb d_LW_rollover_3 rfl (lv_at hl 0 rfl) ?_
  refine lv_iload_n hx hb d_LW_rollover_4 rfl (lv_at hl 1 rfl) ?_
  refine lv_iload_n hx hb d_LW_rollover_5 rfl (lv_at hl 2 rfl) ?_
  refine lv_iload_n hx hb d_LW_rollover_6 rfl (lv_at hl 3 rfl) ?_
  refine lv_iload hx hb d_LW_rollover_7 (lv_at hl 4 rfl) ?_
  refine lv_iload hx hb d_LW_rollover_9 (lv_at hl 5 rfl) ?_
  refine xt_calli (xt_runV (As := [.int a1, .int a2, .int a3, .int a4, .int a5]) (rest := [.int (0 : Int32), .ref ao]) ⟨hx, hb, hml, hown, hts⟩ (mt_CA_rollover l hl9 dC dI cA ad hI _ hw) (cwV 5 hts (gV gw_573 gw_574 gw_575 gw_13 gw_572) rfl rfl rfl (by decide +kernel) ⟨(Nat.le_of_ble_eq_true rfl), (Nat.le_of_ble_eq_true rfl)⟩) ⟨zwC_blind, va_recv hK (zwL_C hP) (ci := 0) (q0 := 0) rfl atC_CA, zwC_pre (zwL_C hP) va_S.rf hG.1⟩ rfl rfl hl.1 rfl (lv_room (Nat.le_of_ble_eq_true rfl)) d_LW_rollover_11 ⟨(Nat.le_of_ble_eq_true rfl), (Nat.le_of_ble_eq_true rfl)⟩) hS (fun q _ h => Or.inl h) (fun q h => Or.inl h) (fun q _ h => Or.inl h) (fun E ce q9 u9 t H locs ht ha hw hB hz1 hk1 hS hce hcv hcl => ?_) (fun r X1 t H locs ht hvm hw hP1 hz1 hk1 hS => ?_)
  · obtain ⟨E9, X9⟩ := u9
    obtain ⟨rfl, hP1⟩ := hB
    have hP1 : va_P (dC, dI) vwCl (wdL cA ad cL ao X9 O) H := zwL_join (by rw [← ht]; exact hP1) hP (hk1 ao hao (zwL_no hO hao))
    rcases hw with ⟨he, hw⟩ | ⟨he, hw⟩ | ⟨he, hw⟩ | ⟨he, hw⟩
    · have hcl : s.vm.findClass "java/util/NoSuchElementException" = some ce.cls := by rw [← show E9 = _ from he]; exact hcl
      refine xt_catch (r := 19) hown htab ⟨⟨(Nat.le_of_ble_eq_true rfl), (Nat.le_of_ble_eq_true rfl)⟩, (by decide), "java/util/NoSuchElementException", hts _ gw_551, Or.inl ⟨va_Nw.use rfl (hNW (.castable "java/util/NoSuchElementException" "java/util/NoSuchElementException") (List.mem_of_getElem? (i := 17) rfl)), rfl⟩⟩ hce hcv hcl ?_
      refine lv_astore (lv' := [(7, .ref q9), (0, .ref (ad 0)), (1, .int a1), (2, .int a2), (3, .int a3), (4, .int a4), (5, .int a5), (6, .ref ao)]) hx hb d_LW_rollover_19 hl (by decide) rfl (fun ls hl => ?_)
      refine lv_iconst (v := (1 : Int32)) hx hb d_LW_rollover_21 (by decide) ?_
      exact W.iret (v := (1 : Int32)) hx hb hr (fun t9 ht9 _ => ⟨⟨1, (X9, O), rfl, hw, by show va_P _ _ _ t9.heap; rw [ht9]; exact hP1⟩, hS.F ht9⟩) hS.2.2 d_LW_rollover_22
    · have hcl : s.vm.findClass "java/lang/UnsupportedOperationException" = some ce.cls := by rw [← show E9 = _ from he]; exact hcl
      refine xt_catch (r := 23) hown htab ⟨⟨(Nat.le_of_ble_eq_true rfl), (Nat.le_of_ble_eq_true rfl)⟩, (by decide), "java/util/NoSuchElementException", hts _ gw_551, Or.inr ⟨hNC ("java/lang/UnsupportedOperationException", "java/util/NoSuchElementException") (List.mem_of_getElem? (i := 3) rfl), ⟨⟨(Nat.le_of_ble_eq_true rfl), (Nat.le_of_ble_eq_true rfl)⟩, (by decide), "java/lang/UnsupportedOperationException", hts _ gw_544, Or.inl ⟨va_Nw.use rfl (hNW (.castable "java/lang/UnsupportedOperationException" "java/lang/UnsupportedOperationException") (List.mem_of_getElem? (i := 15) rfl)), rfl⟩⟩⟩⟩ hce hcv hcl ?_
      refine lv_astore (lv' := [(7, .ref q9), (0, .ref (ad 0)), (1, .int a1), (2, .int a2), (3, .int a3), (4, .int a4), (5, .int a5), (6, .ref ao)]) hx hb d_LW_rollover_23 hl (by decide) rfl (fun ls hl => ?_)
      refine lv_iconst (v := (2 : Int32)) hx hb d_LW_rollover_25 (by decide) ?_
      exact W.iret (v := (2 : Int32)) hx hb hr (fun t9 ht9 _ => ⟨⟨2, (X9, O), rfl, hw, by show va_P _ _ _ t9.heap; rw [ht9]; exact hP1⟩, hS.F ht9⟩) hS.2.2 d_LW_rollover_26
    · have hcl : s.vm.findClass "java/lang/IllegalArgumentException" = some ce.cls := by rw [← show E9 = _ from he]; exact hcl
      refine xt_catch (r := 27) hown htab ⟨⟨(Nat.le_of_ble_eq_true rfl), (Nat.le_of_ble_eq_true rfl)⟩, (by decide), "java/util/NoSuchElementException", hts _ gw_551, Or.inr ⟨hNC ("java/lang/IllegalArgumentException", "java/util/NoSuchElementException") (List.mem_of_getElem? (i := 6) rfl), ⟨⟨(Nat.le_of_ble_eq_true rfl), (Nat.le_of_ble_eq_true rfl)⟩, (by decide), "java/lang/UnsupportedOperationException", hts _ gw_544, Or.inr ⟨hNC ("java/lang/IllegalArgumentException", "java/lang/UnsupportedOperationException") (List.mem_of_getElem? (i := 7) rfl), ⟨⟨(Nat.le_of_ble_eq_true rfl), (Nat.le_of_ble_eq_true rfl)⟩, (by decide), "java/lang/IllegalArgumentException", hts _ gw_545, Or.inl ⟨va_Nw.use rfl (hNW (.castable "java/lang/IllegalArgumentException" "java/lang/IllegalArgumentException") (List.mem_of_getElem? (i := 8) rfl)), rfl⟩⟩⟩⟩⟩⟩ hce hcv hcl ?_
      refine lv_astore (lv' := [(7, .ref q9), (0, .ref (ad 0)), (1, .int a1), (2, .int a2), (3, .int a3), (4, .int a4), (5, .int a5), (6, .ref ao)]) hx hb d_LW_rollover_27 hl (by decide) rfl (fun ls hl => ?_)
      refine lv_iconst (v := (3 : Int32)) hx hb d_LW_rollover_29 (by decide) ?_
      exact W.iret (v := (3 : Int32)) hx hb hr (fun t9 ht9 _ => ⟨⟨3, (X9, O), rfl, hw, by show va_P _ _ _ t9.heap; rw [ht9]; exact hP1⟩, hS.F ht9⟩) hS.2.2 d_LW_rollover_30
    · have hcl : s.vm.findClass "java/lang/IllegalStateException" = some ce.cls := by rw [← show E9 = _ from he]; exact hcl
      refine xt_catch (r := 31) hown htab ⟨⟨(Nat.le_of_ble_eq_true rfl), (Nat.le_of_ble_eq_true rfl)⟩, (by decide), "java/util/NoSuchElementException", hts _ gw_551, Or.inr ⟨hNC ("java/lang/IllegalStateException", "java/util/NoSuchElementException") (List.mem_of_getElem? (i := 9) rfl), ⟨⟨(Nat.le_of_ble_eq_true rfl), (Nat.le_of_ble_eq_true rfl)⟩, (by decide), "java/lang/UnsupportedOperationException", hts _ gw_544, Or.inr ⟨hNC ("java/lang/IllegalStateException", "java/lang/UnsupportedOperationException") (List.mem_of_getElem? (i := 10) rfl), ⟨⟨(Nat.le_of_ble_eq_true rfl), (Nat.le_of_ble_eq_true rfl)⟩, (by decide), "java/lang/IllegalArgumentException", hts _ gw_545, Or.inr ⟨hNC ("java/lang/IllegalStateException", "java/lang/IllegalArgumentException") (List.mem_of_getElem? (i := 11) rfl), ⟨⟨(Nat.le_of_ble_eq_true rfl), (Nat.le_of_ble_eq_true rfl)⟩, (by decide), "java/lang/IllegalStateException", hts _ gw_546, Or.inl ⟨va_Nw.use rfl (hNW (.castable "java/lang/IllegalStateException" "java/lang/IllegalStateException") (List.mem_of_getElem? (i := 16) rfl)), rfl⟩⟩⟩⟩⟩⟩⟩⟩ hce hcv hcl ?_
      refine lv_astore (lv' := [(7, .ref q9), (0, .ref (ad 0)), (1, .int a1), (2, .int a2), (3, .int a3), (4, .int a4), (5, .int a5), (6, .ref ao)]) hx hb d_LW_rollover_31 hl (by decide) rfl (fun ls hl => ?_)
      refine lv_iconst (v := (4 : Int32)) hx hb d_LW_rollover_33 (by decide) ?_
      exact W.iret (v := (4 : Int32)) hx hb hr (fun t9 ht9 _ => ⟨⟨4, (X9, O), rfl, hw, by show va_P _ _ _ t9.heap; rw [ht9]; exact hP1⟩, hS.F ht9⟩) hS.2.2 d_LW_rollover_34
  · have hP1 : va_P (dC, dI) vwCl (wdL cA ad cL ao X1 O) H := zwL_join (by rw [← ht]; exact hP1) hP (hk1 ao hao (zwL_no hO hao))
    try dsimp only at hw
    refine lv_i2l hx hb d_LW_rollover_14 rfl ?_
    refine va_last hx hb hKo hP1 (zwL_D hI hO) hS 125 0 atL_o rfl (by unfold vp_in; decide) d_LW_rollover_15 (fun H locs hP _ hS => ?_)
    have hP : va_P (dC, dI) vwCl (wdL cA ad cL ao X1 (vp_updL O 0 r.toInt64)) H := by rw [← stL_o]; exact hP
    refine lv_goto (tgt := 35) hx hb d_LW_rollover_16 (by decide) ?_
    refine lv_iconst (v := (0 : Int32)) hx hb d_LW_rollover_35 (by decide) ?_
    exact W.iret (v := (0 : Int32)) hx hb hr (fun t9 ht9 _ => ⟨⟨0, (X1, vp_updL O 0 r.toInt64), rfl, hw, by show va_P _ _ _ t9.heap; rw [ht9]; exact hP⟩, hS.F ht9⟩) hS.2.2 d_LW_rollover_36
abbrev c_LW_tick : ByteArray := method_11_code
def y_LW_tick : MethodName := ⟨"ChallengeAuthorityLaw", "tick", "(LChallengeAuthority;I[J)I"⟩
def ws_LW_tick : List Cond := Cond.codeWith y_LW_tick c_LW_tick 4 (Option.some Jvm.ClassFile.FieldType.int) [((0 : Nat), (9 : Nat), (12 : Nat), (15 : Nat))] :: GW
theorem d_LW_tick_0 : decode c_LW_tick 0 = .ok (.aload_n 2, 1) := by decide +kernel
theorem d_LW_tick_1 : decode c_LW_tick 1 = .ok (.iconst 0, 1) := by decide +kernel
theorem d_LW_tick_2 : decode c_LW_tick 2 = .ok (.aload_n 0, 1) := by decide +kernel
theorem d_LW_tick_3 : decode c_LW_tick 3 = .ok (.iload_n 1, 1) := by decide +kernel
theorem d_LW_tick_4 : decode c_LW_tick 4 = .ok (.invokevirtual 44, 3) := by decide +kernel
theorem d_LW_tick_7 : decode c_LW_tick 7 = .ok (.i2l, 1) := by decide +kernel
theorem d_LW_tick_8 : decode c_LW_tick 8 = .ok (.lastore, 1) := by decide +kernel
theorem d_LW_tick_9 : decode c_LW_tick 9 = .ok (.goto 6, 3) := by decide +kernel
theorem d_LW_tick_12 : decode c_LW_tick 12 = .ok (.astore_n 3, 1) := by decide +kernel
theorem d_LW_tick_13 : decode c_LW_tick 13 = .ok (.iconst 1, 1) := by decide +kernel
theorem d_LW_tick_14 : decode c_LW_tick 14 = .ok (.ireturn, 1) := by decide +kernel
theorem d_LW_tick_15 : decode c_LW_tick 15 = .ok (.iconst 0, 1) := by decide +kernel
theorem d_LW_tick_16 : decode c_LW_tick 16 = .ok (.ireturn, 1) := by decide +kernel
def wp_LW_tick (post : Int32 → ST → (Nat → Int64) → Prop) (X : ST) (O : Nat → Int64) (a1 : Int32) : Prop := wp_CA_tick (fun (r : Int32) (X1 : ST) => post 0 X1 (vp_updL O 0 r.toInt64)) (fun (E : String) (X1 : ST) => (E = "java/lang/IllegalArgumentException" ∧ post 1 X1 O)) X a1
set_option maxHeartbeats 4000000 in
set_option maxRecDepth 100000 in
theorem mt_LW_tick (l : Launch) (hl9 : l.stackTraces = false) (dC : Nat → ClassId) (dI : Nat → Nat → Nat) (cA : Nat → ClassId) (ad : Nat → Nat) (hI : INJ ad 125) (cL : ClassId) (ao : Nat) (hO : ∀ k : Nat, k < 125 → ao ≠ ad k) (sz : Nat) {X : ST} {O : Nat → Int64} {a1 : Int32} {post : Int32 → ST → (Nat → Int64) → Prop} (hw : wp_LW_tick post X O a1) : Met l y_LW_tick ws_LW_tick ({ frames := 7, cells := 1, slots := 6, locals := 112 } : Room) (va_Pc [.ref (ad 0), .int a1, .ref ao] (fun U => PL dC dI cA ad cL ao sz X O U)) (va_Qi (fun r (u : ST × (Nat → Int64)) => post r u.1 u.2) (fun (u : ST × (Nat → Int64)) t => va_P (dC, dI) vwCl (wdL cA ad cL ao u.1 u.2) t.heap) (CL ad ao sz)) 1 6 (CL ad ao sz) := by
  refine xt_ofT (cc := c_LW_tick) (maxL := 4) (ret := (some .int)) (rows := [((0 : Nat), (9 : Nat), (12 : Nat), (15 : Nat))]) (by decide) rfl ?_
  intro p e s m args below meth c s₁ B hml htab hv
  obtain ⟨rfl, hsz, hP, hG⟩ := hv
  have hx := B.exec
  have hb := B.bytes
  have hr := B.returns
  have hts : ∀ w ∈ GW, w.before (([.ref (ad 0), .int a1, .ref ao] : List Value).toArray) s = true := fun w h => atoms_spec (ws := ws_LW_tick) B.pre w (List.mem_cons_of_mem _ h)
  have hown : s.vm.findClass R_LW = some m.cls := findClass_of_methodNamed B.named
  have hlocks := B.notSynchronized
  subst hsz
  have hK := hG.1.1
  have hKo := hG.2.1
  have hNW := hG.1.2.1
  have hNC := hG.2.2
  have hS : va_S (CL ad ao s.heap.size) s.heap s.heap [] := va_S.rf
  have hao : ao < s.heap.size := (hP 125 _ atL_o).lt
  have hl := lv_entry ([.ref (ad 0), .int a1, .ref ao]) (n := 4) (Nat.le_of_ble_eq_true rfl)
  rw [lg_entry_eq]
  generalize (lg_sl ([.ref (ad 0), .int a1, .ref ao]) ++ List.replicate (4 - (lg_sl ([.ref (ad 0), .int a1, .ref ao])).length) Slot.unset).toArray = ls at hl ⊢
  have hl : lv_has ls 4 [(0, .ref (ad 0)), (1, .int a1), (2, .ref ao)] := hl
  unfold wp_LW_tick at hw
  refine lv_aload_n hx hb d_LW_tick_0 rfl (lv_at hl 2 rfl) ?_
  refine lv_iconst (v := (0 : Int32)) hx hb d_LW_tick_1 (by decide) ?_
  refine lv_aload_n hx hb d_LW_tick_2 rfl (lv_at hl 0 rfl) ?_
  refine lv_iload_n hx hb d_LW_tick_3 rfl (lv_at hl 1 rfl) ?_
  refine xt_calli (xt_runV (As := [.int a1]) (rest := [.int (0 : Int32), .ref ao]) ⟨hx, hb, hml, hown, hts⟩ (mt_CA_tick l hl9 dC dI cA ad hI _ hw) (cwV 1 hts (gV gw_577 gw_578 gw_579 gw_13 gw_576) rfl rfl rfl (by decide +kernel) ⟨(Nat.le_of_ble_eq_true rfl), (Nat.le_of_ble_eq_true rfl)⟩) ⟨zwC_blind, va_recv hK (zwL_C hP) (ci := 0) (q0 := 0) rfl atC_CA, zwC_pre (zwL_C hP) va_S.rf hG.1⟩ rfl rfl hl.1 rfl (lv_room (Nat.le_of_ble_eq_true rfl)) d_LW_tick_4 ⟨(Nat.le_of_ble_eq_true rfl), (Nat.le_of_ble_eq_true rfl)⟩) hS (fun q _ h => Or.inl h) (fun q h => Or.inl h) (fun q _ h => Or.inl h) (fun E ce q9 u9 t H locs ht ha hw hB hz1 hk1 hS hce hcv hcl => ?_) (fun r X1 t H locs ht hvm hw hP1 hz1 hk1 hS => ?_)
  · obtain ⟨E9, X9⟩ := u9
    obtain ⟨rfl, hP1⟩ := hB
    have hP1 : va_P (dC, dI) vwCl (wdL cA ad cL ao X9 O) H := zwL_join (by rw [← ht]; exact hP1) hP (hk1 ao hao (zwL_no hO hao))
    obtain ⟨he, hw⟩ := hw
    · have hcl : s.vm.findClass "java/lang/IllegalArgumentException" = some ce.cls := by rw [← show E9 = _ from he]; exact hcl
      refine xt_catch (r := 12) hown htab ⟨⟨(Nat.le_of_ble_eq_true rfl), (Nat.le_of_ble_eq_true rfl)⟩, (by decide), "java/lang/IllegalArgumentException", hts _ gw_545, Or.inl ⟨va_Nw.use rfl (hNW (.castable "java/lang/IllegalArgumentException" "java/lang/IllegalArgumentException") (List.mem_of_getElem? (i := 8) rfl)), rfl⟩⟩ hce hcv hcl ?_
      refine lv_astore_n (lv' := [(3, .ref q9), (0, .ref (ad 0)), (1, .int a1), (2, .ref ao)]) hx hb d_LW_tick_12 rfl hl (by decide) rfl (fun ls hl => ?_)
      refine lv_iconst (v := (1 : Int32)) hx hb d_LW_tick_13 (by decide) ?_
      exact W.iret (v := (1 : Int32)) hx hb hr (fun t9 ht9 _ => ⟨⟨1, (X9, O), rfl, hw, by show va_P _ _ _ t9.heap; rw [ht9]; exact hP1⟩, hS.F ht9⟩) hS.2.2 d_LW_tick_14
  · have hP1 : va_P (dC, dI) vwCl (wdL cA ad cL ao X1 O) H := zwL_join (by rw [← ht]; exact hP1) hP (hk1 ao hao (zwL_no hO hao))
    try dsimp only at hw
    refine lv_i2l hx hb d_LW_tick_7 rfl ?_
    refine va_last hx hb hKo hP1 (zwL_D hI hO) hS 125 0 atL_o rfl (by unfold vp_in; decide) d_LW_tick_8 (fun H locs hP _ hS => ?_)
    have hP : va_P (dC, dI) vwCl (wdL cA ad cL ao X1 (vp_updL O 0 r.toInt64)) H := by rw [← stL_o]; exact hP
    refine lv_goto (tgt := 15) hx hb d_LW_tick_9 (by decide) ?_
    refine lv_iconst (v := (0 : Int32)) hx hb d_LW_tick_15 (by decide) ?_
    exact W.iret (v := (0 : Int32)) hx hb hr (fun t9 ht9 _ => ⟨⟨0, (X1, vp_updL O 0 r.toInt64), rfl, hw, by show va_P _ _ _ t9.heap; rw [ht9]; exact hP⟩, hS.F ht9⟩) hS.2.2 d_LW_tick_16
abbrev c_LW_state : ByteArray := method_12_code
def y_LW_state : MethodName := ⟨"ChallengeAuthorityLaw", "state", "(LChallengeAuthority;II[J)I"⟩
def ws_LW_state : List Cond := Cond.codeWith y_LW_state c_LW_state 5 (Option.some Jvm.ClassFile.FieldType.int) [((0 : Nat), (10 : Nat), (13 : Nat), (23 : Nat))] :: GW
theorem d_LW_state_0 : decode c_LW_state 0 = .ok (.aload_n 3, 1) := by decide +kernel
theorem d_LW_state_1 : decode c_LW_state 1 = .ok (.iconst 0, 1) := by decide +kernel
theorem d_LW_state_2 : decode c_LW_state 2 = .ok (.aload_n 0, 1) := by decide +kernel
theorem d_LW_state_3 : decode c_LW_state 3 = .ok (.iload_n 1, 1) := by decide +kernel
theorem d_LW_state_4 : decode c_LW_state 4 = .ok (.iload_n 2, 1) := by decide +kernel
theorem d_LW_state_5 : decode c_LW_state 5 = .ok (.invokevirtual 48, 3) := by decide +kernel
theorem d_LW_state_8 : decode c_LW_state 8 = .ok (.i2l, 1) := by decide +kernel
theorem d_LW_state_9 : decode c_LW_state 9 = .ok (.lastore, 1) := by decide +kernel
theorem d_LW_state_10 : decode c_LW_state 10 = .ok (.goto 7, 3) := by decide +kernel
theorem d_LW_state_13 : decode c_LW_state 13 = .ok (.astore 4, 2) := by decide +kernel
theorem d_LW_state_15 : decode c_LW_state 15 = .ok (.iconst 1, 1) := by decide +kernel
theorem d_LW_state_16 : decode c_LW_state 16 = .ok (.ireturn, 1) := by decide +kernel
theorem d_LW_state_17 : decode c_LW_state 17 = .ok (.iconst 0, 1) := by decide +kernel
theorem d_LW_state_18 : decode c_LW_state 18 = .ok (.ireturn, 1) := by decide +kernel
def wp_LW_state (post : Int32 → ST → (Nat → Int64) → Prop) (X : ST) (O : Nat → Int64) (a1 : Int32) (a2 : Int32) : Prop := wp_CA_state (fun (r : Int32) (X1 : ST) => post 0 X1 (vp_updL O 0 r.toInt64)) (fun (E : String) (X1 : ST) => (E = "java/util/NoSuchElementException" ∧ post 1 X1 O)) X a1 a2
set_option maxHeartbeats 4000000 in
set_option maxRecDepth 100000 in
theorem mt_LW_state (l : Launch) (hl9 : l.stackTraces = false) (dC : Nat → ClassId) (dI : Nat → Nat → Nat) (cA : Nat → ClassId) (ad : Nat → Nat) (hI : INJ ad 125) (cL : ClassId) (ao : Nat) (hO : ∀ k : Nat, k < 125 → ao ≠ ad k) (sz : Nat) {X : ST} {O : Nat → Int64} {a1 : Int32} {a2 : Int32} {post : Int32 → ST → (Nat → Int64) → Prop} (hw : wp_LW_state post X O a1 a2) : Met l y_LW_state ws_LW_state ({ frames := 8, cells := 1, slots := 6, locals := 135 } : Room) (va_Pc [.ref (ad 0), .int a1, .int a2, .ref ao] (fun U => PL dC dI cA ad cL ao sz X O U)) (va_Qi (fun r (u : ST × (Nat → Int64)) => post r u.1 u.2) (fun (u : ST × (Nat → Int64)) t => va_P (dC, dI) vwCl (wdL cA ad cL ao u.1 u.2) t.heap) (CL ad ao sz)) 1 6 (CL ad ao sz) := by
  refine xt_ofT (cc := c_LW_state) (maxL := 5) (ret := (some .int)) (rows := [((0 : Nat), (10 : Nat), (13 : Nat), (23 : Nat))]) (by decide) rfl ?_
  intro p e s m args below meth c s₁ B hml htab hv
  obtain ⟨rfl, hsz, hP, hG⟩ := hv
  have hx := B.exec
  have hb := B.bytes
  have hr := B.returns
  have hts : ∀ w ∈ GW, w.before (([.ref (ad 0), .int a1, .int a2, .ref ao] : List Value).toArray) s = true := fun w h => atoms_spec (ws := ws_LW_state) B.pre w (List.mem_cons_of_mem _ h)
  have hown : s.vm.findClass R_LW = some m.cls := findClass_of_methodNamed B.named
  have hlocks := B.notSynchronized
  subst hsz
  have hK := hG.1.1
  have hKo := hG.2.1
  have hNW := hG.1.2.1
  have hNC := hG.2.2
  have hS : va_S (CL ad ao s.heap.size) s.heap s.heap [] := va_S.rf
  have hao : ao < s.heap.size := (hP 125 _ atL_o).lt
  have hl := lv_entry ([.ref (ad 0), .int a1, .int a2, .ref ao]) (n := 5) (Nat.le_of_ble_eq_true rfl)
  rw [lg_entry_eq]
  generalize (lg_sl ([.ref (ad 0), .int a1, .int a2, .ref ao]) ++ List.replicate (5 - (lg_sl ([.ref (ad 0), .int a1, .int a2, .ref ao])).length) Slot.unset).toArray = ls at hl ⊢
  have hl : lv_has ls 5 [(0, .ref (ad 0)), (1, .int a1), (2, .int a2), (3, .ref ao)] := hl
  unfold wp_LW_state at hw
  refine lv_aload_n hx hb d_LW_state_0 rfl (lv_at hl 3 rfl) ?_
  refine lv_iconst (v := (0 : Int32)) hx hb d_LW_state_1 (by decide) ?_
  refine lv_aload_n hx hb d_LW_state_2 rfl (lv_at hl 0 rfl) ?_
  refine lv_iload_n hx hb d_LW_state_3 rfl (lv_at hl 1 rfl) ?_
  refine lv_iload_n hx hb d_LW_state_4 rfl (lv_at hl 2 rfl) ?_
  refine xt_calli (xt_runV (As := [.int a1, .int a2]) (rest := [.int (0 : Int32), .ref ao]) ⟨hx, hb, hml, hown, hts⟩ (mt_CA_state l hl9 dC dI cA ad hI _ hw) (cwV 2 hts (gV gw_581 gw_582 gw_583 gw_13 gw_580) rfl rfl rfl (by decide +kernel) ⟨(Nat.le_of_ble_eq_true rfl), (Nat.le_of_ble_eq_true rfl)⟩) ⟨zwC_blind, va_recv hK (zwL_C hP) (ci := 0) (q0 := 0) rfl atC_CA, zwC_pre (zwL_C hP) va_S.rf hG.1⟩ rfl rfl hl.1 rfl (lv_room (Nat.le_of_ble_eq_true rfl)) d_LW_state_5 ⟨(Nat.le_of_ble_eq_true rfl), (Nat.le_of_ble_eq_true rfl)⟩) hS (fun q _ h => Or.inl h) (fun q h => Or.inl h) (fun q _ h => Or.inl h) (fun E ce q9 u9 t H locs ht ha hw hB hz1 hk1 hS hce hcv hcl => ?_) (fun r X1 t H locs ht hvm hw hP1 hz1 hk1 hS => ?_)
  · obtain ⟨E9, X9⟩ := u9
    obtain ⟨rfl, hP1⟩ := hB
    have hP1 : va_P (dC, dI) vwCl (wdL cA ad cL ao X9 O) H := zwL_join (by rw [← ht]; exact hP1) hP (hk1 ao hao (zwL_no hO hao))
    obtain ⟨he, hw⟩ := hw
    · have hcl : s.vm.findClass "java/util/NoSuchElementException" = some ce.cls := by rw [← show E9 = _ from he]; exact hcl
      refine xt_catch (r := 13) hown htab ⟨⟨(Nat.le_of_ble_eq_true rfl), (Nat.le_of_ble_eq_true rfl)⟩, (by decide), "java/util/NoSuchElementException", hts _ gw_551, Or.inl ⟨va_Nw.use rfl (hNW (.castable "java/util/NoSuchElementException" "java/util/NoSuchElementException") (List.mem_of_getElem? (i := 17) rfl)), rfl⟩⟩ hce hcv hcl ?_
      refine lv_astore (lv' := [(4, .ref q9), (0, .ref (ad 0)), (1, .int a1), (2, .int a2), (3, .ref ao)]) hx hb d_LW_state_13 hl (by decide) rfl (fun ls hl => ?_)
      refine lv_iconst (v := (1 : Int32)) hx hb d_LW_state_15 (by decide) ?_
      exact W.iret (v := (1 : Int32)) hx hb hr (fun t9 ht9 _ => ⟨⟨1, (X9, O), rfl, hw, by show va_P _ _ _ t9.heap; rw [ht9]; exact hP1⟩, hS.F ht9⟩) hS.2.2 d_LW_state_16
  · have hP1 : va_P (dC, dI) vwCl (wdL cA ad cL ao X1 O) H := zwL_join (by rw [← ht]; exact hP1) hP (hk1 ao hao (zwL_no hO hao))
    try dsimp only at hw
    refine lv_i2l hx hb d_LW_state_8 rfl ?_
    refine va_last hx hb hKo hP1 (zwL_D hI hO) hS 125 0 atL_o rfl (by unfold vp_in; decide) d_LW_state_9 (fun H locs hP _ hS => ?_)
    have hP : va_P (dC, dI) vwCl (wdL cA ad cL ao X1 (vp_updL O 0 r.toInt64)) H := by rw [← stL_o]; exact hP
    refine lv_goto (tgt := 17) hx hb d_LW_state_10 (by decide) ?_
    refine lv_iconst (v := (0 : Int32)) hx hb d_LW_state_17 (by decide) ?_
    exact W.iret (v := (0 : Int32)) hx hb hr (fun t9 ht9 _ => ⟨⟨0, (X1, vp_updL O 0 r.toInt64), rfl, hw, by show va_P _ _ _ t9.heap; rw [ht9]; exact hP⟩, hS.F ht9⟩) hS.2.2 d_LW_state_18
abbrev c_LW_detail : ByteArray := method_13_code
def y_LW_detail : MethodName := ⟨"ChallengeAuthorityLaw", "detail", "(LChallengeAuthority;III[J)I"⟩
def ws_LW_detail : List Cond := Cond.codeWith y_LW_detail c_LW_detail 6 (Option.some Jvm.ClassFile.FieldType.int) [((0 : Nat), (12 : Nat), (15 : Nat), (23 : Nat))] :: GW
theorem d_LW_detail_0 : decode c_LW_detail 0 = .ok (.aload 4, 2) := by decide +kernel
theorem d_LW_detail_2 : decode c_LW_detail 2 = .ok (.iconst 0, 1) := by decide +kernel
theorem d_LW_detail_3 : decode c_LW_detail 3 = .ok (.aload_n 0, 1) := by decide +kernel
theorem d_LW_detail_4 : decode c_LW_detail 4 = .ok (.iload_n 1, 1) := by decide +kernel
theorem d_LW_detail_5 : decode c_LW_detail 5 = .ok (.iload_n 2, 1) := by decide +kernel
theorem d_LW_detail_6 : decode c_LW_detail 6 = .ok (.iload_n 3, 1) := by decide +kernel
theorem d_LW_detail_7 : decode c_LW_detail 7 = .ok (.invokevirtual 52, 3) := by decide +kernel
theorem d_LW_detail_10 : decode c_LW_detail 10 = .ok (.i2l, 1) := by decide +kernel
theorem d_LW_detail_11 : decode c_LW_detail 11 = .ok (.lastore, 1) := by decide +kernel
theorem d_LW_detail_12 : decode c_LW_detail 12 = .ok (.goto 7, 3) := by decide +kernel
theorem d_LW_detail_15 : decode c_LW_detail 15 = .ok (.astore 5, 2) := by decide +kernel
theorem d_LW_detail_17 : decode c_LW_detail 17 = .ok (.iconst 1, 1) := by decide +kernel
theorem d_LW_detail_18 : decode c_LW_detail 18 = .ok (.ireturn, 1) := by decide +kernel
theorem d_LW_detail_19 : decode c_LW_detail 19 = .ok (.iconst 0, 1) := by decide +kernel
theorem d_LW_detail_20 : decode c_LW_detail 20 = .ok (.ireturn, 1) := by decide +kernel
def wp_LW_detail (post : Int32 → ST → (Nat → Int64) → Prop) (X : ST) (O : Nat → Int64) (a1 : Int32) (a2 : Int32) (a3 : Int32) : Prop := wp_CA_detail (fun (r : Int32) (X1 : ST) => post 0 X1 (vp_updL O 0 r.toInt64)) (fun (E : String) (X1 : ST) => (E = "java/util/NoSuchElementException" ∧ post 1 X1 O)) X a1 a2 a3
set_option maxHeartbeats 4000000 in
set_option maxRecDepth 100000 in
theorem mt_LW_detail (l : Launch) (hl9 : l.stackTraces = false) (dC : Nat → ClassId) (dI : Nat → Nat → Nat) (cA : Nat → ClassId) (ad : Nat → Nat) (hI : INJ ad 125) (cL : ClassId) (ao : Nat) (hO : ∀ k : Nat, k < 125 → ao ≠ ad k) (sz : Nat) {X : ST} {O : Nat → Int64} {a1 : Int32} {a2 : Int32} {a3 : Int32} {post : Int32 → ST → (Nat → Int64) → Prop} (hw : wp_LW_detail post X O a1 a2 a3) : Met l y_LW_detail ws_LW_detail ({ frames := 8, cells := 1, slots := 6, locals := 136 } : Room) (va_Pc [.ref (ad 0), .int a1, .int a2, .int a3, .ref ao] (fun U => PL dC dI cA ad cL ao sz X O U)) (va_Qi (fun r (u : ST × (Nat → Int64)) => post r u.1 u.2) (fun (u : ST × (Nat → Int64)) t => va_P (dC, dI) vwCl (wdL cA ad cL ao u.1 u.2) t.heap) (CL ad ao sz)) 1 6 (CL ad ao sz) := by
  refine xt_ofT (cc := c_LW_detail) (maxL := 6) (ret := (some .int)) (rows := [((0 : Nat), (12 : Nat), (15 : Nat), (23 : Nat))]) (by decide) rfl ?_
  intro p e s m args below meth c s₁ B hml htab hv
  obtain ⟨rfl, hsz, hP, hG⟩ := hv
  have hx := B.exec
  have hb := B.bytes
  have hr := B.returns
  have hts : ∀ w ∈ GW, w.before (([.ref (ad 0), .int a1, .int a2, .int a3, .ref ao] : List Value).toArray) s = true := fun w h => atoms_spec (ws := ws_LW_detail) B.pre w (List.mem_cons_of_mem _ h)
  have hown : s.vm.findClass R_LW = some m.cls := findClass_of_methodNamed B.named
  have hlocks := B.notSynchronized
  subst hsz
  have hK := hG.1.1
  have hKo := hG.2.1
  have hNW := hG.1.2.1
  have hNC := hG.2.2
  have hS : va_S (CL ad ao s.heap.size) s.heap s.heap [] := va_S.rf
  have hao : ao < s.heap.size := (hP 125 _ atL_o).lt
  have hl := lv_entry ([.ref (ad 0), .int a1, .int a2, .int a3, .ref ao]) (n := 6) (Nat.le_of_ble_eq_true rfl)
  rw [lg_entry_eq]
  generalize (lg_sl ([.ref (ad 0), .int a1, .int a2, .int a3, .ref ao]) ++ List.replicate (6 - (lg_sl ([.ref (ad 0), .int a1, .int a2, .int a3, .ref ao])).length) Slot.unset).toArray = ls at hl ⊢
  have hl : lv_has ls 6 [(0, .ref (ad 0)), (1, .int a1), (2, .int a2), (3, .int a3), (4, .ref ao)] := hl
  unfold wp_LW_detail at hw
  refine lv_aload hx hb d_LW_detail_0 (lv_at hl 4 rfl) ?_
  refine lv_iconst (v := (0 : Int32)) hx hb d_LW_detail_2 (by decide) ?_
  refine lv_aload_n hx hb d_LW_detail_3 rfl (lv_at hl 0 rfl) ?_
  refine lv_iload_n hx hb d_LW_detail_4 rfl (lv_at hl 1 rfl) ?_
  refine lv_iload_n hx hb d_LW_detail_5 rfl (lv_at hl 2 rfl) ?_
  refine lv_iload_n hx hb d_LW_detail_6 rfl (lv_at hl 3 rfl) ?_
  refine xt_calli (xt_runV (As := [.int a1, .int a2, .int a3]) (rest := [.int (0 : Int32), .ref ao]) ⟨hx, hb, hml, hown, hts⟩ (mt_CA_detail l hl9 dC dI cA ad hI _ hw) (cwV 3 hts (gV gw_585 gw_586 gw_587 gw_13 gw_584) rfl rfl rfl (by decide +kernel) ⟨(Nat.le_of_ble_eq_true rfl), (Nat.le_of_ble_eq_true rfl)⟩) ⟨zwC_blind, va_recv hK (zwL_C hP) (ci := 0) (q0 := 0) rfl atC_CA, zwC_pre (zwL_C hP) va_S.rf hG.1⟩ rfl rfl hl.1 rfl (lv_room (Nat.le_of_ble_eq_true rfl)) d_LW_detail_7 ⟨(Nat.le_of_ble_eq_true rfl), (Nat.le_of_ble_eq_true rfl)⟩) hS (fun q _ h => Or.inl h) (fun q h => Or.inl h) (fun q _ h => Or.inl h) (fun E ce q9 u9 t H locs ht ha hw hB hz1 hk1 hS hce hcv hcl => ?_) (fun r X1 t H locs ht hvm hw hP1 hz1 hk1 hS => ?_)
  · obtain ⟨E9, X9⟩ := u9
    obtain ⟨rfl, hP1⟩ := hB
    have hP1 : va_P (dC, dI) vwCl (wdL cA ad cL ao X9 O) H := zwL_join (by rw [← ht]; exact hP1) hP (hk1 ao hao (zwL_no hO hao))
    obtain ⟨he, hw⟩ := hw
    · have hcl : s.vm.findClass "java/util/NoSuchElementException" = some ce.cls := by rw [← show E9 = _ from he]; exact hcl
      refine xt_catch (r := 15) hown htab ⟨⟨(Nat.le_of_ble_eq_true rfl), (Nat.le_of_ble_eq_true rfl)⟩, (by decide), "java/util/NoSuchElementException", hts _ gw_551, Or.inl ⟨va_Nw.use rfl (hNW (.castable "java/util/NoSuchElementException" "java/util/NoSuchElementException") (List.mem_of_getElem? (i := 17) rfl)), rfl⟩⟩ hce hcv hcl ?_
      refine lv_astore (lv' := [(5, .ref q9), (0, .ref (ad 0)), (1, .int a1), (2, .int a2), (3, .int a3), (4, .ref ao)]) hx hb d_LW_detail_15 hl (by decide) rfl (fun ls hl => ?_)
      refine lv_iconst (v := (1 : Int32)) hx hb d_LW_detail_17 (by decide) ?_
      exact W.iret (v := (1 : Int32)) hx hb hr (fun t9 ht9 _ => ⟨⟨1, (X9, O), rfl, hw, by show va_P _ _ _ t9.heap; rw [ht9]; exact hP1⟩, hS.F ht9⟩) hS.2.2 d_LW_detail_18
  · have hP1 : va_P (dC, dI) vwCl (wdL cA ad cL ao X1 O) H := zwL_join (by rw [← ht]; exact hP1) hP (hk1 ao hao (zwL_no hO hao))
    try dsimp only at hw
    refine lv_i2l hx hb d_LW_detail_10 rfl ?_
    refine va_last hx hb hKo hP1 (zwL_D hI hO) hS 125 0 atL_o rfl (by unfold vp_in; decide) d_LW_detail_11 (fun H locs hP _ hS => ?_)
    have hP : va_P (dC, dI) vwCl (wdL cA ad cL ao X1 (vp_updL O 0 r.toInt64)) H := by rw [← stL_o]; exact hP
    refine lv_goto (tgt := 19) hx hb d_LW_detail_12 (by decide) ?_
    refine lv_iconst (v := (0 : Int32)) hx hb d_LW_detail_19 (by decide) ?_
    exact W.iret (v := (0 : Int32)) hx hb hr (fun t9 ht9 _ => ⟨⟨0, (X1, vp_updL O 0 r.toInt64), rfl, hw, by show va_P _ _ _ t9.heap; rw [ht9]; exact hP⟩, hS.F ht9⟩) hS.2.2 d_LW_detail_20
