def ws_CA_goodCertificates : List Cond := Cond.code y_CA_goodCertificates c_CA_goodCertificates 3 (Option.some Jvm.ClassFile.FieldType.int) :: GW
theorem d_CA_goodCertificates_0 : decode c_CA_goodCertificates 0 = .ok (.iconst 0, 1) := by decide +kernel
theorem d_CA_goodCertificates_1 : decode c_CA_goodCertificates 1 = .ok (.istore_n 1, 1) := by decide +kernel
theorem d_CA_goodCertificates_2 : decode c_CA_goodCertificates 2 = .ok (.iconst 0, 1) := by decide +kernel
theorem d_CA_goodCertificates_3 : decode c_CA_goodCertificates 3 = .ok (.istore_n 2, 1) := by decide +kernel
theorem d_CA_goodCertificates_4 : decode c_CA_goodCertificates 4 = .ok (.iload_n 2, 1) := by decide +kernel
theorem d_CA_goodCertificates_5 : decode c_CA_goodCertificates 5 = .ok (.aload_n 0, 1) := by decide +kernel
theorem d_CA_goodCertificates_6 : decode c_CA_goodCertificates 6 = .ok (.getfield 182, 3) := by decide +kernel
theorem d_CA_goodCertificates_9 : decode c_CA_goodCertificates 9 = .ok (.if_icmp .ge 24, 3) := by decide +kernel
theorem d_CA_goodCertificates_12 : decode c_CA_goodCertificates 12 = .ok (.aload_n 0, 1) := by decide +kernel
theorem d_CA_goodCertificates_13 : decode c_CA_goodCertificates 13 = .ok (.getfield 35, 3) := by decide +kernel
theorem d_CA_goodCertificates_16 : decode c_CA_goodCertificates 16 = .ok (.iload_n 2, 1) := by decide +kernel
theorem d_CA_goodCertificates_17 : decode c_CA_goodCertificates 17 = .ok (.aaload, 1) := by decide +kernel
theorem d_CA_goodCertificates_18 : decode c_CA_goodCertificates 18 = .ok (.getfield 204, 3) := by decide +kernel
theorem d_CA_goodCertificates_21 : decode c_CA_goodCertificates 21 = .ok (.ifCond .ne 6, 3) := by decide +kernel
theorem d_CA_goodCertificates_24 : decode c_CA_goodCertificates 24 = .ok (.iinc 1 1, 3) := by decide +kernel
theorem d_CA_goodCertificates_27 : decode c_CA_goodCertificates 27 = .ok (.iinc 2 1, 3) := by decide +kernel
theorem d_CA_goodCertificates_30 : decode c_CA_goodCertificates 30 = .ok (.goto (-26), 3) := by decide +kernel
theorem d_CA_goodCertificates_33 : decode c_CA_goodCertificates 33 = .ok (.iload_n 1, 1) := by decide +kernel
theorem d_CA_goodCertificates_34 : decode c_CA_goodCertificates 34 = .ok (.ireturn, 1) := by decide +kernel
def wq_CA_goodCertificates_4 (post : Int32 → ST → Prop) : Nat → Int32 → Int32 → ST → Prop
  | 0 => fun _ _ _ => False
  | n + 1 => fun v1 v2 X => (((X 5 0) ≤ v2 → post v1 X) ∧ (¬ (X 5 0) ≤ v2 → (vp_in v2 12 ∧ (((X 50 v2.toNatClampNeg) = 0 → wq_CA_goodCertificates_4 post n (v1 + (1 : Int32)) (v2 + (1 : Int32)) X) ∧ (¬ (X 50 v2.toNatClampNeg) = 0 → wq_CA_goodCertificates_4 post n v1 (v2 + (1 : Int32)) X)))))
def wp_CA_goodCertificates (post : Int32 → ST → Prop) (X : ST) : Prop := (∃ n9, wq_CA_goodCertificates_4 post n9 (0 : Int32) (0 : Int32) X)
set_option maxHeartbeats 4000000 in
set_option maxRecDepth 100000 in
theorem mt_CA_goodCertificates (l : Launch) (hl9 : l.stackTraces = false) (dC : Nat → ClassId) (dI : Nat → Nat → Nat) (cA : Nat → ClassId) (ad : Nat → Nat) (hI : INJ ad 125) (sz : Nat) {X : ST} {post : Int32 → ST → Prop} (hw : wp_CA_goodCertificates post X) : Met l y_CA_goodCertificates ws_CA_goodCertificates ({ frames := 0, cells := 0, slots := 0, locals := 0 } : Room) (va_Pc [.ref (ad 0)] (fun U => PC dC dI cA ad sz X U)) (va_Qi (fun r (u : ST) => post r u) (fun (u : ST) t => va_P (dC, dI) vwCl (wdC cA ad u) t.heap) (CA ad 125 sz)) 0 0 (CA ad 125 sz) := by
  refine Met.ofW (cc := c_CA_goodCertificates) (maxL := 3) (ret := (some .int)) (by decide) rfl ?_
  intro p e s m args below meth c s₁ B hml hv
  obtain ⟨rfl, hsz, hP, hG⟩ := hv
  have hx := B.exec
  have hb := B.bytes
  have hr := B.returns
  have hts : ∀ w ∈ GW, w.before (([.ref (ad 0)] : List Value).toArray) s = true := fun w h => atoms_spec (ws := ws_CA_goodCertificates) B.pre w (List.mem_cons_of_mem _ h)
  have hown : s.vm.findClass R_CA = some m.cls := findClass_of_methodNamed B.named
  have hlocks := B.notSynchronized
  subst hsz
  have hK := hG.1
  have hG9 := hG
  have hNW := hG.2.1
  have hD0 : ∀ (X : ST), va_D (CA ad 125 s.heap.size) (wdC cA ad X) := fun _ => zwC_D hI
  have hS : va_S (CA ad 125 s.heap.size) s.heap s.heap [] := va_S.rf
  have hl := lv_entry ([.ref (ad 0)]) (n := 3) (Nat.le_of_ble_eq_true rfl)
  rw [lg_entry_eq]
  generalize (lg_sl ([.ref (ad 0)]) ++ List.replicate (3 - (lg_sl ([.ref (ad 0)])).length) Slot.unset).toArray = ls at hl ⊢
  have hl : lv_has ls 3 [(0, .ref (ad 0))] := hl
  have L4 : ∀ (n : Nat), ∀ (v1 : Int32) (v2 : Int32) (X : ST) (H : Heap) (locs : List Loc) (ls : Array Slot), wq_CA_goodCertificates_4 post n v1 v2 X → va_P (dC, dI) vwCl (wdC cA ad X) H → va_S (CA ad 125 s.heap.size) s.heap H locs → lv_has ls 3 [(0, .ref (ad 0)), (1, .int v1), (2, .int v2)] → W p l e (headSpec ws_CA_goodCertificates ({ frames := 0, cells := 0, slots := 0, locals := 0 } : Room)).room s m (([.ref (ad 0)] : List Value).toArray) below meth c H locs 0 0 (MQ below (va_Qi (fun r (u : ST) => post r u) (fun (u : ST) t => va_P (dC, dI) vwCl (wdC cA ad u) t.heap) (CA ad 125 s.heap.size)) (([.ref (ad 0)] : List Value).toArray) s 0 0 (CA ad 125 s.heap.size)) (F0 m 4 ls []) := by
    intro n
    induction n with
    | zero => intro v1 v2 X H locs ls hw hP hS hl; exact False.elim hw
    | succ n ih =>
      intro v1 v2 X H locs ls hw hP hS hl
      dsimp only [wq_CA_goodCertificates_4] at hw
      refine lv_iload_n hx hb d_CA_goodCertificates_4 rfl (lv_at hl 2 rfl) ?_
      refine lv_aload_n hx hb d_CA_goodCertificates_5 rfl (lv_at hl 0 rfl) ?_
      refine va_get (D := (dC, dI)) (ci := 0) (v := .int (X 5 0)) (C := R_CA) (T := T_CA) (N := 14) hx hb hts in_CA hown hK hP (0) atC_CA rfl 5 (by decide) (hts _ gw_192) (fun _ h9 => h9) rfl d_CA_goodCertificates_6 ?_
      refine lv_icmp_ge (tgt := 33) hx hb d_CA_goodCertificates_9 (by decide) (fun c1 => ?_) (fun c1 => ?_)
      · have hw := hw.1 c1
        refine lv_iload_n hx hb d_CA_goodCertificates_33 rfl (lv_at hl 1 rfl) ?_
        exact W.iret (v := v1) hx hb hr (fun t ht _ => ⟨⟨v1, X, rfl, hw, by show va_P _ _ _ t.heap; rw [ht]; exact hP⟩, hS.F ht⟩) hS.2.2 d_CA_goodCertificates_34
      · have hw := hw.2 c1
        refine lv_aload_n hx hb d_CA_goodCertificates_12 rfl (lv_at hl 0 rfl) ?_
        refine va_get (D := (dC, dI)) (ci := 0) (v := .ref (ad 5)) (C := R_CA) (T := T_CA) (N := 14) hx hb hts in_CA hown hK hP (0) atC_CA rfl 10 (by decide) (hts _ gw_191) (fun _ h9 => h9) rfl d_CA_goodCertificates_13 ?_
        refine lv_iload_n hx hb d_CA_goodCertificates_16 rfl (lv_at hl 2 rfl) ?_
        obtain ⟨h2, hw⟩ := hw
        refine va_aldq hx hb hK hP (5) 4 atC_aCer rfl h2 d_CA_goodCertificates_17 ?_
        refine W.eq (g2 := F0 m 18 ls [.ref (ad (113 + v2.toNatClampNeg))]) rfl ?_
        refine va_get (D := (dC, dI)) (ci := 8) (v := .int (X 50 v2.toNatClampNeg)) (C := R_Cer) (T := T_Cer) (N := 6) hx hb hts in_Cer hown hK hP (113 + v2.toNatClampNeg) (atC_Cer (zw_lt h2)) rfl 0 (by decide) (hts _ gw_213) (fun _ h9 => h9) rfl d_CA_goodCertificates_18 ?_
        refine lv_if_ne (tgt := 27) hx hb d_CA_goodCertificates_21 (by decide) (fun c3 => ?_) (fun c3 => ?_)
        · have hw := hw.2 c3
          refine lv_iinc (k := 2) (v := v2 + (1 : Int32)) (lv' := [(2, .int (v2 + (1 : Int32))), (0, .ref (ad 0)), (1, .int v1)]) hx hb d_CA_goodCertificates_27 hl rfl rfl (by decide) rfl (fun ls hl => ?_)
          refine lv_goto (tgt := 4) hx hb d_CA_goodCertificates_30 (by decide) ?_
          have hl := lv_sub hl (l' := [(0, .ref (ad 0)), (1, .int v1), (2, .int (v2 + (1 : Int32)))]) [1, 2, 0] rfl
          exact ih _ _ _ _ _ _ hw hP hS hl
        · have hw := hw.1 c3
          refine lv_iinc (k := 1) (v := v1 + (1 : Int32)) (lv' := [(1, .int (v1 + (1 : Int32))), (0, .ref (ad 0)), (2, .int v2)]) hx hb d_CA_goodCertificates_24 hl rfl rfl (by decide) rfl (fun ls hl => ?_)
          refine lv_iinc (k := 2) (v := v2 + (1 : Int32)) (lv' := [(2, .int (v2 + (1 : Int32))), (1, .int (v1 + (1 : Int32))), (0, .ref (ad 0))]) hx hb d_CA_goodCertificates_27 hl rfl rfl (by decide) rfl (fun ls hl => ?_)
          refine lv_goto (tgt := 4) hx hb d_CA_goodCertificates_30 (by decide) ?_
          have hl := lv_sub hl (l' := [(0, .ref (ad 0)), (1, .int (v1 + (1 : Int32))), (2, .int (v2 + (1 : Int32)))]) [2, 1, 0] rfl
          exact ih _ _ _ _ _ _ hw hP hS hl
  unfold wp_CA_goodCertificates at hw
  refine lv_iconst (v := (0 : Int32)) hx hb d_CA_goodCertificates_0 (by decide) ?_
  refine lv_istore_n (lv' := [(1, .int (0 : Int32)), (0, .ref (ad 0))]) hx hb d_CA_goodCertificates_1 rfl hl (by decide) rfl (fun ls hl => ?_)
  refine lv_iconst (v := (0 : Int32)) hx hb d_CA_goodCertificates_2 (by decide) ?_
  refine lv_istore_n (lv' := [(2, .int (0 : Int32)), (1, .int (0 : Int32)), (0, .ref (ad 0))]) hx hb d_CA_goodCertificates_3 rfl hl (by decide) rfl (fun ls hl => ?_)
  have hl := lv_sub hl (l' := [(0, .ref (ad 0)), (1, .int (0 : Int32)), (2, .int (0 : Int32))]) [2, 1, 0] rfl
  obtain ⟨n9, hw⟩ := hw
  exact L4 n9 _ _ _ _ _ _ hw hP hS hl
def ws_CA_revoke : List Cond := Cond.code y_CA_revoke c_CA_revoke 8 (Option.some Jvm.ClassFile.FieldType.int) :: GW
theorem d_CA_revoke_0 : decode c_CA_revoke 0 = .ok (.aload_n 0, 1) := by decide +kernel
theorem d_CA_revoke_1 : decode c_CA_revoke 1 = .ok (.iload_n 1, 1) := by decide +kernel
theorem d_CA_revoke_2 : decode c_CA_revoke 2 = .ok (.iload_n 2, 1) := by decide +kernel
theorem d_CA_revoke_3 : decode c_CA_revoke 3 = .ok (.aload_n 0, 1) := by decide +kernel
theorem d_CA_revoke_4 : decode c_CA_revoke 4 = .ok (.iconst 5, 1) := by decide +kernel
theorem d_CA_revoke_5 : decode c_CA_revoke 5 = .ok (.iload_n 1, 1) := by decide +kernel
theorem d_CA_revoke_6 : decode c_CA_revoke 6 = .ok (.iload_n 2, 1) := by decide +kernel
theorem d_CA_revoke_7 : decode c_CA_revoke 7 = .ok (.iload_n 3, 1) := by decide +kernel
theorem d_CA_revoke_8 : decode c_CA_revoke 8 = .ok (.iload 4, 2) := by decide +kernel
theorem d_CA_revoke_10 : decode c_CA_revoke 10 = .ok (.invokevirtual 96, 3) := by decide +kernel
theorem d_CA_revoke_13 : decode c_CA_revoke 13 = .ok (.iload 5, 2) := by decide +kernel
theorem d_CA_revoke_15 : decode c_CA_revoke 15 = .ok (.invokevirtual 126, 3) := by decide +kernel
theorem d_CA_revoke_18 : decode c_CA_revoke 18 = .ok (.iload_n 3, 1) := by decide +kernel
theorem d_CA_revoke_19 : decode c_CA_revoke 19 = .ok (.ifCond .lt 11, 3) := by decide +kernel
theorem d_CA_revoke_22 : decode c_CA_revoke 22 = .ok (.iload_n 3, 1) := by decide +kernel
theorem d_CA_revoke_23 : decode c_CA_revoke 23 = .ok (.aload_n 0, 1) := by decide +kernel
theorem d_CA_revoke_24 : decode c_CA_revoke 24 = .ok (.getfield 182, 3) := by decide +kernel
theorem d_CA_revoke_27 : decode c_CA_revoke 27 = .ok (.if_icmp .lt 11, 3) := by decide +kernel
theorem d_CA_revoke_30 : decode c_CA_revoke 30 = .ok (.new 177, 3) := by decide +kernel
theorem d_CA_revoke_33 : decode c_CA_revoke 33 = .ok (.dup, 1) := by decide +kernel
theorem d_CA_revoke_34 : decode c_CA_revoke 34 = .ok (.invokespecial 179, 3) := by decide +kernel
theorem d_CA_revoke_37 : decode c_CA_revoke 37 = .ok (.athrow, 1) := by decide +kernel
theorem d_CA_revoke_38 : decode c_CA_revoke 38 = .ok (.aload_n 0, 1) := by decide +kernel
theorem d_CA_revoke_39 : decode c_CA_revoke 39 = .ok (.getfield 35, 3) := by decide +kernel
theorem d_CA_revoke_42 : decode c_CA_revoke 42 = .ok (.iload_n 3, 1) := by decide +kernel
theorem d_CA_revoke_43 : decode c_CA_revoke 43 = .ok (.aaload, 1) := by decide +kernel
theorem d_CA_revoke_44 : decode c_CA_revoke 44 = .ok (.astore 6, 2) := by decide +kernel
theorem d_CA_revoke_46 : decode c_CA_revoke 46 = .ok (.aload_n 0, 1) := by decide +kernel
theorem d_CA_revoke_47 : decode c_CA_revoke 47 = .ok (.getfield 17, 3) := by decide +kernel
theorem d_CA_revoke_50 : decode c_CA_revoke 50 = .ok (.aload 6, 2) := by decide +kernel
theorem d_CA_revoke_52 : decode c_CA_revoke 52 = .ok (.getfield 200, 3) := by decide +kernel
theorem d_CA_revoke_55 : decode c_CA_revoke 55 = .ok (.aaload, 1) := by decide +kernel
theorem d_CA_revoke_56 : decode c_CA_revoke 56 = .ok (.astore 7, 2) := by decide +kernel
theorem d_CA_revoke_58 : decode c_CA_revoke 58 = .ok (.aload 7, 2) := by decide +kernel
theorem d_CA_revoke_60 : decode c_CA_revoke 60 = .ok (.getfield 180, 3) := by decide +kernel
theorem d_CA_revoke_63 : decode c_CA_revoke 63 = .ok (.iload_n 1, 1) := by decide +kernel
theorem d_CA_revoke_64 : decode c_CA_revoke 64 = .ok (.if_icmp .eq 24, 3) := by decide +kernel
theorem d_CA_revoke_67 : decode c_CA_revoke 67 = .ok (.aload_n 0, 1) := by decide +kernel
theorem d_CA_revoke_68 : decode c_CA_revoke 68 = .ok (.iload_n 1, 1) := by decide +kernel
theorem d_CA_revoke_69 : decode c_CA_revoke 69 = .ok (.aload 6, 2) := by decide +kernel
theorem d_CA_revoke_71 : decode c_CA_revoke 71 = .ok (.getfield 203, 3) := by decide +kernel
theorem d_CA_revoke_74 : decode c_CA_revoke 74 = .ok (.invokevirtual 139, 3) := by decide +kernel
theorem d_CA_revoke_77 : decode c_CA_revoke 77 = .ok (.ifCond .le 11, 3) := by decide +kernel
theorem d_CA_revoke_80 : decode c_CA_revoke 80 = .ok (.new 104, 3) := by decide +kernel
theorem d_CA_revoke_83 : decode c_CA_revoke 83 = .ok (.dup, 1) := by decide +kernel
theorem d_CA_revoke_84 : decode c_CA_revoke 84 = .ok (.invokespecial 106, 3) := by decide +kernel
theorem d_CA_revoke_87 : decode c_CA_revoke 87 = .ok (.athrow, 1) := by decide +kernel
theorem d_CA_revoke_88 : decode c_CA_revoke 88 = .ok (.iload 4, 2) := by decide +kernel
theorem d_CA_revoke_90 : decode c_CA_revoke 90 = .ok (.ifCond .lt 10, 3) := by decide +kernel
theorem d_CA_revoke_93 : decode c_CA_revoke 93 = .ok (.iload 4, 2) := by decide +kernel
theorem d_CA_revoke_95 : decode c_CA_revoke 95 = .ok (.bipush 10, 2) := by decide +kernel
theorem d_CA_revoke_97 : decode c_CA_revoke 97 = .ok (.if_icmp .le 11, 3) := by decide +kernel
theorem d_CA_revoke_100 : decode c_CA_revoke 100 = .ok (.new 93, 3) := by decide +kernel
theorem d_CA_revoke_103 : decode c_CA_revoke 103 = .ok (.dup, 1) := by decide +kernel
theorem d_CA_revoke_104 : decode c_CA_revoke 104 = .ok (.invokespecial 95, 3) := by decide +kernel
theorem d_CA_revoke_107 : decode c_CA_revoke 107 = .ok (.athrow, 1) := by decide +kernel
theorem d_CA_revoke_108 : decode c_CA_revoke 108 = .ok (.aload 6, 2) := by decide +kernel
theorem d_CA_revoke_110 : decode c_CA_revoke 110 = .ok (.getfield 204, 3) := by decide +kernel
theorem d_CA_revoke_113 : decode c_CA_revoke 113 = .ok (.iconst 1, 1) := by decide +kernel
theorem d_CA_revoke_114 : decode c_CA_revoke 114 = .ok (.if_icmp .eq 12, 3) := by decide +kernel
theorem d_CA_revoke_117 : decode c_CA_revoke 117 = .ok (.aload 7, 2) := by decide +kernel
theorem d_CA_revoke_119 : decode c_CA_revoke 119 = .ok (.getfield 181, 3) := by decide +kernel
theorem d_CA_revoke_122 : decode c_CA_revoke 122 = .ok (.iconst 3, 1) := by decide +kernel
theorem d_CA_revoke_123 : decode c_CA_revoke 123 = .ok (.if_icmp .eq 11, 3) := by decide +kernel
theorem d_CA_revoke_126 : decode c_CA_revoke 126 = .ok (.new 120, 3) := by decide +kernel
theorem d_CA_revoke_129 : decode c_CA_revoke 129 = .ok (.dup, 1) := by decide +kernel
theorem d_CA_revoke_130 : decode c_CA_revoke 130 = .ok (.invokespecial 122, 3) := by decide +kernel
theorem d_CA_revoke_133 : decode c_CA_revoke 133 = .ok (.athrow, 1) := by decide +kernel
theorem d_CA_revoke_134 : decode c_CA_revoke 134 = .ok (.aload 6, 2) := by decide +kernel
theorem d_CA_revoke_136 : decode c_CA_revoke 136 = .ok (.iconst 1, 1) := by decide +kernel
theorem d_CA_revoke_137 : decode c_CA_revoke 137 = .ok (.putfield 204, 3) := by decide +kernel
theorem d_CA_revoke_140 : decode c_CA_revoke 140 = .ok (.aload 6, 2) := by decide +kernel
theorem d_CA_revoke_142 : decode c_CA_revoke 142 = .ok (.iload 4, 2) := by decide +kernel
theorem d_CA_revoke_144 : decode c_CA_revoke 144 = .ok (.putfield 205, 3) := by decide +kernel
theorem d_CA_revoke_147 : decode c_CA_revoke 147 = .ok (.aload_n 0, 1) := by decide +kernel
theorem d_CA_revoke_148 : decode c_CA_revoke 148 = .ok (.invokevirtual 208, 3) := by decide +kernel
theorem d_CA_revoke_151 : decode c_CA_revoke 151 = .ok (.ireturn, 1) := by decide +kernel
def wq_CA_revoke_88 (post : Int32 → ST → Prop) (px : String → ST → Prop) (v4 : Int32) (v6 : Nat) (v7 : Nat) (X : ST) : Prop := ((v4 < 0 → px "java/lang/IllegalArgumentException" X) ∧ (¬ v4 < 0 → ((v4 ≤ (10 : Int32) → (v6 < 12 ∧ (((X 50 v6) = (1 : Int32) → px "java/lang/IllegalStateException" X) ∧ (¬ (X 50 v6) = (1 : Int32) → (v7 < 12 ∧ (((X 20 v7) = (3 : Int32) → wp_CA_goodCertificates (fun (r8 : Int32) (X7 : ST) => post r8 X7) (up (up X 50 v6 (1 : Int32)) 55 v6 v4)) ∧ (¬ (X 20 v7) = (3 : Int32) → px "java/lang/IllegalStateException" X))))))) ∧ (¬ v4 ≤ (10 : Int32) → px "java/lang/IllegalArgumentException" X))))
def wp_CA_revoke (post : Int32 → ST → Prop) (px : String → ST → Prop) (X : ST) (a1 : Int32) (a2 : Int32) (a3 : Int32) (a4 : Int32) (a5 : Int32) : Prop := wp_CA_digest (fun (r10 : Int32) (X9 : ST) => wp_CA_acceptSigned (fun (X11 : ST) => ((a3 < 0 → px "java/util/NoSuchElementException" X11) ∧ (¬ a3 < 0 → ((a3 < (X11 5 0) → (vp_in a3 12 ∧ (vp_in (X11 51 a3.toNatClampNeg) 12 ∧ (((X11 21 ((X11 51 a3.toNatClampNeg).toNatClampNeg)) = a1 → wq_CA_revoke_88 post px a4 a3.toNatClampNeg ((X11 51 a3.toNatClampNeg).toNatClampNeg) X11) ∧ (¬ (X11 21 ((X11 51 a3.toNatClampNeg).toNatClampNeg)) = a1 → wp_CA_missingAuthorizations (fun (r19 : Int32) (X18 : ST) => ((r19 ≤ 0 → wq_CA_revoke_88 post px a4 a3.toNatClampNeg ((X11 51 a3.toNatClampNeg).toNatClampNeg) X18) ∧ (¬ r19 ≤ 0 → px "java/lang/UnsupportedOperationException" X18))) X11 a1 (X11 52 a3.toNatClampNeg)))))) ∧ (¬ a3 < (X11 5 0) → px "java/util/NoSuchElementException" X11))))) px X9 a1 a2 r10 a5) X (5 : Int32) a1 a2 a3 a4
set_option maxHeartbeats 4000000 in
set_option maxRecDepth 100000 in
theorem mt_CA_revoke (l : Launch) (hl9 : l.stackTraces = false) (dC : Nat → ClassId) (dI : Nat → Nat → Nat) (cA : Nat → ClassId) (ad : Nat → Nat) (hI : INJ ad 125) (sz : Nat) {X : ST} {a1 : Int32} {a2 : Int32} {a3 : Int32} {a4 : Int32} {a5 : Int32} {post : Int32 → ST → Prop} {px : String → ST → Prop} (hw : wp_CA_revoke post px X a1 a2 a3 a4 a5) : xt_Met l y_CA_revoke ws_CA_revoke ({ frames := 7, cells := 2, slots := 12, locals := 114 } : Room) (va_Pc [.ref (ad 0), .int a1, .int a2, .int a3, .int a4, .int a5] (fun U => PC dC dI cA ad sz X U)) (va_Qi (fun r (u : ST) => post r u) (fun (u : ST) t => va_P (dC, dI) vwCl (wdC cA ad u) t.heap) (CA ad 125 sz)) (xt_X (fun (u : String × ST) => px u.1 u.2) (fun E (u : String × ST) t => u.1 = E ∧ va_P (dC, dI) vwCl (wdC cA ad u.2) t.heap) (CA ad 125 sz)) 2 12 (CA ad 125 sz) := by
  refine xt_ofW (cc := c_CA_revoke) (maxL := 8) (ret := (some .int)) (by decide) rfl ?_
  intro p e s m args below meth c s₁ B hml hEx hv
  obtain ⟨rfl, hsz, hP, hG⟩ := hv
  have hx := B.exec
  have hb := B.bytes
  have hr := B.returns
  have hts : ∀ w ∈ GW, w.before (([.ref (ad 0), .int a1, .int a2, .int a3, .int a4, .int a5] : List Value).toArray) s = true := fun w h => atoms_spec (ws := ws_CA_revoke) B.pre w (List.mem_cons_of_mem _ h)
  have hown : s.vm.findClass R_CA = some m.cls := findClass_of_methodNamed B.named
  have hlocks := B.notSynchronized
  subst hsz
  have hK := hG.1
  have hG9 := hG
  have hNW := hG.2.1
  have hD0 : ∀ (X : ST), va_D (CA ad 125 s.heap.size) (wdC cA ad X) := fun _ => zwC_D hI
  have hS : va_S (CA ad 125 s.heap.size) s.heap s.heap [] := va_S.rf
  have hl := lv_entry ([.ref (ad 0), .int a1, .int a2, .int a3, .int a4, .int a5]) (n := 8) (Nat.le_of_ble_eq_true rfl)
  rw [lg_entry_eq]
  generalize (lg_sl ([.ref (ad 0), .int a1, .int a2, .int a3, .int a4, .int a5]) ++ List.replicate (8 - (lg_sl ([.ref (ad 0), .int a1, .int a2, .int a3, .int a4, .int a5])).length) Slot.unset).toArray = ls at hl ⊢
  have hl : lv_has ls 8 [(0, .ref (ad 0)), (1, .int a1), (2, .int a2), (3, .int a3), (4, .int a4), (5, .int a5)] := hl
  have L88 : ∀ (v4 : Int32) (v6 : Nat) (v7 : Nat) (X : ST) (H : Heap) (locs : List Loc) (ls : Array Slot), wq_CA_revoke_88 post px v4 v6 v7 X → va_P (dC, dI) vwCl (wdC cA ad X) H → va_S (CA ad 125 s.heap.size) s.heap H locs → lv_has ls 8 [(0, .ref (ad 0)), (4, .int v4), (6, .ref (ad (113 + v6))), (7, .ref (ad (17 + v7)))] → W p l e (headSpec ws_CA_revoke ({ frames := 7, cells := 2, slots := 12, locals := 114 } : Room)).room s m (([.ref (ad 0), .int a1, .int a2, .int a3, .int a4, .int a5] : List Value).toArray) below meth c H locs 1 6 (xt_Q below (va_Qi (fun r (u : ST) => post r u) (fun (u : ST) t => va_P (dC, dI) vwCl (wdC cA ad u) t.heap) (CA ad 125 s.heap.size)) (xt_X (fun (u : String × ST) => px u.1 u.2) (fun E (u : String × ST) t => u.1 = E ∧ va_P (dC, dI) vwCl (wdC cA ad u.2) t.heap) (CA ad 125 s.heap.size)) (([.ref (ad 0), .int a1, .int a2, .int a3, .int a4, .int a5] : List Value).toArray) s 2 12 (CA ad 125 s.heap.size)) (F0 m 88 ls []) := by
    intro v4 v6 v7 X H locs ls hw hP hS hl
    unfold wq_CA_revoke_88 at hw
    refine lv_iload hx hb d_CA_revoke_88 (lv_at hl 1 rfl) ?_
    refine lv_if_lt (tgt := 100) hx hb d_CA_revoke_90 (by decide) (fun c1 => ?_) (fun c1 => ?_)
    · have hw := hw.1 c1
      exact xt_throw0 (cls := "java/lang/IllegalArgumentException") (names := ["java/lang/RuntimeException", "java/lang/Exception"]) (ic := 95) hx hb hl9 hown (by decide +kernel) (by decide +kernel) (hts _ gw_39) (hts _ gw_40) (hts _ gw_41) (xc_hat xa_0 hts hG9 hP hS) (hl.1.trans hml.symm) d_CA_revoke_100 d_CA_revoke_103 d_CA_revoke_104 d_CA_revoke_107 (fun x hx => (hEx x hx).elim) hlocks (fun t ha hz hk => ⟨("java/lang/IllegalArgumentException", X), hw, ⟨rfl, zw_keep hP hk⟩, zw_F hS hz hk⟩) hS.2.2 (Nat.le_of_ble_eq_true rfl) (Nat.le_of_ble_eq_true rfl) (Nat.le_of_ble_eq_true rfl) (Nat.le_of_ble_eq_true rfl) (Nat.le_of_ble_eq_true rfl) (Nat.le_of_ble_eq_true rfl)
    · have hw := hw.2 c1
      refine lv_iload hx hb d_CA_revoke_93 (lv_at hl 1 rfl) ?_
      refine lv_bipush (v := (10 : Int32)) hx hb d_CA_revoke_95 (by decide) ?_
      refine lv_icmp_le (tgt := 108) hx hb d_CA_revoke_97 (by decide) (fun c2 => ?_) (fun c2 => ?_)
      · have hw := hw.1 c2
        refine lv_aload hx hb d_CA_revoke_108 (lv_at hl 2 rfl) ?_
        obtain ⟨h3, hw⟩ := hw
        refine va_get (D := (dC, dI)) (ci := 8) (v := .int (X 50 v6)) (C := R_Cer) (T := T_Cer) (N := 6) hx hb hts in_Cer hown hK hP (113 + v6) (atC_Cer h3) rfl 0 (by decide) (hts _ gw_213) (fun _ h9 => h9) rfl d_CA_revoke_110 ?_
        refine lv_iconst (v := (1 : Int32)) hx hb d_CA_revoke_113 (by decide) ?_
        refine lv_icmp_eq (tgt := 126) hx hb d_CA_revoke_114 (by decide) (fun c4 => ?_) (fun c4 => ?_)
        · have hw := hw.1 c4
          exact xt_throw0 (cls := "java/lang/IllegalStateException") (names := ["java/lang/RuntimeException", "java/lang/Exception"]) (ic := 122) hx hb hl9 hown (by decide +kernel) (by decide +kernel) (hts _ gw_60) (hts _ gw_61) (hts _ gw_62) (xc_hat xa_2 hts hG9 hP hS) (hl.1.trans hml.symm) d_CA_revoke_126 d_CA_revoke_129 d_CA_revoke_130 d_CA_revoke_133 (fun x hx => (hEx x hx).elim) hlocks (fun t ha hz hk => ⟨("java/lang/IllegalStateException", X), hw, ⟨rfl, zw_keep hP hk⟩, zw_F hS hz hk⟩) hS.2.2 (Nat.le_of_ble_eq_true rfl) (Nat.le_of_ble_eq_true rfl) (Nat.le_of_ble_eq_true rfl) (Nat.le_of_ble_eq_true rfl) (Nat.le_of_ble_eq_true rfl) (Nat.le_of_ble_eq_true rfl)
        · have hw := hw.2 c4
          refine lv_aload hx hb d_CA_revoke_117 (lv_at hl 3 rfl) ?_
          obtain ⟨h5, hw⟩ := hw
          refine va_get (D := (dC, dI)) (ci := 5) (v := .int (X 20 v7)) (C := R_Ord) (T := T_Ord) (N := 7) hx hb hts in_Ord hown hK hP (17 + v7) (atC_Ord h5) rfl 0 (by decide) (hts _ gw_109) (fun _ h9 => h9) rfl d_CA_revoke_119 ?_
          refine lv_iconst (v := (3 : Int32)) hx hb d_CA_revoke_122 (by decide) ?_
          refine lv_icmp_eq (tgt := 134) hx hb d_CA_revoke_123 (by decide) (fun c6 => ?_) (fun c6 => ?_)
          · have hw := hw.1 c6
            refine lv_aload hx hb d_CA_revoke_134 (lv_at hl 2 rfl) ?_
            refine lv_iconst (v := (1 : Int32)) hx hb d_CA_revoke_136 (by decide) ?_
            refine va_put (D := (dC, dI)) (ci := 8) (v := .int (1 : Int32)) (ty := .int) (C := R_Cer) (T := T_Cer) (N := 6) hx hb hts in_Cer ty_Cer ty_Cer_ok nm_Cer hown hK hP (hD0 _) hS (113 + v6) (atC_Cer h3) rfl 0 (by decide) (hts _ gw_213) (fun _ h9 => h9) rfl (by decide +kernel) rfl rfl (Nat.le_of_ble_eq_true rfl) d_CA_revoke_137 (fun H locs hP _ hS => ?_)
            have hP : va_P (dC, dI) vwCl (wdC cA ad (up X 50 v6 (1 : Int32))) H := by rw [← stC_Cer_0 h3]; exact hP
            refine lv_aload hx hb d_CA_revoke_140 (lv_at hl 2 rfl) ?_
            refine lv_iload hx hb d_CA_revoke_142 (lv_at hl 1 rfl) ?_
            refine va_put (D := (dC, dI)) (ci := 8) (v := .int v4) (ty := .int) (C := R_Cer) (T := T_Cer) (N := 6) hx hb hts in_Cer ty_Cer ty_Cer_ok nm_Cer hown hK hP (hD0 _) hS (113 + v6) (atC_Cer h3) rfl 5 (by decide) (hts _ gw_214) (fun _ h9 => h9) rfl (by decide +kernel) rfl rfl (Nat.le_of_ble_eq_true rfl) d_CA_revoke_144 (fun H locs hP _ hS => ?_)
            have hP : va_P (dC, dI) vwCl (wdC cA ad (up (up X 50 v6 (1 : Int32)) 55 v6 v4)) H := by rw [← stC_Cer_5 h3]; exact hP
            refine lv_aload_n hx hb d_CA_revoke_147 rfl (lv_at hl 0 rfl) ?_
            refine va_calli (va_runV (As := []) (rest := []) ⟨hx, hb, hml, hown, hts⟩ (mt_CA_goodCertificates l hl9 dC dI cA ad hI _ hw) (cwV 0 hts (gV gw_216 gw_217 gw_218 gw_13 gw_215) rfl rfl rfl (by decide +kernel) ⟨Nat.le_of_ble_eq_true rfl, Nat.le_of_ble_eq_true rfl⟩) ⟨zwC_blind, va_recv hK hP (ci := 0) (q0 := 0) rfl atC_CA, zwC_pre hP hS hG9⟩ rfl rfl hl.1 rfl (lv_room (Nat.le_of_ble_eq_true rfl)) d_CA_revoke_148 ⟨Nat.le_of_ble_eq_true rfl, Nat.le_of_ble_eq_true rfl⟩) hS (fun q _ h => CA_le hS.1 q h) (fun q h => CA_le hS.1 q h) (fun r8 X7 t H locs ht hvm hw hP hz1 hk1 hS => ?_)
            have hP : va_P (dC, dI) vwCl (wdC cA ad X7) H := by rw [← ht]; exact hP
            try dsimp only at hw
            refine xt_ret ?_
            refine W.widen (k := 2) (n := 12) (Nat.le_of_ble_eq_true rfl) (Nat.le_of_ble_eq_true rfl) ?_
            exact W.iret (v := r8) hx hb hr (fun t ht _ => ⟨⟨r8, X7, rfl, hw, by show va_P _ _ _ t.heap; rw [ht]; exact hP⟩, hS.F ht⟩) hS.2.2 d_CA_revoke_151
          · have hw := hw.2 c6
            exact xt_throw0 (cls := "java/lang/IllegalStateException") (names := ["java/lang/RuntimeException", "java/lang/Exception"]) (ic := 122) hx hb hl9 hown (by decide +kernel) (by decide +kernel) (hts _ gw_60) (hts _ gw_61) (hts _ gw_62) (xc_hat xa_2 hts hG9 hP hS) (hl.1.trans hml.symm) d_CA_revoke_126 d_CA_revoke_129 d_CA_revoke_130 d_CA_revoke_133 (fun x hx => (hEx x hx).elim) hlocks (fun t ha hz hk => ⟨("java/lang/IllegalStateException", X), hw, ⟨rfl, zw_keep hP hk⟩, zw_F hS hz hk⟩) hS.2.2 (Nat.le_of_ble_eq_true rfl) (Nat.le_of_ble_eq_true rfl) (Nat.le_of_ble_eq_true rfl) (Nat.le_of_ble_eq_true rfl) (Nat.le_of_ble_eq_true rfl) (Nat.le_of_ble_eq_true rfl)
      · have hw := hw.2 c2
        exact xt_throw0 (cls := "java/lang/IllegalArgumentException") (names := ["java/lang/RuntimeException", "java/lang/Exception"]) (ic := 95) hx hb hl9 hown (by decide +kernel) (by decide +kernel) (hts _ gw_39) (hts _ gw_40) (hts _ gw_41) (xc_hat xa_0 hts hG9 hP hS) (hl.1.trans hml.symm) d_CA_revoke_100 d_CA_revoke_103 d_CA_revoke_104 d_CA_revoke_107 (fun x hx => (hEx x hx).elim) hlocks (fun t ha hz hk => ⟨("java/lang/IllegalArgumentException", X), hw, ⟨rfl, zw_keep hP hk⟩, zw_F hS hz hk⟩) hS.2.2 (Nat.le_of_ble_eq_true rfl) (Nat.le_of_ble_eq_true rfl) (Nat.le_of_ble_eq_true rfl) (Nat.le_of_ble_eq_true rfl) (Nat.le_of_ble_eq_true rfl) (Nat.le_of_ble_eq_true rfl)
  unfold wp_CA_revoke at hw
  refine lv_aload_n hx hb d_CA_revoke_0 rfl (lv_at hl 0 rfl) ?_
  refine lv_iload_n hx hb d_CA_revoke_1 rfl (lv_at hl 1 rfl) ?_
  refine lv_iload_n hx hb d_CA_revoke_2 rfl (lv_at hl 2 rfl) ?_
  refine lv_aload_n hx hb d_CA_revoke_3 rfl (lv_at hl 0 rfl) ?_
  refine lv_iconst (v := (5 : Int32)) hx hb d_CA_revoke_4 (by decide) ?_
  refine lv_iload_n hx hb d_CA_revoke_5 rfl (lv_at hl 1 rfl) ?_
  refine lv_iload_n hx hb d_CA_revoke_6 rfl (lv_at hl 2 rfl) ?_
  refine lv_iload_n hx hb d_CA_revoke_7 rfl (lv_at hl 3 rfl) ?_
  refine lv_iload hx hb d_CA_revoke_8 (lv_at hl 4 rfl) ?_
  refine va_calli (va_runV (As := [.int (5 : Int32), .int a1, .int a2, .int a3, .int a4]) (rest := [.int a2, .int a1, .ref (ad 0)]) ⟨hx, hb, hml, hown, hts⟩ (mt_CA_digest l hl9 dC dI cA ad hI _ hw) (cwV 5 hts (gV gw_43 gw_44 gw_45 gw_13 gw_42) rfl rfl rfl (by decide +kernel) ⟨Nat.le_of_ble_eq_true rfl, Nat.le_of_ble_eq_true rfl⟩) ⟨zwC_blind, va_recv hK hP (ci := 0) (q0 := 0) rfl atC_CA, zwC_pre hP hS hG9⟩ rfl rfl hl.1 rfl (lv_room (Nat.le_of_ble_eq_true rfl)) d_CA_revoke_10 ⟨Nat.le_of_ble_eq_true rfl, Nat.le_of_ble_eq_true rfl⟩) hS (fun q _ h => CA_le hS.1 q h) (fun q h => CA_le hS.1 q h) (fun r10 X9 t H locs ht hvm hw hP hz1 hk1 hS => ?_)
  have hP : va_P (dC, dI) vwCl (wdC cA ad X9) H := by rw [← ht]; exact hP
  try dsimp only at hw
  refine lv_iload hx hb d_CA_revoke_13 (lv_at hl 5 rfl) ?_
  refine xt_callv (xt_runV (As := [.int a1, .int a2, .int r10, .int a5]) (rest := []) ⟨hx, hb, hml, hown, hts⟩ (mt_CA_acceptSigned l hl9 dC dI cA ad hI _ hw) (cwV 4 hts (gV gw_125 gw_126 gw_127 gw_13 gw_124) rfl rfl rfl (by decide +kernel) ⟨Nat.le_of_ble_eq_true rfl, Nat.le_of_ble_eq_true rfl⟩) ⟨zwC_blind, va_recv hK hP (ci := 0) (q0 := 0) rfl atC_CA, zwC_pre hP hS hG9⟩ rfl rfl hl.1 rfl (lv_room (Nat.le_of_ble_eq_true rfl)) d_CA_revoke_15 ⟨Nat.le_of_ble_eq_true rfl, Nat.le_of_ble_eq_true rfl⟩) hS (fun q _ h => CA_le hS.1 q h) (fun q h => CA_le hS.1 q h) (fun q _ h => CA_le hS.1 q h) (fun E ce q9 u9 t H locs ht ha hw hB hz1 hk1 hS hce hcv hcl => ?_) (fun X11 t H locs ht hvm hw hP hz1 hk1 hS => ?_)
  · obtain ⟨E9, X9⟩ := u9
    obtain ⟨rfl, hP⟩ := hB
    exact xt_out (E := E9) (fun x hx => (hEx x hx).elim) hlocks hce hcv hcl (fun t9 ht9 ha9 => ⟨(E9, X9), hw, ⟨rfl, by show va_P _ _ _ t9.heap; rw [ht9, ← ht]; exact hP⟩, hS.F ht9⟩) hS.2.2 (Nat.le_of_ble_eq_true rfl) (Nat.le_of_ble_eq_true rfl)
  have hP : va_P (dC, dI) vwCl (wdC cA ad X11) H := by rw [← ht]; exact hP
  try dsimp only at hw
  refine lv_iload_n hx hb d_CA_revoke_18 rfl (lv_at hl 3 rfl) ?_
  refine lv_if_lt (tgt := 30) hx hb d_CA_revoke_19 (by decide) (fun c13 => ?_) (fun c13 => ?_)
  · have hw := hw.1 c13
    exact xt_throw0 (cls := "java/util/NoSuchElementException") (names := ["java/lang/RuntimeException", "java/lang/Exception"]) (ic := 179) hx hb hl9 hown (by decide +kernel) (by decide +kernel) (hts _ gw_64) (hts _ gw_65) (hts _ gw_66) (xc_hat xa_3 hts hG9 hP hS) (hl.1.trans hml.symm) d_CA_revoke_30 d_CA_revoke_33 d_CA_revoke_34 d_CA_revoke_37 (fun x hx => (hEx x hx).elim) hlocks (fun t ha hz hk => ⟨("java/util/NoSuchElementException", X11), hw, ⟨rfl, zw_keep hP hk⟩, zw_F hS hz hk⟩) hS.2.2 (Nat.le_of_ble_eq_true rfl) (Nat.le_of_ble_eq_true rfl) (Nat.le_of_ble_eq_true rfl) (Nat.le_of_ble_eq_true rfl) (Nat.le_of_ble_eq_true rfl) (Nat.le_of_ble_eq_true rfl)
  · have hw := hw.2 c13
    refine lv_iload_n hx hb d_CA_revoke_22 rfl (lv_at hl 3 rfl) ?_
    refine lv_aload_n hx hb d_CA_revoke_23 rfl (lv_at hl 0 rfl) ?_
    refine va_get (D := (dC, dI)) (ci := 0) (v := .int (X11 5 0)) (C := R_CA) (T := T_CA) (N := 14) hx hb hts in_CA hown hK hP (0) atC_CA rfl 5 (by decide) (hts _ gw_192) (fun _ h9 => h9) rfl d_CA_revoke_24 ?_
    refine lv_icmp_lt (tgt := 38) hx hb d_CA_revoke_27 (by decide) (fun c14 => ?_) (fun c14 => ?_)
    · have hw := hw.1 c14
      refine lv_aload_n hx hb d_CA_revoke_38 rfl (lv_at hl 0 rfl) ?_
      refine va_get (D := (dC, dI)) (ci := 0) (v := .ref (ad 5)) (C := R_CA) (T := T_CA) (N := 14) hx hb hts in_CA hown hK hP (0) atC_CA rfl 10 (by decide) (hts _ gw_191) (fun _ h9 => h9) rfl d_CA_revoke_39 ?_
      refine lv_iload_n hx hb d_CA_revoke_42 rfl (lv_at hl 3 rfl) ?_
      obtain ⟨h15, hw⟩ := hw
      refine va_aldq hx hb hK hP (5) 4 atC_aCer rfl h15 d_CA_revoke_43 ?_
      refine W.eq (g2 := F0 m 44 ls [.ref (ad (113 + a3.toNatClampNeg))]) rfl ?_
      refine lv_astore (lv' := [(6, .ref (ad (113 + a3.toNatClampNeg))), (0, .ref (ad 0)), (1, .int a1), (2, .int a2), (3, .int a3), (4, .int a4), (5, .int a5)]) hx hb d_CA_revoke_44 hl (by decide) rfl (fun ls hl => ?_)
      refine lv_aload_n hx hb d_CA_revoke_46 rfl (lv_at hl 1 rfl) ?_
      refine va_get (D := (dC, dI)) (ci := 0) (v := .ref (ad 2)) (C := R_CA) (T := T_CA) (N := 14) hx hb hts in_CA hown hK hP (0) atC_CA rfl 7 (by decide) (hts _ gw_102) (fun _ h9 => h9) rfl d_CA_revoke_47 ?_
      refine lv_aload hx hb d_CA_revoke_50 (lv_at hl 0 rfl) ?_
      refine va_get (D := (dC, dI)) (ci := 8) (v := .int (X11 51 a3.toNatClampNeg)) (C := R_Cer) (T := T_Cer) (N := 6) hx hb hts in_Cer hown hK hP (113 + a3.toNatClampNeg) (atC_Cer (zw_lt h15)) rfl 1 (by decide) (hts _ gw_193) (fun _ h9 => h9) rfl d_CA_revoke_52 ?_
      obtain ⟨h16, hw⟩ := hw
      refine va_aldq hx hb hK hP (2) 1 atC_aOrd rfl h16 d_CA_revoke_55 ?_
      refine W.eq (g2 := F0 m 56 ls [.ref (ad (17 + ((X11 51 a3.toNatClampNeg).toNatClampNeg)))]) rfl ?_
      refine lv_astore (lv' := [(7, .ref (ad (17 + ((X11 51 a3.toNatClampNeg).toNatClampNeg)))), (6, .ref (ad (113 + a3.toNatClampNeg))), (0, .ref (ad 0)), (1, .int a1), (2, .int a2), (3, .int a3), (4, .int a4), (5, .int a5)]) hx hb d_CA_revoke_56 hl (by decide) rfl (fun ls hl => ?_)
      refine lv_aload hx hb d_CA_revoke_58 (lv_at hl 0 rfl) ?_
      refine va_get (D := (dC, dI)) (ci := 5) (v := .int (X11 21 ((X11 51 a3.toNatClampNeg).toNatClampNeg))) (C := R_Ord) (T := T_Ord) (N := 7) hx hb hts in_Ord hown hK hP (17 + ((X11 51 a3.toNatClampNeg).toNatClampNeg)) (atC_Ord (zw_lt h16)) rfl 1 (by decide) (hts _ gw_103) (fun _ h9 => h9) rfl d_CA_revoke_60 ?_
      refine lv_iload_n hx hb d_CA_revoke_63 rfl (lv_at hl 3 rfl) ?_
      refine lv_icmp_eq (tgt := 88) hx hb d_CA_revoke_64 (by decide) (fun c17 => ?_) (fun c17 => ?_)
      · have hw := hw.1 c17
        have hl := lv_sub hl (l' := [(0, .ref (ad 0)), (4, .int a4), (6, .ref (ad (113 + a3.toNatClampNeg))), (7, .ref (ad (17 + ((X11 51 a3.toNatClampNeg).toNatClampNeg))))]) [2, 6, 1, 0] rfl
        exact L88 _ _ _ _ _ _ _ hw hP hS hl
      · have hw := hw.2 c17
        refine lv_aload_n hx hb d_CA_revoke_67 rfl (lv_at hl 2 rfl) ?_
        refine lv_iload_n hx hb d_CA_revoke_68 rfl (lv_at hl 3 rfl) ?_
        refine lv_aload hx hb d_CA_revoke_69 (lv_at hl 1 rfl) ?_
        refine va_get (D := (dC, dI)) (ci := 8) (v := .int (X11 52 a3.toNatClampNeg)) (C := R_Cer) (T := T_Cer) (N := 6) hx hb hts in_Cer hown hK hP (113 + a3.toNatClampNeg) (atC_Cer (zw_lt h15)) rfl 2 (by decide) (hts _ gw_194) (fun _ h9 => h9) rfl d_CA_revoke_71 ?_
        refine va_calli (va_runV (As := [.int a1, .int (X11 52 a3.toNatClampNeg)]) (rest := []) ⟨hx, hb, hml, hown, hts⟩ (mt_CA_missingAuthorizations l hl9 dC dI cA ad hI _ hw) (cwV 2 hts (gV gw_132 gw_133 gw_134 gw_13 gw_131) rfl rfl rfl (by decide +kernel) ⟨Nat.le_of_ble_eq_true rfl, Nat.le_of_ble_eq_true rfl⟩) ⟨zwC_blind, va_recv hK hP (ci := 0) (q0 := 0) rfl atC_CA, zwC_pre hP hS hG9⟩ rfl rfl hl.1 rfl (lv_room (Nat.le_of_ble_eq_true rfl)) d_CA_revoke_74 ⟨Nat.le_of_ble_eq_true rfl, Nat.le_of_ble_eq_true rfl⟩) hS (fun q _ h => CA_le hS.1 q h) (fun q h => CA_le hS.1 q h) (fun r19 X18 t H locs ht hvm hw hP hz1 hk1 hS => ?_)
        have hP : va_P (dC, dI) vwCl (wdC cA ad X18) H := by rw [← ht]; exact hP
        try dsimp only at hw
        refine lv_if_le (tgt := 88) hx hb d_CA_revoke_77 (by decide) (fun c20 => ?_) (fun c20 => ?_)
        · have hw := hw.1 c20
          have hl := lv_sub hl (l' := [(0, .ref (ad 0)), (4, .int a4), (6, .ref (ad (113 + a3.toNatClampNeg))), (7, .ref (ad (17 + ((X11 51 a3.toNatClampNeg).toNatClampNeg))))]) [2, 6, 1, 0] rfl
          exact L88 _ _ _ _ _ _ _ hw hP hS hl
        · have hw := hw.2 c20
          exact xt_throw0 (cls := "java/lang/UnsupportedOperationException") (names := ["java/lang/RuntimeException", "java/lang/Exception"]) (ic := 106) hx hb hl9 hown (by decide +kernel) (by decide +kernel) (hts _ gw_49) (hts _ gw_50) (hts _ gw_51) (xc_hat xa_1 hts hG9 hP hS) (hl.1.trans hml.symm) d_CA_revoke_80 d_CA_revoke_83 d_CA_revoke_84 d_CA_revoke_87 (fun x hx => (hEx x hx).elim) hlocks (fun t ha hz hk => ⟨("java/lang/UnsupportedOperationException", X18), hw, ⟨rfl, zw_keep hP hk⟩, zw_F hS hz hk⟩) hS.2.2 (Nat.le_of_ble_eq_true rfl) (Nat.le_of_ble_eq_true rfl) (Nat.le_of_ble_eq_true rfl) (Nat.le_of_ble_eq_true rfl) (Nat.le_of_ble_eq_true rfl) (Nat.le_of_ble_eq_true rfl)
    · have hw := hw.2 c14
      exact xt_throw0 (cls := "java/util/NoSuchElementException") (names := ["java/lang/RuntimeException", "java/lang/Exception"]) (ic := 179) hx hb hl9 hown (by decide +kernel) (by decide +kernel) (hts _ gw_64) (hts _ gw_65) (hts _ gw_66) (xc_hat xa_3 hts hG9 hP hS) (hl.1.trans hml.symm) d_CA_revoke_30 d_CA_revoke_33 d_CA_revoke_34 d_CA_revoke_37 (fun x hx => (hEx x hx).elim) hlocks (fun t ha hz hk => ⟨("java/util/NoSuchElementException", X11), hw, ⟨rfl, zw_keep hP hk⟩, zw_F hS hz hk⟩) hS.2.2 (Nat.le_of_ble_eq_true rfl) (Nat.le_of_ble_eq_true rfl) (Nat.le_of_ble_eq_true rfl) (Nat.le_of_ble_eq_true rfl) (Nat.le_of_ble_eq_true rfl) (Nat.le_of_ble_eq_true rfl)
