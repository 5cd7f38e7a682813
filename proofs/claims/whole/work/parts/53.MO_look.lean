def ws_MO_look : List Cond := Cond.code y_MO_look c_MO_look 4 (Option.none : Option Jvm.ClassFile.FieldType) :: GW
theorem d_MO_look_0 : decode c_MO_look 0 = .ok (.iload_n 1, 1) := by decide +kernel
theorem d_MO_look_1 : decode c_MO_look 1 = .ok (.iconst 3, 1) := by decide +kernel
theorem d_MO_look_2 : decode c_MO_look 2 = .ok (.if_icmp .ne 12, 3) := by decide +kernel
theorem d_MO_look_5 : decode c_MO_look 5 = .ok (.iconst 2, 1) := by decide +kernel
theorem d_MO_look_6 : decode c_MO_look 6 = .ok (.aload_n 0, 1) := by decide +kernel
theorem d_MO_look_7 : decode c_MO_look 7 = .ok (.getfield 137, 3) := by decide +kernel
theorem d_MO_look_10 : decode c_MO_look 10 = .ok (.imul, 1) := by decide +kernel
theorem d_MO_look_11 : decode c_MO_look 11 = .ok (.goto 8, 3) := by decide +kernel
theorem d_MO_look_14 : decode c_MO_look 14 = .ok (.aload_n 0, 1) := by decide +kernel
theorem d_MO_look_15 : decode c_MO_look 15 = .ok (.iload_n 1, 1) := by decide +kernel
theorem d_MO_look_16 : decode c_MO_look 16 = .ok (.invokevirtual 220, 3) := by decide +kernel
theorem d_MO_look_19 : decode c_MO_look 19 = .ok (.istore_n 3, 1) := by decide +kernel
theorem d_MO_look_20 : decode c_MO_look 20 = .ok (.aload_n 0, 1) := by decide +kernel
theorem d_MO_look_21 : decode c_MO_look 21 = .ok (.iload_n 2, 1) := by decide +kernel
theorem d_MO_look_22 : decode c_MO_look 22 = .ok (.ifCond .lt 12, 3) := by decide +kernel
theorem d_MO_look_25 : decode c_MO_look 25 = .ok (.iload_n 2, 1) := by decide +kernel
theorem d_MO_look_26 : decode c_MO_look 26 = .ok (.iload_n 3, 1) := by decide +kernel
theorem d_MO_look_27 : decode c_MO_look 27 = .ok (.if_icmp .ge 7, 3) := by decide +kernel
theorem d_MO_look_30 : decode c_MO_look 30 = .ok (.iconst 0, 1) := by decide +kernel
theorem d_MO_look_31 : decode c_MO_look 31 = .ok (.goto 4, 3) := by decide +kernel
theorem d_MO_look_34 : decode c_MO_look 34 = .ok (.iconst 1, 1) := by decide +kernel
theorem d_MO_look_35 : decode c_MO_look 35 = .ok (.putfield 81, 3) := by decide +kernel
theorem d_MO_look_38 : decode c_MO_look 38 = .ok (.return_, 1) := by decide +kernel
def wq_MO_look_35 (post : ST → Int64 → Prop) (s0 : Int32) (X : ST) (Y : Int64) : Prop := post (up X 90 0 s0) Y
def wq_MO_look_19 (post : ST → Int64 → Prop) (s0 : Int32) (v2 : Int32) (X : ST) (Y : Int64) : Prop := ((v2 < 0 → wq_MO_look_35 post (1 : Int32) X Y) ∧ (¬ v2 < 0 → ((s0 ≤ v2 → wq_MO_look_35 post (1 : Int32) X Y) ∧ (¬ s0 ≤ v2 → wq_MO_look_35 post (0 : Int32) X Y))))
def wp_MO_look (post : ST → Int64 → Prop) (X : ST) (Y : Int64) (a1 : Int32) (a2 : Int32) : Prop := ((a1 = (3 : Int32) → wq_MO_look_19 post ((2 : Int32) * (X 4 0)) a2 X Y) ∧ (¬ a1 = (3 : Int32) → wp_MO_counted (fun (r6 : Int32) (X4 : ST) (Y5 : Int64) => wq_MO_look_19 post r6 a2 X4 Y5) X Y a1))
set_option maxHeartbeats 4000000 in
set_option maxRecDepth 100000 in
theorem mt_MO_look (l : Launch) (hl9 : l.stackTraces = false) (dC : Nat → ClassId) (dI : Nat → Nat → Nat) (cA : Nat → ClassId) (ad : Nat → Nat) (hI : INJ ad 23) (sz : Nat) {X : ST} {Y : Int64} {a1 : Int32} {a2 : Int32} {post : ST → Int64 → Prop} (hw : wp_MO_look post X Y a1 a2) : Met l y_MO_look ws_MO_look ({ frames := 1, cells := 0, slots := 0, locals := 21 } : Room) (va_Pc [.ref (ad 0), .int a1, .int a2] (fun U => PM dC dI cA ad sz X Y U)) (va_Qv (fun (u : ST × Int64) => post u.1 u.2) (fun (u : ST × Int64) t => va_P (dC, dI) vwCl (wdM cA ad u.1 u.2) t.heap) (CA ad 23 sz)) 0 0 (CA ad 23 sz) := by
  refine Met.ofW (cc := c_MO_look) (maxL := 4) (ret := none) (by decide) rfl ?_
  intro p e s m args below meth c s₁ B hml hv
  obtain ⟨rfl, hsz, hP, hG⟩ := hv
  have hx := B.exec
  have hb := B.bytes
  have hr := B.returns
  have hts : ∀ w ∈ GW, w.before (([.ref (ad 0), .int a1, .int a2] : List Value).toArray) s = true := fun w h => atoms_spec (ws := ws_MO_look) B.pre w (List.mem_cons_of_mem _ h)
  have hown : s.vm.findClass R_MO = some m.cls := findClass_of_methodNamed B.named
  have hlocks := B.notSynchronized
  subst hsz
  have hK := hG.1
  have hG9 := hG
  have hNW := hG.2
  have hD0 : ∀ (X : ST) (Y : Int64), va_D (CA ad 23 s.heap.size) (wdM cA ad X Y) := fun _ _ => zwM_D hI
  have hS : va_S (CA ad 23 s.heap.size) s.heap s.heap [] := va_S.rf
  have hl := lv_entry ([.ref (ad 0), .int a1, .int a2]) (n := 4) (Nat.le_of_ble_eq_true rfl)
  rw [lg_entry_eq]
  generalize (lg_sl ([.ref (ad 0), .int a1, .int a2]) ++ List.replicate (4 - (lg_sl ([.ref (ad 0), .int a1, .int a2])).length) Slot.unset).toArray = ls at hl ⊢
  have hl : lv_has ls 4 [(0, .ref (ad 0)), (1, .int a1), (2, .int a2)] := hl
  have L35 : ∀ (s0 : Int32) (X : ST) (Y : Int64) (H : Heap) (locs : List Loc) (ls : Array Slot), wq_MO_look_35 post s0 X Y → va_P (dC, dI) vwCl (wdM cA ad X Y) H → va_S (CA ad 23 s.heap.size) s.heap H locs → lv_has ls 4 [] → W p l e (headSpec ws_MO_look ({ frames := 1, cells := 0, slots := 0, locals := 21 } : Room)).room s m (([.ref (ad 0), .int a1, .int a2] : List Value).toArray) below meth c H locs 0 0 (MQ below (va_Qv (fun (u : ST × Int64) => post u.1 u.2) (fun (u : ST × Int64) t => va_P (dC, dI) vwCl (wdM cA ad u.1 u.2) t.heap) (CA ad 23 s.heap.size)) (([.ref (ad 0), .int a1, .int a2] : List Value).toArray) s 0 0 (CA ad 23 s.heap.size)) (F0 m 35 ls [.int s0, .ref (ad 0)]) := by
    intro s0 X Y H locs ls hw hP hS hl
    unfold wq_MO_look_35 at hw
    refine va_put (D := (dC, dI)) (ci := 9) (v := .int s0) (ty := .int) (C := R_MO) (T := T_MO) (N := 36) hx hb hts in_MO ty_MO ty_MO_ok nm_MO hown hK hP (hD0 _ _) hS (0) atM_MO rfl 0 (by decide) (hts _ gw_297) (fun _ h9 => h9) rfl (by decide +kernel) rfl rfl (Nat.le_of_ble_eq_true rfl) d_MO_look_35 (fun H locs hP _ hS => ?_)
    have hP : va_P (dC, dI) vwCl (wdM cA ad (up X 90 0 s0) Y) H := by rw [← stM_MO_0]; exact hP
    exact W.vret hx hb hr (fun t ht _ => ⟨⟨(up X 90 0 s0, Y), rfl, hw, by show va_P _ _ _ t.heap; rw [ht]; exact hP⟩, hS.F ht⟩) hS.2.2 d_MO_look_38
  have L19 : ∀ (s0 : Int32) (v2 : Int32) (X : ST) (Y : Int64) (H : Heap) (locs : List Loc) (ls : Array Slot), wq_MO_look_19 post s0 v2 X Y → va_P (dC, dI) vwCl (wdM cA ad X Y) H → va_S (CA ad 23 s.heap.size) s.heap H locs → lv_has ls 4 [(0, .ref (ad 0)), (2, .int v2)] → W p l e (headSpec ws_MO_look ({ frames := 1, cells := 0, slots := 0, locals := 21 } : Room)).room s m (([.ref (ad 0), .int a1, .int a2] : List Value).toArray) below meth c H locs 0 0 (MQ below (va_Qv (fun (u : ST × Int64) => post u.1 u.2) (fun (u : ST × Int64) t => va_P (dC, dI) vwCl (wdM cA ad u.1 u.2) t.heap) (CA ad 23 s.heap.size)) (([.ref (ad 0), .int a1, .int a2] : List Value).toArray) s 0 0 (CA ad 23 s.heap.size)) (F0 m 19 ls [.int s0]) := by
    intro s0 v2 X Y H locs ls hw hP hS hl
    unfold wq_MO_look_19 at hw
    refine lv_istore_n (lv' := [(3, .int s0), (0, .ref (ad 0)), (2, .int v2)]) hx hb d_MO_look_19 rfl hl (by decide) rfl (fun ls hl => ?_)
    refine lv_aload_n hx hb d_MO_look_20 rfl (lv_at hl 1 rfl) ?_
    refine lv_iload_n hx hb d_MO_look_21 rfl (lv_at hl 2 rfl) ?_
    refine lv_if_lt (tgt := 34) hx hb d_MO_look_22 (by decide) (fun c1 => ?_) (fun c1 => ?_)
    · have hw := hw.1 c1
      refine lv_iconst (v := (1 : Int32)) hx hb d_MO_look_34 (by decide) ?_
      have hl := lv_sub hl (l' := []) [] rfl
      exact L35 _ _ _ _ _ _ hw hP hS hl
    · have hw := hw.2 c1
      refine lv_iload_n hx hb d_MO_look_25 rfl (lv_at hl 2 rfl) ?_
      refine lv_iload_n hx hb d_MO_look_26 rfl (lv_at hl 0 rfl) ?_
      refine lv_icmp_ge (tgt := 34) hx hb d_MO_look_27 (by decide) (fun c2 => ?_) (fun c2 => ?_)
      · have hw := hw.1 c2
        refine lv_iconst (v := (1 : Int32)) hx hb d_MO_look_34 (by decide) ?_
        have hl := lv_sub hl (l' := []) [] rfl
        exact L35 _ _ _ _ _ _ hw hP hS hl
      · have hw := hw.2 c2
        refine lv_iconst (v := (0 : Int32)) hx hb d_MO_look_30 (by decide) ?_
        refine lv_goto (tgt := 35) hx hb d_MO_look_31 (by decide) ?_
        have hl := lv_sub hl (l' := []) [] rfl
        exact L35 _ _ _ _ _ _ hw hP hS hl
  unfold wp_MO_look at hw
  refine lv_iload_n hx hb d_MO_look_0 rfl (lv_at hl 1 rfl) ?_
  refine lv_iconst (v := (3 : Int32)) hx hb d_MO_look_1 (by decide) ?_
  refine lv_icmp_ne (tgt := 14) hx hb d_MO_look_2 (by decide) (fun c3 => ?_) (fun c3 => ?_)
  · have hw := hw.2 c3
    refine lv_aload_n hx hb d_MO_look_14 rfl (lv_at hl 0 rfl) ?_
    refine lv_iload_n hx hb d_MO_look_15 rfl (lv_at hl 1 rfl) ?_
    refine va_calli (va_runV (As := [.int a1]) (rest := []) ⟨hx, hb, hml, hown, hts⟩ (mt_MO_counted l hl9 dC dI cA ad hI _ hw) (cwV 1 hts (gV gw_441 gw_442 gw_443 gw_306 gw_440) rfl rfl rfl (by decide +kernel) ⟨Nat.le_of_ble_eq_true rfl, Nat.le_of_ble_eq_true rfl⟩) ⟨zwM_blind, va_recv hK hP (ci := 9) (q0 := 0) rfl atM_MO, zwM_pre hP hS hG9⟩ rfl rfl hl.1 rfl (lv_room (Nat.le_of_ble_eq_true rfl)) d_MO_look_16 ⟨Nat.le_of_ble_eq_true rfl, Nat.le_of_ble_eq_true rfl⟩) hS (fun q _ h => CA_le hS.1 q h) (fun q h => CA_le hS.1 q h) (fun r6 u9 t H locs ht hvm hw hP hz1 hk1 hS => ?_)
    obtain ⟨X4, Y5⟩ := u9
    have hP : va_P (dC, dI) vwCl (wdM cA ad X4 Y5) H := by rw [← ht]; exact hP
    try dsimp only at hw
    have hl := lv_sub hl (l' := [(0, .ref (ad 0)), (2, .int a2)]) [0, 2] rfl
    exact L19 _ _ _ _ _ _ _ hw hP hS hl
  · have hw := hw.1 c3
    refine lv_iconst (v := (2 : Int32)) hx hb d_MO_look_5 (by decide) ?_
    refine lv_aload_n hx hb d_MO_look_6 rfl (lv_at hl 0 rfl) ?_
    refine va_get (D := (dC, dI)) (ci := 9) (v := .int (X 4 0)) (C := R_MO) (T := T_MO) (N := 36) hx hb hts in_MO hown hK hP (0) atM_MO rfl 14 (by decide) (hts _ gw_350) (fun _ h9 => h9) rfl d_MO_look_7 ?_
    refine lv_imul hx hb d_MO_look_10 ?_
    refine lv_goto (tgt := 19) hx hb d_MO_look_11 (by decide) ?_
    have hl := lv_sub hl (l' := [(0, .ref (ad 0)), (2, .int a2)]) [0, 2] rfl
    exact L19 _ _ _ _ _ _ _ hw hP hS hl
def ws_MO_state : List Cond := Cond.code y_MO_state c_MO_state 3 (Option.some Jvm.ClassFile.FieldType.int) :: GW
theorem d_MO_state_0 : decode c_MO_state 0 = .ok (.aload_n 0, 1) := by decide +kernel
theorem d_MO_state_1 : decode c_MO_state 1 = .ok (.iload_n 1, 1) := by decide +kernel
theorem d_MO_state_2 : decode c_MO_state 2 = .ok (.iload_n 2, 1) := by decide +kernel
theorem d_MO_state_3 : decode c_MO_state 3 = .ok (.invokevirtual 223, 3) := by decide +kernel
theorem d_MO_state_6 : decode c_MO_state 6 = .ok (.aload_n 0, 1) := by decide +kernel
theorem d_MO_state_7 : decode c_MO_state 7 = .ok (.getfield 81, 3) := by decide +kernel
theorem d_MO_state_10 : decode c_MO_state 10 = .ok (.ifCond .eq 5, 3) := by decide +kernel
theorem d_MO_state_13 : decode c_MO_state 13 = .ok (.iconst 0, 1) := by decide +kernel
theorem d_MO_state_14 : decode c_MO_state 14 = .ok (.ireturn, 1) := by decide +kernel
theorem d_MO_state_15 : decode c_MO_state 15 = .ok (.iload_n 1, 1) := by decide +kernel
theorem d_MO_state_16 : decode c_MO_state 16 = .ok (.tableswitch 68 0 3 #[32, 47, 54, 61], 32) := by decide +kernel
theorem d_MO_state_48 : decode c_MO_state 48 = .ok (.aload_n 0, 1) := by decide +kernel
theorem d_MO_state_49 : decode c_MO_state 49 = .ok (.getfield 13, 3) := by decide +kernel
theorem d_MO_state_52 : decode c_MO_state 52 = .ok (.iload_n 2, 1) := by decide +kernel
theorem d_MO_state_53 : decode c_MO_state 53 = .ok (.baload, 1) := by decide +kernel
theorem d_MO_state_54 : decode c_MO_state 54 = .ok (.ifCond .eq 7, 3) := by decide +kernel
theorem d_MO_state_57 : decode c_MO_state 57 = .ok (.iconst 1, 1) := by decide +kernel
theorem d_MO_state_58 : decode c_MO_state 58 = .ok (.goto 4, 3) := by decide +kernel
theorem d_MO_state_61 : decode c_MO_state 61 = .ok (.iconst 0, 1) := by decide +kernel
theorem d_MO_state_62 : decode c_MO_state 62 = .ok (.ireturn, 1) := by decide +kernel
theorem d_MO_state_63 : decode c_MO_state 63 = .ok (.aload_n 0, 1) := by decide +kernel
theorem d_MO_state_64 : decode c_MO_state 64 = .ok (.getfield 26, 3) := by decide +kernel
theorem d_MO_state_67 : decode c_MO_state 67 = .ok (.iload_n 2, 1) := by decide +kernel
theorem d_MO_state_68 : decode c_MO_state 68 = .ok (.iaload, 1) := by decide +kernel
theorem d_MO_state_69 : decode c_MO_state 69 = .ok (.ireturn, 1) := by decide +kernel
theorem d_MO_state_70 : decode c_MO_state 70 = .ok (.aload_n 0, 1) := by decide +kernel
theorem d_MO_state_71 : decode c_MO_state 71 = .ok (.getfield 47, 3) := by decide +kernel
theorem d_MO_state_74 : decode c_MO_state 74 = .ok (.iload_n 2, 1) := by decide +kernel
theorem d_MO_state_75 : decode c_MO_state 75 = .ok (.iaload, 1) := by decide +kernel
theorem d_MO_state_76 : decode c_MO_state 76 = .ok (.ireturn, 1) := by decide +kernel
theorem d_MO_state_77 : decode c_MO_state 77 = .ok (.aload_n 0, 1) := by decide +kernel
theorem d_MO_state_78 : decode c_MO_state 78 = .ok (.getfield 53, 3) := by decide +kernel
theorem d_MO_state_81 : decode c_MO_state 81 = .ok (.iload_n 2, 1) := by decide +kernel
theorem d_MO_state_82 : decode c_MO_state 82 = .ok (.iaload, 1) := by decide +kernel
theorem d_MO_state_83 : decode c_MO_state 83 = .ok (.ireturn, 1) := by decide +kernel
theorem d_MO_state_84 : decode c_MO_state 84 = .ok (.aload_n 0, 1) := by decide +kernel
theorem d_MO_state_85 : decode c_MO_state 85 = .ok (.getfield 68, 3) := by decide +kernel
theorem d_MO_state_88 : decode c_MO_state 88 = .ok (.iload_n 2, 1) := by decide +kernel
theorem d_MO_state_89 : decode c_MO_state 89 = .ok (.iaload, 1) := by decide +kernel
theorem d_MO_state_90 : decode c_MO_state 90 = .ok (.ifCond .ge 7, 3) := by decide +kernel
theorem d_MO_state_93 : decode c_MO_state 93 = .ok (.iconst 0, 1) := by decide +kernel
theorem d_MO_state_94 : decode c_MO_state 94 = .ok (.goto 4, 3) := by decide +kernel
theorem d_MO_state_97 : decode c_MO_state 97 = .ok (.iconst 1, 1) := by decide +kernel
theorem d_MO_state_98 : decode c_MO_state 98 = .ok (.ireturn, 1) := by decide +kernel
def wp_MO_state (post : Int32 → ST → Int64 → Prop) (X : ST) (Y : Int64) (a1 : Int32) (a2 : Int32) : Prop := wp_MO_look (fun (X1 : ST) (Y2 : Int64) => (((X1 90 0) = 0 → ((a1 < (0 : Int32) → (vp_in a2 12 ∧ ((0 ≤ (X1 55 a2.toNatClampNeg) → post (1 : Int32) X1 Y2) ∧ (¬ 0 ≤ (X1 55 a2.toNatClampNeg) → post (0 : Int32) X1 Y2)))) ∧ (¬ a1 < (0 : Int32) → (((3 : Int32) < a1 → (vp_in a2 12 ∧ ((0 ≤ (X1 55 a2.toNatClampNeg) → post (1 : Int32) X1 Y2) ∧ (¬ 0 ≤ (X1 55 a2.toNatClampNeg) → post (0 : Int32) X1 Y2)))) ∧ (¬ (3 : Int32) < a1 → ((a1 = (0 : Int32) → (vp_in a2 6 ∧ (((X1 10 a2.toNatClampNeg) = 0 → post (0 : Int32) X1 Y2) ∧ (¬ (X1 10 a2.toNatClampNeg) = 0 → post (1 : Int32) X1 Y2)))) ∧ (¬ a1 = (0 : Int32) → ((a1 = (1 : Int32) → (vp_in a2 12 ∧ post (X1 20 a2.toNatClampNeg) X1 Y2)) ∧ (¬ a1 = (1 : Int32) → ((a1 = (2 : Int32) → (vp_in a2 24 ∧ post (X1 30 a2.toNatClampNeg) X1 Y2)) ∧ (¬ a1 = (2 : Int32) → ((a1 = (3 : Int32) → (vp_in a2 48 ∧ post (X1 40 a2.toNatClampNeg) X1 Y2)) ∧ (¬ a1 = (3 : Int32) → False))))))))))))) ∧ (¬ (X1 90 0) = 0 → post (0 : Int32) X1 Y2))) X Y a1 a2
set_option maxHeartbeats 4000000 in
set_option maxRecDepth 100000 in
theorem mt_MO_state (l : Launch) (hl9 : l.stackTraces = false) (dC : Nat → ClassId) (dI : Nat → Nat → Nat) (cA : Nat → ClassId) (ad : Nat → Nat) (hI : INJ ad 23) (sz : Nat) {X : ST} {Y : Int64} {a1 : Int32} {a2 : Int32} {post : Int32 → ST → Int64 → Prop} (hw : wp_MO_state post X Y a1 a2) : Met l y_MO_state ws_MO_state ({ frames := 2, cells := 0, slots := 0, locals := 44 } : Room) (va_Pc [.ref (ad 0), .int a1, .int a2] (fun U => PM dC dI cA ad sz X Y U)) (va_Qi (fun r (u : ST × Int64) => post r u.1 u.2) (fun (u : ST × Int64) t => va_P (dC, dI) vwCl (wdM cA ad u.1 u.2) t.heap) (CA ad 23 sz)) 0 0 (CA ad 23 sz) := by
  refine Met.ofW (cc := c_MO_state) (maxL := 3) (ret := (some .int)) (by decide) rfl ?_
  intro p e s m args below meth c s₁ B hml hv
  obtain ⟨rfl, hsz, hP, hG⟩ := hv
  have hx := B.exec
  have hb := B.bytes
  have hr := B.returns
  have hts : ∀ w ∈ GW, w.before (([.ref (ad 0), .int a1, .int a2] : List Value).toArray) s = true := fun w h => atoms_spec (ws := ws_MO_state) B.pre w (List.mem_cons_of_mem _ h)
  have hown : s.vm.findClass R_MO = some m.cls := findClass_of_methodNamed B.named
  have hlocks := B.notSynchronized
  subst hsz
  have hK := hG.1
  have hG9 := hG
  have hNW := hG.2
  have hD0 : ∀ (X : ST) (Y : Int64), va_D (CA ad 23 s.heap.size) (wdM cA ad X Y) := fun _ _ => zwM_D hI
  have hS : va_S (CA ad 23 s.heap.size) s.heap s.heap [] := va_S.rf
  have hl := lv_entry ([.ref (ad 0), .int a1, .int a2]) (n := 3) (Nat.le_of_ble_eq_true rfl)
  rw [lg_entry_eq]
  generalize (lg_sl ([.ref (ad 0), .int a1, .int a2]) ++ List.replicate (3 - (lg_sl ([.ref (ad 0), .int a1, .int a2])).length) Slot.unset).toArray = ls at hl ⊢
  have hl : lv_has ls 3 [(0, .ref (ad 0)), (1, .int a1), (2, .int a2)] := hl
  unfold wp_MO_state at hw
  refine lv_aload_n hx hb d_MO_state_0 rfl (lv_at hl 0 rfl) ?_
  refine lv_iload_n hx hb d_MO_state_1 rfl (lv_at hl 1 rfl) ?_
  refine lv_iload_n hx hb d_MO_state_2 rfl (lv_at hl 2 rfl) ?_
  refine va_callv (va_runV (As := [.int a1, .int a2]) (rest := []) ⟨hx, hb, hml, hown, hts⟩ (mt_MO_look l hl9 dC dI cA ad hI _ hw) (cwV 2 hts (gV gw_445 gw_446 gw_447 gw_306 gw_444) rfl rfl rfl (by decide +kernel) ⟨Nat.le_of_ble_eq_true rfl, Nat.le_of_ble_eq_true rfl⟩) ⟨zwM_blind, va_recv hK hP (ci := 9) (q0 := 0) rfl atM_MO, zwM_pre hP hS hG9⟩ rfl rfl hl.1 rfl (lv_room (Nat.le_of_ble_eq_true rfl)) d_MO_state_3 ⟨Nat.le_of_ble_eq_true rfl, Nat.le_of_ble_eq_true rfl⟩) hS (fun q _ h => CA_le hS.1 q h) (fun q h => CA_le hS.1 q h) (fun u9 t H locs ht hvm hw hP hz1 hk1 hS => ?_)
  obtain ⟨X1, Y2⟩ := u9
  have hP : va_P (dC, dI) vwCl (wdM cA ad X1 Y2) H := by rw [← ht]; exact hP
  try dsimp only at hw
  refine lv_aload_n hx hb d_MO_state_6 rfl (lv_at hl 0 rfl) ?_
  refine va_get (D := (dC, dI)) (ci := 9) (v := .int (X1 90 0)) (C := R_MO) (T := T_MO) (N := 36) hx hb hts in_MO hown hK hP (0) atM_MO rfl 0 (by decide) (hts _ gw_297) (fun _ h9 => h9) rfl d_MO_state_7 ?_
  refine lv_if_eq (tgt := 15) hx hb d_MO_state_10 (by decide) (fun c4 => ?_) (fun c4 => ?_)
  · have hw := hw.1 c4
    refine lv_iload_n hx hb d_MO_state_15 rfl (lv_at hl 1 rfl) ?_
    by_cases c5 : a1 < (0 : Int32)
    · have hw := hw.1 c5
      refine lv_tableOut (tgt := 84) hx hb d_MO_state_16 (Or.inl (by have q := Int32.lt_iff_toInt_lt.mp c5; exact q)) (by decide) ?_
      refine lv_aload_n hx hb d_MO_state_84 rfl (lv_at hl 0 rfl) ?_
      refine va_get (D := (dC, dI)) (ci := 9) (v := .ref (ad 20)) (C := R_MO) (T := T_MO) (N := 36) hx hb hts in_MO hown hK hP (0) atM_MO rfl 26 (by decide) (hts _ gw_430) (fun _ h9 => h9) rfl d_MO_state_85 ?_
      refine lv_iload_n hx hb d_MO_state_88 rfl (lv_at hl 2 rfl) ?_
      obtain ⟨h7, hw⟩ := hw
      refine va_iald hx hb hK hP (20) 19 atM_paperReason rfl h7 d_MO_state_89 ?_
      refine lv_if_ge (tgt := 97) hx hb d_MO_state_90 (by decide) (fun c8 => ?_) (fun c8 => ?_)
      · have hw := hw.1 c8
        refine lv_iconst (v := (1 : Int32)) hx hb d_MO_state_97 (by decide) ?_
        exact W.iret (v := (1 : Int32)) hx hb hr (fun t ht _ => ⟨⟨(1 : Int32), (X1, Y2), rfl, hw, by show va_P _ _ _ t.heap; rw [ht]; exact hP⟩, hS.F ht⟩) hS.2.2 d_MO_state_98
      · have hw := hw.2 c8
        refine lv_iconst (v := (0 : Int32)) hx hb d_MO_state_93 (by decide) ?_
        refine lv_goto (tgt := 98) hx hb d_MO_state_94 (by decide) ?_
        exact W.iret (v := (0 : Int32)) hx hb hr (fun t ht _ => ⟨⟨(0 : Int32), (X1, Y2), rfl, hw, by show va_P _ _ _ t.heap; rw [ht]; exact hP⟩, hS.F ht⟩) hS.2.2 d_MO_state_98
    have hw := hw.2 c5
    by_cases c6 : (3 : Int32) < a1
    · have hw := hw.1 c6
      refine lv_tableOut (tgt := 84) hx hb d_MO_state_16 (Or.inr (by have q := Int32.lt_iff_toInt_lt.mp c6; exact q)) (by decide) ?_
      refine lv_aload_n hx hb d_MO_state_84 rfl (lv_at hl 0 rfl) ?_
      refine va_get (D := (dC, dI)) (ci := 9) (v := .ref (ad 20)) (C := R_MO) (T := T_MO) (N := 36) hx hb hts in_MO hown hK hP (0) atM_MO rfl 26 (by decide) (hts _ gw_430) (fun _ h9 => h9) rfl d_MO_state_85 ?_
      refine lv_iload_n hx hb d_MO_state_88 rfl (lv_at hl 2 rfl) ?_
      obtain ⟨h9, hw⟩ := hw
      refine va_iald hx hb hK hP (20) 19 atM_paperReason rfl h9 d_MO_state_89 ?_
      refine lv_if_ge (tgt := 97) hx hb d_MO_state_90 (by decide) (fun c10 => ?_) (fun c10 => ?_)
      · have hw := hw.1 c10
        refine lv_iconst (v := (1 : Int32)) hx hb d_MO_state_97 (by decide) ?_
        exact W.iret (v := (1 : Int32)) hx hb hr (fun t ht _ => ⟨⟨(1 : Int32), (X1, Y2), rfl, hw, by show va_P _ _ _ t.heap; rw [ht]; exact hP⟩, hS.F ht⟩) hS.2.2 d_MO_state_98
      · have hw := hw.2 c10
        refine lv_iconst (v := (0 : Int32)) hx hb d_MO_state_93 (by decide) ?_
        refine lv_goto (tgt := 98) hx hb d_MO_state_94 (by decide) ?_
        exact W.iret (v := (0 : Int32)) hx hb hr (fun t ht _ => ⟨⟨(0 : Int32), (X1, Y2), rfl, hw, by show va_P _ _ _ t.heap; rw [ht]; exact hP⟩, hS.F ht⟩) hS.2.2 d_MO_state_98
    have hw := hw.2 c6
    by_cases c11 : a1 = (0 : Int32)
    · have hw := hw.1 c11
      refine lv_tableIn (off := 32) (tgt := 48) hx hb d_MO_state_16 (by rw [c11]; decide) (by rw [c11]; decide) (by rw [c11]; decide) (by decide) ?_
      refine lv_aload_n hx hb d_MO_state_48 rfl (lv_at hl 0 rfl) ?_
      refine va_get (D := (dC, dI)) (ci := 9) (v := .ref (ad 2)) (C := R_MO) (T := T_MO) (N := 36) hx hb hts in_MO hown hK hP (0) atM_MO rfl 5 (by decide) (hts _ gw_332) (fun _ h9 => h9) rfl d_MO_state_49 ?_
      refine lv_iload_n hx hb d_MO_state_52 rfl (lv_at hl 2 rfl) ?_
      obtain ⟨h12, hw⟩ := hw
      refine va_zald hx hb hK hP (2) 1 atM_closed rfl h12 d_MO_state_53 ?_
      refine lv_if_eq (tgt := 61) hx hb d_MO_state_54 (by decide) (fun c13 => ?_) (fun c13 => ?_)
      · have hw := hw.1 c13
        refine lv_iconst (v := (0 : Int32)) hx hb d_MO_state_61 (by decide) ?_
        exact W.iret (v := (0 : Int32)) hx hb hr (fun t ht _ => ⟨⟨(0 : Int32), (X1, Y2), rfl, hw, by show va_P _ _ _ t.heap; rw [ht]; exact hP⟩, hS.F ht⟩) hS.2.2 d_MO_state_62
      · have hw := hw.2 c13
        refine lv_iconst (v := (1 : Int32)) hx hb d_MO_state_57 (by decide) ?_
        refine lv_goto (tgt := 62) hx hb d_MO_state_58 (by decide) ?_
        exact W.iret (v := (1 : Int32)) hx hb hr (fun t ht _ => ⟨⟨(1 : Int32), (X1, Y2), rfl, hw, by show va_P _ _ _ t.heap; rw [ht]; exact hP⟩, hS.F ht⟩) hS.2.2 d_MO_state_62
    have hw := hw.2 c11
    by_cases c14 : a1 = (1 : Int32)
    · have hw := hw.1 c14
      refine lv_tableIn (off := 47) (tgt := 63) hx hb d_MO_state_16 (by rw [c14]; decide) (by rw [c14]; decide) (by rw [c14]; decide) (by decide) ?_
      refine lv_aload_n hx hb d_MO_state_63 rfl (lv_at hl 0 rfl) ?_
      refine va_get (D := (dC, dI)) (ci := 9) (v := .ref (ad 6)) (C := R_MO) (T := T_MO) (N := 36) hx hb hts in_MO hown hK hP (0) atM_MO rfl 10 (by decide) (hts _ gw_345) (fun _ h9 => h9) rfl d_MO_state_64 ?_
      refine lv_iload_n hx hb d_MO_state_67 rfl (lv_at hl 2 rfl) ?_
      obtain ⟨h15, hw⟩ := hw
      refine va_iald hx hb hK hP (6) 5 atM_orderState rfl h15 d_MO_state_68 ?_
      exact W.iret (v := X1 20 a2.toNatClampNeg) hx hb hr (fun t ht _ => ⟨⟨X1 20 a2.toNatClampNeg, (X1, Y2), rfl, hw, by show va_P _ _ _ t.heap; rw [ht]; exact hP⟩, hS.F ht⟩) hS.2.2 d_MO_state_69
    have hw := hw.2 c14
    by_cases c16 : a1 = (2 : Int32)
    · have hw := hw.1 c16
      refine lv_tableIn (off := 54) (tgt := 70) hx hb d_MO_state_16 (by rw [c16]; decide) (by rw [c16]; decide) (by rw [c16]; decide) (by decide) ?_
      refine lv_aload_n hx hb d_MO_state_70 rfl (lv_at hl 0 rfl) ?_
      refine va_get (D := (dC, dI)) (ci := 9) (v := .ref (ad 13)) (C := R_MO) (T := T_MO) (N := 36) hx hb hts in_MO hown hK hP (0) atM_MO rfl 18 (by decide) (hts _ gw_347) (fun _ h9 => h9) rfl d_MO_state_71 ?_
      refine lv_iload_n hx hb d_MO_state_74 rfl (lv_at hl 2 rfl) ?_
      obtain ⟨h17, hw⟩ := hw
      refine va_iald hx hb hK hP (13) 12 atM_authState rfl h17 d_MO_state_75 ?_
      exact W.iret (v := X1 30 a2.toNatClampNeg) hx hb hr (fun t ht _ => ⟨⟨X1 30 a2.toNatClampNeg, (X1, Y2), rfl, hw, by show va_P _ _ _ t.heap; rw [ht]; exact hP⟩, hS.F ht⟩) hS.2.2 d_MO_state_76
    have hw := hw.2 c16
    by_cases c18 : a1 = (3 : Int32)
    · have hw := hw.1 c18
      refine lv_tableIn (off := 61) (tgt := 77) hx hb d_MO_state_16 (by rw [c18]; decide) (by rw [c18]; decide) (by rw [c18]; decide) (by decide) ?_
      refine lv_aload_n hx hb d_MO_state_77 rfl (lv_at hl 0 rfl) ?_
      refine va_get (D := (dC, dI)) (ci := 9) (v := .ref (ad 15)) (C := R_MO) (T := T_MO) (N := 36) hx hb hts in_MO hown hK hP (0) atM_MO rfl 20 (by decide) (hts _ gw_357) (fun _ h9 => h9) rfl d_MO_state_78 ?_
      refine lv_iload_n hx hb d_MO_state_81 rfl (lv_at hl 2 rfl) ?_
      obtain ⟨h19, hw⟩ := hw
      refine va_iald hx hb hK hP (15) 14 atM_stage rfl h19 d_MO_state_82 ?_
      exact W.iret (v := X1 40 a2.toNatClampNeg) hx hb hr (fun t ht _ => ⟨⟨X1 40 a2.toNatClampNeg, (X1, Y2), rfl, hw, by show va_P _ _ _ t.heap; rw [ht]; exact hP⟩, hS.F ht⟩) hS.2.2 d_MO_state_83
    have hw := hw.2 c18
    exact hw.elim
  · have hw := hw.2 c4
    refine lv_iconst (v := (0 : Int32)) hx hb d_MO_state_13 (by decide) ?_
    exact W.iret (v := (0 : Int32)) hx hb hr (fun t ht _ => ⟨⟨(0 : Int32), (X1, Y2), rfl, hw, by show va_P _ _ _ t.heap; rw [ht]; exact hP⟩, hS.F ht⟩) hS.2.2 d_MO_state_14
def ws_MO_ofAccount : List Cond := Cond.code y_MO_ofAccount c_MO_ofAccount 5 (Option.some Jvm.ClassFile.FieldType.int) :: GW
theorem d_MO_ofAccount_0 : decode c_MO_ofAccount 0 = .ok (.iconst 0, 1) := by decide +kernel
theorem d_MO_ofAccount_1 : decode c_MO_ofAccount 1 = .ok (.istore_n 3, 1) := by decide +kernel
theorem d_MO_ofAccount_2 : decode c_MO_ofAccount 2 = .ok (.iconst 0, 1) := by decide +kernel
theorem d_MO_ofAccount_3 : decode c_MO_ofAccount 3 = .ok (.istore 4, 2) := by decide +kernel
theorem d_MO_ofAccount_5 : decode c_MO_ofAccount 5 = .ok (.iload 4, 2) := by decide +kernel
theorem d_MO_ofAccount_7 : decode c_MO_ofAccount 7 = .ok (.aload_n 0, 1) := by decide +kernel
theorem d_MO_ofAccount_8 : decode c_MO_ofAccount 8 = .ok (.getfield 134, 3) := by decide +kernel
theorem d_MO_ofAccount_11 : decode c_MO_ofAccount 11 = .ok (.if_icmp .ge 28, 3) := by decide +kernel
theorem d_MO_ofAccount_14 : decode c_MO_ofAccount 14 = .ok (.aload_n 0, 1) := by decide +kernel
theorem d_MO_ofAccount_15 : decode c_MO_ofAccount 15 = .ok (.getfield 17, 3) := by decide +kernel
theorem d_MO_ofAccount_18 : decode c_MO_ofAccount 18 = .ok (.iload 4, 2) := by decide +kernel
theorem d_MO_ofAccount_20 : decode c_MO_ofAccount 20 = .ok (.iaload, 1) := by decide +kernel
theorem d_MO_ofAccount_21 : decode c_MO_ofAccount 21 = .ok (.iload_n 1, 1) := by decide +kernel
theorem d_MO_ofAccount_22 : decode c_MO_ofAccount 22 = .ok (.if_icmp .ne 9, 3) := by decide +kernel
theorem d_MO_ofAccount_25 : decode c_MO_ofAccount 25 = .ok (.iload_n 3, 1) := by decide +kernel
theorem d_MO_ofAccount_26 : decode c_MO_ofAccount 26 = .ok (.iconst 1, 1) := by decide +kernel
theorem d_MO_ofAccount_27 : decode c_MO_ofAccount 27 = .ok (.iadd, 1) := by decide +kernel
theorem d_MO_ofAccount_28 : decode c_MO_ofAccount 28 = .ok (.goto 4, 3) := by decide +kernel
theorem d_MO_ofAccount_31 : decode c_MO_ofAccount 31 = .ok (.iload_n 3, 1) := by decide +kernel
theorem d_MO_ofAccount_32 : decode c_MO_ofAccount 32 = .ok (.istore_n 3, 1) := by decide +kernel
theorem d_MO_ofAccount_33 : decode c_MO_ofAccount 33 = .ok (.iinc 4 1, 3) := by decide +kernel
theorem d_MO_ofAccount_36 : decode c_MO_ofAccount 36 = .ok (.goto (-31), 3) := by decide +kernel
theorem d_MO_ofAccount_39 : decode c_MO_ofAccount 39 = .ok (.iload_n 2, 1) := by decide +kernel
theorem d_MO_ofAccount_40 : decode c_MO_ofAccount 40 = .ok (.ifCond .ne 12, 3) := by decide +kernel
theorem d_MO_ofAccount_43 : decode c_MO_ofAccount 43 = .ok (.aload_n 0, 1) := by decide +kernel
theorem d_MO_ofAccount_44 : decode c_MO_ofAccount 44 = .ok (.getfield 7, 3) := by decide +kernel
theorem d_MO_ofAccount_47 : decode c_MO_ofAccount 47 = .ok (.iload_n 1, 1) := by decide +kernel
theorem d_MO_ofAccount_48 : decode c_MO_ofAccount 48 = .ok (.iaload, 1) := by decide +kernel
theorem d_MO_ofAccount_49 : decode c_MO_ofAccount 49 = .ok (.goto 13, 3) := by decide +kernel
theorem d_MO_ofAccount_52 : decode c_MO_ofAccount 52 = .ok (.iload_n 2, 1) := by decide +kernel
theorem d_MO_ofAccount_53 : decode c_MO_ofAccount 53 = .ok (.iconst 1, 1) := by decide +kernel
theorem d_MO_ofAccount_54 : decode c_MO_ofAccount 54 = .ok (.if_icmp .ne 7, 3) := by decide +kernel
theorem d_MO_ofAccount_57 : decode c_MO_ofAccount 57 = .ok (.iload_n 3, 1) := by decide +kernel
theorem d_MO_ofAccount_58 : decode c_MO_ofAccount 58 = .ok (.goto 4, 3) := by decide +kernel
theorem d_MO_ofAccount_61 : decode c_MO_ofAccount 61 = .ok (.iconst (-1), 1) := by decide +kernel
theorem d_MO_ofAccount_62 : decode c_MO_ofAccount 62 = .ok (.ireturn, 1) := by decide +kernel
def wq_MO_ofAccount_5 (post : Int32 → ST → Int64 → Prop) (v1 : Int32) (v2 : Int32) : Nat → Int32 → Int32 → ST → Int64 → Prop
  | 0 => fun _ _ _ _ => False
  | n + 1 => fun v3 v4 X Y => (((X 3 0) ≤ v4 → ((v2 = 0 → (vp_in v1 6 ∧ post (X 11 v1.toNatClampNeg) X Y)) ∧ (¬ v2 = 0 → ((v2 = (1 : Int32) → post v3 X Y) ∧ (¬ v2 = (1 : Int32) → post (-1 : Int32) X Y))))) ∧ (¬ (X 3 0) ≤ v4 → (vp_in v4 12 ∧ (((X 21 v4.toNatClampNeg) = v1 → wq_MO_ofAccount_5 post v1 v2 n (v3 + (1 : Int32)) (v4 + (1 : Int32)) X Y) ∧ (¬ (X 21 v4.toNatClampNeg) = v1 → wq_MO_ofAccount_5 post v1 v2 n v3 (v4 + (1 : Int32)) X Y)))))
def wp_MO_ofAccount (post : Int32 → ST → Int64 → Prop) (X : ST) (Y : Int64) (a1 : Int32) (a2 : Int32) : Prop := (∃ n9, wq_MO_ofAccount_5 post a1 a2 n9 (0 : Int32) (0 : Int32) X Y)
set_option maxHeartbeats 4000000 in
set_option maxRecDepth 100000 in
theorem mt_MO_ofAccount (l : Launch) (hl9 : l.stackTraces = false) (dC : Nat → ClassId) (dI : Nat → Nat → Nat) (cA : Nat → ClassId) (ad : Nat → Nat) (hI : INJ ad 23) (sz : Nat) {X : ST} {Y : Int64} {a1 : Int32} {a2 : Int32} {post : Int32 → ST → Int64 → Prop} (hw : wp_MO_ofAccount post X Y a1 a2) : Met l y_MO_ofAccount ws_MO_ofAccount ({ frames := 0, cells := 0, slots := 0, locals := 0 } : Room) (va_Pc [.ref (ad 0), .int a1, .int a2] (fun U => PM dC dI cA ad sz X Y U)) (va_Qi (fun r (u : ST × Int64) => post r u.1 u.2) (fun (u : ST × Int64) t => va_P (dC, dI) vwCl (wdM cA ad u.1 u.2) t.heap) (CA ad 23 sz)) 0 0 (CA ad 23 sz) := by
  refine Met.ofW (cc := c_MO_ofAccount) (maxL := 5) (ret := (some .int)) (by decide) rfl ?_
  intro p e s m args below meth c s₁ B hml hv
  obtain ⟨rfl, hsz, hP, hG⟩ := hv
  have hx := B.exec
  have hb := B.bytes
  have hr := B.returns
  have hts : ∀ w ∈ GW, w.before (([.ref (ad 0), .int a1, .int a2] : List Value).toArray) s = true := fun w h => atoms_spec (ws := ws_MO_ofAccount) B.pre w (List.mem_cons_of_mem _ h)
  have hown : s.vm.findClass R_MO = some m.cls := findClass_of_methodNamed B.named
  have hlocks := B.notSynchronized
  subst hsz
  have hK := hG.1
  have hG9 := hG
  have hNW := hG.2
  have hD0 : ∀ (X : ST) (Y : Int64), va_D (CA ad 23 s.heap.size) (wdM cA ad X Y) := fun _ _ => zwM_D hI
  have hS : va_S (CA ad 23 s.heap.size) s.heap s.heap [] := va_S.rf
  have hl := lv_entry ([.ref (ad 0), .int a1, .int a2]) (n := 5) (Nat.le_of_ble_eq_true rfl)
  rw [lg_entry_eq]
  generalize (lg_sl ([.ref (ad 0), .int a1, .int a2]) ++ List.replicate (5 - (lg_sl ([.ref (ad 0), .int a1, .int a2])).length) Slot.unset).toArray = ls at hl ⊢
  have hl : lv_has ls 5 [(0, .ref (ad 0)), (1, .int a1), (2, .int a2)] := hl
  have L5 : ∀ (v1 : Int32) (v2 : Int32), ∀ (n : Nat), ∀ (v3 : Int32) (v4 : Int32) (X : ST) (Y : Int64) (H : Heap) (locs : List Loc) (ls : Array Slot), wq_MO_ofAccount_5 post v1 v2 n v3 v4 X Y → va_P (dC, dI) vwCl (wdM cA ad X Y) H → va_S (CA ad 23 s.heap.size) s.heap H locs → lv_has ls 5 [(0, .ref (ad 0)), (1, .int v1), (2, .int v2), (3, .int v3), (4, .int v4)] → W p l e (headSpec ws_MO_ofAccount ({ frames := 0, cells := 0, slots := 0, locals := 0 } : Room)).room s m (([.ref (ad 0), .int a1, .int a2] : List Value).toArray) below meth c H locs 0 0 (MQ below (va_Qi (fun r (u : ST × Int64) => post r u.1 u.2) (fun (u : ST × Int64) t => va_P (dC, dI) vwCl (wdM cA ad u.1 u.2) t.heap) (CA ad 23 s.heap.size)) (([.ref (ad 0), .int a1, .int a2] : List Value).toArray) s 0 0 (CA ad 23 s.heap.size)) (F0 m 5 ls []) := by
    intro v1 v2 n
    induction n with
    | zero => intro v3 v4 X Y H locs ls hw hP hS hl; exact False.elim hw
    | succ n ih =>
      intro v3 v4 X Y H locs ls hw hP hS hl
      dsimp only [wq_MO_ofAccount_5] at hw
      refine lv_iload hx hb d_MO_ofAccount_5 (lv_at hl 4 rfl) ?_
      refine lv_aload_n hx hb d_MO_ofAccount_7 rfl (lv_at hl 0 rfl) ?_
      refine va_get (D := (dC, dI)) (ci := 9) (v := .int (X 3 0)) (C := R_MO) (T := T_MO) (N := 36) hx hb hts in_MO hown hK hP (0) atM_MO rfl 6 (by decide) (hts _ gw_349) (fun _ h9 => h9) rfl d_MO_ofAccount_8 ?_
      refine lv_icmp_ge (tgt := 39) hx hb d_MO_ofAccount_11 (by decide) (fun c1 => ?_) (fun c1 => ?_)
      · have hw := hw.1 c1
        refine lv_iload_n hx hb d_MO_ofAccount_39 rfl (lv_at hl 2 rfl) ?_
        refine lv_if_ne (tgt := 52) hx hb d_MO_ofAccount_40 (by decide) (fun c2 => ?_) (fun c2 => ?_)
        · have hw := hw.2 c2
          refine lv_iload_n hx hb d_MO_ofAccount_52 rfl (lv_at hl 2 rfl) ?_
          refine lv_iconst (v := (1 : Int32)) hx hb d_MO_ofAccount_53 (by decide) ?_
          refine lv_icmp_ne (tgt := 61) hx hb d_MO_ofAccount_54 (by decide) (fun c4 => ?_) (fun c4 => ?_)
          · have hw := hw.2 c4
            refine lv_iconst (v := (-1 : Int32)) hx hb d_MO_ofAccount_61 (by decide) ?_
            exact W.iret (v := (-1 : Int32)) hx hb hr (fun t ht _ => ⟨⟨(-1 : Int32), (X, Y), rfl, hw, by show va_P _ _ _ t.heap; rw [ht]; exact hP⟩, hS.F ht⟩) hS.2.2 d_MO_ofAccount_62
          · have hw := hw.1 c4
            refine lv_iload_n hx hb d_MO_ofAccount_57 rfl (lv_at hl 3 rfl) ?_
            refine lv_goto (tgt := 62) hx hb d_MO_ofAccount_58 (by decide) ?_
            exact W.iret (v := v3) hx hb hr (fun t ht _ => ⟨⟨v3, (X, Y), rfl, hw, by show va_P _ _ _ t.heap; rw [ht]; exact hP⟩, hS.F ht⟩) hS.2.2 d_MO_ofAccount_62
        · have hw := hw.1 c2
          refine lv_aload_n hx hb d_MO_ofAccount_43 rfl (lv_at hl 0 rfl) ?_
          refine va_get (D := (dC, dI)) (ci := 9) (v := .ref (ad 1)) (C := R_MO) (T := T_MO) (N := 36) hx hb hts in_MO hown hK hP (0) atM_MO rfl 4 (by decide) (hts _ gw_333) (fun _ h9 => h9) rfl d_MO_ofAccount_44 ?_
          refine lv_iload_n hx hb d_MO_ofAccount_47 rfl (lv_at hl 1 rfl) ?_
          obtain ⟨h3, hw⟩ := hw
          refine va_iald hx hb hK hP (1) 0 atM_keys rfl h3 d_MO_ofAccount_48 ?_
          refine lv_goto (tgt := 62) hx hb d_MO_ofAccount_49 (by decide) ?_
          exact W.iret (v := X 11 v1.toNatClampNeg) hx hb hr (fun t ht _ => ⟨⟨X 11 v1.toNatClampNeg, (X, Y), rfl, hw, by show va_P _ _ _ t.heap; rw [ht]; exact hP⟩, hS.F ht⟩) hS.2.2 d_MO_ofAccount_62
      · have hw := hw.2 c1
        refine lv_aload_n hx hb d_MO_ofAccount_14 rfl (lv_at hl 0 rfl) ?_
        refine va_get (D := (dC, dI)) (ci := 9) (v := .ref (ad 3)) (C := R_MO) (T := T_MO) (N := 36) hx hb hts in_MO hown hK hP (0) atM_MO rfl 7 (by decide) (hts _ gw_373) (fun _ h9 => h9) rfl d_MO_ofAccount_15 ?_
        refine lv_iload hx hb d_MO_ofAccount_18 (lv_at hl 4 rfl) ?_
        obtain ⟨h5, hw⟩ := hw
        refine va_iald hx hb hK hP (3) 2 atM_orderAccount rfl h5 d_MO_ofAccount_20 ?_
        refine lv_iload_n hx hb d_MO_ofAccount_21 rfl (lv_at hl 1 rfl) ?_
        refine lv_icmp_ne (tgt := 31) hx hb d_MO_ofAccount_22 (by decide) (fun c6 => ?_) (fun c6 => ?_)
        · have hw := hw.2 c6
          refine lv_iload_n hx hb d_MO_ofAccount_31 rfl (lv_at hl 3 rfl) ?_
          refine lv_istore_n (lv' := [(3, .int v3), (0, .ref (ad 0)), (1, .int v1), (2, .int v2), (4, .int v4)]) hx hb d_MO_ofAccount_32 rfl hl (by decide) rfl (fun ls hl => ?_)
          refine lv_iinc (k := 4) (v := v4 + (1 : Int32)) (lv' := [(4, .int (v4 + (1 : Int32))), (3, .int v3), (0, .ref (ad 0)), (1, .int v1), (2, .int v2)]) hx hb d_MO_ofAccount_33 hl rfl rfl (by decide) rfl (fun ls hl => ?_)
          refine lv_goto (tgt := 5) hx hb d_MO_ofAccount_36 (by decide) ?_
          have hl := lv_sub hl (l' := [(0, .ref (ad 0)), (1, .int v1), (2, .int v2), (3, .int v3), (4, .int (v4 + (1 : Int32)))]) [2, 3, 4, 1, 0] rfl
          exact ih _ _ _ _ _ _ _ hw hP hS hl
        · have hw := hw.1 c6
          refine lv_iload_n hx hb d_MO_ofAccount_25 rfl (lv_at hl 3 rfl) ?_
          refine lv_iconst (v := (1 : Int32)) hx hb d_MO_ofAccount_26 (by decide) ?_
          refine lv_iadd hx hb d_MO_ofAccount_27 ?_
          refine lv_goto (tgt := 32) hx hb d_MO_ofAccount_28 (by decide) ?_
          refine lv_istore_n (lv' := [(3, .int (v3 + (1 : Int32))), (0, .ref (ad 0)), (1, .int v1), (2, .int v2), (4, .int v4)]) hx hb d_MO_ofAccount_32 rfl hl (by decide) rfl (fun ls hl => ?_)
          refine lv_iinc (k := 4) (v := v4 + (1 : Int32)) (lv' := [(4, .int (v4 + (1 : Int32))), (3, .int (v3 + (1 : Int32))), (0, .ref (ad 0)), (1, .int v1), (2, .int v2)]) hx hb d_MO_ofAccount_33 hl rfl rfl (by decide) rfl (fun ls hl => ?_)
          refine lv_goto (tgt := 5) hx hb d_MO_ofAccount_36 (by decide) ?_
          have hl := lv_sub hl (l' := [(0, .ref (ad 0)), (1, .int v1), (2, .int v2), (3, .int (v3 + (1 : Int32))), (4, .int (v4 + (1 : Int32)))]) [2, 3, 4, 1, 0] rfl
          exact ih _ _ _ _ _ _ _ hw hP hS hl
  unfold wp_MO_ofAccount at hw
  refine lv_iconst (v := (0 : Int32)) hx hb d_MO_ofAccount_0 (by decide) ?_
  refine lv_istore_n (lv' := [(3, .int (0 : Int32)), (0, .ref (ad 0)), (1, .int a1), (2, .int a2)]) hx hb d_MO_ofAccount_1 rfl hl (by decide) rfl (fun ls hl => ?_)
  refine lv_iconst (v := (0 : Int32)) hx hb d_MO_ofAccount_2 (by decide) ?_
  refine lv_istore (lv' := [(4, .int (0 : Int32)), (3, .int (0 : Int32)), (0, .ref (ad 0)), (1, .int a1), (2, .int a2)]) hx hb d_MO_ofAccount_3 hl (by decide) rfl (fun ls hl => ?_)
  have hl := lv_sub hl (l' := [(0, .ref (ad 0)), (1, .int a1), (2, .int a2), (3, .int (0 : Int32)), (4, .int (0 : Int32))]) [2, 3, 4, 1, 0] rfl
  obtain ⟨n9, hw⟩ := hw
  exact L5 _ _ n9 _ _ _ _ _ _ _ hw hP hS hl
