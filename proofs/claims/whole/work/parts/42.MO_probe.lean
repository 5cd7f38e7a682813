def ws_MO_probe : List Cond := Cond.code y_MO_probe c_MO_probe 5 (Option.some Jvm.ClassFile.FieldType.int) :: GW
theorem d_MO_probe_0 : decode c_MO_probe 0 = .ok (.aload_n 0, 1) := by decide +kernel
theorem d_MO_probe_1 : decode c_MO_probe 1 = .ok (.aload_n 0, 1) := by decide +kernel
theorem d_MO_probe_2 : decode c_MO_probe 2 = .ok (.iload_n 1, 1) := by decide +kernel
theorem d_MO_probe_3 : decode c_MO_probe 3 = .ok (.invokevirtual 169, 3) := by decide +kernel
theorem d_MO_probe_6 : decode c_MO_probe 6 = .ok (.ifCond .eq 10, 3) := by decide +kernel
theorem d_MO_probe_9 : decode c_MO_probe 9 = .ok (.iload_n 2, 1) := by decide +kernel
theorem d_MO_probe_10 : decode c_MO_probe 10 = .ok (.invokestatic 172, 3) := by decide +kernel
theorem d_MO_probe_13 : decode c_MO_probe 13 = .ok (.ifCond .ne 7, 3) := by decide +kernel
theorem d_MO_probe_16 : decode c_MO_probe 16 = .ok (.iconst 1, 1) := by decide +kernel
theorem d_MO_probe_17 : decode c_MO_probe 17 = .ok (.goto 31, 3) := by decide +kernel
theorem d_MO_probe_20 : decode c_MO_probe 20 = .ok (.aload_n 0, 1) := by decide +kernel
theorem d_MO_probe_21 : decode c_MO_probe 21 = .ok (.getfield 53, 3) := by decide +kernel
theorem d_MO_probe_24 : decode c_MO_probe 24 = .ok (.iconst 2, 1) := by decide +kernel
theorem d_MO_probe_25 : decode c_MO_probe 25 = .ok (.iload_n 1, 1) := by decide +kernel
theorem d_MO_probe_26 : decode c_MO_probe 26 = .ok (.imul, 1) := by decide +kernel
theorem d_MO_probe_27 : decode c_MO_probe 27 = .ok (.iload_n 2, 1) := by decide +kernel
theorem d_MO_probe_28 : decode c_MO_probe 28 = .ok (.iadd, 1) := by decide +kernel
theorem d_MO_probe_29 : decode c_MO_probe 29 = .ok (.iaload, 1) := by decide +kernel
theorem d_MO_probe_30 : decode c_MO_probe 30 = .ok (.iconst 1, 1) := by decide +kernel
theorem d_MO_probe_31 : decode c_MO_probe 31 = .ok (.if_icmp .ne 12, 3) := by decide +kernel
theorem d_MO_probe_34 : decode c_MO_probe 34 = .ok (.aload_n 0, 1) := by decide +kernel
theorem d_MO_probe_35 : decode c_MO_probe 35 = .ok (.getfield 47, 3) := by decide +kernel
theorem d_MO_probe_38 : decode c_MO_probe 38 = .ok (.iload_n 1, 1) := by decide +kernel
theorem d_MO_probe_39 : decode c_MO_probe 39 = .ok (.iaload, 1) := by decide +kernel
theorem d_MO_probe_40 : decode c_MO_probe 40 = .ok (.ifCond .eq 7, 3) := by decide +kernel
theorem d_MO_probe_43 : decode c_MO_probe 43 = .ok (.iconst 2, 1) := by decide +kernel
theorem d_MO_probe_44 : decode c_MO_probe 44 = .ok (.goto 4, 3) := by decide +kernel
theorem d_MO_probe_47 : decode c_MO_probe 47 = .ok (.iconst 0, 1) := by decide +kernel
theorem d_MO_probe_48 : decode c_MO_probe 48 = .ok (.putfield 81, 3) := by decide +kernel
theorem d_MO_probe_51 : decode c_MO_probe 51 = .ok (.aload_n 0, 1) := by decide +kernel
theorem d_MO_probe_52 : decode c_MO_probe 52 = .ok (.getfield 81, 3) := by decide +kernel
theorem d_MO_probe_55 : decode c_MO_probe 55 = .ok (.ifCond .eq 5, 3) := by decide +kernel
theorem d_MO_probe_58 : decode c_MO_probe 58 = .ok (.iconst 0, 1) := by decide +kernel
theorem d_MO_probe_59 : decode c_MO_probe 59 = .ok (.ireturn, 1) := by decide +kernel
theorem d_MO_probe_60 : decode c_MO_probe 60 = .ok (.iconst 2, 1) := by decide +kernel
theorem d_MO_probe_61 : decode c_MO_probe 61 = .ok (.iload_n 1, 1) := by decide +kernel
theorem d_MO_probe_62 : decode c_MO_probe 62 = .ok (.imul, 1) := by decide +kernel
theorem d_MO_probe_63 : decode c_MO_probe 63 = .ok (.iload_n 2, 1) := by decide +kernel
theorem d_MO_probe_64 : decode c_MO_probe 64 = .ok (.iadd, 1) := by decide +kernel
theorem d_MO_probe_65 : decode c_MO_probe 65 = .ok (.istore 4, 2) := by decide +kernel
theorem d_MO_probe_67 : decode c_MO_probe 67 = .ok (.iload_n 3, 1) := by decide +kernel
theorem d_MO_probe_68 : decode c_MO_probe 68 = .ok (.aload_n 0, 1) := by decide +kernel
theorem d_MO_probe_69 : decode c_MO_probe 69 = .ok (.bipush 8, 2) := by decide +kernel
theorem d_MO_probe_71 : decode c_MO_probe 71 = .ok (.aload_n 0, 1) := by decide +kernel
theorem d_MO_probe_72 : decode c_MO_probe 72 = .ok (.getfield 50, 3) := by decide +kernel
theorem d_MO_probe_75 : decode c_MO_probe 75 = .ok (.iload 4, 2) := by decide +kernel
theorem d_MO_probe_77 : decode c_MO_probe 77 = .ok (.iaload, 1) := by decide +kernel
theorem d_MO_probe_78 : decode c_MO_probe 78 = .ok (.aload_n 0, 1) := by decide +kernel
theorem d_MO_probe_79 : decode c_MO_probe 79 = .ok (.getfield 7, 3) := by decide +kernel
theorem d_MO_probe_82 : decode c_MO_probe 82 = .ok (.aload_n 0, 1) := by decide +kernel
theorem d_MO_probe_83 : decode c_MO_probe 83 = .ok (.getfield 38, 3) := by decide +kernel
theorem d_MO_probe_86 : decode c_MO_probe 86 = .ok (.iload_n 1, 1) := by decide +kernel
theorem d_MO_probe_87 : decode c_MO_probe 87 = .ok (.iaload, 1) := by decide +kernel
theorem d_MO_probe_88 : decode c_MO_probe 88 = .ok (.iaload, 1) := by decide +kernel
theorem d_MO_probe_89 : decode c_MO_probe 89 = .ok (.iconst 0, 1) := by decide +kernel
theorem d_MO_probe_90 : decode c_MO_probe 90 = .ok (.iconst 0, 1) := by decide +kernel
theorem d_MO_probe_91 : decode c_MO_probe 91 = .ok (.invokevirtual 116, 3) := by decide +kernel
theorem d_MO_probe_94 : decode c_MO_probe 94 = .ok (.if_icmp .ne 34, 3) := by decide +kernel
theorem d_MO_probe_97 : decode c_MO_probe 97 = .ok (.aload_n 0, 1) := by decide +kernel
theorem d_MO_probe_98 : decode c_MO_probe 98 = .ok (.getfield 53, 3) := by decide +kernel
theorem d_MO_probe_101 : decode c_MO_probe 101 = .ok (.iload 4, 2) := by decide +kernel
theorem d_MO_probe_103 : decode c_MO_probe 103 = .ok (.iconst 2, 1) := by decide +kernel
theorem d_MO_probe_104 : decode c_MO_probe 104 = .ok (.iastore, 1) := by decide +kernel
theorem d_MO_probe_105 : decode c_MO_probe 105 = .ok (.aload_n 0, 1) := by decide +kernel
theorem d_MO_probe_106 : decode c_MO_probe 106 = .ok (.getfield 47, 3) := by decide +kernel
theorem d_MO_probe_109 : decode c_MO_probe 109 = .ok (.iload_n 1, 1) := by decide +kernel
theorem d_MO_probe_110 : decode c_MO_probe 110 = .ok (.iconst 1, 1) := by decide +kernel
theorem d_MO_probe_111 : decode c_MO_probe 111 = .ok (.iastore, 1) := by decide +kernel
theorem d_MO_probe_112 : decode c_MO_probe 112 = .ok (.aload_n 0, 1) := by decide +kernel
theorem d_MO_probe_113 : decode c_MO_probe 113 = .ok (.getfield 44, 3) := by decide +kernel
theorem d_MO_probe_116 : decode c_MO_probe 116 = .ok (.iload_n 1, 1) := by decide +kernel
theorem d_MO_probe_117 : decode c_MO_probe 117 = .ok (.aload_n 0, 1) := by decide +kernel
theorem d_MO_probe_118 : decode c_MO_probe 118 = .ok (.getfield 144, 3) := by decide +kernel
theorem d_MO_probe_121 : decode c_MO_probe 121 = .ok (.bipush 40, 2) := by decide +kernel
theorem d_MO_probe_123 : decode c_MO_probe 123 = .ok (.iadd, 1) := by decide +kernel
theorem d_MO_probe_124 : decode c_MO_probe 124 = .ok (.iastore, 1) := by decide +kernel
theorem d_MO_probe_125 : decode c_MO_probe 125 = .ok (.goto 40, 3) := by decide +kernel
theorem d_MO_probe_128 : decode c_MO_probe 128 = .ok (.aload_n 0, 1) := by decide +kernel
theorem d_MO_probe_129 : decode c_MO_probe 129 = .ok (.getfield 56, 3) := by decide +kernel
theorem d_MO_probe_132 : decode c_MO_probe 132 = .ok (.iload 4, 2) := by decide +kernel
theorem d_MO_probe_134 : decode c_MO_probe 134 = .ok (.dup2, 1) := by decide +kernel
theorem d_MO_probe_135 : decode c_MO_probe 135 = .ok (.iaload, 1) := by decide +kernel
theorem d_MO_probe_136 : decode c_MO_probe 136 = .ok (.iconst 1, 1) := by decide +kernel
theorem d_MO_probe_137 : decode c_MO_probe 137 = .ok (.iadd, 1) := by decide +kernel
theorem d_MO_probe_138 : decode c_MO_probe 138 = .ok (.iastore, 1) := by decide +kernel
theorem d_MO_probe_139 : decode c_MO_probe 139 = .ok (.aload_n 0, 1) := by decide +kernel
theorem d_MO_probe_140 : decode c_MO_probe 140 = .ok (.getfield 56, 3) := by decide +kernel
theorem d_MO_probe_143 : decode c_MO_probe 143 = .ok (.iload 4, 2) := by decide +kernel
theorem d_MO_probe_145 : decode c_MO_probe 145 = .ok (.iaload, 1) := by decide +kernel
theorem d_MO_probe_146 : decode c_MO_probe 146 = .ok (.iconst 3, 1) := by decide +kernel
theorem d_MO_probe_147 : decode c_MO_probe 147 = .ok (.if_icmp .ne 18, 3) := by decide +kernel
theorem d_MO_probe_150 : decode c_MO_probe 150 = .ok (.aload_n 0, 1) := by decide +kernel
theorem d_MO_probe_151 : decode c_MO_probe 151 = .ok (.getfield 53, 3) := by decide +kernel
theorem d_MO_probe_154 : decode c_MO_probe 154 = .ok (.iload 4, 2) := by decide +kernel
theorem d_MO_probe_156 : decode c_MO_probe 156 = .ok (.iconst 3, 1) := by decide +kernel
theorem d_MO_probe_157 : decode c_MO_probe 157 = .ok (.iastore, 1) := by decide +kernel
theorem d_MO_probe_158 : decode c_MO_probe 158 = .ok (.aload_n 0, 1) := by decide +kernel
theorem d_MO_probe_159 : decode c_MO_probe 159 = .ok (.getfield 47, 3) := by decide +kernel
theorem d_MO_probe_162 : decode c_MO_probe 162 = .ok (.iload_n 1, 1) := by decide +kernel
theorem d_MO_probe_163 : decode c_MO_probe 163 = .ok (.iconst 2, 1) := by decide +kernel
theorem d_MO_probe_164 : decode c_MO_probe 164 = .ok (.iastore, 1) := by decide +kernel
theorem d_MO_probe_165 : decode c_MO_probe 165 = .ok (.aload_n 0, 1) := by decide +kernel
theorem d_MO_probe_166 : decode c_MO_probe 166 = .ok (.invokevirtual 166, 3) := by decide +kernel
theorem d_MO_probe_169 : decode c_MO_probe 169 = .ok (.aload_n 0, 1) := by decide +kernel
theorem d_MO_probe_170 : decode c_MO_probe 170 = .ok (.getfield 47, 3) := by decide +kernel
theorem d_MO_probe_173 : decode c_MO_probe 173 = .ok (.iload_n 1, 1) := by decide +kernel
theorem d_MO_probe_174 : decode c_MO_probe 174 = .ok (.iaload, 1) := by decide +kernel
theorem d_MO_probe_175 : decode c_MO_probe 175 = .ok (.ireturn, 1) := by decide +kernel
def wq_MO_probe_165 (post : Int32 → ST → Int64 → Prop) (v1 : Int32) (X : ST) (Y : Int64) : Prop := wp_MO_settle (fun (X1 : ST) (Y2 : Int64) => (vp_in v1 24 ∧ post (X1 30 v1.toNatClampNeg) X1 Y2)) X Y
def wq_MO_probe_48 (post : Int32 → ST → Int64 → Prop) (s0 : Int32) (v1 : Int32) (v2 : Int32) (v3 : Int32) (X : ST) (Y : Int64) : Prop := ((s0 = 0 → (vp_in (((2 : Int32) * v1) + v2) 48 ∧ (vp_in v1 24 ∧ (vp_in (X 31 v1.toNatClampNeg) 6 ∧ wp_MO_five (fun (r11 : Int32) (X9 : ST) (Y10 : Int64) => ((v3 = r11 → wq_MO_probe_165 post v1 (up (up (up X9 40 ((((2 : Int32) * v1) + v2).toNatClampNeg) (2 : Int32)) 30 v1.toNatClampNeg (1 : Int32)) 33 v1.toNatClampNeg ((X9 1 0) + (40 : Int32))) Y10) ∧ (¬ v3 = r11 → ((((up X9 42 ((((2 : Int32) * v1) + v2).toNatClampNeg) ((X9 42 (((2 : Int32) * v1) + v2).toNatClampNeg) + (1 : Int32))) 42 (((2 : Int32) * v1) + v2).toNatClampNeg) = (3 : Int32) → wq_MO_probe_165 post v1 (up (up (up X9 42 ((((2 : Int32) * v1) + v2).toNatClampNeg) ((X9 42 (((2 : Int32) * v1) + v2).toNatClampNeg) + (1 : Int32))) 40 ((((2 : Int32) * v1) + v2).toNatClampNeg) (3 : Int32)) 30 v1.toNatClampNeg (2 : Int32)) Y10) ∧ (¬ ((up X9 42 ((((2 : Int32) * v1) + v2).toNatClampNeg) ((X9 42 (((2 : Int32) * v1) + v2).toNatClampNeg) + (1 : Int32))) 42 (((2 : Int32) * v1) + v2).toNatClampNeg) = (3 : Int32) → wq_MO_probe_165 post v1 (up X9 42 ((((2 : Int32) * v1) + v2).toNatClampNeg) ((X9 42 (((2 : Int32) * v1) + v2).toNatClampNeg) + (1 : Int32))) Y10))))) (up X 90 0 s0) Y (8 : Int32) (X 41 (((2 : Int32) * v1) + v2).toNatClampNeg) (X 11 (X 31 v1.toNatClampNeg).toNatClampNeg) (0 : Int32) (0 : Int32))))) ∧ (¬ s0 = 0 → post (0 : Int32) (up X 90 0 s0) Y))
def wp_MO_probe (post : Int32 → ST → Int64 → Prop) (X : ST) (Y : Int64) (a1 : Int32) (a2 : Int32) (a3 : Int32) : Prop := wp_MO_isAuth (fun (r16 : Int32) (X14 : ST) (Y15 : Int64) => ((r16 = 0 → wq_MO_probe_48 post (1 : Int32) a1 a2 a3 X14 Y15) ∧ (¬ r16 = 0 → wp_MO_isWhich (fun (r20 : Int32) (X18 : ST) (Y19 : Int64) => ((r20 = 0 → wq_MO_probe_48 post (1 : Int32) a1 a2 a3 X18 Y19) ∧ (¬ r20 = 0 → (vp_in (((2 : Int32) * a1) + a2) 48 ∧ (((X18 40 (((2 : Int32) * a1) + a2).toNatClampNeg) = (1 : Int32) → (vp_in a1 24 ∧ (((X18 30 a1.toNatClampNeg) = 0 → wq_MO_probe_48 post (0 : Int32) a1 a2 a3 X18 Y19) ∧ (¬ (X18 30 a1.toNatClampNeg) = 0 → wq_MO_probe_48 post (2 : Int32) a1 a2 a3 X18 Y19)))) ∧ (¬ (X18 40 (((2 : Int32) * a1) + a2).toNatClampNeg) = (1 : Int32) → wq_MO_probe_48 post (2 : Int32) a1 a2 a3 X18 Y19)))))) X14 Y15 a2))) X Y a1
set_option maxHeartbeats 4000000 in
set_option maxRecDepth 100000 in
theorem mt_MO_probe (l : Launch) (hl9 : l.stackTraces = false) (dC : Nat → ClassId) (dI : Nat → Nat → Nat) (cA : Nat → ClassId) (ad : Nat → Nat) (hI : INJ ad 23) (sz : Nat) {X : ST} {Y : Int64} {a1 : Int32} {a2 : Int32} {a3 : Int32} {post : Int32 → ST → Int64 → Prop} (hw : wp_MO_probe post X Y a1 a2 a3) : Met l y_MO_probe ws_MO_probe ({ frames := 2, cells := 0, slots := 0, locals := 48 } : Room) (va_Pc [.ref (ad 0), .int a1, .int a2, .int a3] (fun U => PM dC dI cA ad sz X Y U)) (va_Qi (fun r (u : ST × Int64) => post r u.1 u.2) (fun (u : ST × Int64) t => va_P (dC, dI) vwCl (wdM cA ad u.1 u.2) t.heap) (CA ad 23 sz)) 0 0 (CA ad 23 sz) := by
  refine Met.ofW (cc := c_MO_probe) (maxL := 5) (ret := (some .int)) (by decide) rfl ?_
  intro p e s m args below meth c s₁ B hml hv
  obtain ⟨rfl, hsz, hP, hG⟩ := hv
  have hx := B.exec
  have hb := B.bytes
  have hr := B.returns
  have hts : ∀ w ∈ GW, w.before (([.ref (ad 0), .int a1, .int a2, .int a3] : List Value).toArray) s = true := fun w h => atoms_spec (ws := ws_MO_probe) B.pre w (List.mem_cons_of_mem _ h)
  have hown : s.vm.findClass R_MO = some m.cls := findClass_of_methodNamed B.named
  have hlocks := B.notSynchronized
  subst hsz
  have hK := hG.1
  have hG9 := hG
  have hNW := hG.2
  have hD0 : ∀ (X : ST) (Y : Int64), va_D (CA ad 23 s.heap.size) (wdM cA ad X Y) := fun _ _ => zwM_D hI
  have hS : va_S (CA ad 23 s.heap.size) s.heap s.heap [] := va_S.rf
  have hl := lv_entry ([.ref (ad 0), .int a1, .int a2, .int a3]) (n := 5) (Nat.le_of_ble_eq_true rfl)
  rw [lg_entry_eq]
  generalize (lg_sl ([.ref (ad 0), .int a1, .int a2, .int a3]) ++ List.replicate (5 - (lg_sl ([.ref (ad 0), .int a1, .int a2, .int a3])).length) Slot.unset).toArray = ls at hl ⊢
  have hl : lv_has ls 5 [(0, .ref (ad 0)), (1, .int a1), (2, .int a2), (3, .int a3)] := hl
  have L165 : ∀ (v1 : Int32) (X : ST) (Y : Int64) (H : Heap) (locs : List Loc) (ls : Array Slot), wq_MO_probe_165 post v1 X Y → va_P (dC, dI) vwCl (wdM cA ad X Y) H → va_S (CA ad 23 s.heap.size) s.heap H locs → lv_has ls 5 [(0, .ref (ad 0)), (1, .int v1)] → W p l e (headSpec ws_MO_probe ({ frames := 2, cells := 0, slots := 0, locals := 48 } : Room)).room s m (([.ref (ad 0), .int a1, .int a2, .int a3] : List Value).toArray) below meth c H locs 0 0 (MQ below (va_Qi (fun r (u : ST × Int64) => post r u.1 u.2) (fun (u : ST × Int64) t => va_P (dC, dI) vwCl (wdM cA ad u.1 u.2) t.heap) (CA ad 23 s.heap.size)) (([.ref (ad 0), .int a1, .int a2, .int a3] : List Value).toArray) s 0 0 (CA ad 23 s.heap.size)) (F0 m 165 ls []) := by
    intro v1 X Y H locs ls hw hP hS hl
    unfold wq_MO_probe_165 at hw
    refine lv_aload_n hx hb d_MO_probe_165 rfl (lv_at hl 0 rfl) ?_
    refine va_callv (va_runV (As := []) (rest := []) ⟨hx, hb, hml, hown, hts⟩ (mt_MO_settle l hl9 dC dI cA ad hI _ hw) (cwV 0 hts (gV gw_366 gw_367 gw_368 gw_306 gw_365) rfl rfl rfl (by decide +kernel) ⟨Nat.le_of_ble_eq_true rfl, Nat.le_of_ble_eq_true rfl⟩) ⟨zwM_blind, va_recv hK hP (ci := 9) (q0 := 0) rfl atM_MO, zwM_pre hP hS hG9⟩ rfl rfl hl.1 rfl (lv_room (Nat.le_of_ble_eq_true rfl)) d_MO_probe_166 ⟨Nat.le_of_ble_eq_true rfl, Nat.le_of_ble_eq_true rfl⟩) hS (fun q _ h => CA_le hS.1 q h) (fun q h => CA_le hS.1 q h) (fun u9 t H locs ht hvm hw hP hz1 hk1 hS => ?_)
    obtain ⟨X1, Y2⟩ := u9
    have hP : va_P (dC, dI) vwCl (wdM cA ad X1 Y2) H := by rw [← ht]; exact hP
    try dsimp only at hw
    refine lv_aload_n hx hb d_MO_probe_169 rfl (lv_at hl 0 rfl) ?_
    refine va_get (D := (dC, dI)) (ci := 9) (v := .ref (ad 13)) (C := R_MO) (T := T_MO) (N := 36) hx hb hts in_MO hown hK hP (0) atM_MO rfl 18 (by decide) (hts _ gw_347) (fun _ h9 => h9) rfl d_MO_probe_170 ?_
    refine lv_iload_n hx hb d_MO_probe_173 rfl (lv_at hl 1 rfl) ?_
    obtain ⟨h4, hw⟩ := hw
    refine va_iald hx hb hK hP (13) 12 atM_authState rfl h4 d_MO_probe_174 ?_
    exact W.iret (v := X1 30 v1.toNatClampNeg) hx hb hr (fun t ht _ => ⟨⟨X1 30 v1.toNatClampNeg, (X1, Y2), rfl, hw, by show va_P _ _ _ t.heap; rw [ht]; exact hP⟩, hS.F ht⟩) hS.2.2 d_MO_probe_175
  have L48 : ∀ (s0 : Int32) (v1 : Int32) (v2 : Int32) (v3 : Int32) (X : ST) (Y : Int64) (H : Heap) (locs : List Loc) (ls : Array Slot), wq_MO_probe_48 post s0 v1 v2 v3 X Y → va_P (dC, dI) vwCl (wdM cA ad X Y) H → va_S (CA ad 23 s.heap.size) s.heap H locs → lv_has ls 5 [(0, .ref (ad 0)), (1, .int v1), (2, .int v2), (3, .int v3)] → W p l e (headSpec ws_MO_probe ({ frames := 2, cells := 0, slots := 0, locals := 48 } : Room)).room s m (([.ref (ad 0), .int a1, .int a2, .int a3] : List Value).toArray) below meth c H locs 0 0 (MQ below (va_Qi (fun r (u : ST × Int64) => post r u.1 u.2) (fun (u : ST × Int64) t => va_P (dC, dI) vwCl (wdM cA ad u.1 u.2) t.heap) (CA ad 23 s.heap.size)) (([.ref (ad 0), .int a1, .int a2, .int a3] : List Value).toArray) s 0 0 (CA ad 23 s.heap.size)) (F0 m 48 ls [.int s0, .ref (ad 0)]) := by
    intro s0 v1 v2 v3 X Y H locs ls hw hP hS hl
    unfold wq_MO_probe_48 at hw
    refine va_put (D := (dC, dI)) (ci := 9) (v := .int s0) (ty := .int) (C := R_MO) (T := T_MO) (N := 36) hx hb hts in_MO ty_MO ty_MO_ok nm_MO hown hK hP (hD0 _ _) hS (0) atM_MO rfl 0 (by decide) (hts _ gw_297) (fun _ h9 => h9) rfl (by decide +kernel) rfl rfl (Nat.le_of_ble_eq_true rfl) d_MO_probe_48 (fun H locs hP _ hS => ?_)
    have hP : va_P (dC, dI) vwCl (wdM cA ad (up X 90 0 s0) Y) H := by rw [← stM_MO_0]; exact hP
    refine lv_aload_n hx hb d_MO_probe_51 rfl (lv_at hl 0 rfl) ?_
    refine va_get (D := (dC, dI)) (ci := 9) (v := .int s0) (C := R_MO) (T := T_MO) (N := 36) hx hb hts in_MO hown hK hP (0) atM_MO rfl 0 (by decide) (hts _ gw_297) (fun _ h9 => h9) rfl d_MO_probe_52 ?_
    refine lv_if_eq (tgt := 60) hx hb d_MO_probe_55 (by decide) (fun c5 => ?_) (fun c5 => ?_)
    · have hw := hw.1 c5
      refine lv_iconst (v := (2 : Int32)) hx hb d_MO_probe_60 (by decide) ?_
      refine lv_iload_n hx hb d_MO_probe_61 rfl (lv_at hl 1 rfl) ?_
      refine lv_imul hx hb d_MO_probe_62 ?_
      refine lv_iload_n hx hb d_MO_probe_63 rfl (lv_at hl 2 rfl) ?_
      refine lv_iadd hx hb d_MO_probe_64 ?_
      refine lv_istore (lv' := [(4, .int (((2 : Int32) * v1) + v2)), (0, .ref (ad 0)), (1, .int v1), (2, .int v2), (3, .int v3)]) hx hb d_MO_probe_65 hl (by decide) rfl (fun ls hl => ?_)
      refine lv_iload_n hx hb d_MO_probe_67 rfl (lv_at hl 4 rfl) ?_
      refine lv_aload_n hx hb d_MO_probe_68 rfl (lv_at hl 1 rfl) ?_
      refine lv_bipush (v := (8 : Int32)) hx hb d_MO_probe_69 (by decide) ?_
      refine lv_aload_n hx hb d_MO_probe_71 rfl (lv_at hl 1 rfl) ?_
      refine va_get (D := (dC, dI)) (ci := 9) (v := .ref (ad 14)) (C := R_MO) (T := T_MO) (N := 36) hx hb hts in_MO hown hK hP (0) atM_MO rfl 19 (by decide) (hts _ gw_356) (fun _ h9 => h9) rfl d_MO_probe_72 ?_
      refine lv_iload hx hb d_MO_probe_75 (lv_at hl 0 rfl) ?_
      obtain ⟨h6, hw⟩ := hw
      refine va_iald hx hb hK hP (14) 13 atM_token rfl h6 d_MO_probe_77 ?_
      refine W.eq (g2 := F0 m 78 ls [.int (X 41 (((2 : Int32) * v1) + v2).toNatClampNeg), .int (8 : Int32), .ref (ad 0), .int v3]) rfl ?_
      refine lv_aload_n hx hb d_MO_probe_78 rfl (lv_at hl 1 rfl) ?_
      refine va_get (D := (dC, dI)) (ci := 9) (v := .ref (ad 1)) (C := R_MO) (T := T_MO) (N := 36) hx hb hts in_MO hown hK hP (0) atM_MO rfl 4 (by decide) (hts _ gw_333) (fun _ h9 => h9) rfl d_MO_probe_79 ?_
      refine lv_aload_n hx hb d_MO_probe_82 rfl (lv_at hl 1 rfl) ?_
      refine va_get (D := (dC, dI)) (ci := 9) (v := .ref (ad 10)) (C := R_MO) (T := T_MO) (N := 36) hx hb hts in_MO hown hK hP (0) atM_MO rfl 15 (by decide) (hts _ gw_351) (fun _ h9 => h9) rfl d_MO_probe_83 ?_
      refine lv_iload_n hx hb d_MO_probe_86 rfl (lv_at hl 2 rfl) ?_
      obtain ⟨h7, hw⟩ := hw
      refine va_iald hx hb hK hP (10) 9 atM_authAccount rfl h7 d_MO_probe_87 ?_
      refine W.eq (g2 := F0 m 88 ls [.int (X 31 v1.toNatClampNeg), .ref (ad 1), .int (X 41 (((2 : Int32) * v1) + v2).toNatClampNeg), .int (8 : Int32), .ref (ad 0), .int v3]) rfl ?_
      obtain ⟨h8, hw⟩ := hw
      refine va_iald hx hb hK hP (1) 0 atM_keys rfl h8 d_MO_probe_88 ?_
      refine W.eq (g2 := F0 m 89 ls [.int (X 11 (X 31 v1.toNatClampNeg).toNatClampNeg), .int (X 41 (((2 : Int32) * v1) + v2).toNatClampNeg), .int (8 : Int32), .ref (ad 0), .int v3]) rfl ?_
      refine lv_iconst (v := (0 : Int32)) hx hb d_MO_probe_89 (by decide) ?_
      refine lv_iconst (v := (0 : Int32)) hx hb d_MO_probe_90 (by decide) ?_
      refine va_calli (va_runV (As := [.int (8 : Int32), .int (X 41 (((2 : Int32) * v1) + v2).toNatClampNeg), .int (X 11 (X 31 v1.toNatClampNeg).toNatClampNeg), .int (0 : Int32), .int (0 : Int32)]) (rest := [.int v3]) ⟨hx, hb, hml, hown, hts⟩ (mt_MO_five l hl9 dC dI cA ad hI _ hw) (cwV 5 hts (gV gw_328 gw_329 gw_330 gw_306 gw_327) rfl rfl rfl (by decide +kernel) ⟨Nat.le_of_ble_eq_true rfl, Nat.le_of_ble_eq_true rfl⟩) ⟨zwM_blind, va_recv hK hP (ci := 9) (q0 := 0) rfl atM_MO, zwM_pre hP hS hG9⟩ rfl rfl hl.1 rfl (lv_room (Nat.le_of_ble_eq_true rfl)) d_MO_probe_91 ⟨Nat.le_of_ble_eq_true rfl, Nat.le_of_ble_eq_true rfl⟩) hS (fun q _ h => CA_le hS.1 q h) (fun q h => CA_le hS.1 q h) (fun r11 u9 t H locs ht hvm hw hP hz1 hk1 hS => ?_)
      obtain ⟨X9, Y10⟩ := u9
      have hP : va_P (dC, dI) vwCl (wdM cA ad X9 Y10) H := by rw [← ht]; exact hP
      try dsimp only at hw
      refine lv_icmp_ne (tgt := 128) hx hb d_MO_probe_94 (by decide) (fun c12 => ?_) (fun c12 => ?_)
      · have hw := hw.2 c12
        refine lv_aload_n hx hb d_MO_probe_128 rfl (lv_at hl 1 rfl) ?_
        refine va_get (D := (dC, dI)) (ci := 9) (v := .ref (ad 16)) (C := R_MO) (T := T_MO) (N := 36) hx hb hts in_MO hown hK hP (0) atM_MO rfl 21 (by decide) (hts _ gw_358) (fun _ h9 => h9) rfl d_MO_probe_129 ?_
        refine lv_iload hx hb d_MO_probe_132 (lv_at hl 0 rfl) ?_
        refine lv_dup2_11 hx hb d_MO_probe_134 rfl rfl ?_
        refine va_iald hx hb hK hP (16) 15 atM_wrong rfl h6 d_MO_probe_135 ?_
        refine lv_iconst (v := (1 : Int32)) hx hb d_MO_probe_136 (by decide) ?_
        refine lv_iadd hx hb d_MO_probe_137 ?_
        refine va_iast hx hb hK hP (hD0 _ _) hS (16) 15 atM_wrong rfl h6 d_MO_probe_138 (fun H locs hP _ hS => ?_)
        have hP : va_P (dC, dI) vwCl (wdM cA ad (up X9 42 ((((2 : Int32) * v1) + v2).toNatClampNeg) ((X9 42 (((2 : Int32) * v1) + v2).toNatClampNeg) + (1 : Int32))) Y10) H := by rw [← stM_wrong]; exact hP
        refine lv_aload_n hx hb d_MO_probe_139 rfl (lv_at hl 1 rfl) ?_
        refine va_get (D := (dC, dI)) (ci := 9) (v := .ref (ad 16)) (C := R_MO) (T := T_MO) (N := 36) hx hb hts in_MO hown hK hP (0) atM_MO rfl 21 (by decide) (hts _ gw_358) (fun _ h9 => h9) rfl d_MO_probe_140 ?_
        refine lv_iload hx hb d_MO_probe_143 (lv_at hl 0 rfl) ?_
        refine va_iald hx hb hK hP (16) 15 atM_wrong rfl h6 d_MO_probe_145 ?_
        refine lv_iconst (v := (3 : Int32)) hx hb d_MO_probe_146 (by decide) ?_
        refine lv_icmp_ne (tgt := 165) hx hb d_MO_probe_147 (by decide) (fun c13 => ?_) (fun c13 => ?_)
        · have hw := hw.2 c13
          have hl := lv_sub hl (l' := [(0, .ref (ad 0)), (1, .int v1)]) [1, 2] rfl
          exact L165 _ _ _ _ _ _ hw hP hS hl
        · have hw := hw.1 c13
          refine lv_aload_n hx hb d_MO_probe_150 rfl (lv_at hl 1 rfl) ?_
          refine va_get (D := (dC, dI)) (ci := 9) (v := .ref (ad 15)) (C := R_MO) (T := T_MO) (N := 36) hx hb hts in_MO hown hK hP (0) atM_MO rfl 20 (by decide) (hts _ gw_357) (fun _ h9 => h9) rfl d_MO_probe_151 ?_
          refine lv_iload hx hb d_MO_probe_154 (lv_at hl 0 rfl) ?_
          refine lv_iconst (v := (3 : Int32)) hx hb d_MO_probe_156 (by decide) ?_
          refine va_iast hx hb hK hP (hD0 _ _) hS (15) 14 atM_stage rfl h6 d_MO_probe_157 (fun H locs hP _ hS => ?_)
          have hP : va_P (dC, dI) vwCl (wdM cA ad (up (up X9 42 ((((2 : Int32) * v1) + v2).toNatClampNeg) ((X9 42 (((2 : Int32) * v1) + v2).toNatClampNeg) + (1 : Int32))) 40 ((((2 : Int32) * v1) + v2).toNatClampNeg) (3 : Int32)) Y10) H := by rw [← stM_stage]; exact hP
          refine lv_aload_n hx hb d_MO_probe_158 rfl (lv_at hl 1 rfl) ?_
          refine va_get (D := (dC, dI)) (ci := 9) (v := .ref (ad 13)) (C := R_MO) (T := T_MO) (N := 36) hx hb hts in_MO hown hK hP (0) atM_MO rfl 18 (by decide) (hts _ gw_347) (fun _ h9 => h9) rfl d_MO_probe_159 ?_
          refine lv_iload_n hx hb d_MO_probe_162 rfl (lv_at hl 2 rfl) ?_
          refine lv_iconst (v := (2 : Int32)) hx hb d_MO_probe_163 (by decide) ?_
          refine va_iast hx hb hK hP (hD0 _ _) hS (13) 12 atM_authState rfl h7 d_MO_probe_164 (fun H locs hP _ hS => ?_)
          have hP : va_P (dC, dI) vwCl (wdM cA ad (up (up (up X9 42 ((((2 : Int32) * v1) + v2).toNatClampNeg) ((X9 42 (((2 : Int32) * v1) + v2).toNatClampNeg) + (1 : Int32))) 40 ((((2 : Int32) * v1) + v2).toNatClampNeg) (3 : Int32)) 30 v1.toNatClampNeg (2 : Int32)) Y10) H := by rw [← stM_authState]; exact hP
          have hl := lv_sub hl (l' := [(0, .ref (ad 0)), (1, .int v1)]) [1, 2] rfl
          exact L165 _ _ _ _ _ _ hw hP hS hl
      · have hw := hw.1 c12
        refine lv_aload_n hx hb d_MO_probe_97 rfl (lv_at hl 1 rfl) ?_
        refine va_get (D := (dC, dI)) (ci := 9) (v := .ref (ad 15)) (C := R_MO) (T := T_MO) (N := 36) hx hb hts in_MO hown hK hP (0) atM_MO rfl 20 (by decide) (hts _ gw_357) (fun _ h9 => h9) rfl d_MO_probe_98 ?_
        refine lv_iload hx hb d_MO_probe_101 (lv_at hl 0 rfl) ?_
        refine lv_iconst (v := (2 : Int32)) hx hb d_MO_probe_103 (by decide) ?_
        refine va_iast hx hb hK hP (hD0 _ _) hS (15) 14 atM_stage rfl h6 d_MO_probe_104 (fun H locs hP _ hS => ?_)
        have hP : va_P (dC, dI) vwCl (wdM cA ad (up X9 40 ((((2 : Int32) * v1) + v2).toNatClampNeg) (2 : Int32)) Y10) H := by rw [← stM_stage]; exact hP
        refine lv_aload_n hx hb d_MO_probe_105 rfl (lv_at hl 1 rfl) ?_
        refine va_get (D := (dC, dI)) (ci := 9) (v := .ref (ad 13)) (C := R_MO) (T := T_MO) (N := 36) hx hb hts in_MO hown hK hP (0) atM_MO rfl 18 (by decide) (hts _ gw_347) (fun _ h9 => h9) rfl d_MO_probe_106 ?_
        refine lv_iload_n hx hb d_MO_probe_109 rfl (lv_at hl 2 rfl) ?_
        refine lv_iconst (v := (1 : Int32)) hx hb d_MO_probe_110 (by decide) ?_
        refine va_iast hx hb hK hP (hD0 _ _) hS (13) 12 atM_authState rfl h7 d_MO_probe_111 (fun H locs hP _ hS => ?_)
        have hP : va_P (dC, dI) vwCl (wdM cA ad (up (up X9 40 ((((2 : Int32) * v1) + v2).toNatClampNeg) (2 : Int32)) 30 v1.toNatClampNeg (1 : Int32)) Y10) H := by rw [← stM_authState]; exact hP
        refine lv_aload_n hx hb d_MO_probe_112 rfl (lv_at hl 1 rfl) ?_
        refine va_get (D := (dC, dI)) (ci := 9) (v := .ref (ad 12)) (C := R_MO) (T := T_MO) (N := 36) hx hb hts in_MO hown hK hP (0) atM_MO rfl 17 (by decide) (hts _ gw_359) (fun _ h9 => h9) rfl d_MO_probe_113 ?_
        refine lv_iload_n hx hb d_MO_probe_116 rfl (lv_at hl 2 rfl) ?_
        refine lv_aload_n hx hb d_MO_probe_117 rfl (lv_at hl 1 rfl) ?_
        refine va_get (D := (dC, dI)) (ci := 9) (v := .int (X9 1 0)) (C := R_MO) (T := T_MO) (N := 36) hx hb hts in_MO hown hK hP (0) atM_MO rfl 2 (by decide) (hts _ gw_360) (fun _ h9 => h9) rfl d_MO_probe_118 ?_
        refine lv_bipush (v := (40 : Int32)) hx hb d_MO_probe_121 (by decide) ?_
        refine lv_iadd hx hb d_MO_probe_123 ?_
        refine va_iast hx hb hK hP (hD0 _ _) hS (12) 11 atM_authEnds rfl h7 d_MO_probe_124 (fun H locs hP _ hS => ?_)
        have hP : va_P (dC, dI) vwCl (wdM cA ad (up (up (up X9 40 ((((2 : Int32) * v1) + v2).toNatClampNeg) (2 : Int32)) 30 v1.toNatClampNeg (1 : Int32)) 33 v1.toNatClampNeg ((X9 1 0) + (40 : Int32))) Y10) H := by rw [← stM_authEnds]; exact hP
        refine lv_goto (tgt := 165) hx hb d_MO_probe_125 (by decide) ?_
        have hl := lv_sub hl (l' := [(0, .ref (ad 0)), (1, .int v1)]) [1, 2] rfl
        exact L165 _ _ _ _ _ _ hw hP hS hl
    · have hw := hw.2 c5
      refine lv_iconst (v := (0 : Int32)) hx hb d_MO_probe_58 (by decide) ?_
      exact W.iret (v := (0 : Int32)) hx hb hr (fun t ht _ => ⟨⟨(0 : Int32), (up X 90 0 s0, Y), rfl, hw, by show va_P _ _ _ t.heap; rw [ht]; exact hP⟩, hS.F ht⟩) hS.2.2 d_MO_probe_59
  unfold wp_MO_probe at hw
  refine lv_aload_n hx hb d_MO_probe_0 rfl (lv_at hl 0 rfl) ?_
  refine lv_aload_n hx hb d_MO_probe_1 rfl (lv_at hl 0 rfl) ?_
  refine lv_iload_n hx hb d_MO_probe_2 rfl (lv_at hl 1 rfl) ?_
  refine va_calli (va_runV (As := [.int a1]) (rest := [.ref (ad 0)]) ⟨hx, hb, hml, hown, hts⟩ (mt_MO_isAuth l hl9 dC dI cA ad hI _ hw) (cwV 1 hts (gV gw_390 gw_391 gw_392 gw_306 gw_389) rfl rfl rfl (by decide +kernel) ⟨Nat.le_of_ble_eq_true rfl, Nat.le_of_ble_eq_true rfl⟩) ⟨zwM_blind, va_recv hK hP (ci := 9) (q0 := 0) rfl atM_MO, zwM_pre hP hS hG9⟩ rfl rfl hl.1 rfl (lv_room (Nat.le_of_ble_eq_true rfl)) d_MO_probe_3 ⟨Nat.le_of_ble_eq_true rfl, Nat.le_of_ble_eq_true rfl⟩) hS (fun q _ h => CA_le hS.1 q h) (fun q h => CA_le hS.1 q h) (fun r16 u9 t H locs ht hvm hw hP hz1 hk1 hS => ?_)
  obtain ⟨X14, Y15⟩ := u9
  have hP : va_P (dC, dI) vwCl (wdM cA ad X14 Y15) H := by rw [← ht]; exact hP
  try dsimp only at hw
  refine lv_if_eq (tgt := 16) hx hb d_MO_probe_6 (by decide) (fun c17 => ?_) (fun c17 => ?_)
  · have hw := hw.1 c17
    refine lv_iconst (v := (1 : Int32)) hx hb d_MO_probe_16 (by decide) ?_
    refine lv_goto (tgt := 48) hx hb d_MO_probe_17 (by decide) ?_
    have hl := lv_sub hl (l' := [(0, .ref (ad 0)), (1, .int a1), (2, .int a2), (3, .int a3)]) [0, 1, 2, 3] rfl
    exact L48 _ _ _ _ _ _ _ _ _ hw hP hS hl
  · have hw := hw.2 c17
    refine lv_iload_n hx hb d_MO_probe_9 rfl (lv_at hl 2 rfl) ?_
    refine va_calli (va_runS (As := [.int a2]) (rest := [.ref (ad 0)]) ⟨hx, hb, hml, hown, hts⟩ (mt_MO_isWhich l hl9 dC dI cA ad hI _ hw) (va_cwS 1 hts (gS gw_394 gw_395 gw_306 gw_393) rfl rfl rfl (by decide +kernel) ⟨Nat.le_of_ble_eq_true rfl, Nat.le_of_ble_eq_true rfl⟩) ⟨zwM_blind, zwM_pre hP hS hG9⟩ rfl rfl hl.1 rfl (lv_room (Nat.le_of_ble_eq_true rfl)) d_MO_probe_10 ⟨Nat.le_of_ble_eq_true rfl, Nat.le_of_ble_eq_true rfl⟩) hS (fun q _ h => CA_le hS.1 q h) (fun q h => CA_le hS.1 q h) (fun r20 u9 t H locs ht hvm hw hP hz1 hk1 hS => ?_)
    obtain ⟨X18, Y19⟩ := u9
    have hP : va_P (dC, dI) vwCl (wdM cA ad X18 Y19) H := by rw [← ht]; exact hP
    try dsimp only at hw
    refine lv_if_ne (tgt := 20) hx hb d_MO_probe_13 (by decide) (fun c21 => ?_) (fun c21 => ?_)
    · have hw := hw.2 c21
      refine lv_aload_n hx hb d_MO_probe_20 rfl (lv_at hl 0 rfl) ?_
      refine va_get (D := (dC, dI)) (ci := 9) (v := .ref (ad 15)) (C := R_MO) (T := T_MO) (N := 36) hx hb hts in_MO hown hK hP (0) atM_MO rfl 20 (by decide) (hts _ gw_357) (fun _ h9 => h9) rfl d_MO_probe_21 ?_
      refine lv_iconst (v := (2 : Int32)) hx hb d_MO_probe_24 (by decide) ?_
      refine lv_iload_n hx hb d_MO_probe_25 rfl (lv_at hl 1 rfl) ?_
      refine lv_imul hx hb d_MO_probe_26 ?_
      refine lv_iload_n hx hb d_MO_probe_27 rfl (lv_at hl 2 rfl) ?_
      refine lv_iadd hx hb d_MO_probe_28 ?_
      obtain ⟨h22, hw⟩ := hw
      refine va_iald hx hb hK hP (15) 14 atM_stage rfl h22 d_MO_probe_29 ?_
      refine lv_iconst (v := (1 : Int32)) hx hb d_MO_probe_30 (by decide) ?_
      refine lv_icmp_ne (tgt := 43) hx hb d_MO_probe_31 (by decide) (fun c23 => ?_) (fun c23 => ?_)
      · have hw := hw.2 c23
        refine lv_iconst (v := (2 : Int32)) hx hb d_MO_probe_43 (by decide) ?_
        refine lv_goto (tgt := 48) hx hb d_MO_probe_44 (by decide) ?_
        have hl := lv_sub hl (l' := [(0, .ref (ad 0)), (1, .int a1), (2, .int a2), (3, .int a3)]) [0, 1, 2, 3] rfl
        exact L48 _ _ _ _ _ _ _ _ _ hw hP hS hl
      · have hw := hw.1 c23
        refine lv_aload_n hx hb d_MO_probe_34 rfl (lv_at hl 0 rfl) ?_
        refine va_get (D := (dC, dI)) (ci := 9) (v := .ref (ad 13)) (C := R_MO) (T := T_MO) (N := 36) hx hb hts in_MO hown hK hP (0) atM_MO rfl 18 (by decide) (hts _ gw_347) (fun _ h9 => h9) rfl d_MO_probe_35 ?_
        refine lv_iload_n hx hb d_MO_probe_38 rfl (lv_at hl 1 rfl) ?_
        obtain ⟨h24, hw⟩ := hw
        refine va_iald hx hb hK hP (13) 12 atM_authState rfl h24 d_MO_probe_39 ?_
        refine lv_if_eq (tgt := 47) hx hb d_MO_probe_40 (by decide) (fun c25 => ?_) (fun c25 => ?_)
        · have hw := hw.1 c25
          refine lv_iconst (v := (0 : Int32)) hx hb d_MO_probe_47 (by decide) ?_
          have hl := lv_sub hl (l' := [(0, .ref (ad 0)), (1, .int a1), (2, .int a2), (3, .int a3)]) [0, 1, 2, 3] rfl
          exact L48 _ _ _ _ _ _ _ _ _ hw hP hS hl
        · have hw := hw.2 c25
          refine lv_iconst (v := (2 : Int32)) hx hb d_MO_probe_43 (by decide) ?_
          refine lv_goto (tgt := 48) hx hb d_MO_probe_44 (by decide) ?_
          have hl := lv_sub hl (l' := [(0, .ref (ad 0)), (1, .int a1), (2, .int a2), (3, .int a3)]) [0, 1, 2, 3] rfl
          exact L48 _ _ _ _ _ _ _ _ _ hw hP hS hl
    · have hw := hw.1 c21
      refine lv_iconst (v := (1 : Int32)) hx hb d_MO_probe_16 (by decide) ?_
      refine lv_goto (tgt := 48) hx hb d_MO_probe_17 (by decide) ?_
      have hl := lv_sub hl (l' := [(0, .ref (ad 0)), (1, .int a1), (2, .int a2), (3, .int a3)]) [0, 1, 2, 3] rfl
      exact L48 _ _ _ _ _ _ _ _ _ hw hP hS hl
def ws_MO_next : List Cond := Cond.code y_MO_next c_MO_next 2 (Option.some Jvm.ClassFile.FieldType.int) :: GW
theorem d_MO_next_0 : decode c_MO_next 0 = .ok (.aload_n 0, 1) := by decide +kernel
theorem d_MO_next_1 : decode c_MO_next 1 = .ok (.aload_n 0, 1) := by decide +kernel
theorem d_MO_next_2 : decode c_MO_next 2 = .ok (.getfield 175, 3) := by decide +kernel
theorem d_MO_next_5 : decode c_MO_next 5 = .ok (.ifCond .eq 18, 3) := by decide +kernel
theorem d_MO_next_8 : decode c_MO_next 8 = .ok (.aload_n 0, 1) := by decide +kernel
theorem d_MO_next_9 : decode c_MO_next 9 = .ok (.getfield 179, 3) := by decide +kernel
theorem d_MO_next_12 : decode c_MO_next 12 = .ok (.aload_n 0, 1) := by decide +kernel
theorem d_MO_next_13 : decode c_MO_next 13 = .ok (.getfield 182, 3) := by decide +kernel
theorem d_MO_next_16 : decode c_MO_next 16 = .ok (.if_icmp .ge 7, 3) := by decide +kernel
theorem d_MO_next_19 : decode c_MO_next 19 = .ok (.iconst 1, 1) := by decide +kernel
theorem d_MO_next_20 : decode c_MO_next 20 = .ok (.goto 4, 3) := by decide +kernel
theorem d_MO_next_23 : decode c_MO_next 23 = .ok (.iconst 0, 1) := by decide +kernel
theorem d_MO_next_24 : decode c_MO_next 24 = .ok (.putfield 175, 3) := by decide +kernel
theorem d_MO_next_27 : decode c_MO_next 27 = .ok (.aload_n 0, 1) := by decide +kernel
theorem d_MO_next_28 : decode c_MO_next 28 = .ok (.getfield 175, 3) := by decide +kernel
theorem d_MO_next_31 : decode c_MO_next 31 = .ok (.ifCond .eq 15, 3) := by decide +kernel
theorem d_MO_next_34 : decode c_MO_next 34 = .ok (.aload_n 0, 1) := by decide +kernel
theorem d_MO_next_35 : decode c_MO_next 35 = .ok (.getfield 74, 3) := by decide +kernel
theorem d_MO_next_38 : decode c_MO_next 38 = .ok (.aload_n 0, 1) := by decide +kernel
theorem d_MO_next_39 : decode c_MO_next 39 = .ok (.getfield 179, 3) := by decide +kernel
theorem d_MO_next_42 : decode c_MO_next 42 = .ok (.iaload, 1) := by decide +kernel
theorem d_MO_next_43 : decode c_MO_next 43 = .ok (.goto 4, 3) := by decide +kernel
theorem d_MO_next_46 : decode c_MO_next 46 = .ok (.iconst 0, 1) := by decide +kernel
theorem d_MO_next_47 : decode c_MO_next 47 = .ok (.istore_n 1, 1) := by decide +kernel
theorem d_MO_next_48 : decode c_MO_next 48 = .ok (.aload_n 0, 1) := by decide +kernel
theorem d_MO_next_49 : decode c_MO_next 49 = .ok (.dup, 1) := by decide +kernel
theorem d_MO_next_50 : decode c_MO_next 50 = .ok (.getfield 179, 3) := by decide +kernel
theorem d_MO_next_53 : decode c_MO_next 53 = .ok (.iconst 1, 1) := by decide +kernel
theorem d_MO_next_54 : decode c_MO_next 54 = .ok (.iadd, 1) := by decide +kernel
theorem d_MO_next_55 : decode c_MO_next 55 = .ok (.putfield 179, 3) := by decide +kernel
theorem d_MO_next_58 : decode c_MO_next 58 = .ok (.iload_n 1, 1) := by decide +kernel
theorem d_MO_next_59 : decode c_MO_next 59 = .ok (.ireturn, 1) := by decide +kernel
def wq_MO_next_47 (post : Int32 → ST → Int64 → Prop) (s0 : Int32) (X : ST) (Y : Int64) : Prop := post s0 (up X 66 0 ((X 66 0) + (1 : Int32))) Y
def wq_MO_next_24 (post : Int32 → ST → Int64 → Prop) (s0 : Int32) (X : ST) (Y : Int64) : Prop := ((s0 = 0 ∨ s0 = 1) ∧ ((s0 = 0 → wq_MO_next_47 post (0 : Int32) (up X 67 0 s0) Y) ∧ (¬ s0 = 0 → (vp_in (X 66 0) 96 ∧ wq_MO_next_47 post (X 63 (X 66 0).toNatClampNeg) (up X 67 0 s0) Y))))
def wp_MO_next (post : Int32 → ST → Int64 → Prop) (X : ST) (Y : Int64) : Prop := (((X 67 0) = 0 → wq_MO_next_24 post (0 : Int32) X Y) ∧ (¬ (X 67 0) = 0 → (((X 7 0) ≤ (X 66 0) → wq_MO_next_24 post (0 : Int32) X Y) ∧ (¬ (X 7 0) ≤ (X 66 0) → wq_MO_next_24 post (1 : Int32) X Y))))
set_option maxHeartbeats 4000000 in
set_option maxRecDepth 100000 in
theorem mt_MO_next (l : Launch) (hl9 : l.stackTraces = false) (dC : Nat → ClassId) (dI : Nat → Nat → Nat) (cA : Nat → ClassId) (ad : Nat → Nat) (hI : INJ ad 23) (sz : Nat) {X : ST} {Y : Int64} {post : Int32 → ST → Int64 → Prop} (hw : wp_MO_next post X Y) : Met l y_MO_next ws_MO_next ({ frames := 0, cells := 0, slots := 0, locals := 0 } : Room) (va_Pc [.ref (ad 0)] (fun U => PM dC dI cA ad sz X Y U)) (va_Qi (fun r (u : ST × Int64) => post r u.1 u.2) (fun (u : ST × Int64) t => va_P (dC, dI) vwCl (wdM cA ad u.1 u.2) t.heap) (CA ad 23 sz)) 0 0 (CA ad 23 sz) := by
  refine Met.ofW (cc := c_MO_next) (maxL := 2) (ret := (some .int)) (by decide) rfl ?_
  intro p e s m args below meth c s₁ B hml hv
  obtain ⟨rfl, hsz, hP, hG⟩ := hv
  have hx := B.exec
  have hb := B.bytes
  have hr := B.returns
  have hts : ∀ w ∈ GW, w.before (([.ref (ad 0)] : List Value).toArray) s = true := fun w h => atoms_spec (ws := ws_MO_next) B.pre w (List.mem_cons_of_mem _ h)
  have hown : s.vm.findClass R_MO = some m.cls := findClass_of_methodNamed B.named
  have hlocks := B.notSynchronized
  subst hsz
  have hK := hG.1
  have hG9 := hG
  have hNW := hG.2
  have hD0 : ∀ (X : ST) (Y : Int64), va_D (CA ad 23 s.heap.size) (wdM cA ad X Y) := fun _ _ => zwM_D hI
  have hS : va_S (CA ad 23 s.heap.size) s.heap s.heap [] := va_S.rf
  have hl := lv_entry ([.ref (ad 0)]) (n := 2) (Nat.le_of_ble_eq_true rfl)
  rw [lg_entry_eq]
  generalize (lg_sl ([.ref (ad 0)]) ++ List.replicate (2 - (lg_sl ([.ref (ad 0)])).length) Slot.unset).toArray = ls at hl ⊢
  have hl : lv_has ls 2 [(0, .ref (ad 0))] := hl
  have L47 : ∀ (s0 : Int32) (X : ST) (Y : Int64) (H : Heap) (locs : List Loc) (ls : Array Slot), wq_MO_next_47 post s0 X Y → va_P (dC, dI) vwCl (wdM cA ad X Y) H → va_S (CA ad 23 s.heap.size) s.heap H locs → lv_has ls 2 [(0, .ref (ad 0))] → W p l e (headSpec ws_MO_next ({ frames := 0, cells := 0, slots := 0, locals := 0 } : Room)).room s m (([.ref (ad 0)] : List Value).toArray) below meth c H locs 0 0 (MQ below (va_Qi (fun r (u : ST × Int64) => post r u.1 u.2) (fun (u : ST × Int64) t => va_P (dC, dI) vwCl (wdM cA ad u.1 u.2) t.heap) (CA ad 23 s.heap.size)) (([.ref (ad 0)] : List Value).toArray) s 0 0 (CA ad 23 s.heap.size)) (F0 m 47 ls [.int s0]) := by
    intro s0 X Y H locs ls hw hP hS hl
    unfold wq_MO_next_47 at hw
    refine lv_istore_n (lv' := [(1, .int s0), (0, .ref (ad 0))]) hx hb d_MO_next_47 rfl hl (by decide) rfl (fun ls hl => ?_)
    refine lv_aload_n hx hb d_MO_next_48 rfl (lv_at hl 1 rfl) ?_
    refine lv_dup hx hb d_MO_next_49 rfl ?_
    refine va_get (D := (dC, dI)) (ci := 9) (v := .int (X 66 0)) (C := R_MO) (T := T_MO) (N := 36) hx hb hts in_MO hown hK hP (0) atM_MO rfl 31 (by decide) (hts _ gw_396) (fun _ h9 => h9) rfl d_MO_next_50 ?_
    refine lv_iconst (v := (1 : Int32)) hx hb d_MO_next_53 (by decide) ?_
    refine lv_iadd hx hb d_MO_next_54 ?_
    refine va_put (D := (dC, dI)) (ci := 9) (v := .int ((X 66 0) + (1 : Int32))) (ty := .int) (C := R_MO) (T := T_MO) (N := 36) hx hb hts in_MO ty_MO ty_MO_ok nm_MO hown hK hP (hD0 _ _) hS (0) atM_MO rfl 31 (by decide) (hts _ gw_396) (fun _ h9 => h9) rfl (by decide +kernel) rfl rfl (Nat.le_of_ble_eq_true rfl) d_MO_next_55 (fun H locs hP _ hS => ?_)
    have hP : va_P (dC, dI) vwCl (wdM cA ad (up X 66 0 ((X 66 0) + (1 : Int32))) Y) H := by rw [← stM_MO_31]; exact hP
    refine lv_iload_n hx hb d_MO_next_58 rfl (lv_at hl 0 rfl) ?_
    exact W.iret (v := s0) hx hb hr (fun t ht _ => ⟨⟨s0, (up X 66 0 ((X 66 0) + (1 : Int32)), Y), rfl, hw, by show va_P _ _ _ t.heap; rw [ht]; exact hP⟩, hS.F ht⟩) hS.2.2 d_MO_next_59
  have L24 : ∀ (s0 : Int32) (X : ST) (Y : Int64) (H : Heap) (locs : List Loc) (ls : Array Slot), wq_MO_next_24 post s0 X Y → va_P (dC, dI) vwCl (wdM cA ad X Y) H → va_S (CA ad 23 s.heap.size) s.heap H locs → lv_has ls 2 [(0, .ref (ad 0))] → W p l e (headSpec ws_MO_next ({ frames := 0, cells := 0, slots := 0, locals := 0 } : Room)).room s m (([.ref (ad 0)] : List Value).toArray) below meth c H locs 0 0 (MQ below (va_Qi (fun r (u : ST × Int64) => post r u.1 u.2) (fun (u : ST × Int64) t => va_P (dC, dI) vwCl (wdM cA ad u.1 u.2) t.heap) (CA ad 23 s.heap.size)) (([.ref (ad 0)] : List Value).toArray) s 0 0 (CA ad 23 s.heap.size)) (F0 m 24 ls [.int s0, .ref (ad 0)]) := by
    intro s0 X Y H locs ls hw hP hS hl
    unfold wq_MO_next_24 at hw
    obtain ⟨h1, hw⟩ := hw
    refine va_put (D := (dC, dI)) (ci := 9) (v := .int s0) (ty := .boolean) (C := R_MO) (T := T_MO) (N := 36) hx hb hts in_MO ty_MO ty_MO_ok nm_MO hown hK hP (hD0 _ _) hS (0) atM_MO rfl 32 (by decide) (hts _ gw_397) (fun _ h9 => h9) rfl (by decide +kernel) (zw_bn h1) (zw_bf h1) (Nat.le_of_ble_eq_true rfl) d_MO_next_24 (fun H locs hP _ hS => ?_)
    have hP : va_P (dC, dI) vwCl (wdM cA ad (up X 67 0 s0) Y) H := by rw [← stM_MO_32]; exact hP
    refine lv_aload_n hx hb d_MO_next_27 rfl (lv_at hl 0 rfl) ?_
    refine va_get (D := (dC, dI)) (ci := 9) (v := .int s0) (C := R_MO) (T := T_MO) (N := 36) hx hb hts in_MO hown hK hP (0) atM_MO rfl 32 (by decide) (hts _ gw_397) (fun _ h9 => h9) rfl d_MO_next_28 ?_
    refine lv_if_eq (tgt := 46) hx hb d_MO_next_31 (by decide) (fun c2 => ?_) (fun c2 => ?_)
    · have hw := hw.1 c2
      refine lv_iconst (v := (0 : Int32)) hx hb d_MO_next_46 (by decide) ?_
      have hl := lv_sub hl (l' := [(0, .ref (ad 0))]) [0] rfl
      exact L47 _ _ _ _ _ _ hw hP hS hl
    · have hw := hw.2 c2
      refine lv_aload_n hx hb d_MO_next_34 rfl (lv_at hl 0 rfl) ?_
      refine va_get (D := (dC, dI)) (ci := 9) (v := .ref (ad 22)) (C := R_MO) (T := T_MO) (N := 36) hx hb hts in_MO hown hK hP (0) atM_MO rfl 29 (by decide) (hts _ gw_398) (fun _ h9 => h9) rfl d_MO_next_35 ?_
      refine lv_aload_n hx hb d_MO_next_38 rfl (lv_at hl 0 rfl) ?_
      refine va_get (D := (dC, dI)) (ci := 9) (v := .int (X 66 0)) (C := R_MO) (T := T_MO) (N := 36) hx hb hts in_MO hown hK hP (0) atM_MO rfl 31 (by decide) (hts _ gw_396) (fun _ h9 => h9) rfl d_MO_next_39 ?_
      obtain ⟨h3, hw⟩ := hw
      refine va_iald hx hb hK hP (22) 21 atM_text rfl h3 d_MO_next_42 ?_
      refine W.eq (g2 := F0 m 43 ls [.int (X 63 (X 66 0).toNatClampNeg)]) rfl ?_
      refine lv_goto (tgt := 47) hx hb d_MO_next_43 (by decide) ?_
      have hl := lv_sub hl (l' := [(0, .ref (ad 0))]) [0] rfl
      exact L47 _ _ _ _ _ _ hw hP hS hl
  unfold wp_MO_next at hw
  refine lv_aload_n hx hb d_MO_next_0 rfl (lv_at hl 0 rfl) ?_
  refine lv_aload_n hx hb d_MO_next_1 rfl (lv_at hl 0 rfl) ?_
  refine va_get (D := (dC, dI)) (ci := 9) (v := .int (X 67 0)) (C := R_MO) (T := T_MO) (N := 36) hx hb hts in_MO hown hK hP (0) atM_MO rfl 32 (by decide) (hts _ gw_397) (fun _ h9 => h9) rfl d_MO_next_2 ?_
  refine lv_if_eq (tgt := 23) hx hb d_MO_next_5 (by decide) (fun c4 => ?_) (fun c4 => ?_)
  · have hw := hw.1 c4
    refine lv_iconst (v := (0 : Int32)) hx hb d_MO_next_23 (by decide) ?_
    have hl := lv_sub hl (l' := [(0, .ref (ad 0))]) [0] rfl
    exact L24 _ _ _ _ _ _ hw hP hS hl
  · have hw := hw.2 c4
    refine lv_aload_n hx hb d_MO_next_8 rfl (lv_at hl 0 rfl) ?_
    refine va_get (D := (dC, dI)) (ci := 9) (v := .int (X 66 0)) (C := R_MO) (T := T_MO) (N := 36) hx hb hts in_MO hown hK hP (0) atM_MO rfl 31 (by decide) (hts _ gw_396) (fun _ h9 => h9) rfl d_MO_next_9 ?_
    refine lv_aload_n hx hb d_MO_next_12 rfl (lv_at hl 0 rfl) ?_
    refine va_get (D := (dC, dI)) (ci := 9) (v := .int (X 7 0)) (C := R_MO) (T := T_MO) (N := 36) hx hb hts in_MO hown hK hP (0) atM_MO rfl 30 (by decide) (hts _ gw_399) (fun _ h9 => h9) rfl d_MO_next_13 ?_
    refine lv_icmp_ge (tgt := 23) hx hb d_MO_next_16 (by decide) (fun c5 => ?_) (fun c5 => ?_)
    · have hw := hw.1 c5
      refine lv_iconst (v := (0 : Int32)) hx hb d_MO_next_23 (by decide) ?_
      have hl := lv_sub hl (l' := [(0, .ref (ad 0))]) [0] rfl
      exact L24 _ _ _ _ _ _ hw hP hS hl
    · have hw := hw.2 c5
      refine lv_iconst (v := (1 : Int32)) hx hb d_MO_next_19 (by decide) ?_
      refine lv_goto (tgt := 24) hx hb d_MO_next_20 (by decide) ?_
      have hl := lv_sub hl (l' := [(0, .ref (ad 0))]) [0] rfl
      exact L24 _ _ _ _ _ _ hw hP hS hl
