def ws_MO_finish : List Cond := Cond.code y_MO_finish c_MO_finish 8 (Option.some Jvm.ClassFile.FieldType.int) :: GW
theorem d_MO_finish_0 : decode c_MO_finish 0 = .ok (.aload_n 0, 1) := by decide +kernel
theorem d_MO_finish_1 : decode c_MO_finish 1 = .ok (.invokevirtual 203, 3) := by decide +kernel
theorem d_MO_finish_4 : decode c_MO_finish 4 = .ok (.istore 5, 2) := by decide +kernel
theorem d_MO_finish_6 : decode c_MO_finish 6 = .ok (.aload_n 0, 1) := by decide +kernel
theorem d_MO_finish_7 : decode c_MO_finish 7 = .ok (.aload_n 0, 1) := by decide +kernel
theorem d_MO_finish_8 : decode c_MO_finish 8 = .ok (.iload_n 1, 1) := by decide +kernel
theorem d_MO_finish_9 : decode c_MO_finish 9 = .ok (.iload_n 2, 1) := by decide +kernel
theorem d_MO_finish_10 : decode c_MO_finish 10 = .ok (.aload_n 0, 1) := by decide +kernel
theorem d_MO_finish_11 : decode c_MO_finish 11 = .ok (.iconst 4, 1) := by decide +kernel
theorem d_MO_finish_12 : decode c_MO_finish 12 = .ok (.iload_n 1, 1) := by decide +kernel
theorem d_MO_finish_13 : decode c_MO_finish 13 = .ok (.iload_n 2, 1) := by decide +kernel
theorem d_MO_finish_14 : decode c_MO_finish 14 = .ok (.iload_n 3, 1) := by decide +kernel
theorem d_MO_finish_15 : decode c_MO_finish 15 = .ok (.iload 5, 2) := by decide +kernel
theorem d_MO_finish_17 : decode c_MO_finish 17 = .ok (.invokevirtual 116, 3) := by decide +kernel
theorem d_MO_finish_20 : decode c_MO_finish 20 = .ok (.iload 4, 2) := by decide +kernel
theorem d_MO_finish_22 : decode c_MO_finish 22 = .ok (.invokevirtual 151, 3) := by decide +kernel
theorem d_MO_finish_25 : decode c_MO_finish 25 = .ok (.putfield 81, 3) := by decide +kernel
theorem d_MO_finish_28 : decode c_MO_finish 28 = .ok (.aload_n 0, 1) := by decide +kernel
theorem d_MO_finish_29 : decode c_MO_finish 29 = .ok (.getfield 81, 3) := by decide +kernel
theorem d_MO_finish_32 : decode c_MO_finish 32 = .ok (.ifCond .eq 5, 3) := by decide +kernel
theorem d_MO_finish_35 : decode c_MO_finish 35 = .ok (.iconst 0, 1) := by decide +kernel
theorem d_MO_finish_36 : decode c_MO_finish 36 = .ok (.ireturn, 1) := by decide +kernel
theorem d_MO_finish_37 : decode c_MO_finish 37 = .ok (.iload_n 3, 1) := by decide +kernel
theorem d_MO_finish_38 : decode c_MO_finish 38 = .ok (.ifCond .lt 15, 3) := by decide +kernel
theorem d_MO_finish_41 : decode c_MO_finish 41 = .ok (.iload_n 3, 1) := by decide +kernel
theorem d_MO_finish_42 : decode c_MO_finish 42 = .ok (.aload_n 0, 1) := by decide +kernel
theorem d_MO_finish_43 : decode c_MO_finish 43 = .ok (.getfield 134, 3) := by decide +kernel
theorem d_MO_finish_46 : decode c_MO_finish 46 = .ok (.if_icmp .ge 7, 3) := by decide +kernel
theorem d_MO_finish_49 : decode c_MO_finish 49 = .ok (.iconst 1, 1) := by decide +kernel
theorem d_MO_finish_50 : decode c_MO_finish 50 = .ok (.goto 4, 3) := by decide +kernel
theorem d_MO_finish_53 : decode c_MO_finish 53 = .ok (.iconst 0, 1) := by decide +kernel
theorem d_MO_finish_54 : decode c_MO_finish 54 = .ok (.istore 6, 2) := by decide +kernel
theorem d_MO_finish_56 : decode c_MO_finish 56 = .ok (.aload_n 0, 1) := by decide +kernel
theorem d_MO_finish_57 : decode c_MO_finish 57 = .ok (.iload 6, 2) := by decide +kernel
theorem d_MO_finish_59 : decode c_MO_finish 59 = .ok (.ifCond .ne 7, 3) := by decide +kernel
theorem d_MO_finish_62 : decode c_MO_finish 62 = .ok (.iconst 1, 1) := by decide +kernel
theorem d_MO_finish_63 : decode c_MO_finish 63 = .ok (.goto 41, 3) := by decide +kernel
theorem d_MO_finish_66 : decode c_MO_finish 66 = .ok (.aload_n 0, 1) := by decide +kernel
theorem d_MO_finish_67 : decode c_MO_finish 67 = .ok (.getfield 17, 3) := by decide +kernel
theorem d_MO_finish_70 : decode c_MO_finish 70 = .ok (.iload_n 3, 1) := by decide +kernel
theorem d_MO_finish_71 : decode c_MO_finish 71 = .ok (.iaload, 1) := by decide +kernel
theorem d_MO_finish_72 : decode c_MO_finish 72 = .ok (.iload_n 1, 1) := by decide +kernel
theorem d_MO_finish_73 : decode c_MO_finish 73 = .ok (.if_icmp .eq 7, 3) := by decide +kernel
theorem d_MO_finish_76 : decode c_MO_finish 76 = .ok (.iconst 2, 1) := by decide +kernel
theorem d_MO_finish_77 : decode c_MO_finish 77 = .ok (.goto 27, 3) := by decide +kernel
theorem d_MO_finish_80 : decode c_MO_finish 80 = .ok (.aload_n 0, 1) := by decide +kernel
theorem d_MO_finish_81 : decode c_MO_finish 81 = .ok (.getfield 26, 3) := by decide +kernel
theorem d_MO_finish_84 : decode c_MO_finish 84 = .ok (.iload_n 3, 1) := by decide +kernel
theorem d_MO_finish_85 : decode c_MO_finish 85 = .ok (.iaload, 1) := by decide +kernel
theorem d_MO_finish_86 : decode c_MO_finish 86 = .ok (.iconst 1, 1) := by decide +kernel
theorem d_MO_finish_87 : decode c_MO_finish 87 = .ok (.if_icmp .ne 12, 3) := by decide +kernel
theorem d_MO_finish_90 : decode c_MO_finish 90 = .ok (.aload_n 0, 1) := by decide +kernel
theorem d_MO_finish_91 : decode c_MO_finish 91 = .ok (.getfield 206, 3) := by decide +kernel
theorem d_MO_finish_94 : decode c_MO_finish 94 = .ok (.bipush 12, 2) := by decide +kernel
theorem d_MO_finish_96 : decode c_MO_finish 96 = .ok (.if_icmp .ne 7, 3) := by decide +kernel
theorem d_MO_finish_99 : decode c_MO_finish 99 = .ok (.iconst 4, 1) := by decide +kernel
theorem d_MO_finish_100 : decode c_MO_finish 100 = .ok (.goto 4, 3) := by decide +kernel
theorem d_MO_finish_103 : decode c_MO_finish 103 = .ok (.iconst 0, 1) := by decide +kernel
theorem d_MO_finish_104 : decode c_MO_finish 104 = .ok (.putfield 81, 3) := by decide +kernel
theorem d_MO_finish_107 : decode c_MO_finish 107 = .ok (.aload_n 0, 1) := by decide +kernel
theorem d_MO_finish_108 : decode c_MO_finish 108 = .ok (.getfield 81, 3) := by decide +kernel
theorem d_MO_finish_111 : decode c_MO_finish 111 = .ok (.ifCond .eq 5, 3) := by decide +kernel
theorem d_MO_finish_114 : decode c_MO_finish 114 = .ok (.iconst 0, 1) := by decide +kernel
theorem d_MO_finish_115 : decode c_MO_finish 115 = .ok (.ireturn, 1) := by decide +kernel
theorem d_MO_finish_116 : decode c_MO_finish 116 = .ok (.aload_n 0, 1) := by decide +kernel
theorem d_MO_finish_117 : decode c_MO_finish 117 = .ok (.invokevirtual 209, 3) := by decide +kernel
theorem d_MO_finish_120 : decode c_MO_finish 120 = .ok (.aload_n 0, 1) := by decide +kernel
theorem d_MO_finish_121 : decode c_MO_finish 121 = .ok (.getfield 175, 3) := by decide +kernel
theorem d_MO_finish_124 : decode c_MO_finish 124 = .ok (.ifCond .eq 29, 3) := by decide +kernel
theorem d_MO_finish_127 : decode c_MO_finish 127 = .ok (.aload_n 0, 1) := by decide +kernel
theorem d_MO_finish_128 : decode c_MO_finish 128 = .ok (.getfield 200, 3) := by decide +kernel
theorem d_MO_finish_131 : decode c_MO_finish 131 = .ok (.aload_n 0, 1) := by decide +kernel
theorem d_MO_finish_132 : decode c_MO_finish 132 = .ok (.getfield 20, 3) := by decide +kernel
theorem d_MO_finish_135 : decode c_MO_finish 135 = .ok (.iload_n 3, 1) := by decide +kernel
theorem d_MO_finish_136 : decode c_MO_finish 136 = .ok (.iaload, 1) := by decide +kernel
theorem d_MO_finish_137 : decode c_MO_finish 137 = .ok (.if_icmp .ne 16, 3) := by decide +kernel
theorem d_MO_finish_140 : decode c_MO_finish 140 = .ok (.aload_n 0, 1) := by decide +kernel
theorem d_MO_finish_141 : decode c_MO_finish 141 = .ok (.getfield 197, 3) := by decide +kernel
theorem d_MO_finish_144 : decode c_MO_finish 144 = .ok (.aload_n 0, 1) := by decide +kernel
theorem d_MO_finish_145 : decode c_MO_finish 145 = .ok (.getfield 7, 3) := by decide +kernel
theorem d_MO_finish_148 : decode c_MO_finish 148 = .ok (.iload_n 1, 1) := by decide +kernel
theorem d_MO_finish_149 : decode c_MO_finish 149 = .ok (.iaload, 1) := by decide +kernel
theorem d_MO_finish_150 : decode c_MO_finish 150 = .ok (.if_icmp .ne 10, 3) := by decide +kernel
theorem d_MO_finish_153 : decode c_MO_finish 153 = .ok (.aload_n 0, 1) := by decide +kernel
theorem d_MO_finish_154 : decode c_MO_finish 154 = .ok (.iconst 3, 1) := by decide +kernel
theorem d_MO_finish_155 : decode c_MO_finish 155 = .ok (.putfield 81, 3) := by decide +kernel
theorem d_MO_finish_158 : decode c_MO_finish 158 = .ok (.iconst 0, 1) := by decide +kernel
theorem d_MO_finish_159 : decode c_MO_finish 159 = .ok (.ireturn, 1) := by decide +kernel
theorem d_MO_finish_160 : decode c_MO_finish 160 = .ok (.aload_n 0, 1) := by decide +kernel
theorem d_MO_finish_161 : decode c_MO_finish 161 = .ok (.getfield 206, 3) := by decide +kernel
theorem d_MO_finish_164 : decode c_MO_finish 164 = .ok (.istore 7, 2) := by decide +kernel
theorem d_MO_finish_166 : decode c_MO_finish 166 = .ok (.aload_n 0, 1) := by decide +kernel
theorem d_MO_finish_167 : decode c_MO_finish 167 = .ok (.getfield 59, 3) := by decide +kernel
theorem d_MO_finish_170 : decode c_MO_finish 170 = .ok (.iload 7, 2) := by decide +kernel
theorem d_MO_finish_172 : decode c_MO_finish 172 = .ok (.iload_n 3, 1) := by decide +kernel
theorem d_MO_finish_173 : decode c_MO_finish 173 = .ok (.iastore, 1) := by decide +kernel
theorem d_MO_finish_174 : decode c_MO_finish 174 = .ok (.aload_n 0, 1) := by decide +kernel
theorem d_MO_finish_175 : decode c_MO_finish 175 = .ok (.getfield 62, 3) := by decide +kernel
theorem d_MO_finish_178 : decode c_MO_finish 178 = .ok (.iload 7, 2) := by decide +kernel
theorem d_MO_finish_180 : decode c_MO_finish 180 = .ok (.aload_n 0, 1) := by decide +kernel
theorem d_MO_finish_181 : decode c_MO_finish 181 = .ok (.getfield 197, 3) := by decide +kernel
theorem d_MO_finish_184 : decode c_MO_finish 184 = .ok (.iastore, 1) := by decide +kernel
theorem d_MO_finish_185 : decode c_MO_finish 185 = .ok (.aload_n 0, 1) := by decide +kernel
theorem d_MO_finish_186 : decode c_MO_finish 186 = .ok (.getfield 65, 3) := by decide +kernel
theorem d_MO_finish_189 : decode c_MO_finish 189 = .ok (.iload 7, 2) := by decide +kernel
theorem d_MO_finish_191 : decode c_MO_finish 191 = .ok (.aload_n 0, 1) := by decide +kernel
theorem d_MO_finish_192 : decode c_MO_finish 192 = .ok (.getfield 144, 3) := by decide +kernel
theorem d_MO_finish_195 : decode c_MO_finish 195 = .ok (.iastore, 1) := by decide +kernel
theorem d_MO_finish_196 : decode c_MO_finish 196 = .ok (.aload_n 0, 1) := by decide +kernel
theorem d_MO_finish_197 : decode c_MO_finish 197 = .ok (.getfield 68, 3) := by decide +kernel
theorem d_MO_finish_200 : decode c_MO_finish 200 = .ok (.iload 7, 2) := by decide +kernel
theorem d_MO_finish_202 : decode c_MO_finish 202 = .ok (.iconst (-1), 1) := by decide +kernel
theorem d_MO_finish_203 : decode c_MO_finish 203 = .ok (.iastore, 1) := by decide +kernel
theorem d_MO_finish_204 : decode c_MO_finish 204 = .ok (.aload_n 0, 1) := by decide +kernel
theorem d_MO_finish_205 : decode c_MO_finish 205 = .ok (.dup, 1) := by decide +kernel
theorem d_MO_finish_206 : decode c_MO_finish 206 = .ok (.getfield 206, 3) := by decide +kernel
theorem d_MO_finish_209 : decode c_MO_finish 209 = .ok (.iconst 1, 1) := by decide +kernel
theorem d_MO_finish_210 : decode c_MO_finish 210 = .ok (.iadd, 1) := by decide +kernel
theorem d_MO_finish_211 : decode c_MO_finish 211 = .ok (.putfield 206, 3) := by decide +kernel
theorem d_MO_finish_214 : decode c_MO_finish 214 = .ok (.aload_n 0, 1) := by decide +kernel
theorem d_MO_finish_215 : decode c_MO_finish 215 = .ok (.getfield 29, 3) := by decide +kernel
theorem d_MO_finish_218 : decode c_MO_finish 218 = .ok (.iload_n 3, 1) := by decide +kernel
theorem d_MO_finish_219 : decode c_MO_finish 219 = .ok (.iload 7, 2) := by decide +kernel
theorem d_MO_finish_221 : decode c_MO_finish 221 = .ok (.iastore, 1) := by decide +kernel
theorem d_MO_finish_222 : decode c_MO_finish 222 = .ok (.aload_n 0, 1) := by decide +kernel
theorem d_MO_finish_223 : decode c_MO_finish 223 = .ok (.getfield 26, 3) := by decide +kernel
theorem d_MO_finish_226 : decode c_MO_finish 226 = .ok (.iload_n 3, 1) := by decide +kernel
theorem d_MO_finish_227 : decode c_MO_finish 227 = .ok (.iconst 2, 1) := by decide +kernel
theorem d_MO_finish_228 : decode c_MO_finish 228 = .ok (.iastore, 1) := by decide +kernel
theorem d_MO_finish_229 : decode c_MO_finish 229 = .ok (.iload 7, 2) := by decide +kernel
theorem d_MO_finish_231 : decode c_MO_finish 231 = .ok (.ireturn, 1) := by decide +kernel
def wq_MO_finish_153 (post : Int32 → ST → Int64 → Prop) (X : ST) (Y : Int64) : Prop := post (0 : Int32) (up X 90 0 (3 : Int32)) Y
def wq_MO_finish_104 (post : Int32 → ST → Int64 → Prop) (s0 : Int32) (v1 : Int32) (v3 : Int32) (X : ST) (Y : Int64) : Prop := ((s0 = 0 → wp_MO_readRequest (fun (X2 : ST) (Y3 : Int64) => (((X2 67 0) = 0 → wq_MO_finish_153 post X2 Y3) ∧ (¬ (X2 67 0) = 0 → (vp_in v3 12 ∧ (((X2 65 0) = (X2 22 v3.toNatClampNeg) → (vp_in v1 6 ∧ (((X2 64 0) = (X2 11 v1.toNatClampNeg) → wq_MO_finish_153 post X2 Y3) ∧ (¬ (X2 64 0) = (X2 11 v1.toNatClampNeg) → (vp_in (X2 5 0) 12 ∧ post (X2 5 0) (up (up (up (up (up (up (up X2 51 ((X2 5 0).toNatClampNeg) v3) 53 ((X2 5 0).toNatClampNeg) (X2 64 0)) 54 ((X2 5 0).toNatClampNeg) (X2 1 0)) 55 ((X2 5 0).toNatClampNeg) (-1 : Int32)) 5 0 ((X2 5 0) + (1 : Int32))) 24 v3.toNatClampNeg (X2 5 0)) 20 v3.toNatClampNeg (2 : Int32)) Y3))))) ∧ (¬ (X2 65 0) = (X2 22 v3.toNatClampNeg) → wq_MO_finish_153 post X2 Y3)))))) (up X 90 0 s0) Y) ∧ (¬ s0 = 0 → post (0 : Int32) (up X 90 0 s0) Y))
def wq_MO_finish_54 (post : Int32 → ST → Int64 → Prop) (s0 : Int32) (v1 : Int32) (v3 : Int32) (X : ST) (Y : Int64) : Prop := ((s0 = 0 → wq_MO_finish_104 post (1 : Int32) v1 v3 X Y) ∧ (¬ s0 = 0 → (vp_in v3 12 ∧ (((X 21 v3.toNatClampNeg) = v1 → (((X 20 v3.toNatClampNeg) = (1 : Int32) → (((X 5 0) = (12 : Int32) → wq_MO_finish_104 post (4 : Int32) v1 v3 X Y) ∧ (¬ (X 5 0) = (12 : Int32) → wq_MO_finish_104 post (0 : Int32) v1 v3 X Y))) ∧ (¬ (X 20 v3.toNatClampNeg) = (1 : Int32) → wq_MO_finish_104 post (4 : Int32) v1 v3 X Y))) ∧ (¬ (X 21 v3.toNatClampNeg) = v1 → wq_MO_finish_104 post (2 : Int32) v1 v3 X Y)))))
def wp_MO_finish (post : Int32 → ST → Int64 → Prop) (X : ST) (Y : Int64) (a1 : Int32) (a2 : Int32) (a3 : Int32) (a4 : Int32) : Prop := wp_MO_textDigest (fun (r18 : Int32) (X16 : ST) (Y17 : Int64) => wp_MO_five (fun (r21 : Int32) (X19 : ST) (Y20 : Int64) => wp_MO_signed (fun (r24 : Int32) (X22 : ST) (Y23 : Int64) => ((r24 = 0 → ((a3 < 0 → wq_MO_finish_54 post (0 : Int32) a1 a3 (up X22 90 0 r24) Y23) ∧ (¬ a3 < 0 → (((X22 3 0) ≤ a3 → wq_MO_finish_54 post (0 : Int32) a1 a3 (up X22 90 0 r24) Y23) ∧ (¬ (X22 3 0) ≤ a3 → wq_MO_finish_54 post (1 : Int32) a1 a3 (up X22 90 0 r24) Y23))))) ∧ (¬ r24 = 0 → post (0 : Int32) (up X22 90 0 r24) Y23))) X19 Y20 a1 a2 r21 a4) X16 Y17 (4 : Int32) a1 a2 a3 r18) X Y
set_option maxHeartbeats 4000000 in
set_option maxRecDepth 100000 in
theorem mt_MO_finish (l : Launch) (hl9 : l.stackTraces = false) (dC : Nat → ClassId) (dI : Nat → Nat → Nat) (cA : Nat → ClassId) (ad : Nat → Nat) (hI : INJ ad 23) (sz : Nat) {X : ST} {Y : Int64} {a1 : Int32} {a2 : Int32} {a3 : Int32} {a4 : Int32} {post : Int32 → ST → Int64 → Prop} (hw : wp_MO_finish post X Y a1 a2 a3 a4) : Met l y_MO_finish ws_MO_finish ({ frames := 4, cells := 0, slots := 0, locals := 92 } : Room) (va_Pc [.ref (ad 0), .int a1, .int a2, .int a3, .int a4] (fun U => PM dC dI cA ad sz X Y U)) (va_Qi (fun r (u : ST × Int64) => post r u.1 u.2) (fun (u : ST × Int64) t => va_P (dC, dI) vwCl (wdM cA ad u.1 u.2) t.heap) (CA ad 23 sz)) 0 0 (CA ad 23 sz) := by
  refine Met.ofW (cc := c_MO_finish) (maxL := 8) (ret := (some .int)) (by decide) rfl ?_
  intro p e s m args below meth c s₁ B hml hv
  obtain ⟨rfl, hsz, hP, hG⟩ := hv
  have hx := B.exec
  have hb := B.bytes
  have hr := B.returns
  have hts : ∀ w ∈ GW, w.before (([.ref (ad 0), .int a1, .int a2, .int a3, .int a4] : List Value).toArray) s = true := fun w h => atoms_spec (ws := ws_MO_finish) B.pre w (List.mem_cons_of_mem _ h)
  have hown : s.vm.findClass R_MO = some m.cls := findClass_of_methodNamed B.named
  have hlocks := B.notSynchronized
  subst hsz
  have hK := hG.1
  have hG9 := hG
  have hNW := hG.2
  have hD0 : ∀ (X : ST) (Y : Int64), va_D (CA ad 23 s.heap.size) (wdM cA ad X Y) := fun _ _ => zwM_D hI
  have hS : va_S (CA ad 23 s.heap.size) s.heap s.heap [] := va_S.rf
  have hl := lv_entry ([.ref (ad 0), .int a1, .int a2, .int a3, .int a4]) (n := 8) (Nat.le_of_ble_eq_true rfl)
  rw [lg_entry_eq]
  generalize (lg_sl ([.ref (ad 0), .int a1, .int a2, .int a3, .int a4]) ++ List.replicate (8 - (lg_sl ([.ref (ad 0), .int a1, .int a2, .int a3, .int a4])).length) Slot.unset).toArray = ls at hl ⊢
  have hl : lv_has ls 8 [(0, .ref (ad 0)), (1, .int a1), (2, .int a2), (3, .int a3), (4, .int a4)] := hl
  have L153 : ∀ (X : ST) (Y : Int64) (H : Heap) (locs : List Loc) (ls : Array Slot), wq_MO_finish_153 post X Y → va_P (dC, dI) vwCl (wdM cA ad X Y) H → va_S (CA ad 23 s.heap.size) s.heap H locs → lv_has ls 8 [(0, .ref (ad 0))] → W p l e (headSpec ws_MO_finish ({ frames := 4, cells := 0, slots := 0, locals := 92 } : Room)).room s m (([.ref (ad 0), .int a1, .int a2, .int a3, .int a4] : List Value).toArray) below meth c H locs 0 0 (MQ below (va_Qi (fun r (u : ST × Int64) => post r u.1 u.2) (fun (u : ST × Int64) t => va_P (dC, dI) vwCl (wdM cA ad u.1 u.2) t.heap) (CA ad 23 s.heap.size)) (([.ref (ad 0), .int a1, .int a2, .int a3, .int a4] : List Value).toArray) s 0 0 (CA ad 23 s.heap.size)) (F0 m 153 ls []) := by
    intro X Y H locs ls hw hP hS hl
    unfold wq_MO_finish_153 at hw
    refine lv_aload_n hx hb d_MO_finish_153 rfl (lv_at hl 0 rfl) ?_
    refine lv_iconst (v := (3 : Int32)) hx hb d_MO_finish_154 (by decide) ?_
    refine va_put (D := (dC, dI)) (ci := 9) (v := .int (3 : Int32)) (ty := .int) (C := R_MO) (T := T_MO) (N := 36) hx hb hts in_MO ty_MO ty_MO_ok nm_MO hown hK hP (hD0 _ _) hS (0) atM_MO rfl 0 (by decide) (hts _ gw_297) (fun _ h9 => h9) rfl (by decide +kernel) rfl rfl (Nat.le_of_ble_eq_true rfl) d_MO_finish_155 (fun H locs hP _ hS => ?_)
    have hP : va_P (dC, dI) vwCl (wdM cA ad (up X 90 0 (3 : Int32)) Y) H := by rw [← stM_MO_0]; exact hP
    refine lv_iconst (v := (0 : Int32)) hx hb d_MO_finish_158 (by decide) ?_
    exact W.iret (v := (0 : Int32)) hx hb hr (fun t ht _ => ⟨⟨(0 : Int32), (up X 90 0 (3 : Int32), Y), rfl, hw, by show va_P _ _ _ t.heap; rw [ht]; exact hP⟩, hS.F ht⟩) hS.2.2 d_MO_finish_159
  have L104 : ∀ (s0 : Int32) (v1 : Int32) (v3 : Int32) (X : ST) (Y : Int64) (H : Heap) (locs : List Loc) (ls : Array Slot), wq_MO_finish_104 post s0 v1 v3 X Y → va_P (dC, dI) vwCl (wdM cA ad X Y) H → va_S (CA ad 23 s.heap.size) s.heap H locs → lv_has ls 8 [(0, .ref (ad 0)), (1, .int v1), (3, .int v3)] → W p l e (headSpec ws_MO_finish ({ frames := 4, cells := 0, slots := 0, locals := 92 } : Room)).room s m (([.ref (ad 0), .int a1, .int a2, .int a3, .int a4] : List Value).toArray) below meth c H locs 0 0 (MQ below (va_Qi (fun r (u : ST × Int64) => post r u.1 u.2) (fun (u : ST × Int64) t => va_P (dC, dI) vwCl (wdM cA ad u.1 u.2) t.heap) (CA ad 23 s.heap.size)) (([.ref (ad 0), .int a1, .int a2, .int a3, .int a4] : List Value).toArray) s 0 0 (CA ad 23 s.heap.size)) (F0 m 104 ls [.int s0, .ref (ad 0)]) := by
    intro s0 v1 v3 X Y H locs ls hw hP hS hl
    unfold wq_MO_finish_104 at hw
    refine va_put (D := (dC, dI)) (ci := 9) (v := .int s0) (ty := .int) (C := R_MO) (T := T_MO) (N := 36) hx hb hts in_MO ty_MO ty_MO_ok nm_MO hown hK hP (hD0 _ _) hS (0) atM_MO rfl 0 (by decide) (hts _ gw_297) (fun _ h9 => h9) rfl (by decide +kernel) rfl rfl (Nat.le_of_ble_eq_true rfl) d_MO_finish_104 (fun H locs hP _ hS => ?_)
    have hP : va_P (dC, dI) vwCl (wdM cA ad (up X 90 0 s0) Y) H := by rw [← stM_MO_0]; exact hP
    refine lv_aload_n hx hb d_MO_finish_107 rfl (lv_at hl 0 rfl) ?_
    refine va_get (D := (dC, dI)) (ci := 9) (v := .int s0) (C := R_MO) (T := T_MO) (N := 36) hx hb hts in_MO hown hK hP (0) atM_MO rfl 0 (by decide) (hts _ gw_297) (fun _ h9 => h9) rfl d_MO_finish_108 ?_
    refine lv_if_eq (tgt := 116) hx hb d_MO_finish_111 (by decide) (fun c1 => ?_) (fun c1 => ?_)
    · have hw := hw.1 c1
      refine lv_aload_n hx hb d_MO_finish_116 rfl (lv_at hl 0 rfl) ?_
      refine va_callv (va_runV (As := []) (rest := []) ⟨hx, hb, hml, hown, hts⟩ (mt_MO_readRequest l hl9 dC dI cA ad hI _ hw) (cwV 0 hts (gV gw_423 gw_424 gw_425 gw_306 gw_422) rfl rfl rfl (by decide +kernel) ⟨Nat.le_of_ble_eq_true rfl, Nat.le_of_ble_eq_true rfl⟩) ⟨zwM_blind, va_recv hK hP (ci := 9) (q0 := 0) rfl atM_MO, zwM_pre hP hS hG9⟩ rfl rfl hl.1 rfl (lv_room (Nat.le_of_ble_eq_true rfl)) d_MO_finish_117 ⟨Nat.le_of_ble_eq_true rfl, Nat.le_of_ble_eq_true rfl⟩) hS (fun q _ h => CA_le hS.1 q h) (fun q h => CA_le hS.1 q h) (fun u9 t H locs ht hvm hw hP hz1 hk1 hS => ?_)
      obtain ⟨X2, Y3⟩ := u9
      have hP : va_P (dC, dI) vwCl (wdM cA ad X2 Y3) H := by rw [← ht]; exact hP
      try dsimp only at hw
      refine lv_aload_n hx hb d_MO_finish_120 rfl (lv_at hl 0 rfl) ?_
      refine va_get (D := (dC, dI)) (ci := 9) (v := .int (X2 67 0)) (C := R_MO) (T := T_MO) (N := 36) hx hb hts in_MO hown hK hP (0) atM_MO rfl 32 (by decide) (hts _ gw_397) (fun _ h9 => h9) rfl d_MO_finish_121 ?_
      refine lv_if_eq (tgt := 153) hx hb d_MO_finish_124 (by decide) (fun c5 => ?_) (fun c5 => ?_)
      · have hw := hw.1 c5
        have hl := lv_sub hl (l' := [(0, .ref (ad 0))]) [0] rfl
        exact L153 _ _ _ _ _ hw hP hS hl
      · have hw := hw.2 c5
        refine lv_aload_n hx hb d_MO_finish_127 rfl (lv_at hl 0 rfl) ?_
        refine va_get (D := (dC, dI)) (ci := 9) (v := .int (X2 65 0)) (C := R_MO) (T := T_MO) (N := 36) hx hb hts in_MO hown hK hP (0) atM_MO rfl 34 (by decide) (hts _ gw_417) (fun _ h9 => h9) rfl d_MO_finish_128 ?_
        refine lv_aload_n hx hb d_MO_finish_131 rfl (lv_at hl 0 rfl) ?_
        refine va_get (D := (dC, dI)) (ci := 9) (v := .ref (ad 4)) (C := R_MO) (T := T_MO) (N := 36) hx hb hts in_MO hown hK hP (0) atM_MO rfl 8 (by decide) (hts _ gw_374) (fun _ h9 => h9) rfl d_MO_finish_132 ?_
        refine lv_iload_n hx hb d_MO_finish_135 rfl (lv_at hl 2 rfl) ?_
        obtain ⟨h6, hw⟩ := hw
        refine va_iald hx hb hK hP (4) 3 atM_orderNames rfl h6 d_MO_finish_136 ?_
        refine lv_icmp_ne (tgt := 153) hx hb d_MO_finish_137 (by decide) (fun c7 => ?_) (fun c7 => ?_)
        · have hw := hw.2 c7
          have hl := lv_sub hl (l' := [(0, .ref (ad 0))]) [0] rfl
          exact L153 _ _ _ _ _ hw hP hS hl
        · have hw := hw.1 c7
          refine lv_aload_n hx hb d_MO_finish_140 rfl (lv_at hl 0 rfl) ?_
          refine va_get (D := (dC, dI)) (ci := 9) (v := .int (X2 64 0)) (C := R_MO) (T := T_MO) (N := 36) hx hb hts in_MO hown hK hP (0) atM_MO rfl 33 (by decide) (hts _ gw_416) (fun _ h9 => h9) rfl d_MO_finish_141 ?_
          refine lv_aload_n hx hb d_MO_finish_144 rfl (lv_at hl 0 rfl) ?_
          refine va_get (D := (dC, dI)) (ci := 9) (v := .ref (ad 1)) (C := R_MO) (T := T_MO) (N := 36) hx hb hts in_MO hown hK hP (0) atM_MO rfl 4 (by decide) (hts _ gw_333) (fun _ h9 => h9) rfl d_MO_finish_145 ?_
          refine lv_iload_n hx hb d_MO_finish_148 rfl (lv_at hl 1 rfl) ?_
          obtain ⟨h8, hw⟩ := hw
          refine va_iald hx hb hK hP (1) 0 atM_keys rfl h8 d_MO_finish_149 ?_
          refine lv_icmp_ne (tgt := 160) hx hb d_MO_finish_150 (by decide) (fun c9 => ?_) (fun c9 => ?_)
          · have hw := hw.2 c9
            refine lv_aload_n hx hb d_MO_finish_160 rfl (lv_at hl 0 rfl) ?_
            refine va_get (D := (dC, dI)) (ci := 9) (v := .int (X2 5 0)) (C := R_MO) (T := T_MO) (N := 36) hx hb hts in_MO hown hK hP (0) atM_MO rfl 22 (by decide) (hts _ gw_426) (fun _ h9 => h9) rfl d_MO_finish_161 ?_
            refine lv_istore (lv' := [(7, .int (X2 5 0)), (0, .ref (ad 0)), (1, .int v1), (3, .int v3)]) hx hb d_MO_finish_164 hl (by decide) rfl (fun ls hl => ?_)
            refine lv_aload_n hx hb d_MO_finish_166 rfl (lv_at hl 1 rfl) ?_
            refine va_get (D := (dC, dI)) (ci := 9) (v := .ref (ad 17)) (C := R_MO) (T := T_MO) (N := 36) hx hb hts in_MO hown hK hP (0) atM_MO rfl 23 (by decide) (hts _ gw_427) (fun _ h9 => h9) rfl d_MO_finish_167 ?_
            refine lv_iload hx hb d_MO_finish_170 (lv_at hl 0 rfl) ?_
            refine lv_iload_n hx hb d_MO_finish_172 rfl (lv_at hl 3 rfl) ?_
            obtain ⟨h10, hw⟩ := hw
            refine va_iast hx hb hK hP (hD0 _ _) hS (17) 16 atM_paperOrder rfl h10 d_MO_finish_173 (fun H locs hP _ hS => ?_)
            have hP : va_P (dC, dI) vwCl (wdM cA ad (up X2 51 ((X2 5 0).toNatClampNeg) v3) Y3) H := by rw [← stM_paperOrder]; exact hP
            refine lv_aload_n hx hb d_MO_finish_174 rfl (lv_at hl 1 rfl) ?_
            refine va_get (D := (dC, dI)) (ci := 9) (v := .ref (ad 18)) (C := R_MO) (T := T_MO) (N := 36) hx hb hts in_MO hown hK hP (0) atM_MO rfl 24 (by decide) (hts _ gw_428) (fun _ h9 => h9) rfl d_MO_finish_175 ?_
            refine lv_iload hx hb d_MO_finish_178 (lv_at hl 0 rfl) ?_
            refine lv_aload_n hx hb d_MO_finish_180 rfl (lv_at hl 1 rfl) ?_
            refine va_get (D := (dC, dI)) (ci := 9) (v := .int (X2 64 0)) (C := R_MO) (T := T_MO) (N := 36) hx hb hts in_MO hown hK hP (0) atM_MO rfl 33 (by decide) (hts _ gw_416) (fun _ h9 => h9) rfl d_MO_finish_181 ?_
            refine va_iast hx hb hK hP (hD0 _ _) hS (18) 17 atM_paperKey rfl h10 d_MO_finish_184 (fun H locs hP _ hS => ?_)
            have hP : va_P (dC, dI) vwCl (wdM cA ad (up (up X2 51 ((X2 5 0).toNatClampNeg) v3) 53 ((X2 5 0).toNatClampNeg) (X2 64 0)) Y3) H := by rw [← stM_paperKey]; exact hP
            refine lv_aload_n hx hb d_MO_finish_185 rfl (lv_at hl 1 rfl) ?_
            refine va_get (D := (dC, dI)) (ci := 9) (v := .ref (ad 19)) (C := R_MO) (T := T_MO) (N := 36) hx hb hts in_MO hown hK hP (0) atM_MO rfl 25 (by decide) (hts _ gw_429) (fun _ h9 => h9) rfl d_MO_finish_186 ?_
            refine lv_iload hx hb d_MO_finish_189 (lv_at hl 0 rfl) ?_
            refine lv_aload_n hx hb d_MO_finish_191 rfl (lv_at hl 1 rfl) ?_
            refine va_get (D := (dC, dI)) (ci := 9) (v := .int (X2 1 0)) (C := R_MO) (T := T_MO) (N := 36) hx hb hts in_MO hown hK hP (0) atM_MO rfl 2 (by decide) (hts _ gw_360) (fun _ h9 => h9) rfl d_MO_finish_192 ?_
            refine va_iast hx hb hK hP (hD0 _ _) hS (19) 18 atM_paperTime rfl h10 d_MO_finish_195 (fun H locs hP _ hS => ?_)
            have hP : va_P (dC, dI) vwCl (wdM cA ad (up (up (up X2 51 ((X2 5 0).toNatClampNeg) v3) 53 ((X2 5 0).toNatClampNeg) (X2 64 0)) 54 ((X2 5 0).toNatClampNeg) (X2 1 0)) Y3) H := by rw [← stM_paperTime]; exact hP
            refine lv_aload_n hx hb d_MO_finish_196 rfl (lv_at hl 1 rfl) ?_
            refine va_get (D := (dC, dI)) (ci := 9) (v := .ref (ad 20)) (C := R_MO) (T := T_MO) (N := 36) hx hb hts in_MO hown hK hP (0) atM_MO rfl 26 (by decide) (hts _ gw_430) (fun _ h9 => h9) rfl d_MO_finish_197 ?_
            refine lv_iload hx hb d_MO_finish_200 (lv_at hl 0 rfl) ?_
            refine lv_iconst (v := (-1 : Int32)) hx hb d_MO_finish_202 (by decide) ?_
            refine va_iast hx hb hK hP (hD0 _ _) hS (20) 19 atM_paperReason rfl h10 d_MO_finish_203 (fun H locs hP _ hS => ?_)
            have hP : va_P (dC, dI) vwCl (wdM cA ad (up (up (up (up X2 51 ((X2 5 0).toNatClampNeg) v3) 53 ((X2 5 0).toNatClampNeg) (X2 64 0)) 54 ((X2 5 0).toNatClampNeg) (X2 1 0)) 55 ((X2 5 0).toNatClampNeg) (-1 : Int32)) Y3) H := by rw [← stM_paperReason]; exact hP
            refine lv_aload_n hx hb d_MO_finish_204 rfl (lv_at hl 1 rfl) ?_
            refine lv_dup hx hb d_MO_finish_205 rfl ?_
            refine va_get (D := (dC, dI)) (ci := 9) (v := .int (X2 5 0)) (C := R_MO) (T := T_MO) (N := 36) hx hb hts in_MO hown hK hP (0) atM_MO rfl 22 (by decide) (hts _ gw_426) (fun _ h9 => h9) rfl d_MO_finish_206 ?_
            refine lv_iconst (v := (1 : Int32)) hx hb d_MO_finish_209 (by decide) ?_
            refine lv_iadd hx hb d_MO_finish_210 ?_
            refine va_put (D := (dC, dI)) (ci := 9) (v := .int ((X2 5 0) + (1 : Int32))) (ty := .int) (C := R_MO) (T := T_MO) (N := 36) hx hb hts in_MO ty_MO ty_MO_ok nm_MO hown hK hP (hD0 _ _) hS (0) atM_MO rfl 22 (by decide) (hts _ gw_426) (fun _ h9 => h9) rfl (by decide +kernel) rfl rfl (Nat.le_of_ble_eq_true rfl) d_MO_finish_211 (fun H locs hP _ hS => ?_)
            have hP : va_P (dC, dI) vwCl (wdM cA ad (up (up (up (up (up X2 51 ((X2 5 0).toNatClampNeg) v3) 53 ((X2 5 0).toNatClampNeg) (X2 64 0)) 54 ((X2 5 0).toNatClampNeg) (X2 1 0)) 55 ((X2 5 0).toNatClampNeg) (-1 : Int32)) 5 0 ((X2 5 0) + (1 : Int32))) Y3) H := by rw [← stM_MO_22]; exact hP
            refine lv_aload_n hx hb d_MO_finish_214 rfl (lv_at hl 1 rfl) ?_
            refine va_get (D := (dC, dI)) (ci := 9) (v := .ref (ad 7)) (C := R_MO) (T := T_MO) (N := 36) hx hb hts in_MO hown hK hP (0) atM_MO rfl 11 (by decide) (hts _ gw_376) (fun _ h9 => h9) rfl d_MO_finish_215 ?_
            refine lv_iload_n hx hb d_MO_finish_218 rfl (lv_at hl 3 rfl) ?_
            refine lv_iload hx hb d_MO_finish_219 (lv_at hl 0 rfl) ?_
            refine va_iast hx hb hK hP (hD0 _ _) hS (7) 6 atM_orderPaper rfl h6 d_MO_finish_221 (fun H locs hP _ hS => ?_)
            have hP : va_P (dC, dI) vwCl (wdM cA ad (up (up (up (up (up (up X2 51 ((X2 5 0).toNatClampNeg) v3) 53 ((X2 5 0).toNatClampNeg) (X2 64 0)) 54 ((X2 5 0).toNatClampNeg) (X2 1 0)) 55 ((X2 5 0).toNatClampNeg) (-1 : Int32)) 5 0 ((X2 5 0) + (1 : Int32))) 24 v3.toNatClampNeg (X2 5 0)) Y3) H := by rw [← stM_orderPaper]; exact hP
            refine lv_aload_n hx hb d_MO_finish_222 rfl (lv_at hl 1 rfl) ?_
            refine va_get (D := (dC, dI)) (ci := 9) (v := .ref (ad 6)) (C := R_MO) (T := T_MO) (N := 36) hx hb hts in_MO hown hK hP (0) atM_MO rfl 10 (by decide) (hts _ gw_345) (fun _ h9 => h9) rfl d_MO_finish_223 ?_
            refine lv_iload_n hx hb d_MO_finish_226 rfl (lv_at hl 3 rfl) ?_
            refine lv_iconst (v := (2 : Int32)) hx hb d_MO_finish_227 (by decide) ?_
            refine va_iast hx hb hK hP (hD0 _ _) hS (6) 5 atM_orderState rfl h6 d_MO_finish_228 (fun H locs hP _ hS => ?_)
            have hP : va_P (dC, dI) vwCl (wdM cA ad (up (up (up (up (up (up (up X2 51 ((X2 5 0).toNatClampNeg) v3) 53 ((X2 5 0).toNatClampNeg) (X2 64 0)) 54 ((X2 5 0).toNatClampNeg) (X2 1 0)) 55 ((X2 5 0).toNatClampNeg) (-1 : Int32)) 5 0 ((X2 5 0) + (1 : Int32))) 24 v3.toNatClampNeg (X2 5 0)) 20 v3.toNatClampNeg (2 : Int32)) Y3) H := by rw [← stM_orderState]; exact hP
            refine lv_iload hx hb d_MO_finish_229 (lv_at hl 0 rfl) ?_
            exact W.iret (v := X2 5 0) hx hb hr (fun t ht _ => ⟨⟨X2 5 0, (up (up (up (up (up (up (up X2 51 ((X2 5 0).toNatClampNeg) v3) 53 ((X2 5 0).toNatClampNeg) (X2 64 0)) 54 ((X2 5 0).toNatClampNeg) (X2 1 0)) 55 ((X2 5 0).toNatClampNeg) (-1 : Int32)) 5 0 ((X2 5 0) + (1 : Int32))) 24 v3.toNatClampNeg (X2 5 0)) 20 v3.toNatClampNeg (2 : Int32), Y3), rfl, hw, by show va_P _ _ _ t.heap; rw [ht]; exact hP⟩, hS.F ht⟩) hS.2.2 d_MO_finish_231
          · have hw := hw.1 c9
            have hl := lv_sub hl (l' := [(0, .ref (ad 0))]) [0] rfl
            exact L153 _ _ _ _ _ hw hP hS hl
    · have hw := hw.2 c1
      refine lv_iconst (v := (0 : Int32)) hx hb d_MO_finish_114 (by decide) ?_
      exact W.iret (v := (0 : Int32)) hx hb hr (fun t ht _ => ⟨⟨(0 : Int32), (up X 90 0 s0, Y), rfl, hw, by show va_P _ _ _ t.heap; rw [ht]; exact hP⟩, hS.F ht⟩) hS.2.2 d_MO_finish_115
  have L54 : ∀ (s0 : Int32) (v1 : Int32) (v3 : Int32) (X : ST) (Y : Int64) (H : Heap) (locs : List Loc) (ls : Array Slot), wq_MO_finish_54 post s0 v1 v3 X Y → va_P (dC, dI) vwCl (wdM cA ad X Y) H → va_S (CA ad 23 s.heap.size) s.heap H locs → lv_has ls 8 [(0, .ref (ad 0)), (1, .int v1), (3, .int v3)] → W p l e (headSpec ws_MO_finish ({ frames := 4, cells := 0, slots := 0, locals := 92 } : Room)).room s m (([.ref (ad 0), .int a1, .int a2, .int a3, .int a4] : List Value).toArray) below meth c H locs 0 0 (MQ below (va_Qi (fun r (u : ST × Int64) => post r u.1 u.2) (fun (u : ST × Int64) t => va_P (dC, dI) vwCl (wdM cA ad u.1 u.2) t.heap) (CA ad 23 s.heap.size)) (([.ref (ad 0), .int a1, .int a2, .int a3, .int a4] : List Value).toArray) s 0 0 (CA ad 23 s.heap.size)) (F0 m 54 ls [.int s0]) := by
    intro s0 v1 v3 X Y H locs ls hw hP hS hl
    unfold wq_MO_finish_54 at hw
    refine lv_istore (lv' := [(6, .int s0), (0, .ref (ad 0)), (1, .int v1), (3, .int v3)]) hx hb d_MO_finish_54 hl (by decide) rfl (fun ls hl => ?_)
    refine lv_aload_n hx hb d_MO_finish_56 rfl (lv_at hl 1 rfl) ?_
    refine lv_iload hx hb d_MO_finish_57 (lv_at hl 0 rfl) ?_
    refine lv_if_ne (tgt := 66) hx hb d_MO_finish_59 (by decide) (fun c11 => ?_) (fun c11 => ?_)
    · have hw := hw.2 c11
      refine lv_aload_n hx hb d_MO_finish_66 rfl (lv_at hl 1 rfl) ?_
      refine va_get (D := (dC, dI)) (ci := 9) (v := .ref (ad 3)) (C := R_MO) (T := T_MO) (N := 36) hx hb hts in_MO hown hK hP (0) atM_MO rfl 7 (by decide) (hts _ gw_373) (fun _ h9 => h9) rfl d_MO_finish_67 ?_
      refine lv_iload_n hx hb d_MO_finish_70 rfl (lv_at hl 3 rfl) ?_
      obtain ⟨h12, hw⟩ := hw
      refine va_iald hx hb hK hP (3) 2 atM_orderAccount rfl h12 d_MO_finish_71 ?_
      refine lv_iload_n hx hb d_MO_finish_72 rfl (lv_at hl 2 rfl) ?_
      refine lv_icmp_eq (tgt := 80) hx hb d_MO_finish_73 (by decide) (fun c13 => ?_) (fun c13 => ?_)
      · have hw := hw.1 c13
        refine lv_aload_n hx hb d_MO_finish_80 rfl (lv_at hl 1 rfl) ?_
        refine va_get (D := (dC, dI)) (ci := 9) (v := .ref (ad 6)) (C := R_MO) (T := T_MO) (N := 36) hx hb hts in_MO hown hK hP (0) atM_MO rfl 10 (by decide) (hts _ gw_345) (fun _ h9 => h9) rfl d_MO_finish_81 ?_
        refine lv_iload_n hx hb d_MO_finish_84 rfl (lv_at hl 3 rfl) ?_
        refine va_iald hx hb hK hP (6) 5 atM_orderState rfl h12 d_MO_finish_85 ?_
        refine lv_iconst (v := (1 : Int32)) hx hb d_MO_finish_86 (by decide) ?_
        refine lv_icmp_ne (tgt := 99) hx hb d_MO_finish_87 (by decide) (fun c14 => ?_) (fun c14 => ?_)
        · have hw := hw.2 c14
          refine lv_iconst (v := (4 : Int32)) hx hb d_MO_finish_99 (by decide) ?_
          refine lv_goto (tgt := 104) hx hb d_MO_finish_100 (by decide) ?_
          have hl := lv_sub hl (l' := [(0, .ref (ad 0)), (1, .int v1), (3, .int v3)]) [1, 2, 3] rfl
          exact L104 _ _ _ _ _ _ _ _ hw hP hS hl
        · have hw := hw.1 c14
          refine lv_aload_n hx hb d_MO_finish_90 rfl (lv_at hl 1 rfl) ?_
          refine va_get (D := (dC, dI)) (ci := 9) (v := .int (X 5 0)) (C := R_MO) (T := T_MO) (N := 36) hx hb hts in_MO hown hK hP (0) atM_MO rfl 22 (by decide) (hts _ gw_426) (fun _ h9 => h9) rfl d_MO_finish_91 ?_
          refine lv_bipush (v := (12 : Int32)) hx hb d_MO_finish_94 (by decide) ?_
          refine lv_icmp_ne (tgt := 103) hx hb d_MO_finish_96 (by decide) (fun c15 => ?_) (fun c15 => ?_)
          · have hw := hw.2 c15
            refine lv_iconst (v := (0 : Int32)) hx hb d_MO_finish_103 (by decide) ?_
            have hl := lv_sub hl (l' := [(0, .ref (ad 0)), (1, .int v1), (3, .int v3)]) [1, 2, 3] rfl
            exact L104 _ _ _ _ _ _ _ _ hw hP hS hl
          · have hw := hw.1 c15
            refine lv_iconst (v := (4 : Int32)) hx hb d_MO_finish_99 (by decide) ?_
            refine lv_goto (tgt := 104) hx hb d_MO_finish_100 (by decide) ?_
            have hl := lv_sub hl (l' := [(0, .ref (ad 0)), (1, .int v1), (3, .int v3)]) [1, 2, 3] rfl
            exact L104 _ _ _ _ _ _ _ _ hw hP hS hl
      · have hw := hw.2 c13
        refine lv_iconst (v := (2 : Int32)) hx hb d_MO_finish_76 (by decide) ?_
        refine lv_goto (tgt := 104) hx hb d_MO_finish_77 (by decide) ?_
        have hl := lv_sub hl (l' := [(0, .ref (ad 0)), (1, .int v1), (3, .int v3)]) [1, 2, 3] rfl
        exact L104 _ _ _ _ _ _ _ _ hw hP hS hl
    · have hw := hw.1 c11
      refine lv_iconst (v := (1 : Int32)) hx hb d_MO_finish_62 (by decide) ?_
      refine lv_goto (tgt := 104) hx hb d_MO_finish_63 (by decide) ?_
      have hl := lv_sub hl (l' := [(0, .ref (ad 0)), (1, .int v1), (3, .int v3)]) [1, 2, 3] rfl
      exact L104 _ _ _ _ _ _ _ _ hw hP hS hl
  unfold wp_MO_finish at hw
  refine lv_aload_n hx hb d_MO_finish_0 rfl (lv_at hl 0 rfl) ?_
  refine va_calli (va_runV (As := []) (rest := []) ⟨hx, hb, hml, hown, hts⟩ (mt_MO_textDigest l hl9 dC dI cA ad hI _ hw) (cwV 0 hts (gV gw_419 gw_420 gw_421 gw_306 gw_418) rfl rfl rfl (by decide +kernel) ⟨Nat.le_of_ble_eq_true rfl, Nat.le_of_ble_eq_true rfl⟩) ⟨zwM_blind, va_recv hK hP (ci := 9) (q0 := 0) rfl atM_MO, zwM_pre hP hS hG9⟩ rfl rfl hl.1 rfl (lv_room (Nat.le_of_ble_eq_true rfl)) d_MO_finish_1 ⟨Nat.le_of_ble_eq_true rfl, Nat.le_of_ble_eq_true rfl⟩) hS (fun q _ h => CA_le hS.1 q h) (fun q h => CA_le hS.1 q h) (fun r18 u9 t H locs ht hvm hw hP hz1 hk1 hS => ?_)
  obtain ⟨X16, Y17⟩ := u9
  have hP : va_P (dC, dI) vwCl (wdM cA ad X16 Y17) H := by rw [← ht]; exact hP
  try dsimp only at hw
  refine lv_istore (lv' := [(5, .int r18), (0, .ref (ad 0)), (1, .int a1), (2, .int a2), (3, .int a3), (4, .int a4)]) hx hb d_MO_finish_4 hl (by decide) rfl (fun ls hl => ?_)
  refine lv_aload_n hx hb d_MO_finish_6 rfl (lv_at hl 1 rfl) ?_
  refine lv_aload_n hx hb d_MO_finish_7 rfl (lv_at hl 1 rfl) ?_
  refine lv_iload_n hx hb d_MO_finish_8 rfl (lv_at hl 2 rfl) ?_
  refine lv_iload_n hx hb d_MO_finish_9 rfl (lv_at hl 3 rfl) ?_
  refine lv_aload_n hx hb d_MO_finish_10 rfl (lv_at hl 1 rfl) ?_
  refine lv_iconst (v := (4 : Int32)) hx hb d_MO_finish_11 (by decide) ?_
  refine lv_iload_n hx hb d_MO_finish_12 rfl (lv_at hl 2 rfl) ?_
  refine lv_iload_n hx hb d_MO_finish_13 rfl (lv_at hl 3 rfl) ?_
  refine lv_iload_n hx hb d_MO_finish_14 rfl (lv_at hl 4 rfl) ?_
  refine lv_iload hx hb d_MO_finish_15 (lv_at hl 0 rfl) ?_
  refine va_calli (va_runV (As := [.int (4 : Int32), .int a1, .int a2, .int a3, .int r18]) (rest := [.int a2, .int a1, .ref (ad 0), .ref (ad 0)]) ⟨hx, hb, hml, hown, hts⟩ (mt_MO_five l hl9 dC dI cA ad hI _ hw) (cwV 5 hts (gV gw_328 gw_329 gw_330 gw_306 gw_327) rfl rfl rfl (by decide +kernel) ⟨Nat.le_of_ble_eq_true rfl, Nat.le_of_ble_eq_true rfl⟩) ⟨zwM_blind, va_recv hK hP (ci := 9) (q0 := 0) rfl atM_MO, zwM_pre hP hS hG9⟩ rfl rfl hl.1 rfl (lv_room (Nat.le_of_ble_eq_true rfl)) d_MO_finish_17 ⟨Nat.le_of_ble_eq_true rfl, Nat.le_of_ble_eq_true rfl⟩) hS (fun q _ h => CA_le hS.1 q h) (fun q h => CA_le hS.1 q h) (fun r21 u9 t H locs ht hvm hw hP hz1 hk1 hS => ?_)
  obtain ⟨X19, Y20⟩ := u9
  have hP : va_P (dC, dI) vwCl (wdM cA ad X19 Y20) H := by rw [← ht]; exact hP
  try dsimp only at hw
  refine lv_iload hx hb d_MO_finish_20 (lv_at hl 5 rfl) ?_
  refine va_calli (va_runV (As := [.int a1, .int a2, .int r21, .int a4]) (rest := [.ref (ad 0)]) ⟨hx, hb, hml, hown, hts⟩ (mt_MO_signed l hl9 dC dI cA ad hI _ hw) (cwV 4 hts (gV gw_382 gw_383 gw_384 gw_306 gw_381) rfl rfl rfl (by decide +kernel) ⟨Nat.le_of_ble_eq_true rfl, Nat.le_of_ble_eq_true rfl⟩) ⟨zwM_blind, va_recv hK hP (ci := 9) (q0 := 0) rfl atM_MO, zwM_pre hP hS hG9⟩ rfl rfl hl.1 rfl (lv_room (Nat.le_of_ble_eq_true rfl)) d_MO_finish_22 ⟨Nat.le_of_ble_eq_true rfl, Nat.le_of_ble_eq_true rfl⟩) hS (fun q _ h => CA_le hS.1 q h) (fun q h => CA_le hS.1 q h) (fun r24 u9 t H locs ht hvm hw hP hz1 hk1 hS => ?_)
  obtain ⟨X22, Y23⟩ := u9
  have hP : va_P (dC, dI) vwCl (wdM cA ad X22 Y23) H := by rw [← ht]; exact hP
  try dsimp only at hw
  refine va_put (D := (dC, dI)) (ci := 9) (v := .int r24) (ty := .int) (C := R_MO) (T := T_MO) (N := 36) hx hb hts in_MO ty_MO ty_MO_ok nm_MO hown hK hP (hD0 _ _) hS (0) atM_MO rfl 0 (by decide) (hts _ gw_297) (fun _ h9 => h9) rfl (by decide +kernel) rfl rfl (Nat.le_of_ble_eq_true rfl) d_MO_finish_25 (fun H locs hP _ hS => ?_)
  have hP : va_P (dC, dI) vwCl (wdM cA ad (up X22 90 0 r24) Y23) H := by rw [← stM_MO_0]; exact hP
  refine lv_aload_n hx hb d_MO_finish_28 rfl (lv_at hl 1 rfl) ?_
  refine va_get (D := (dC, dI)) (ci := 9) (v := .int r24) (C := R_MO) (T := T_MO) (N := 36) hx hb hts in_MO hown hK hP (0) atM_MO rfl 0 (by decide) (hts _ gw_297) (fun _ h9 => h9) rfl d_MO_finish_29 ?_
  refine lv_if_eq (tgt := 37) hx hb d_MO_finish_32 (by decide) (fun c25 => ?_) (fun c25 => ?_)
  · have hw := hw.1 c25
    refine lv_iload_n hx hb d_MO_finish_37 rfl (lv_at hl 4 rfl) ?_
    refine lv_if_lt (tgt := 53) hx hb d_MO_finish_38 (by decide) (fun c26 => ?_) (fun c26 => ?_)
    · have hw := hw.1 c26
      refine lv_iconst (v := (0 : Int32)) hx hb d_MO_finish_53 (by decide) ?_
      have hl := lv_sub hl (l' := [(0, .ref (ad 0)), (1, .int a1), (3, .int a3)]) [1, 2, 4] rfl
      exact L54 _ _ _ _ _ _ _ _ hw hP hS hl
    · have hw := hw.2 c26
      refine lv_iload_n hx hb d_MO_finish_41 rfl (lv_at hl 4 rfl) ?_
      refine lv_aload_n hx hb d_MO_finish_42 rfl (lv_at hl 1 rfl) ?_
      refine va_get (D := (dC, dI)) (ci := 9) (v := .int (X22 3 0)) (C := R_MO) (T := T_MO) (N := 36) hx hb hts in_MO hown hK hP (0) atM_MO rfl 6 (by decide) (hts _ gw_349) (fun _ h9 => h9) rfl d_MO_finish_43 ?_
      refine lv_icmp_ge (tgt := 53) hx hb d_MO_finish_46 (by decide) (fun c27 => ?_) (fun c27 => ?_)
      · have hw := hw.1 c27
        refine lv_iconst (v := (0 : Int32)) hx hb d_MO_finish_53 (by decide) ?_
        have hl := lv_sub hl (l' := [(0, .ref (ad 0)), (1, .int a1), (3, .int a3)]) [1, 2, 4] rfl
        exact L54 _ _ _ _ _ _ _ _ hw hP hS hl
      · have hw := hw.2 c27
        refine lv_iconst (v := (1 : Int32)) hx hb d_MO_finish_49 (by decide) ?_
        refine lv_goto (tgt := 54) hx hb d_MO_finish_50 (by decide) ?_
        have hl := lv_sub hl (l' := [(0, .ref (ad 0)), (1, .int a1), (3, .int a3)]) [1, 2, 4] rfl
        exact L54 _ _ _ _ _ _ _ _ hw hP hS hl
  · have hw := hw.2 c25
    refine lv_iconst (v := (0 : Int32)) hx hb d_MO_finish_35 (by decide) ?_
    exact W.iret (v := (0 : Int32)) hx hb hr (fun t ht _ => ⟨⟨(0 : Int32), (up X22 90 0 r24, Y23), rfl, hw, by show va_P _ _ _ t.heap; rw [ht]; exact hP⟩, hS.F ht⟩) hS.2.2 d_MO_finish_36
