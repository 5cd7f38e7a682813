def ws_MO_order : List Cond := Cond.code y_MO_order c_MO_order 10 (Option.some Jvm.ClassFile.FieldType.int) :: GW
theorem d_MO_order_0 : decode c_MO_order 0 = .ok (.aload_n 0, 1) := by decide +kernel
theorem d_MO_order_1 : decode c_MO_order 1 = .ok (.aload_n 0, 1) := by decide +kernel
theorem d_MO_order_2 : decode c_MO_order 2 = .ok (.iload_n 1, 1) := by decide +kernel
theorem d_MO_order_3 : decode c_MO_order 3 = .ok (.iload_n 2, 1) := by decide +kernel
theorem d_MO_order_4 : decode c_MO_order 4 = .ok (.aload_n 0, 1) := by decide +kernel
theorem d_MO_order_5 : decode c_MO_order 5 = .ok (.iconst 2, 1) := by decide +kernel
theorem d_MO_order_6 : decode c_MO_order 6 = .ok (.iload_n 1, 1) := by decide +kernel
theorem d_MO_order_7 : decode c_MO_order 7 = .ok (.iload_n 2, 1) := by decide +kernel
theorem d_MO_order_8 : decode c_MO_order 8 = .ok (.iload_n 3, 1) := by decide +kernel
theorem d_MO_order_9 : decode c_MO_order 9 = .ok (.iload 4, 2) := by decide +kernel
theorem d_MO_order_11 : decode c_MO_order 11 = .ok (.invokevirtual 116, 3) := by decide +kernel
theorem d_MO_order_14 : decode c_MO_order 14 = .ok (.iload 5, 2) := by decide +kernel
theorem d_MO_order_16 : decode c_MO_order 16 = .ok (.invokevirtual 151, 3) := by decide +kernel
theorem d_MO_order_19 : decode c_MO_order 19 = .ok (.putfield 81, 3) := by decide +kernel
theorem d_MO_order_22 : decode c_MO_order 22 = .ok (.aload_n 0, 1) := by decide +kernel
theorem d_MO_order_23 : decode c_MO_order 23 = .ok (.getfield 81, 3) := by decide +kernel
theorem d_MO_order_26 : decode c_MO_order 26 = .ok (.ifCond .eq 5, 3) := by decide +kernel
theorem d_MO_order_29 : decode c_MO_order 29 = .ok (.iconst 0, 1) := by decide +kernel
theorem d_MO_order_30 : decode c_MO_order 30 = .ok (.ireturn, 1) := by decide +kernel
theorem d_MO_order_31 : decode c_MO_order 31 = .ok (.iload_n 3, 1) := by decide +kernel
theorem d_MO_order_32 : decode c_MO_order 32 = .ok (.ifCond .le 34, 3) := by decide +kernel
theorem d_MO_order_35 : decode c_MO_order 35 = .ok (.iload_n 3, 1) := by decide +kernel
theorem d_MO_order_36 : decode c_MO_order 36 = .ok (.ldc 155, 2) := by decide +kernel
theorem d_MO_order_38 : decode c_MO_order 38 = .ok (.if_icmp .ge 28, 3) := by decide +kernel
theorem d_MO_order_41 : decode c_MO_order 41 = .ok (.iload_n 3, 1) := by decide +kernel
theorem d_MO_order_42 : decode c_MO_order 42 = .ok (.invokestatic 156, 3) := by decide +kernel
theorem d_MO_order_45 : decode c_MO_order 45 = .ok (.iconst 4, 1) := by decide +kernel
theorem d_MO_order_46 : decode c_MO_order 46 = .ok (.if_icmp .gt 20, 3) := by decide +kernel
theorem d_MO_order_49 : decode c_MO_order 49 = .ok (.iload 4, 2) := by decide +kernel
theorem d_MO_order_51 : decode c_MO_order 51 = .ok (.iconst 1, 1) := by decide +kernel
theorem d_MO_order_52 : decode c_MO_order 52 = .ok (.if_icmp .lt 14, 3) := by decide +kernel
theorem d_MO_order_55 : decode c_MO_order 55 = .ok (.iload 4, 2) := by decide +kernel
theorem d_MO_order_57 : decode c_MO_order 57 = .ok (.bipush 100, 2) := by decide +kernel
theorem d_MO_order_59 : decode c_MO_order 59 = .ok (.if_icmp .gt 7, 3) := by decide +kernel
theorem d_MO_order_62 : decode c_MO_order 62 = .ok (.iconst 1, 1) := by decide +kernel
theorem d_MO_order_63 : decode c_MO_order 63 = .ok (.goto 4, 3) := by decide +kernel
theorem d_MO_order_66 : decode c_MO_order 66 = .ok (.iconst 0, 1) := by decide +kernel
theorem d_MO_order_67 : decode c_MO_order 67 = .ok (.istore 6, 2) := by decide +kernel
theorem d_MO_order_69 : decode c_MO_order 69 = .ok (.aload_n 0, 1) := by decide +kernel
theorem d_MO_order_70 : decode c_MO_order 70 = .ok (.iload 6, 2) := by decide +kernel
theorem d_MO_order_72 : decode c_MO_order 72 = .ok (.ifCond .ne 7, 3) := by decide +kernel
theorem d_MO_order_75 : decode c_MO_order 75 = .ok (.iconst 3, 1) := by decide +kernel
theorem d_MO_order_76 : decode c_MO_order 76 = .ok (.goto 33, 3) := by decide +kernel
theorem d_MO_order_79 : decode c_MO_order 79 = .ok (.aload_n 0, 1) := by decide +kernel
theorem d_MO_order_80 : decode c_MO_order 80 = .ok (.getfield 134, 3) := by decide +kernel
theorem d_MO_order_83 : decode c_MO_order 83 = .ok (.bipush 12, 2) := by decide +kernel
theorem d_MO_order_85 : decode c_MO_order 85 = .ok (.if_icmp .eq 19, 3) := by decide +kernel
theorem d_MO_order_88 : decode c_MO_order 88 = .ok (.aload_n 0, 1) := by decide +kernel
theorem d_MO_order_89 : decode c_MO_order 89 = .ok (.getfield 137, 3) := by decide +kernel
theorem d_MO_order_92 : decode c_MO_order 92 = .ok (.aload_n 0, 1) := by decide +kernel
theorem d_MO_order_93 : decode c_MO_order 93 = .ok (.iload_n 1, 1) := by decide +kernel
theorem d_MO_order_94 : decode c_MO_order 94 = .ok (.iload_n 3, 1) := by decide +kernel
theorem d_MO_order_95 : decode c_MO_order 95 = .ok (.invokevirtual 159, 3) := by decide +kernel
theorem d_MO_order_98 : decode c_MO_order 98 = .ok (.iadd, 1) := by decide +kernel
theorem d_MO_order_99 : decode c_MO_order 99 = .ok (.bipush 24, 2) := by decide +kernel
theorem d_MO_order_101 : decode c_MO_order 101 = .ok (.if_icmp .le 7, 3) := by decide +kernel
theorem d_MO_order_104 : decode c_MO_order 104 = .ok (.iconst 4, 1) := by decide +kernel
theorem d_MO_order_105 : decode c_MO_order 105 = .ok (.goto 4, 3) := by decide +kernel
theorem d_MO_order_108 : decode c_MO_order 108 = .ok (.iconst 0, 1) := by decide +kernel
theorem d_MO_order_109 : decode c_MO_order 109 = .ok (.putfield 81, 3) := by decide +kernel
theorem d_MO_order_112 : decode c_MO_order 112 = .ok (.aload_n 0, 1) := by decide +kernel
theorem d_MO_order_113 : decode c_MO_order 113 = .ok (.getfield 81, 3) := by decide +kernel
theorem d_MO_order_116 : decode c_MO_order 116 = .ok (.ifCond .eq 5, 3) := by decide +kernel
theorem d_MO_order_119 : decode c_MO_order 119 = .ok (.iconst 0, 1) := by decide +kernel
theorem d_MO_order_120 : decode c_MO_order 120 = .ok (.ireturn, 1) := by decide +kernel
theorem d_MO_order_121 : decode c_MO_order 121 = .ok (.aload_n 0, 1) := by decide +kernel
theorem d_MO_order_122 : decode c_MO_order 122 = .ok (.getfield 134, 3) := by decide +kernel
theorem d_MO_order_125 : decode c_MO_order 125 = .ok (.istore 7, 2) := by decide +kernel
theorem d_MO_order_127 : decode c_MO_order 127 = .ok (.aload_n 0, 1) := by decide +kernel
theorem d_MO_order_128 : decode c_MO_order 128 = .ok (.getfield 17, 3) := by decide +kernel
theorem d_MO_order_131 : decode c_MO_order 131 = .ok (.iload 7, 2) := by decide +kernel
theorem d_MO_order_133 : decode c_MO_order 133 = .ok (.iload_n 1, 1) := by decide +kernel
theorem d_MO_order_134 : decode c_MO_order 134 = .ok (.iastore, 1) := by decide +kernel
theorem d_MO_order_135 : decode c_MO_order 135 = .ok (.aload_n 0, 1) := by decide +kernel
theorem d_MO_order_136 : decode c_MO_order 136 = .ok (.getfield 20, 3) := by decide +kernel
theorem d_MO_order_139 : decode c_MO_order 139 = .ok (.iload 7, 2) := by decide +kernel
theorem d_MO_order_141 : decode c_MO_order 141 = .ok (.iload_n 3, 1) := by decide +kernel
theorem d_MO_order_142 : decode c_MO_order 142 = .ok (.iastore, 1) := by decide +kernel
theorem d_MO_order_143 : decode c_MO_order 143 = .ok (.aload_n 0, 1) := by decide +kernel
theorem d_MO_order_144 : decode c_MO_order 144 = .ok (.getfield 23, 3) := by decide +kernel
theorem d_MO_order_147 : decode c_MO_order 147 = .ok (.iload 7, 2) := by decide +kernel
theorem d_MO_order_149 : decode c_MO_order 149 = .ok (.aload_n 0, 1) := by decide +kernel
theorem d_MO_order_150 : decode c_MO_order 150 = .ok (.getfield 144, 3) := by decide +kernel
theorem d_MO_order_153 : decode c_MO_order 153 = .ok (.iload 4, 2) := by decide +kernel
theorem d_MO_order_155 : decode c_MO_order 155 = .ok (.iadd, 1) := by decide +kernel
theorem d_MO_order_156 : decode c_MO_order 156 = .ok (.iastore, 1) := by decide +kernel
theorem d_MO_order_157 : decode c_MO_order 157 = .ok (.aload_n 0, 1) := by decide +kernel
theorem d_MO_order_158 : decode c_MO_order 158 = .ok (.getfield 26, 3) := by decide +kernel
theorem d_MO_order_161 : decode c_MO_order 161 = .ok (.iload 7, 2) := by decide +kernel
theorem d_MO_order_163 : decode c_MO_order 163 = .ok (.iconst 0, 1) := by decide +kernel
theorem d_MO_order_164 : decode c_MO_order 164 = .ok (.iastore, 1) := by decide +kernel
theorem d_MO_order_165 : decode c_MO_order 165 = .ok (.aload_n 0, 1) := by decide +kernel
theorem d_MO_order_166 : decode c_MO_order 166 = .ok (.getfield 29, 3) := by decide +kernel
theorem d_MO_order_169 : decode c_MO_order 169 = .ok (.iload 7, 2) := by decide +kernel
theorem d_MO_order_171 : decode c_MO_order 171 = .ok (.iconst (-1), 1) := by decide +kernel
theorem d_MO_order_172 : decode c_MO_order 172 = .ok (.iastore, 1) := by decide +kernel
theorem d_MO_order_173 : decode c_MO_order 173 = .ok (.aload_n 0, 1) := by decide +kernel
theorem d_MO_order_174 : decode c_MO_order 174 = .ok (.getfield 32, 3) := by decide +kernel
theorem d_MO_order_177 : decode c_MO_order 177 = .ok (.iload 7, 2) := by decide +kernel
theorem d_MO_order_179 : decode c_MO_order 179 = .ok (.iconst 0, 1) := by decide +kernel
theorem d_MO_order_180 : decode c_MO_order 180 = .ok (.iastore, 1) := by decide +kernel
theorem d_MO_order_181 : decode c_MO_order 181 = .ok (.aload_n 0, 1) := by decide +kernel
theorem d_MO_order_182 : decode c_MO_order 182 = .ok (.dup, 1) := by decide +kernel
theorem d_MO_order_183 : decode c_MO_order 183 = .ok (.getfield 134, 3) := by decide +kernel
theorem d_MO_order_186 : decode c_MO_order 186 = .ok (.iconst 1, 1) := by decide +kernel
theorem d_MO_order_187 : decode c_MO_order 187 = .ok (.iadd, 1) := by decide +kernel
theorem d_MO_order_188 : decode c_MO_order 188 = .ok (.putfield 134, 3) := by decide +kernel
theorem d_MO_order_191 : decode c_MO_order 191 = .ok (.iconst 0, 1) := by decide +kernel
theorem d_MO_order_192 : decode c_MO_order 192 = .ok (.istore 8, 2) := by decide +kernel
theorem d_MO_order_194 : decode c_MO_order 194 = .ok (.iload 8, 2) := by decide +kernel
theorem d_MO_order_196 : decode c_MO_order 196 = .ok (.bipush 16, 2) := by decide +kernel
theorem d_MO_order_198 : decode c_MO_order 198 = .ok (.if_icmp .ge 74, 3) := by decide +kernel
theorem d_MO_order_201 : decode c_MO_order 201 = .ok (.iload_n 3, 1) := by decide +kernel
theorem d_MO_order_202 : decode c_MO_order 202 = .ok (.iload 8, 2) := by decide +kernel
theorem d_MO_order_204 : decode c_MO_order 204 = .ok (.invokestatic 140, 3) := by decide +kernel
theorem d_MO_order_207 : decode c_MO_order 207 = .ok (.ifCond .eq 59, 3) := by decide +kernel
theorem d_MO_order_210 : decode c_MO_order 210 = .ok (.aload_n 0, 1) := by decide +kernel
theorem d_MO_order_211 : decode c_MO_order 211 = .ok (.iload_n 1, 1) := by decide +kernel
theorem d_MO_order_212 : decode c_MO_order 212 = .ok (.iload 8, 2) := by decide +kernel
theorem d_MO_order_214 : decode c_MO_order 214 = .ok (.invokevirtual 147, 3) := by decide +kernel
theorem d_MO_order_217 : decode c_MO_order 217 = .ok (.istore 9, 2) := by decide +kernel
theorem d_MO_order_219 : decode c_MO_order 219 = .ok (.aload_n 0, 1) := by decide +kernel
theorem d_MO_order_220 : decode c_MO_order 220 = .ok (.getfield 35, 3) := by decide +kernel
theorem d_MO_order_223 : decode c_MO_order 223 = .ok (.iconst 4, 1) := by decide +kernel
theorem d_MO_order_224 : decode c_MO_order 224 = .ok (.iload 7, 2) := by decide +kernel
theorem d_MO_order_226 : decode c_MO_order 226 = .ok (.imul, 1) := by decide +kernel
theorem d_MO_order_227 : decode c_MO_order 227 = .ok (.aload_n 0, 1) := by decide +kernel
theorem d_MO_order_228 : decode c_MO_order 228 = .ok (.getfield 32, 3) := by decide +kernel
theorem d_MO_order_231 : decode c_MO_order 231 = .ok (.iload 7, 2) := by decide +kernel
theorem d_MO_order_233 : decode c_MO_order 233 = .ok (.iaload, 1) := by decide +kernel
theorem d_MO_order_234 : decode c_MO_order 234 = .ok (.iadd, 1) := by decide +kernel
theorem d_MO_order_235 : decode c_MO_order 235 = .ok (.iload 9, 2) := by decide +kernel
theorem d_MO_order_237 : decode c_MO_order 237 = .ok (.ifCond .ge 15, 3) := by decide +kernel
theorem d_MO_order_240 : decode c_MO_order 240 = .ok (.aload_n 0, 1) := by decide +kernel
theorem d_MO_order_241 : decode c_MO_order 241 = .ok (.iload_n 1, 1) := by decide +kernel
theorem d_MO_order_242 : decode c_MO_order 242 = .ok (.iload 8, 2) := by decide +kernel
theorem d_MO_order_244 : decode c_MO_order 244 = .ok (.iload 4, 2) := by decide +kernel
theorem d_MO_order_246 : decode c_MO_order 246 = .ok (.invokevirtual 162, 3) := by decide +kernel
theorem d_MO_order_249 : decode c_MO_order 249 = .ok (.goto 5, 3) := by decide +kernel
theorem d_MO_order_252 : decode c_MO_order 252 = .ok (.iload 9, 2) := by decide +kernel
theorem d_MO_order_254 : decode c_MO_order 254 = .ok (.iastore, 1) := by decide +kernel
theorem d_MO_order_255 : decode c_MO_order 255 = .ok (.aload_n 0, 1) := by decide +kernel
theorem d_MO_order_256 : decode c_MO_order 256 = .ok (.getfield 32, 3) := by decide +kernel
theorem d_MO_order_259 : decode c_MO_order 259 = .ok (.iload 7, 2) := by decide +kernel
theorem d_MO_order_261 : decode c_MO_order 261 = .ok (.dup2, 1) := by decide +kernel
theorem d_MO_order_262 : decode c_MO_order 262 = .ok (.iaload, 1) := by decide +kernel
theorem d_MO_order_263 : decode c_MO_order 263 = .ok (.iconst 1, 1) := by decide +kernel
theorem d_MO_order_264 : decode c_MO_order 264 = .ok (.iadd, 1) := by decide +kernel
theorem d_MO_order_265 : decode c_MO_order 265 = .ok (.iastore, 1) := by decide +kernel
theorem d_MO_order_266 : decode c_MO_order 266 = .ok (.iinc 8 1, 3) := by decide +kernel
theorem d_MO_order_269 : decode c_MO_order 269 = .ok (.goto (-75), 3) := by decide +kernel
theorem d_MO_order_272 : decode c_MO_order 272 = .ok (.aload_n 0, 1) := by decide +kernel
theorem d_MO_order_273 : decode c_MO_order 273 = .ok (.invokevirtual 166, 3) := by decide +kernel
theorem d_MO_order_276 : decode c_MO_order 276 = .ok (.iload 7, 2) := by decide +kernel
theorem d_MO_order_278 : decode c_MO_order 278 = .ok (.ireturn, 1) := by decide +kernel
def wq_MO_order_254 (post : Int32 → ST → Int64 → Prop) (J194 : Int32 → ST → Int64 → Prop) (s0 : Int32) (s1 : Int32) (v1 : Int32) (v3 : Int32) (v4 : Int32) (v7 : Int32) (v8 : Int32) (X : ST) (Y : Int64) : Prop := (vp_in s1 48 ∧ (vp_in v7 12 ∧ J194 (v8 + (1 : Int32)) (up (up X 26 s1.toNatClampNeg s0) 25 v7.toNatClampNeg ((X 25 v7.toNatClampNeg) + (1 : Int32))) Y))
def wq_MO_order_194 (post : Int32 → ST → Int64 → Prop) (v1 : Int32) (v3 : Int32) (v4 : Int32) (v7 : Int32) : Nat → Int32 → ST → Int64 → Prop
  | 0 => fun _ _ _ => False
  | n + 1 => fun v8 X Y => (((16 : Int32) ≤ v8 → wp_MO_settle (fun (X4 : ST) (Y5 : Int64) => post v7 X4 Y5) X Y) ∧ (¬ (16 : Int32) ≤ v8 → wp_MO_has (fun (r9 : Int32) (X7 : ST) (Y8 : Int64) => ((r9 = 0 → wq_MO_order_194 post v1 v3 v4 v7 n (v8 + (1 : Int32)) X7 Y8) ∧ (¬ r9 = 0 → wp_MO_valid (fun (r13 : Int32) (X11 : ST) (Y12 : Int64) => (vp_in v7 12 ∧ ((0 ≤ r13 → wq_MO_order_254 post (wq_MO_order_194 post v1 v3 v4 v7 n) r13 (((4 : Int32) * v7) + (X11 25 v7.toNatClampNeg)) v1 v3 v4 v7 v8 X11 Y12) ∧ (¬ 0 ≤ r13 → wp_MO_authorize (fun (r18 : Int32) (X16 : ST) (Y17 : Int64) => wq_MO_order_254 post (wq_MO_order_194 post v1 v3 v4 v7 n) r18 (((4 : Int32) * v7) + (X11 25 v7.toNatClampNeg)) v1 v3 v4 v7 v8 X16 Y17) X11 Y12 v1 v8 v4)))) X7 Y8 v1 v8))) X Y v3 v8))
def wq_MO_order_109 (post : Int32 → ST → Int64 → Prop) (s0 : Int32) (v1 : Int32) (v3 : Int32) (v4 : Int32) (X : ST) (Y : Int64) : Prop := ((s0 = 0 → (vp_in (X 3 0) 12 ∧ (∃ n9, wq_MO_order_194 post v1 v3 v4 (X 3 0) n9 (0 : Int32) (up (up (up (up (up (up (up (up X 90 0 s0) 21 ((X 3 0).toNatClampNeg) v1) 22 ((X 3 0).toNatClampNeg) v3) 23 ((X 3 0).toNatClampNeg) ((X 1 0) + v4)) 20 ((X 3 0).toNatClampNeg) (0 : Int32)) 24 ((X 3 0).toNatClampNeg) (-1 : Int32)) 25 ((X 3 0).toNatClampNeg) (0 : Int32)) 3 0 ((X 3 0) + (1 : Int32))) Y))) ∧ (¬ s0 = 0 → post (0 : Int32) (up X 90 0 s0) Y))
def wq_MO_order_67 (post : Int32 → ST → Int64 → Prop) (s0 : Int32) (v1 : Int32) (v3 : Int32) (v4 : Int32) (X : ST) (Y : Int64) : Prop := ((s0 = 0 → wq_MO_order_109 post (3 : Int32) v1 v3 v4 X Y) ∧ (¬ s0 = 0 → (((X 3 0) = (12 : Int32) → wq_MO_order_109 post (4 : Int32) v1 v3 v4 X Y) ∧ (¬ (X 3 0) = (12 : Int32) → wp_MO_fresh (fun (r25 : Int32) (X23 : ST) (Y24 : Int64) => ((((X 4 0) + r25) ≤ (24 : Int32) → wq_MO_order_109 post (0 : Int32) v1 v3 v4 X23 Y24) ∧ (¬ ((X 4 0) + r25) ≤ (24 : Int32) → wq_MO_order_109 post (4 : Int32) v1 v3 v4 X23 Y24))) X Y v1 v3))))
def wp_MO_order (post : Int32 → ST → Int64 → Prop) (X : ST) (Y : Int64) (a1 : Int32) (a2 : Int32) (a3 : Int32) (a4 : Int32) (a5 : Int32) : Prop := wp_MO_five (fun (r29 : Int32) (X27 : ST) (Y28 : Int64) => wp_MO_signed (fun (r32 : Int32) (X30 : ST) (Y31 : Int64) => ((r32 = 0 → ((a3 ≤ 0 → wq_MO_order_67 post (0 : Int32) a1 a3 a4 (up X30 90 0 r32) Y31) ∧ (¬ a3 ≤ 0 → (((65536 : Int32) ≤ a3 → wq_MO_order_67 post (0 : Int32) a1 a3 a4 (up X30 90 0 r32) Y31) ∧ (¬ (65536 : Int32) ≤ a3 → wp_MO_many (fun (r38 : Int32) (X36 : ST) (Y37 : Int64) => (((4 : Int32) < r38 → wq_MO_order_67 post (0 : Int32) a1 a3 a4 X36 Y37) ∧ (¬ (4 : Int32) < r38 → ((a4 < (1 : Int32) → wq_MO_order_67 post (0 : Int32) a1 a3 a4 X36 Y37) ∧ (¬ a4 < (1 : Int32) → (((100 : Int32) < a4 → wq_MO_order_67 post (0 : Int32) a1 a3 a4 X36 Y37) ∧ (¬ (100 : Int32) < a4 → wq_MO_order_67 post (1 : Int32) a1 a3 a4 X36 Y37))))))) (up X30 90 0 r32) Y31 a3))))) ∧ (¬ r32 = 0 → post (0 : Int32) (up X30 90 0 r32) Y31))) X27 Y28 a1 a2 r29 a5) X Y (2 : Int32) a1 a2 a3 a4
set_option maxHeartbeats 4000000 in
set_option maxRecDepth 100000 in
theorem mt_MO_order (l : Launch) (hl9 : l.stackTraces = false) (dC : Nat → ClassId) (dI : Nat → Nat → Nat) (cA : Nat → ClassId) (ad : Nat → Nat) (hI : INJ ad 23) (sz : Nat) {X : ST} {Y : Int64} {a1 : Int32} {a2 : Int32} {a3 : Int32} {a4 : Int32} {a5 : Int32} {post : Int32 → ST → Int64 → Prop} (hw : wp_MO_order post X Y a1 a2 a3 a4 a5) : Met l y_MO_order ws_MO_order ({ frames := 3, cells := 0, slots := 0, locals := 73 } : Room) (va_Pc [.ref (ad 0), .int a1, .int a2, .int a3, .int a4, .int a5] (fun U => PM dC dI cA ad sz X Y U)) (va_Qi (fun r (u : ST × Int64) => post r u.1 u.2) (fun (u : ST × Int64) t => va_P (dC, dI) vwCl (wdM cA ad u.1 u.2) t.heap) (CA ad 23 sz)) 0 0 (CA ad 23 sz) := by
  refine Met.ofW (cc := c_MO_order) (maxL := 10) (ret := (some .int)) (by decide) rfl ?_
  intro p e s m args below meth c s₁ B hml hv
  obtain ⟨rfl, hsz, hP, hG⟩ := hv
  have hx := B.exec
  have hb := B.bytes
  have hr := B.returns
  have hts : ∀ w ∈ GW, w.before (([.ref (ad 0), .int a1, .int a2, .int a3, .int a4, .int a5] : List Value).toArray) s = true := fun w h => atoms_spec (ws := ws_MO_order) B.pre w (List.mem_cons_of_mem _ h)
  have hown : s.vm.findClass R_MO = some m.cls := findClass_of_methodNamed B.named
  have hlocks := B.notSynchronized
  subst hsz
  have hK := hG.1
  have hG9 := hG
  have hNW := hG.2
  have hD0 : ∀ (X : ST) (Y : Int64), va_D (CA ad 23 s.heap.size) (wdM cA ad X Y) := fun _ _ => zwM_D hI
  have hS : va_S (CA ad 23 s.heap.size) s.heap s.heap [] := va_S.rf
  have hl := lv_entry ([.ref (ad 0), .int a1, .int a2, .int a3, .int a4, .int a5]) (n := 10) (Nat.le_of_ble_eq_true rfl)
  rw [lg_entry_eq]
  generalize (lg_sl ([.ref (ad 0), .int a1, .int a2, .int a3, .int a4, .int a5]) ++ List.replicate (10 - (lg_sl ([.ref (ad 0), .int a1, .int a2, .int a3, .int a4, .int a5])).length) Slot.unset).toArray = ls at hl ⊢
  have hl : lv_has ls 10 [(0, .ref (ad 0)), (1, .int a1), (2, .int a2), (3, .int a3), (4, .int a4), (5, .int a5)] := hl
  have L254 : ∀ (v1 : Int32) (v3 : Int32) (v4 : Int32) (v7 : Int32), ∀ (J194 : Int32 → ST → Int64 → Prop), (∀ (v8 : Int32) (X : ST) (Y : Int64) (H : Heap) (locs : List Loc) (ls : Array Slot), J194 v8 X Y → va_P (dC, dI) vwCl (wdM cA ad X Y) H → va_S (CA ad 23 s.heap.size) s.heap H locs → lv_has ls 10 [(0, .ref (ad 0)), (1, .int v1), (3, .int v3), (4, .int v4), (7, .int v7), (8, .int v8)] → W p l e (headSpec ws_MO_order ({ frames := 3, cells := 0, slots := 0, locals := 73 } : Room)).room s m (([.ref (ad 0), .int a1, .int a2, .int a3, .int a4, .int a5] : List Value).toArray) below meth c H locs 0 0 (MQ below (va_Qi (fun r (u : ST × Int64) => post r u.1 u.2) (fun (u : ST × Int64) t => va_P (dC, dI) vwCl (wdM cA ad u.1 u.2) t.heap) (CA ad 23 s.heap.size)) (([.ref (ad 0), .int a1, .int a2, .int a3, .int a4, .int a5] : List Value).toArray) s 0 0 (CA ad 23 s.heap.size)) (F0 m 194 ls [])) → ∀ (s0 : Int32) (s1 : Int32) (v8 : Int32) (X : ST) (Y : Int64) (H : Heap) (locs : List Loc) (ls : Array Slot), wq_MO_order_254 post J194 s0 s1 v1 v3 v4 v7 v8 X Y → va_P (dC, dI) vwCl (wdM cA ad X Y) H → va_S (CA ad 23 s.heap.size) s.heap H locs → lv_has ls 10 [(0, .ref (ad 0)), (1, .int v1), (3, .int v3), (4, .int v4), (7, .int v7), (8, .int v8)] → W p l e (headSpec ws_MO_order ({ frames := 3, cells := 0, slots := 0, locals := 73 } : Room)).room s m (([.ref (ad 0), .int a1, .int a2, .int a3, .int a4, .int a5] : List Value).toArray) below meth c H locs 0 0 (MQ below (va_Qi (fun r (u : ST × Int64) => post r u.1 u.2) (fun (u : ST × Int64) t => va_P (dC, dI) vwCl (wdM cA ad u.1 u.2) t.heap) (CA ad 23 s.heap.size)) (([.ref (ad 0), .int a1, .int a2, .int a3, .int a4, .int a5] : List Value).toArray) s 0 0 (CA ad 23 s.heap.size)) (F0 m 254 ls [.int s0, .int s1, .ref (ad 9)]) := by
    intro v1 v3 v4 v7 J194 hJ194 s0 s1 v8 X Y H locs ls hw hP hS hl
    unfold wq_MO_order_254 at hw
    obtain ⟨h1, hw⟩ := hw
    refine va_iast hx hb hK hP (hD0 _ _) hS (9) 8 atM_orderAuths rfl h1 d_MO_order_254 (fun H locs hP _ hS => ?_)
    have hP : va_P (dC, dI) vwCl (wdM cA ad (up X 26 s1.toNatClampNeg s0) Y) H := by rw [← stM_orderAuths]; exact hP
    refine lv_aload_n hx hb d_MO_order_255 rfl (lv_at hl 0 rfl) ?_
    refine va_get (D := (dC, dI)) (ci := 9) (v := .ref (ad 8)) (C := R_MO) (T := T_MO) (N := 36) hx hb hts in_MO hown hK hP (0) atM_MO rfl 12 (by decide) (hts _ gw_346) (fun _ h9 => h9) rfl d_MO_order_256 ?_
    refine lv_iload hx hb d_MO_order_259 (lv_at hl 4 rfl) ?_
    refine lv_dup2_11 hx hb d_MO_order_261 rfl rfl ?_
    obtain ⟨h2, hw⟩ := hw
    refine va_iald hx hb hK hP (8) 7 atM_orderMany rfl h2 d_MO_order_262 ?_
    refine W.eq (g2 := F0 m 263 ls [.int (X 25 v7.toNatClampNeg), .int v7, .ref (ad 8)]) rfl ?_
    refine lv_iconst (v := (1 : Int32)) hx hb d_MO_order_263 (by decide) ?_
    refine lv_iadd hx hb d_MO_order_264 ?_
    refine va_iast hx hb hK hP (hD0 _ _) hS (8) 7 atM_orderMany rfl h2 d_MO_order_265 (fun H locs hP _ hS => ?_)
    have hP : va_P (dC, dI) vwCl (wdM cA ad (up (up X 26 s1.toNatClampNeg s0) 25 v7.toNatClampNeg ((X 25 v7.toNatClampNeg) + (1 : Int32))) Y) H := by rw [← stM_orderMany]; exact hP
    refine lv_iinc (k := 5) (v := v8 + (1 : Int32)) (lv' := [(8, .int (v8 + (1 : Int32))), (0, .ref (ad 0)), (1, .int v1), (3, .int v3), (4, .int v4), (7, .int v7)]) hx hb d_MO_order_266 hl rfl rfl (by decide) rfl (fun ls hl => ?_)
    refine lv_goto (tgt := 194) hx hb d_MO_order_269 (by decide) ?_
    have hl := lv_sub hl (l' := [(0, .ref (ad 0)), (1, .int v1), (3, .int v3), (4, .int v4), (7, .int v7), (8, .int (v8 + (1 : Int32)))]) [1, 2, 3, 4, 5, 0] rfl
    exact hJ194 _ _ _ _ _ _ hw hP hS hl
  have L194 : ∀ (v1 : Int32) (v3 : Int32) (v4 : Int32) (v7 : Int32), ∀ (n : Nat), ∀ (v8 : Int32) (X : ST) (Y : Int64) (H : Heap) (locs : List Loc) (ls : Array Slot), wq_MO_order_194 post v1 v3 v4 v7 n v8 X Y → va_P (dC, dI) vwCl (wdM cA ad X Y) H → va_S (CA ad 23 s.heap.size) s.heap H locs → lv_has ls 10 [(0, .ref (ad 0)), (1, .int v1), (3, .int v3), (4, .int v4), (7, .int v7), (8, .int v8)] → W p l e (headSpec ws_MO_order ({ frames := 3, cells := 0, slots := 0, locals := 73 } : Room)).room s m (([.ref (ad 0), .int a1, .int a2, .int a3, .int a4, .int a5] : List Value).toArray) below meth c H locs 0 0 (MQ below (va_Qi (fun r (u : ST × Int64) => post r u.1 u.2) (fun (u : ST × Int64) t => va_P (dC, dI) vwCl (wdM cA ad u.1 u.2) t.heap) (CA ad 23 s.heap.size)) (([.ref (ad 0), .int a1, .int a2, .int a3, .int a4, .int a5] : List Value).toArray) s 0 0 (CA ad 23 s.heap.size)) (F0 m 194 ls []) := by
    intro v1 v3 v4 v7 n
    induction n with
    | zero => intro v8 X Y H locs ls hw hP hS hl; exact False.elim hw
    | succ n ih =>
      intro v8 X Y H locs ls hw hP hS hl
      dsimp only [wq_MO_order_194] at hw
      refine lv_iload hx hb d_MO_order_194 (lv_at hl 5 rfl) ?_
      refine lv_bipush (v := (16 : Int32)) hx hb d_MO_order_196 (by decide) ?_
      refine lv_icmp_ge (tgt := 272) hx hb d_MO_order_198 (by decide) (fun c3 => ?_) (fun c3 => ?_)
      · have hw := hw.1 c3
        refine lv_aload_n hx hb d_MO_order_272 rfl (lv_at hl 0 rfl) ?_
        refine va_callv (va_runV (As := []) (rest := []) ⟨hx, hb, hml, hown, hts⟩ (mt_MO_settle l hl9 dC dI cA ad hI _ hw) (cwV 0 hts (gV gw_366 gw_367 gw_368 gw_306 gw_365) rfl rfl rfl (by decide +kernel) ⟨Nat.le_of_ble_eq_true rfl, Nat.le_of_ble_eq_true rfl⟩) ⟨zwM_blind, va_recv hK hP (ci := 9) (q0 := 0) rfl atM_MO, zwM_pre hP hS hG9⟩ rfl rfl hl.1 rfl (lv_room (Nat.le_of_ble_eq_true rfl)) d_MO_order_273 ⟨Nat.le_of_ble_eq_true rfl, Nat.le_of_ble_eq_true rfl⟩) hS (fun q _ h => CA_le hS.1 q h) (fun q h => CA_le hS.1 q h) (fun u9 t H locs ht hvm hw hP hz1 hk1 hS => ?_)
        obtain ⟨X4, Y5⟩ := u9
        have hP : va_P (dC, dI) vwCl (wdM cA ad X4 Y5) H := by rw [← ht]; exact hP
        try dsimp only at hw
        refine lv_iload hx hb d_MO_order_276 (lv_at hl 4 rfl) ?_
        exact W.iret (v := v7) hx hb hr (fun t ht _ => ⟨⟨v7, (X4, Y5), rfl, hw, by show va_P _ _ _ t.heap; rw [ht]; exact hP⟩, hS.F ht⟩) hS.2.2 d_MO_order_278
      · have hw := hw.2 c3
        refine lv_iload_n hx hb d_MO_order_201 rfl (lv_at hl 2 rfl) ?_
        refine lv_iload hx hb d_MO_order_202 (lv_at hl 5 rfl) ?_
        refine va_calli (va_runS (As := [.int v3, .int v8]) (rest := []) ⟨hx, hb, hml, hown, hts⟩ (mt_MO_has l hl9 dC dI cA ad hI _ hw) (va_cwS 2 hts (gS gw_354 gw_355 gw_306 gw_353) rfl rfl rfl (by decide +kernel) ⟨Nat.le_of_ble_eq_true rfl, Nat.le_of_ble_eq_true rfl⟩) ⟨zwM_blind, zwM_pre hP hS hG9⟩ rfl rfl hl.1 rfl (lv_room (Nat.le_of_ble_eq_true rfl)) d_MO_order_204 ⟨Nat.le_of_ble_eq_true rfl, Nat.le_of_ble_eq_true rfl⟩) hS (fun q _ h => CA_le hS.1 q h) (fun q h => CA_le hS.1 q h) (fun r9 u9 t H locs ht hvm hw hP hz1 hk1 hS => ?_)
        obtain ⟨X7, Y8⟩ := u9
        have hP : va_P (dC, dI) vwCl (wdM cA ad X7 Y8) H := by rw [← ht]; exact hP
        try dsimp only at hw
        refine lv_if_eq (tgt := 266) hx hb d_MO_order_207 (by decide) (fun c10 => ?_) (fun c10 => ?_)
        · have hw := hw.1 c10
          refine lv_iinc (k := 5) (v := v8 + (1 : Int32)) (lv' := [(8, .int (v8 + (1 : Int32))), (0, .ref (ad 0)), (1, .int v1), (3, .int v3), (4, .int v4), (7, .int v7)]) hx hb d_MO_order_266 hl rfl rfl (by decide) rfl (fun ls hl => ?_)
          refine lv_goto (tgt := 194) hx hb d_MO_order_269 (by decide) ?_
          have hl := lv_sub hl (l' := [(0, .ref (ad 0)), (1, .int v1), (3, .int v3), (4, .int v4), (7, .int v7), (8, .int (v8 + (1 : Int32)))]) [1, 2, 3, 4, 5, 0] rfl
          exact ih _ _ _ _ _ _ hw hP hS hl
        · have hw := hw.2 c10
          refine lv_aload_n hx hb d_MO_order_210 rfl (lv_at hl 0 rfl) ?_
          refine lv_iload_n hx hb d_MO_order_211 rfl (lv_at hl 1 rfl) ?_
          refine lv_iload hx hb d_MO_order_212 (lv_at hl 5 rfl) ?_
          refine va_calli (va_runV (As := [.int v1, .int v8]) (rest := []) ⟨hx, hb, hml, hown, hts⟩ (mt_MO_valid l hl9 dC dI cA ad hI _ hw) (cwV 2 hts (gV gw_362 gw_363 gw_364 gw_306 gw_361) rfl rfl rfl (by decide +kernel) ⟨Nat.le_of_ble_eq_true rfl, Nat.le_of_ble_eq_true rfl⟩) ⟨zwM_blind, va_recv hK hP (ci := 9) (q0 := 0) rfl atM_MO, zwM_pre hP hS hG9⟩ rfl rfl hl.1 rfl (lv_room (Nat.le_of_ble_eq_true rfl)) d_MO_order_214 ⟨Nat.le_of_ble_eq_true rfl, Nat.le_of_ble_eq_true rfl⟩) hS (fun q _ h => CA_le hS.1 q h) (fun q h => CA_le hS.1 q h) (fun r13 u9 t H locs ht hvm hw hP hz1 hk1 hS => ?_)
          obtain ⟨X11, Y12⟩ := u9
          have hP : va_P (dC, dI) vwCl (wdM cA ad X11 Y12) H := by rw [← ht]; exact hP
          try dsimp only at hw
          refine lv_istore (lv' := [(9, .int r13), (0, .ref (ad 0)), (1, .int v1), (3, .int v3), (4, .int v4), (7, .int v7), (8, .int v8)]) hx hb d_MO_order_217 hl (by decide) rfl (fun ls hl => ?_)
          refine lv_aload_n hx hb d_MO_order_219 rfl (lv_at hl 1 rfl) ?_
          refine va_get (D := (dC, dI)) (ci := 9) (v := .ref (ad 9)) (C := R_MO) (T := T_MO) (N := 36) hx hb hts in_MO hown hK hP (0) atM_MO rfl 13 (by decide) (hts _ gw_348) (fun _ h9 => h9) rfl d_MO_order_220 ?_
          refine lv_iconst (v := (4 : Int32)) hx hb d_MO_order_223 (by decide) ?_
          refine lv_iload hx hb d_MO_order_224 (lv_at hl 5 rfl) ?_
          refine lv_imul hx hb d_MO_order_226 ?_
          refine lv_aload_n hx hb d_MO_order_227 rfl (lv_at hl 1 rfl) ?_
          refine va_get (D := (dC, dI)) (ci := 9) (v := .ref (ad 8)) (C := R_MO) (T := T_MO) (N := 36) hx hb hts in_MO hown hK hP (0) atM_MO rfl 12 (by decide) (hts _ gw_346) (fun _ h9 => h9) rfl d_MO_order_228 ?_
          refine lv_iload hx hb d_MO_order_231 (lv_at hl 5 rfl) ?_
          obtain ⟨h14, hw⟩ := hw
          refine va_iald hx hb hK hP (8) 7 atM_orderMany rfl h14 d_MO_order_233 ?_
          refine lv_iadd hx hb d_MO_order_234 ?_
          refine lv_iload hx hb d_MO_order_235 (lv_at hl 0 rfl) ?_
          refine lv_if_ge (tgt := 252) hx hb d_MO_order_237 (by decide) (fun c15 => ?_) (fun c15 => ?_)
          · have hw := hw.1 c15
            refine lv_iload hx hb d_MO_order_252 (lv_at hl 0 rfl) ?_
            have hl := lv_sub hl (l' := [(0, .ref (ad 0)), (1, .int v1), (3, .int v3), (4, .int v4), (7, .int v7), (8, .int v8)]) [1, 2, 3, 4, 5, 6] rfl
            exact L254 _ _ _ _ (wq_MO_order_194 post v1 v3 v4 v7 n) ih _ _ _ _ _ _ _ _ hw hP hS hl
          · have hw := hw.2 c15
            refine lv_aload_n hx hb d_MO_order_240 rfl (lv_at hl 1 rfl) ?_
            refine lv_iload_n hx hb d_MO_order_241 rfl (lv_at hl 2 rfl) ?_
            refine lv_iload hx hb d_MO_order_242 (lv_at hl 6 rfl) ?_
            refine lv_iload hx hb d_MO_order_244 (lv_at hl 4 rfl) ?_
            refine va_calli (va_runV (As := [.int v1, .int v8, .int v4]) (rest := [.int (((4 : Int32) * v7) + (X11 25 v7.toNatClampNeg)), .ref (ad 9)]) ⟨hx, hb, hml, hown, hts⟩ (mt_MO_authorize l hl9 dC dI cA ad hI _ hw) (cwV 3 hts (gV gw_370 gw_371 gw_372 gw_306 gw_369) rfl rfl rfl (by decide +kernel) ⟨Nat.le_of_ble_eq_true rfl, Nat.le_of_ble_eq_true rfl⟩) ⟨zwM_blind, va_recv hK hP (ci := 9) (q0 := 0) rfl atM_MO, zwM_pre hP hS hG9⟩ rfl rfl hl.1 rfl (lv_room (Nat.le_of_ble_eq_true rfl)) d_MO_order_246 ⟨Nat.le_of_ble_eq_true rfl, Nat.le_of_ble_eq_true rfl⟩) hS (fun q _ h => CA_le hS.1 q h) (fun q h => CA_le hS.1 q h) (fun r18 u9 t H locs ht hvm hw hP hz1 hk1 hS => ?_)
            obtain ⟨X16, Y17⟩ := u9
            have hP : va_P (dC, dI) vwCl (wdM cA ad X16 Y17) H := by rw [← ht]; exact hP
            try dsimp only at hw
            refine lv_goto (tgt := 254) hx hb d_MO_order_249 (by decide) ?_
            have hl := lv_sub hl (l' := [(0, .ref (ad 0)), (1, .int v1), (3, .int v3), (4, .int v4), (7, .int v7), (8, .int v8)]) [1, 2, 3, 4, 5, 6] rfl
            exact L254 _ _ _ _ (wq_MO_order_194 post v1 v3 v4 v7 n) ih _ _ _ _ _ _ _ _ hw hP hS hl
  have L109 : ∀ (s0 : Int32) (v1 : Int32) (v3 : Int32) (v4 : Int32) (X : ST) (Y : Int64) (H : Heap) (locs : List Loc) (ls : Array Slot), wq_MO_order_109 post s0 v1 v3 v4 X Y → va_P (dC, dI) vwCl (wdM cA ad X Y) H → va_S (CA ad 23 s.heap.size) s.heap H locs → lv_has ls 10 [(0, .ref (ad 0)), (1, .int v1), (3, .int v3), (4, .int v4)] → W p l e (headSpec ws_MO_order ({ frames := 3, cells := 0, slots := 0, locals := 73 } : Room)).room s m (([.ref (ad 0), .int a1, .int a2, .int a3, .int a4, .int a5] : List Value).toArray) below meth c H locs 0 0 (MQ below (va_Qi (fun r (u : ST × Int64) => post r u.1 u.2) (fun (u : ST × Int64) t => va_P (dC, dI) vwCl (wdM cA ad u.1 u.2) t.heap) (CA ad 23 s.heap.size)) (([.ref (ad 0), .int a1, .int a2, .int a3, .int a4, .int a5] : List Value).toArray) s 0 0 (CA ad 23 s.heap.size)) (F0 m 109 ls [.int s0, .ref (ad 0)]) := by
    intro s0 v1 v3 v4 X Y H locs ls hw hP hS hl
    unfold wq_MO_order_109 at hw
    refine va_put (D := (dC, dI)) (ci := 9) (v := .int s0) (ty := .int) (C := R_MO) (T := T_MO) (N := 36) hx hb hts in_MO ty_MO ty_MO_ok nm_MO hown hK hP (hD0 _ _) hS (0) atM_MO rfl 0 (by decide) (hts _ gw_297) (fun _ h9 => h9) rfl (by decide +kernel) rfl rfl (Nat.le_of_ble_eq_true rfl) d_MO_order_109 (fun H locs hP _ hS => ?_)
    have hP : va_P (dC, dI) vwCl (wdM cA ad (up X 90 0 s0) Y) H := by rw [← stM_MO_0]; exact hP
    refine lv_aload_n hx hb d_MO_order_112 rfl (lv_at hl 0 rfl) ?_
    refine va_get (D := (dC, dI)) (ci := 9) (v := .int s0) (C := R_MO) (T := T_MO) (N := 36) hx hb hts in_MO hown hK hP (0) atM_MO rfl 0 (by decide) (hts _ gw_297) (fun _ h9 => h9) rfl d_MO_order_113 ?_
    refine lv_if_eq (tgt := 121) hx hb d_MO_order_116 (by decide) (fun c19 => ?_) (fun c19 => ?_)
    · have hw := hw.1 c19
      refine lv_aload_n hx hb d_MO_order_121 rfl (lv_at hl 0 rfl) ?_
      refine va_get (D := (dC, dI)) (ci := 9) (v := .int (X 3 0)) (C := R_MO) (T := T_MO) (N := 36) hx hb hts in_MO hown hK hP (0) atM_MO rfl 6 (by decide) (hts _ gw_349) (fun _ h9 => h9) rfl d_MO_order_122 ?_
      refine lv_istore (lv' := [(7, .int (X 3 0)), (0, .ref (ad 0)), (1, .int v1), (3, .int v3), (4, .int v4)]) hx hb d_MO_order_125 hl (by decide) rfl (fun ls hl => ?_)
      refine lv_aload_n hx hb d_MO_order_127 rfl (lv_at hl 1 rfl) ?_
      refine va_get (D := (dC, dI)) (ci := 9) (v := .ref (ad 3)) (C := R_MO) (T := T_MO) (N := 36) hx hb hts in_MO hown hK hP (0) atM_MO rfl 7 (by decide) (hts _ gw_373) (fun _ h9 => h9) rfl d_MO_order_128 ?_
      refine lv_iload hx hb d_MO_order_131 (lv_at hl 0 rfl) ?_
      refine lv_iload_n hx hb d_MO_order_133 rfl (lv_at hl 2 rfl) ?_
      obtain ⟨h20, hw⟩ := hw
      refine va_iast hx hb hK hP (hD0 _ _) hS (3) 2 atM_orderAccount rfl h20 d_MO_order_134 (fun H locs hP _ hS => ?_)
      have hP : va_P (dC, dI) vwCl (wdM cA ad (up (up X 90 0 s0) 21 ((X 3 0).toNatClampNeg) v1) Y) H := by rw [← stM_orderAccount]; exact hP
      refine lv_aload_n hx hb d_MO_order_135 rfl (lv_at hl 1 rfl) ?_
      refine va_get (D := (dC, dI)) (ci := 9) (v := .ref (ad 4)) (C := R_MO) (T := T_MO) (N := 36) hx hb hts in_MO hown hK hP (0) atM_MO rfl 8 (by decide) (hts _ gw_374) (fun _ h9 => h9) rfl d_MO_order_136 ?_
      refine lv_iload hx hb d_MO_order_139 (lv_at hl 0 rfl) ?_
      refine lv_iload_n hx hb d_MO_order_141 rfl (lv_at hl 3 rfl) ?_
      refine va_iast hx hb hK hP (hD0 _ _) hS (4) 3 atM_orderNames rfl h20 d_MO_order_142 (fun H locs hP _ hS => ?_)
      have hP : va_P (dC, dI) vwCl (wdM cA ad (up (up (up X 90 0 s0) 21 ((X 3 0).toNatClampNeg) v1) 22 ((X 3 0).toNatClampNeg) v3) Y) H := by rw [← stM_orderNames]; exact hP
      refine lv_aload_n hx hb d_MO_order_143 rfl (lv_at hl 1 rfl) ?_
      refine va_get (D := (dC, dI)) (ci := 9) (v := .ref (ad 5)) (C := R_MO) (T := T_MO) (N := 36) hx hb hts in_MO hown hK hP (0) atM_MO rfl 9 (by decide) (hts _ gw_375) (fun _ h9 => h9) rfl d_MO_order_144 ?_
      refine lv_iload hx hb d_MO_order_147 (lv_at hl 0 rfl) ?_
      refine lv_aload_n hx hb d_MO_order_149 rfl (lv_at hl 1 rfl) ?_
      refine va_get (D := (dC, dI)) (ci := 9) (v := .int (X 1 0)) (C := R_MO) (T := T_MO) (N := 36) hx hb hts in_MO hown hK hP (0) atM_MO rfl 2 (by decide) (hts _ gw_360) (fun _ h9 => h9) rfl d_MO_order_150 ?_
      refine lv_iload hx hb d_MO_order_153 (lv_at hl 4 rfl) ?_
      refine lv_iadd hx hb d_MO_order_155 ?_
      refine va_iast hx hb hK hP (hD0 _ _) hS (5) 4 atM_orderEnds rfl h20 d_MO_order_156 (fun H locs hP _ hS => ?_)
      have hP : va_P (dC, dI) vwCl (wdM cA ad (up (up (up (up X 90 0 s0) 21 ((X 3 0).toNatClampNeg) v1) 22 ((X 3 0).toNatClampNeg) v3) 23 ((X 3 0).toNatClampNeg) ((X 1 0) + v4)) Y) H := by rw [← stM_orderEnds]; exact hP
      refine lv_aload_n hx hb d_MO_order_157 rfl (lv_at hl 1 rfl) ?_
      refine va_get (D := (dC, dI)) (ci := 9) (v := .ref (ad 6)) (C := R_MO) (T := T_MO) (N := 36) hx hb hts in_MO hown hK hP (0) atM_MO rfl 10 (by decide) (hts _ gw_345) (fun _ h9 => h9) rfl d_MO_order_158 ?_
      refine lv_iload hx hb d_MO_order_161 (lv_at hl 0 rfl) ?_
      refine lv_iconst (v := (0 : Int32)) hx hb d_MO_order_163 (by decide) ?_
      refine va_iast hx hb hK hP (hD0 _ _) hS (6) 5 atM_orderState rfl h20 d_MO_order_164 (fun H locs hP _ hS => ?_)
      have hP : va_P (dC, dI) vwCl (wdM cA ad (up (up (up (up (up X 90 0 s0) 21 ((X 3 0).toNatClampNeg) v1) 22 ((X 3 0).toNatClampNeg) v3) 23 ((X 3 0).toNatClampNeg) ((X 1 0) + v4)) 20 ((X 3 0).toNatClampNeg) (0 : Int32)) Y) H := by rw [← stM_orderState]; exact hP
      refine lv_aload_n hx hb d_MO_order_165 rfl (lv_at hl 1 rfl) ?_
      refine va_get (D := (dC, dI)) (ci := 9) (v := .ref (ad 7)) (C := R_MO) (T := T_MO) (N := 36) hx hb hts in_MO hown hK hP (0) atM_MO rfl 11 (by decide) (hts _ gw_376) (fun _ h9 => h9) rfl d_MO_order_166 ?_
      refine lv_iload hx hb d_MO_order_169 (lv_at hl 0 rfl) ?_
      refine lv_iconst (v := (-1 : Int32)) hx hb d_MO_order_171 (by decide) ?_
      refine va_iast hx hb hK hP (hD0 _ _) hS (7) 6 atM_orderPaper rfl h20 d_MO_order_172 (fun H locs hP _ hS => ?_)
      have hP : va_P (dC, dI) vwCl (wdM cA ad (up (up (up (up (up (up X 90 0 s0) 21 ((X 3 0).toNatClampNeg) v1) 22 ((X 3 0).toNatClampNeg) v3) 23 ((X 3 0).toNatClampNeg) ((X 1 0) + v4)) 20 ((X 3 0).toNatClampNeg) (0 : Int32)) 24 ((X 3 0).toNatClampNeg) (-1 : Int32)) Y) H := by rw [← stM_orderPaper]; exact hP
      refine lv_aload_n hx hb d_MO_order_173 rfl (lv_at hl 1 rfl) ?_
      refine va_get (D := (dC, dI)) (ci := 9) (v := .ref (ad 8)) (C := R_MO) (T := T_MO) (N := 36) hx hb hts in_MO hown hK hP (0) atM_MO rfl 12 (by decide) (hts _ gw_346) (fun _ h9 => h9) rfl d_MO_order_174 ?_
      refine lv_iload hx hb d_MO_order_177 (lv_at hl 0 rfl) ?_
      refine lv_iconst (v := (0 : Int32)) hx hb d_MO_order_179 (by decide) ?_
      refine va_iast hx hb hK hP (hD0 _ _) hS (8) 7 atM_orderMany rfl h20 d_MO_order_180 (fun H locs hP _ hS => ?_)
      have hP : va_P (dC, dI) vwCl (wdM cA ad (up (up (up (up (up (up (up X 90 0 s0) 21 ((X 3 0).toNatClampNeg) v1) 22 ((X 3 0).toNatClampNeg) v3) 23 ((X 3 0).toNatClampNeg) ((X 1 0) + v4)) 20 ((X 3 0).toNatClampNeg) (0 : Int32)) 24 ((X 3 0).toNatClampNeg) (-1 : Int32)) 25 ((X 3 0).toNatClampNeg) (0 : Int32)) Y) H := by rw [← stM_orderMany]; exact hP
      refine lv_aload_n hx hb d_MO_order_181 rfl (lv_at hl 1 rfl) ?_
      refine lv_dup hx hb d_MO_order_182 rfl ?_
      refine va_get (D := (dC, dI)) (ci := 9) (v := .int (X 3 0)) (C := R_MO) (T := T_MO) (N := 36) hx hb hts in_MO hown hK hP (0) atM_MO rfl 6 (by decide) (hts _ gw_349) (fun _ h9 => h9) rfl d_MO_order_183 ?_
      refine lv_iconst (v := (1 : Int32)) hx hb d_MO_order_186 (by decide) ?_
      refine lv_iadd hx hb d_MO_order_187 ?_
      refine va_put (D := (dC, dI)) (ci := 9) (v := .int ((X 3 0) + (1 : Int32))) (ty := .int) (C := R_MO) (T := T_MO) (N := 36) hx hb hts in_MO ty_MO ty_MO_ok nm_MO hown hK hP (hD0 _ _) hS (0) atM_MO rfl 6 (by decide) (hts _ gw_349) (fun _ h9 => h9) rfl (by decide +kernel) rfl rfl (Nat.le_of_ble_eq_true rfl) d_MO_order_188 (fun H locs hP _ hS => ?_)
      have hP : va_P (dC, dI) vwCl (wdM cA ad (up (up (up (up (up (up (up (up X 90 0 s0) 21 ((X 3 0).toNatClampNeg) v1) 22 ((X 3 0).toNatClampNeg) v3) 23 ((X 3 0).toNatClampNeg) ((X 1 0) + v4)) 20 ((X 3 0).toNatClampNeg) (0 : Int32)) 24 ((X 3 0).toNatClampNeg) (-1 : Int32)) 25 ((X 3 0).toNatClampNeg) (0 : Int32)) 3 0 ((X 3 0) + (1 : Int32))) Y) H := by rw [← stM_MO_6]; exact hP
      refine lv_iconst (v := (0 : Int32)) hx hb d_MO_order_191 (by decide) ?_
      refine lv_istore (lv' := [(8, .int (0 : Int32)), (7, .int (X 3 0)), (0, .ref (ad 0)), (1, .int v1), (3, .int v3), (4, .int v4)]) hx hb d_MO_order_192 hl (by decide) rfl (fun ls hl => ?_)
      have hl := lv_sub hl (l' := [(0, .ref (ad 0)), (1, .int v1), (3, .int v3), (4, .int v4), (7, .int (X 3 0)), (8, .int (0 : Int32))]) [2, 3, 4, 5, 1, 0] rfl
      obtain ⟨n9, hw⟩ := hw
      exact L194 _ _ _ _ n9 _ _ _ _ _ _ hw hP hS hl
    · have hw := hw.2 c19
      refine lv_iconst (v := (0 : Int32)) hx hb d_MO_order_119 (by decide) ?_
      exact W.iret (v := (0 : Int32)) hx hb hr (fun t ht _ => ⟨⟨(0 : Int32), (up X 90 0 s0, Y), rfl, hw, by show va_P _ _ _ t.heap; rw [ht]; exact hP⟩, hS.F ht⟩) hS.2.2 d_MO_order_120
  have L67 : ∀ (s0 : Int32) (v1 : Int32) (v3 : Int32) (v4 : Int32) (X : ST) (Y : Int64) (H : Heap) (locs : List Loc) (ls : Array Slot), wq_MO_order_67 post s0 v1 v3 v4 X Y → va_P (dC, dI) vwCl (wdM cA ad X Y) H → va_S (CA ad 23 s.heap.size) s.heap H locs → lv_has ls 10 [(0, .ref (ad 0)), (1, .int v1), (3, .int v3), (4, .int v4)] → W p l e (headSpec ws_MO_order ({ frames := 3, cells := 0, slots := 0, locals := 73 } : Room)).room s m (([.ref (ad 0), .int a1, .int a2, .int a3, .int a4, .int a5] : List Value).toArray) below meth c H locs 0 0 (MQ below (va_Qi (fun r (u : ST × Int64) => post r u.1 u.2) (fun (u : ST × Int64) t => va_P (dC, dI) vwCl (wdM cA ad u.1 u.2) t.heap) (CA ad 23 s.heap.size)) (([.ref (ad 0), .int a1, .int a2, .int a3, .int a4, .int a5] : List Value).toArray) s 0 0 (CA ad 23 s.heap.size)) (F0 m 67 ls [.int s0]) := by
    intro s0 v1 v3 v4 X Y H locs ls hw hP hS hl
    unfold wq_MO_order_67 at hw
    refine lv_istore (lv' := [(6, .int s0), (0, .ref (ad 0)), (1, .int v1), (3, .int v3), (4, .int v4)]) hx hb d_MO_order_67 hl (by decide) rfl (fun ls hl => ?_)
    refine lv_aload_n hx hb d_MO_order_69 rfl (lv_at hl 1 rfl) ?_
    refine lv_iload hx hb d_MO_order_70 (lv_at hl 0 rfl) ?_
    refine lv_if_ne (tgt := 79) hx hb d_MO_order_72 (by decide) (fun c21 => ?_) (fun c21 => ?_)
    · have hw := hw.2 c21
      refine lv_aload_n hx hb d_MO_order_79 rfl (lv_at hl 1 rfl) ?_
      refine va_get (D := (dC, dI)) (ci := 9) (v := .int (X 3 0)) (C := R_MO) (T := T_MO) (N := 36) hx hb hts in_MO hown hK hP (0) atM_MO rfl 6 (by decide) (hts _ gw_349) (fun _ h9 => h9) rfl d_MO_order_80 ?_
      refine lv_bipush (v := (12 : Int32)) hx hb d_MO_order_83 (by decide) ?_
      refine lv_icmp_eq (tgt := 104) hx hb d_MO_order_85 (by decide) (fun c22 => ?_) (fun c22 => ?_)
      · have hw := hw.1 c22
        refine lv_iconst (v := (4 : Int32)) hx hb d_MO_order_104 (by decide) ?_
        refine lv_goto (tgt := 109) hx hb d_MO_order_105 (by decide) ?_
        have hl := lv_sub hl (l' := [(0, .ref (ad 0)), (1, .int v1), (3, .int v3), (4, .int v4)]) [1, 2, 3, 4] rfl
        exact L109 _ _ _ _ _ _ _ _ _ hw hP hS hl
      · have hw := hw.2 c22
        refine lv_aload_n hx hb d_MO_order_88 rfl (lv_at hl 1 rfl) ?_
        refine va_get (D := (dC, dI)) (ci := 9) (v := .int (X 4 0)) (C := R_MO) (T := T_MO) (N := 36) hx hb hts in_MO hown hK hP (0) atM_MO rfl 14 (by decide) (hts _ gw_350) (fun _ h9 => h9) rfl d_MO_order_89 ?_
        refine lv_aload_n hx hb d_MO_order_92 rfl (lv_at hl 1 rfl) ?_
        refine lv_iload_n hx hb d_MO_order_93 rfl (lv_at hl 2 rfl) ?_
        refine lv_iload_n hx hb d_MO_order_94 rfl (lv_at hl 3 rfl) ?_
        refine va_calli (va_runV (As := [.int v1, .int v3]) (rest := [.int (X 4 0), .ref (ad 0)]) ⟨hx, hb, hml, hown, hts⟩ (mt_MO_fresh l hl9 dC dI cA ad hI _ hw) (cwV 2 hts (gV gw_378 gw_379 gw_380 gw_306 gw_377) rfl rfl rfl (by decide +kernel) ⟨Nat.le_of_ble_eq_true rfl, Nat.le_of_ble_eq_true rfl⟩) ⟨zwM_blind, va_recv hK hP (ci := 9) (q0 := 0) rfl atM_MO, zwM_pre hP hS hG9⟩ rfl rfl hl.1 rfl (lv_room (Nat.le_of_ble_eq_true rfl)) d_MO_order_95 ⟨Nat.le_of_ble_eq_true rfl, Nat.le_of_ble_eq_true rfl⟩) hS (fun q _ h => CA_le hS.1 q h) (fun q h => CA_le hS.1 q h) (fun r25 u9 t H locs ht hvm hw hP hz1 hk1 hS => ?_)
        obtain ⟨X23, Y24⟩ := u9
        have hP : va_P (dC, dI) vwCl (wdM cA ad X23 Y24) H := by rw [← ht]; exact hP
        try dsimp only at hw
        refine lv_iadd hx hb d_MO_order_98 ?_
        refine lv_bipush (v := (24 : Int32)) hx hb d_MO_order_99 (by decide) ?_
        refine lv_icmp_le (tgt := 108) hx hb d_MO_order_101 (by decide) (fun c26 => ?_) (fun c26 => ?_)
        · have hw := hw.1 c26
          refine lv_iconst (v := (0 : Int32)) hx hb d_MO_order_108 (by decide) ?_
          have hl := lv_sub hl (l' := [(0, .ref (ad 0)), (1, .int v1), (3, .int v3), (4, .int v4)]) [1, 2, 3, 4] rfl
          exact L109 _ _ _ _ _ _ _ _ _ hw hP hS hl
        · have hw := hw.2 c26
          refine lv_iconst (v := (4 : Int32)) hx hb d_MO_order_104 (by decide) ?_
          refine lv_goto (tgt := 109) hx hb d_MO_order_105 (by decide) ?_
          have hl := lv_sub hl (l' := [(0, .ref (ad 0)), (1, .int v1), (3, .int v3), (4, .int v4)]) [1, 2, 3, 4] rfl
          exact L109 _ _ _ _ _ _ _ _ _ hw hP hS hl
    · have hw := hw.1 c21
      refine lv_iconst (v := (3 : Int32)) hx hb d_MO_order_75 (by decide) ?_
      refine lv_goto (tgt := 109) hx hb d_MO_order_76 (by decide) ?_
      have hl := lv_sub hl (l' := [(0, .ref (ad 0)), (1, .int v1), (3, .int v3), (4, .int v4)]) [1, 2, 3, 4] rfl
      exact L109 _ _ _ _ _ _ _ _ _ hw hP hS hl
  unfold wp_MO_order at hw
  refine lv_aload_n hx hb d_MO_order_0 rfl (lv_at hl 0 rfl) ?_
  refine lv_aload_n hx hb d_MO_order_1 rfl (lv_at hl 0 rfl) ?_
  refine lv_iload_n hx hb d_MO_order_2 rfl (lv_at hl 1 rfl) ?_
  refine lv_iload_n hx hb d_MO_order_3 rfl (lv_at hl 2 rfl) ?_
  refine lv_aload_n hx hb d_MO_order_4 rfl (lv_at hl 0 rfl) ?_
  refine lv_iconst (v := (2 : Int32)) hx hb d_MO_order_5 (by decide) ?_
  refine lv_iload_n hx hb d_MO_order_6 rfl (lv_at hl 1 rfl) ?_
  refine lv_iload_n hx hb d_MO_order_7 rfl (lv_at hl 2 rfl) ?_
  refine lv_iload_n hx hb d_MO_order_8 rfl (lv_at hl 3 rfl) ?_
  refine lv_iload hx hb d_MO_order_9 (lv_at hl 4 rfl) ?_
  refine va_calli (va_runV (As := [.int (2 : Int32), .int a1, .int a2, .int a3, .int a4]) (rest := [.int a2, .int a1, .ref (ad 0), .ref (ad 0)]) ⟨hx, hb, hml, hown, hts⟩ (mt_MO_five l hl9 dC dI cA ad hI _ hw) (cwV 5 hts (gV gw_328 gw_329 gw_330 gw_306 gw_327) rfl rfl rfl (by decide +kernel) ⟨Nat.le_of_ble_eq_true rfl, Nat.le_of_ble_eq_true rfl⟩) ⟨zwM_blind, va_recv hK hP (ci := 9) (q0 := 0) rfl atM_MO, zwM_pre hP hS hG9⟩ rfl rfl hl.1 rfl (lv_room (Nat.le_of_ble_eq_true rfl)) d_MO_order_11 ⟨Nat.le_of_ble_eq_true rfl, Nat.le_of_ble_eq_true rfl⟩) hS (fun q _ h => CA_le hS.1 q h) (fun q h => CA_le hS.1 q h) (fun r29 u9 t H locs ht hvm hw hP hz1 hk1 hS => ?_)
  obtain ⟨X27, Y28⟩ := u9
  have hP : va_P (dC, dI) vwCl (wdM cA ad X27 Y28) H := by rw [← ht]; exact hP
  try dsimp only at hw
  refine lv_iload hx hb d_MO_order_14 (lv_at hl 5 rfl) ?_
  refine va_calli (va_runV (As := [.int a1, .int a2, .int r29, .int a5]) (rest := [.ref (ad 0)]) ⟨hx, hb, hml, hown, hts⟩ (mt_MO_signed l hl9 dC dI cA ad hI _ hw) (cwV 4 hts (gV gw_382 gw_383 gw_384 gw_306 gw_381) rfl rfl rfl (by decide +kernel) ⟨Nat.le_of_ble_eq_true rfl, Nat.le_of_ble_eq_true rfl⟩) ⟨zwM_blind, va_recv hK hP (ci := 9) (q0 := 0) rfl atM_MO, zwM_pre hP hS hG9⟩ rfl rfl hl.1 rfl (lv_room (Nat.le_of_ble_eq_true rfl)) d_MO_order_16 ⟨Nat.le_of_ble_eq_true rfl, Nat.le_of_ble_eq_true rfl⟩) hS (fun q _ h => CA_le hS.1 q h) (fun q h => CA_le hS.1 q h) (fun r32 u9 t H locs ht hvm hw hP hz1 hk1 hS => ?_)
  obtain ⟨X30, Y31⟩ := u9
  have hP : va_P (dC, dI) vwCl (wdM cA ad X30 Y31) H := by rw [← ht]; exact hP
  try dsimp only at hw
  refine va_put (D := (dC, dI)) (ci := 9) (v := .int r32) (ty := .int) (C := R_MO) (T := T_MO) (N := 36) hx hb hts in_MO ty_MO ty_MO_ok nm_MO hown hK hP (hD0 _ _) hS (0) atM_MO rfl 0 (by decide) (hts _ gw_297) (fun _ h9 => h9) rfl (by decide +kernel) rfl rfl (Nat.le_of_ble_eq_true rfl) d_MO_order_19 (fun H locs hP _ hS => ?_)
  have hP : va_P (dC, dI) vwCl (wdM cA ad (up X30 90 0 r32) Y31) H := by rw [← stM_MO_0]; exact hP
  refine lv_aload_n hx hb d_MO_order_22 rfl (lv_at hl 0 rfl) ?_
  refine va_get (D := (dC, dI)) (ci := 9) (v := .int r32) (C := R_MO) (T := T_MO) (N := 36) hx hb hts in_MO hown hK hP (0) atM_MO rfl 0 (by decide) (hts _ gw_297) (fun _ h9 => h9) rfl d_MO_order_23 ?_
  refine lv_if_eq (tgt := 31) hx hb d_MO_order_26 (by decide) (fun c33 => ?_) (fun c33 => ?_)
  · have hw := hw.1 c33
    refine lv_iload_n hx hb d_MO_order_31 rfl (lv_at hl 3 rfl) ?_
    refine lv_if_le (tgt := 66) hx hb d_MO_order_32 (by decide) (fun c34 => ?_) (fun c34 => ?_)
    · have hw := hw.1 c34
      refine lv_iconst (v := (0 : Int32)) hx hb d_MO_order_66 (by decide) ?_
      have hl := lv_sub hl (l' := [(0, .ref (ad 0)), (1, .int a1), (3, .int a3), (4, .int a4)]) [0, 1, 3, 4] rfl
      exact L67 _ _ _ _ _ _ _ _ _ hw hP hS hl
    · have hw := hw.2 c34
      refine lv_iload_n hx hb d_MO_order_35 rfl (lv_at hl 3 rfl) ?_
      refine lv_ldc (v := (65536 : Int32)) hx hb hown (hts _ gw_385) d_MO_order_36 ?_
      refine lv_icmp_ge (tgt := 66) hx hb d_MO_order_38 (by decide) (fun c35 => ?_) (fun c35 => ?_)
      · have hw := hw.1 c35
        refine lv_iconst (v := (0 : Int32)) hx hb d_MO_order_66 (by decide) ?_
        have hl := lv_sub hl (l' := [(0, .ref (ad 0)), (1, .int a1), (3, .int a3), (4, .int a4)]) [0, 1, 3, 4] rfl
        exact L67 _ _ _ _ _ _ _ _ _ hw hP hS hl
      · have hw := hw.2 c35
        refine lv_iload_n hx hb d_MO_order_41 rfl (lv_at hl 3 rfl) ?_
        refine va_calli (va_runS (As := [.int a3]) (rest := []) ⟨hx, hb, hml, hown, hts⟩ (mt_MO_many l hl9 dC dI cA ad hI _ hw) (va_cwS 1 hts (gS gw_387 gw_388 gw_306 gw_386) rfl rfl rfl (by decide +kernel) ⟨Nat.le_of_ble_eq_true rfl, Nat.le_of_ble_eq_true rfl⟩) ⟨zwM_blind, zwM_pre hP hS hG9⟩ rfl rfl hl.1 rfl (lv_room (Nat.le_of_ble_eq_true rfl)) d_MO_order_42 ⟨Nat.le_of_ble_eq_true rfl, Nat.le_of_ble_eq_true rfl⟩) hS (fun q _ h => CA_le hS.1 q h) (fun q h => CA_le hS.1 q h) (fun r38 u9 t H locs ht hvm hw hP hz1 hk1 hS => ?_)
        obtain ⟨X36, Y37⟩ := u9
        have hP : va_P (dC, dI) vwCl (wdM cA ad X36 Y37) H := by rw [← ht]; exact hP
        try dsimp only at hw
        refine lv_iconst (v := (4 : Int32)) hx hb d_MO_order_45 (by decide) ?_
        refine lv_icmp_gt (tgt := 66) hx hb d_MO_order_46 (by decide) (fun c39 => ?_) (fun c39 => ?_)
        · have hw := hw.1 c39
          refine lv_iconst (v := (0 : Int32)) hx hb d_MO_order_66 (by decide) ?_
          have hl := lv_sub hl (l' := [(0, .ref (ad 0)), (1, .int a1), (3, .int a3), (4, .int a4)]) [0, 1, 3, 4] rfl
          exact L67 _ _ _ _ _ _ _ _ _ hw hP hS hl
        · have hw := hw.2 c39
          refine lv_iload hx hb d_MO_order_49 (lv_at hl 4 rfl) ?_
          refine lv_iconst (v := (1 : Int32)) hx hb d_MO_order_51 (by decide) ?_
          refine lv_icmp_lt (tgt := 66) hx hb d_MO_order_52 (by decide) (fun c40 => ?_) (fun c40 => ?_)
          · have hw := hw.1 c40
            refine lv_iconst (v := (0 : Int32)) hx hb d_MO_order_66 (by decide) ?_
            have hl := lv_sub hl (l' := [(0, .ref (ad 0)), (1, .int a1), (3, .int a3), (4, .int a4)]) [0, 1, 3, 4] rfl
            exact L67 _ _ _ _ _ _ _ _ _ hw hP hS hl
          · have hw := hw.2 c40
            refine lv_iload hx hb d_MO_order_55 (lv_at hl 4 rfl) ?_
            refine lv_bipush (v := (100 : Int32)) hx hb d_MO_order_57 (by decide) ?_
            refine lv_icmp_gt (tgt := 66) hx hb d_MO_order_59 (by decide) (fun c41 => ?_) (fun c41 => ?_)
            · have hw := hw.1 c41
              refine lv_iconst (v := (0 : Int32)) hx hb d_MO_order_66 (by decide) ?_
              have hl := lv_sub hl (l' := [(0, .ref (ad 0)), (1, .int a1), (3, .int a3), (4, .int a4)]) [0, 1, 3, 4] rfl
              exact L67 _ _ _ _ _ _ _ _ _ hw hP hS hl
            · have hw := hw.2 c41
              refine lv_iconst (v := (1 : Int32)) hx hb d_MO_order_62 (by decide) ?_
              refine lv_goto (tgt := 67) hx hb d_MO_order_63 (by decide) ?_
              have hl := lv_sub hl (l' := [(0, .ref (ad 0)), (1, .int a1), (3, .int a3), (4, .int a4)]) [0, 1, 3, 4] rfl
              exact L67 _ _ _ _ _ _ _ _ _ hw hP hS hl
  · have hw := hw.2 c33
    refine lv_iconst (v := (0 : Int32)) hx hb d_MO_order_29 (by decide) ?_
    exact W.iret (v := (0 : Int32)) hx hb hr (fun t ht _ => ⟨⟨(0 : Int32), (up X30 90 0 r32, Y31), rfl, hw, by show va_P _ _ _ t.heap; rw [ht]; exact hP⟩, hS.F ht⟩) hS.2.2 d_MO_order_30
