def ws_MO_readRequest : List Cond := Cond.code y_MO_readRequest c_MO_readRequest 5 (Option.none : Option Jvm.ClassFile.FieldType) :: GW
theorem d_MO_readRequest_0 : decode c_MO_readRequest 0 = .ok (.aload_n 0, 1) := by decide +kernel
theorem d_MO_readRequest_1 : decode c_MO_readRequest 1 = .ok (.iconst 0, 1) := by decide +kernel
theorem d_MO_readRequest_2 : decode c_MO_readRequest 2 = .ok (.putfield 179, 3) := by decide +kernel
theorem d_MO_readRequest_5 : decode c_MO_readRequest 5 = .ok (.aload_n 0, 1) := by decide +kernel
theorem d_MO_readRequest_6 : decode c_MO_readRequest 6 = .ok (.iconst 1, 1) := by decide +kernel
theorem d_MO_readRequest_7 : decode c_MO_readRequest 7 = .ok (.putfield 175, 3) := by decide +kernel
theorem d_MO_readRequest_10 : decode c_MO_readRequest 10 = .ok (.aload_n 0, 1) := by decide +kernel
theorem d_MO_readRequest_11 : decode c_MO_readRequest 11 = .ok (.bipush 48, 2) := by decide +kernel
theorem d_MO_readRequest_13 : decode c_MO_readRequest 13 = .ok (.invokevirtual 188, 3) := by decide +kernel
theorem d_MO_readRequest_16 : decode c_MO_readRequest 16 = .ok (.aload_n 0, 1) := by decide +kernel
theorem d_MO_readRequest_17 : decode c_MO_readRequest 17 = .ok (.invokevirtual 191, 3) := by decide +kernel
theorem d_MO_readRequest_20 : decode c_MO_readRequest 20 = .ok (.istore_n 1, 1) := by decide +kernel
theorem d_MO_readRequest_21 : decode c_MO_readRequest 21 = .ok (.aload_n 0, 1) := by decide +kernel
theorem d_MO_readRequest_22 : decode c_MO_readRequest 22 = .ok (.aload_n 0, 1) := by decide +kernel
theorem d_MO_readRequest_23 : decode c_MO_readRequest 23 = .ok (.getfield 175, 3) := by decide +kernel
theorem d_MO_readRequest_26 : decode c_MO_readRequest 26 = .ok (.ifCond .eq 20, 3) := by decide +kernel
theorem d_MO_readRequest_29 : decode c_MO_readRequest 29 = .ok (.aload_n 0, 1) := by decide +kernel
theorem d_MO_readRequest_30 : decode c_MO_readRequest 30 = .ok (.getfield 179, 3) := by decide +kernel
theorem d_MO_readRequest_33 : decode c_MO_readRequest 33 = .ok (.iload_n 1, 1) := by decide +kernel
theorem d_MO_readRequest_34 : decode c_MO_readRequest 34 = .ok (.iadd, 1) := by decide +kernel
theorem d_MO_readRequest_35 : decode c_MO_readRequest 35 = .ok (.aload_n 0, 1) := by decide +kernel
theorem d_MO_readRequest_36 : decode c_MO_readRequest 36 = .ok (.getfield 182, 3) := by decide +kernel
theorem d_MO_readRequest_39 : decode c_MO_readRequest 39 = .ok (.if_icmp .ne 7, 3) := by decide +kernel
theorem d_MO_readRequest_42 : decode c_MO_readRequest 42 = .ok (.iconst 1, 1) := by decide +kernel
theorem d_MO_readRequest_43 : decode c_MO_readRequest 43 = .ok (.goto 4, 3) := by decide +kernel
theorem d_MO_readRequest_46 : decode c_MO_readRequest 46 = .ok (.iconst 0, 1) := by decide +kernel
theorem d_MO_readRequest_47 : decode c_MO_readRequest 47 = .ok (.putfield 175, 3) := by decide +kernel
theorem d_MO_readRequest_50 : decode c_MO_readRequest 50 = .ok (.aload_n 0, 1) := by decide +kernel
theorem d_MO_readRequest_51 : decode c_MO_readRequest 51 = .ok (.aload_n 0, 1) := by decide +kernel
theorem d_MO_readRequest_52 : decode c_MO_readRequest 52 = .ok (.invokevirtual 194, 3) := by decide +kernel
theorem d_MO_readRequest_55 : decode c_MO_readRequest 55 = .ok (.putfield 197, 3) := by decide +kernel
theorem d_MO_readRequest_58 : decode c_MO_readRequest 58 = .ok (.aload_n 0, 1) := by decide +kernel
theorem d_MO_readRequest_59 : decode c_MO_readRequest 59 = .ok (.aload_n 0, 1) := by decide +kernel
theorem d_MO_readRequest_60 : decode c_MO_readRequest 60 = .ok (.getfield 175, 3) := by decide +kernel
theorem d_MO_readRequest_63 : decode c_MO_readRequest 63 = .ok (.ifCond .eq 17, 3) := by decide +kernel
theorem d_MO_readRequest_66 : decode c_MO_readRequest 66 = .ok (.aload_n 0, 1) := by decide +kernel
theorem d_MO_readRequest_67 : decode c_MO_readRequest 67 = .ok (.getfield 197, 3) := by decide +kernel
theorem d_MO_readRequest_70 : decode c_MO_readRequest 70 = .ok (.invokestatic 112, 3) := by decide +kernel
theorem d_MO_readRequest_73 : decode c_MO_readRequest 73 = .ok (.ifCond .eq 7, 3) := by decide +kernel
theorem d_MO_readRequest_76 : decode c_MO_readRequest 76 = .ok (.iconst 1, 1) := by decide +kernel
theorem d_MO_readRequest_77 : decode c_MO_readRequest 77 = .ok (.goto 4, 3) := by decide +kernel
theorem d_MO_readRequest_80 : decode c_MO_readRequest 80 = .ok (.iconst 0, 1) := by decide +kernel
theorem d_MO_readRequest_81 : decode c_MO_readRequest 81 = .ok (.putfield 175, 3) := by decide +kernel
theorem d_MO_readRequest_84 : decode c_MO_readRequest 84 = .ok (.aload_n 0, 1) := by decide +kernel
theorem d_MO_readRequest_85 : decode c_MO_readRequest 85 = .ok (.bipush 48, 2) := by decide +kernel
theorem d_MO_readRequest_87 : decode c_MO_readRequest 87 = .ok (.invokevirtual 188, 3) := by decide +kernel
theorem d_MO_readRequest_90 : decode c_MO_readRequest 90 = .ok (.aload_n 0, 1) := by decide +kernel
theorem d_MO_readRequest_91 : decode c_MO_readRequest 91 = .ok (.invokevirtual 191, 3) := by decide +kernel
theorem d_MO_readRequest_94 : decode c_MO_readRequest 94 = .ok (.istore_n 2, 1) := by decide +kernel
theorem d_MO_readRequest_95 : decode c_MO_readRequest 95 = .ok (.aload_n 0, 1) := by decide +kernel
theorem d_MO_readRequest_96 : decode c_MO_readRequest 96 = .ok (.getfield 179, 3) := by decide +kernel
theorem d_MO_readRequest_99 : decode c_MO_readRequest 99 = .ok (.iload_n 2, 1) := by decide +kernel
theorem d_MO_readRequest_100 : decode c_MO_readRequest 100 = .ok (.iadd, 1) := by decide +kernel
theorem d_MO_readRequest_101 : decode c_MO_readRequest 101 = .ok (.istore_n 3, 1) := by decide +kernel
theorem d_MO_readRequest_102 : decode c_MO_readRequest 102 = .ok (.aload_n 0, 1) := by decide +kernel
theorem d_MO_readRequest_103 : decode c_MO_readRequest 103 = .ok (.aload_n 0, 1) := by decide +kernel
theorem d_MO_readRequest_104 : decode c_MO_readRequest 104 = .ok (.getfield 175, 3) := by decide +kernel
theorem d_MO_readRequest_107 : decode c_MO_readRequest 107 = .ok (.ifCond .eq 11, 3) := by decide +kernel
theorem d_MO_readRequest_110 : decode c_MO_readRequest 110 = .ok (.iload_n 2, 1) := by decide +kernel
theorem d_MO_readRequest_111 : decode c_MO_readRequest 111 = .ok (.ifCond .le 7, 3) := by decide +kernel
theorem d_MO_readRequest_114 : decode c_MO_readRequest 114 = .ok (.iconst 1, 1) := by decide +kernel
theorem d_MO_readRequest_115 : decode c_MO_readRequest 115 = .ok (.goto 4, 3) := by decide +kernel
theorem d_MO_readRequest_118 : decode c_MO_readRequest 118 = .ok (.iconst 0, 1) := by decide +kernel
theorem d_MO_readRequest_119 : decode c_MO_readRequest 119 = .ok (.putfield 175, 3) := by decide +kernel
theorem d_MO_readRequest_122 : decode c_MO_readRequest 122 = .ok (.aload_n 0, 1) := by decide +kernel
theorem d_MO_readRequest_123 : decode c_MO_readRequest 123 = .ok (.iconst 0, 1) := by decide +kernel
theorem d_MO_readRequest_124 : decode c_MO_readRequest 124 = .ok (.putfield 200, 3) := by decide +kernel
theorem d_MO_readRequest_127 : decode c_MO_readRequest 127 = .ok (.aload_n 0, 1) := by decide +kernel
theorem d_MO_readRequest_128 : decode c_MO_readRequest 128 = .ok (.getfield 175, 3) := by decide +kernel
theorem d_MO_readRequest_131 : decode c_MO_readRequest 131 = .ok (.ifCond .eq 73, 3) := by decide +kernel
theorem d_MO_readRequest_134 : decode c_MO_readRequest 134 = .ok (.aload_n 0, 1) := by decide +kernel
theorem d_MO_readRequest_135 : decode c_MO_readRequest 135 = .ok (.getfield 179, 3) := by decide +kernel
theorem d_MO_readRequest_138 : decode c_MO_readRequest 138 = .ok (.iload_n 3, 1) := by decide +kernel
theorem d_MO_readRequest_139 : decode c_MO_readRequest 139 = .ok (.if_icmp .ge 65, 3) := by decide +kernel
theorem d_MO_readRequest_142 : decode c_MO_readRequest 142 = .ok (.aload_n 0, 1) := by decide +kernel
theorem d_MO_readRequest_143 : decode c_MO_readRequest 143 = .ok (.invokevirtual 194, 3) := by decide +kernel
theorem d_MO_readRequest_146 : decode c_MO_readRequest 146 = .ok (.istore 4, 2) := by decide +kernel
theorem d_MO_readRequest_148 : decode c_MO_readRequest 148 = .ok (.aload_n 0, 1) := by decide +kernel
theorem d_MO_readRequest_149 : decode c_MO_readRequest 149 = .ok (.aload_n 0, 1) := by decide +kernel
theorem d_MO_readRequest_150 : decode c_MO_readRequest 150 = .ok (.getfield 175, 3) := by decide +kernel
theorem d_MO_readRequest_153 : decode c_MO_readRequest 153 = .ok (.ifCond .eq 24, 3) := by decide +kernel
theorem d_MO_readRequest_156 : decode c_MO_readRequest 156 = .ok (.iload 4, 2) := by decide +kernel
theorem d_MO_readRequest_158 : decode c_MO_readRequest 158 = .ok (.bipush 16, 2) := by decide +kernel
theorem d_MO_readRequest_160 : decode c_MO_readRequest 160 = .ok (.if_icmp .ge 17, 3) := by decide +kernel
theorem d_MO_readRequest_163 : decode c_MO_readRequest 163 = .ok (.aload_n 0, 1) := by decide +kernel
theorem d_MO_readRequest_164 : decode c_MO_readRequest 164 = .ok (.getfield 200, 3) := by decide +kernel
theorem d_MO_readRequest_167 : decode c_MO_readRequest 167 = .ok (.iload 4, 2) := by decide +kernel
theorem d_MO_readRequest_169 : decode c_MO_readRequest 169 = .ok (.ishr, 1) := by decide +kernel
theorem d_MO_readRequest_170 : decode c_MO_readRequest 170 = .ok (.ifCond .ne 7, 3) := by decide +kernel
theorem d_MO_readRequest_173 : decode c_MO_readRequest 173 = .ok (.iconst 1, 1) := by decide +kernel
theorem d_MO_readRequest_174 : decode c_MO_readRequest 174 = .ok (.goto 4, 3) := by decide +kernel
theorem d_MO_readRequest_177 : decode c_MO_readRequest 177 = .ok (.iconst 0, 1) := by decide +kernel
theorem d_MO_readRequest_178 : decode c_MO_readRequest 178 = .ok (.putfield 175, 3) := by decide +kernel
theorem d_MO_readRequest_181 : decode c_MO_readRequest 181 = .ok (.aload_n 0, 1) := by decide +kernel
theorem d_MO_readRequest_182 : decode c_MO_readRequest 182 = .ok (.getfield 175, 3) := by decide +kernel
theorem d_MO_readRequest_185 : decode c_MO_readRequest 185 = .ok (.ifCond .eq 16, 3) := by decide +kernel
theorem d_MO_readRequest_188 : decode c_MO_readRequest 188 = .ok (.aload_n 0, 1) := by decide +kernel
theorem d_MO_readRequest_189 : decode c_MO_readRequest 189 = .ok (.aload_n 0, 1) := by decide +kernel
theorem d_MO_readRequest_190 : decode c_MO_readRequest 190 = .ok (.getfield 200, 3) := by decide +kernel
theorem d_MO_readRequest_193 : decode c_MO_readRequest 193 = .ok (.iconst 1, 1) := by decide +kernel
theorem d_MO_readRequest_194 : decode c_MO_readRequest 194 = .ok (.iload 4, 2) := by decide +kernel
theorem d_MO_readRequest_196 : decode c_MO_readRequest 196 = .ok (.ishl, 1) := by decide +kernel
theorem d_MO_readRequest_197 : decode c_MO_readRequest 197 = .ok (.ior, 1) := by decide +kernel
theorem d_MO_readRequest_198 : decode c_MO_readRequest 198 = .ok (.putfield 200, 3) := by decide +kernel
theorem d_MO_readRequest_201 : decode c_MO_readRequest 201 = .ok (.goto (-74), 3) := by decide +kernel
theorem d_MO_readRequest_204 : decode c_MO_readRequest 204 = .ok (.aload_n 0, 1) := by decide +kernel
theorem d_MO_readRequest_205 : decode c_MO_readRequest 205 = .ok (.aload_n 0, 1) := by decide +kernel
theorem d_MO_readRequest_206 : decode c_MO_readRequest 206 = .ok (.getfield 175, 3) := by decide +kernel
theorem d_MO_readRequest_209 : decode c_MO_readRequest 209 = .ok (.ifCond .eq 15, 3) := by decide +kernel
theorem d_MO_readRequest_212 : decode c_MO_readRequest 212 = .ok (.aload_n 0, 1) := by decide +kernel
theorem d_MO_readRequest_213 : decode c_MO_readRequest 213 = .ok (.getfield 179, 3) := by decide +kernel
theorem d_MO_readRequest_216 : decode c_MO_readRequest 216 = .ok (.iload_n 3, 1) := by decide +kernel
theorem d_MO_readRequest_217 : decode c_MO_readRequest 217 = .ok (.if_icmp .ne 7, 3) := by decide +kernel
theorem d_MO_readRequest_220 : decode c_MO_readRequest 220 = .ok (.iconst 1, 1) := by decide +kernel
theorem d_MO_readRequest_221 : decode c_MO_readRequest 221 = .ok (.goto 4, 3) := by decide +kernel
theorem d_MO_readRequest_224 : decode c_MO_readRequest 224 = .ok (.iconst 0, 1) := by decide +kernel
theorem d_MO_readRequest_225 : decode c_MO_readRequest 225 = .ok (.putfield 175, 3) := by decide +kernel
theorem d_MO_readRequest_228 : decode c_MO_readRequest 228 = .ok (.aload_n 0, 1) := by decide +kernel
theorem d_MO_readRequest_229 : decode c_MO_readRequest 229 = .ok (.invokevirtual 194, 3) := by decide +kernel
theorem d_MO_readRequest_232 : decode c_MO_readRequest 232 = .ok (.istore 4, 2) := by decide +kernel
theorem d_MO_readRequest_234 : decode c_MO_readRequest 234 = .ok (.aload_n 0, 1) := by decide +kernel
theorem d_MO_readRequest_235 : decode c_MO_readRequest 235 = .ok (.lconst 0, 1) := by decide +kernel
theorem d_MO_readRequest_236 : decode c_MO_readRequest 236 = .ok (.putfield 85, 3) := by decide +kernel
theorem d_MO_readRequest_239 : decode c_MO_readRequest 239 = .ok (.aload_n 0, 1) := by decide +kernel
theorem d_MO_readRequest_240 : decode c_MO_readRequest 240 = .ok (.bipush 9, 2) := by decide +kernel
theorem d_MO_readRequest_242 : decode c_MO_readRequest 242 = .ok (.invokevirtual 91, 3) := by decide +kernel
theorem d_MO_readRequest_245 : decode c_MO_readRequest 245 = .ok (.aload_n 0, 1) := by decide +kernel
theorem d_MO_readRequest_246 : decode c_MO_readRequest 246 = .ok (.aload_n 0, 1) := by decide +kernel
theorem d_MO_readRequest_247 : decode c_MO_readRequest 247 = .ok (.getfield 197, 3) := by decide +kernel
theorem d_MO_readRequest_250 : decode c_MO_readRequest 250 = .ok (.invokevirtual 91, 3) := by decide +kernel
theorem d_MO_readRequest_253 : decode c_MO_readRequest 253 = .ok (.aload_n 0, 1) := by decide +kernel
theorem d_MO_readRequest_254 : decode c_MO_readRequest 254 = .ok (.aload_n 0, 1) := by decide +kernel
theorem d_MO_readRequest_255 : decode c_MO_readRequest 255 = .ok (.getfield 200, 3) := by decide +kernel
theorem d_MO_readRequest_258 : decode c_MO_readRequest 258 = .ok (.invokevirtual 91, 3) := by decide +kernel
theorem d_MO_readRequest_261 : decode c_MO_readRequest 261 = .ok (.aload_n 0, 1) := by decide +kernel
theorem d_MO_readRequest_262 : decode c_MO_readRequest 262 = .ok (.aload_n 0, 1) := by decide +kernel
theorem d_MO_readRequest_263 : decode c_MO_readRequest 263 = .ok (.getfield 175, 3) := by decide +kernel
theorem d_MO_readRequest_266 : decode c_MO_readRequest 266 = .ok (.ifCond .eq 34, 3) := by decide +kernel
theorem d_MO_readRequest_269 : decode c_MO_readRequest 269 = .ok (.aload_n 0, 1) := by decide +kernel
theorem d_MO_readRequest_270 : decode c_MO_readRequest 270 = .ok (.getfield 179, 3) := by decide +kernel
theorem d_MO_readRequest_273 : decode c_MO_readRequest 273 = .ok (.aload_n 0, 1) := by decide +kernel
theorem d_MO_readRequest_274 : decode c_MO_readRequest 274 = .ok (.getfield 182, 3) := by decide +kernel
theorem d_MO_readRequest_277 : decode c_MO_readRequest 277 = .ok (.if_icmp .ne 23, 3) := by decide +kernel
theorem d_MO_readRequest_280 : decode c_MO_readRequest 280 = .ok (.iload 4, 2) := by decide +kernel
theorem d_MO_readRequest_282 : decode c_MO_readRequest 282 = .ok (.aload_n 0, 1) := by decide +kernel
theorem d_MO_readRequest_283 : decode c_MO_readRequest 283 = .ok (.invokevirtual 95, 3) := by decide +kernel
theorem d_MO_readRequest_286 : decode c_MO_readRequest 286 = .ok (.aload_n 0, 1) := by decide +kernel
theorem d_MO_readRequest_287 : decode c_MO_readRequest 287 = .ok (.getfield 197, 3) := by decide +kernel
theorem d_MO_readRequest_290 : decode c_MO_readRequest 290 = .ok (.invokestatic 123, 3) := by decide +kernel
theorem d_MO_readRequest_293 : decode c_MO_readRequest 293 = .ok (.ifCond .eq 7, 3) := by decide +kernel
theorem d_MO_readRequest_296 : decode c_MO_readRequest 296 = .ok (.iconst 1, 1) := by decide +kernel
theorem d_MO_readRequest_297 : decode c_MO_readRequest 297 = .ok (.goto 4, 3) := by decide +kernel
theorem d_MO_readRequest_300 : decode c_MO_readRequest 300 = .ok (.iconst 0, 1) := by decide +kernel
theorem d_MO_readRequest_301 : decode c_MO_readRequest 301 = .ok (.putfield 175, 3) := by decide +kernel
theorem d_MO_readRequest_304 : decode c_MO_readRequest 304 = .ok (.return_, 1) := by decide +kernel
def wq_MO_readRequest_301 (post : ST → Int64 → Prop) (s0 : Int32) (X : ST) (Y : Int64) : Prop := ((s0 = 0 ∨ s0 = 1) ∧ post (up X 67 0 s0) Y)
def wq_MO_readRequest_225 (post : ST → Int64 → Prop) (s0 : Int32) (X : ST) (Y : Int64) : Prop := ((s0 = 0 ∨ s0 = 1) ∧ wp_MO_takeNumber (fun (r5 : Int32) (X3 : ST) (Y4 : Int64) => wp_MO_mix (fun (X6 : ST) (Y7 : Int64) => wp_MO_mix (fun (X9 : ST) (Y10 : Int64) => wp_MO_mix (fun (X12 : ST) (Y13 : Int64) => (((X12 67 0) = 0 → wq_MO_readRequest_301 post (0 : Int32) X12 Y13) ∧ (¬ (X12 67 0) = 0 → (((X12 66 0) = (X12 7 0) → wp_MO_mixedDigest (fun (r19 : Int32) (X17 : ST) (Y18 : Int64) => wp_MO_isRight (fun (r22 : Int32) (X20 : ST) (Y21 : Int64) => ((r22 = 0 → wq_MO_readRequest_301 post (0 : Int32) X20 Y21) ∧ (¬ r22 = 0 → wq_MO_readRequest_301 post (1 : Int32) X20 Y21))) X17 Y18 r5 r19 (X17 64 0)) X12 Y13) ∧ (¬ (X12 66 0) = (X12 7 0) → wq_MO_readRequest_301 post (0 : Int32) X12 Y13))))) X9 Y10 (X9 65 0)) X6 Y7 (X6 64 0)) X3 (0 : Int64) (9 : Int32)) (up X 67 0 s0) Y)
def wq_MO_readRequest_204 (post : ST → Int64 → Prop) (v3 : Int32) (X : ST) (Y : Int64) : Prop := (((X 67 0) = 0 → wq_MO_readRequest_225 post (0 : Int32) X Y) ∧ (¬ (X 67 0) = 0 → (((X 66 0) = v3 → wq_MO_readRequest_225 post (1 : Int32) X Y) ∧ (¬ (X 66 0) = v3 → wq_MO_readRequest_225 post (0 : Int32) X Y))))
def wq_MO_readRequest_178 (post : ST → Int64 → Prop) (J127 : ST → Int64 → Prop) (s0 : Int32) (v3 : Int32) (v4 : Int32) (X : ST) (Y : Int64) : Prop := ((s0 = 0 ∨ s0 = 1) ∧ ((s0 = 0 → J127 (up X 67 0 s0) Y) ∧ (¬ s0 = 0 → J127 (up (up X 67 0 s0) 65 0 ((X 65 0) ||| ((1 : Int32) <<< (v4 &&& 31)))) Y)))
def wq_MO_readRequest_127 (post : ST → Int64 → Prop) (v3 : Int32) : Nat → ST → Int64 → Prop
  | 0 => fun _ _ => False
  | n + 1 => fun X Y => (((X 67 0) = 0 → wq_MO_readRequest_204 post v3 X Y) ∧ (¬ (X 67 0) = 0 → ((v3 ≤ (X 66 0) → wq_MO_readRequest_204 post v3 X Y) ∧ (¬ v3 ≤ (X 66 0) → wp_MO_takeNumber (fun (r32 : Int32) (X30 : ST) (Y31 : Int64) => (((X30 67 0) = 0 → wq_MO_readRequest_178 post (wq_MO_readRequest_127 post v3 n) (0 : Int32) v3 r32 X30 Y31) ∧ (¬ (X30 67 0) = 0 → (((16 : Int32) ≤ r32 → wq_MO_readRequest_178 post (wq_MO_readRequest_127 post v3 n) (0 : Int32) v3 r32 X30 Y31) ∧ (¬ (16 : Int32) ≤ r32 → ((((X30 65 0) >>> (r32 &&& 31)) = 0 → wq_MO_readRequest_178 post (wq_MO_readRequest_127 post v3 n) (1 : Int32) v3 r32 X30 Y31) ∧ (¬ ((X30 65 0) >>> (r32 &&& 31)) = 0 → wq_MO_readRequest_178 post (wq_MO_readRequest_127 post v3 n) (0 : Int32) v3 r32 X30 Y31))))))) X Y))))
def wq_MO_readRequest_119 (post : ST → Int64 → Prop) (s0 : Int32) (v3 : Int32) (X : ST) (Y : Int64) : Prop := ((s0 = 0 ∨ s0 = 1) ∧ (∃ n9, wq_MO_readRequest_127 post v3 n9 (up (up X 67 0 s0) 65 0 (0 : Int32)) Y))
def wq_MO_readRequest_81 (post : ST → Int64 → Prop) (s0 : Int32) (X : ST) (Y : Int64) : Prop := ((s0 = 0 ∨ s0 = 1) ∧ wp_MO_must (fun (X38 : ST) (Y39 : Int64) => wp_MO_takeLength (fun (r43 : Int32) (X41 : ST) (Y42 : Int64) => (((X41 67 0) = 0 → wq_MO_readRequest_119 post (0 : Int32) ((X41 66 0) + r43) X41 Y42) ∧ (¬ (X41 67 0) = 0 → ((r43 ≤ 0 → wq_MO_readRequest_119 post (0 : Int32) ((X41 66 0) + r43) X41 Y42) ∧ (¬ r43 ≤ 0 → wq_MO_readRequest_119 post (1 : Int32) ((X41 66 0) + r43) X41 Y42))))) X38 Y39) (up X 67 0 s0) Y (48 : Int32))
def wq_MO_readRequest_47 (post : ST → Int64 → Prop) (s0 : Int32) (X : ST) (Y : Int64) : Prop := ((s0 = 0 ∨ s0 = 1) ∧ wp_MO_takeNumber (fun (r49 : Int32) (X47 : ST) (Y48 : Int64) => (((X47 67 0) = 0 → wq_MO_readRequest_81 post (0 : Int32) (up X47 64 0 r49) Y48) ∧ (¬ (X47 67 0) = 0 → wp_MO_isKey (fun (r53 : Int32) (X51 : ST) (Y52 : Int64) => ((r53 = 0 → wq_MO_readRequest_81 post (0 : Int32) X51 Y52) ∧ (¬ r53 = 0 → wq_MO_readRequest_81 post (1 : Int32) X51 Y52))) (up X47 64 0 r49) Y48 r49))) (up X 67 0 s0) Y)
def wp_MO_readRequest (post : ST → Int64 → Prop) (X : ST) (Y : Int64) : Prop := wp_MO_must (fun (X55 : ST) (Y56 : Int64) => wp_MO_takeLength (fun (r60 : Int32) (X58 : ST) (Y59 : Int64) => (((X58 67 0) = 0 → wq_MO_readRequest_47 post (0 : Int32) X58 Y59) ∧ (¬ (X58 67 0) = 0 → ((((X58 66 0) + r60) = (X58 7 0) → wq_MO_readRequest_47 post (1 : Int32) X58 Y59) ∧ (¬ ((X58 66 0) + r60) = (X58 7 0) → wq_MO_readRequest_47 post (0 : Int32) X58 Y59))))) X55 Y56) (up (up X 66 0 (0 : Int32)) 67 0 (1 : Int32)) Y (48 : Int32)
set_option maxHeartbeats 4000000 in
set_option maxRecDepth 100000 in
theorem mt_MO_readRequest (l : Launch) (hl9 : l.stackTraces = false) (dC : Nat → ClassId) (dI : Nat → Nat → Nat) (cA : Nat → ClassId) (ad : Nat → Nat) (hI : INJ ad 23) (sz : Nat) {X : ST} {Y : Int64} {post : ST → Int64 → Prop} (hw : wp_MO_readRequest post X Y) : Met l y_MO_readRequest ws_MO_readRequest ({ frames := 3, cells := 0, slots := 0, locals := 68 } : Room) (va_Pc [.ref (ad 0)] (fun U => PM dC dI cA ad sz X Y U)) (va_Qv (fun (u : ST × Int64) => post u.1 u.2) (fun (u : ST × Int64) t => va_P (dC, dI) vwCl (wdM cA ad u.1 u.2) t.heap) (CA ad 23 sz)) 0 0 (CA ad 23 sz) := by
  refine Met.ofW (cc := c_MO_readRequest) (maxL := 5) (ret := none) (by decide) rfl ?_
  intro p e s m args below meth c s₁ B hml hv
  obtain ⟨rfl, hsz, hP, hG⟩ := hv
  have hx := B.exec
  have hb := B.bytes
  have hr := B.returns
  have hts : ∀ w ∈ GW, w.before (([.ref (ad 0)] : List Value).toArray) s = true := fun w h => atoms_spec (ws := ws_MO_readRequest) B.pre w (List.mem_cons_of_mem _ h)
  have hown : s.vm.findClass R_MO = some m.cls := findClass_of_methodNamed B.named
  have hlocks := B.notSynchronized
  subst hsz
  have hK := hG.1
  have hG9 := hG
  have hNW := hG.2
  have hD0 : ∀ (X : ST) (Y : Int64), va_D (CA ad 23 s.heap.size) (wdM cA ad X Y) := fun _ _ => zwM_D hI
  have hS : va_S (CA ad 23 s.heap.size) s.heap s.heap [] := va_S.rf
  have hl := lv_entry ([.ref (ad 0)]) (n := 5) (Nat.le_of_ble_eq_true rfl)
  rw [lg_entry_eq]
  generalize (lg_sl ([.ref (ad 0)]) ++ List.replicate (5 - (lg_sl ([.ref (ad 0)])).length) Slot.unset).toArray = ls at hl ⊢
  have hl : lv_has ls 5 [(0, .ref (ad 0))] := hl
  have L301 : ∀ (s0 : Int32) (X : ST) (Y : Int64) (H : Heap) (locs : List Loc) (ls : Array Slot), wq_MO_readRequest_301 post s0 X Y → va_P (dC, dI) vwCl (wdM cA ad X Y) H → va_S (CA ad 23 s.heap.size) s.heap H locs → lv_has ls 5 [] → W p l e (headSpec ws_MO_readRequest ({ frames := 3, cells := 0, slots := 0, locals := 68 } : Room)).room s m (([.ref (ad 0)] : List Value).toArray) below meth c H locs 0 0 (MQ below (va_Qv (fun (u : ST × Int64) => post u.1 u.2) (fun (u : ST × Int64) t => va_P (dC, dI) vwCl (wdM cA ad u.1 u.2) t.heap) (CA ad 23 s.heap.size)) (([.ref (ad 0)] : List Value).toArray) s 0 0 (CA ad 23 s.heap.size)) (F0 m 301 ls [.int s0, .ref (ad 0)]) := by
    intro s0 X Y H locs ls hw hP hS hl
    unfold wq_MO_readRequest_301 at hw
    obtain ⟨h1, hw⟩ := hw
    refine va_put (D := (dC, dI)) (ci := 9) (v := .int s0) (ty := .boolean) (C := R_MO) (T := T_MO) (N := 36) hx hb hts in_MO ty_MO ty_MO_ok nm_MO hown hK hP (hD0 _ _) hS (0) atM_MO rfl 32 (by decide) (hts _ gw_397) (fun _ h9 => h9) rfl (by decide +kernel) (zw_bn h1) (zw_bf h1) (Nat.le_of_ble_eq_true rfl) d_MO_readRequest_301 (fun H locs hP _ hS => ?_)
    have hP : va_P (dC, dI) vwCl (wdM cA ad (up X 67 0 s0) Y) H := by rw [← stM_MO_32]; exact hP
    exact W.vret hx hb hr (fun t ht _ => ⟨⟨(up X 67 0 s0, Y), rfl, hw, by show va_P _ _ _ t.heap; rw [ht]; exact hP⟩, hS.F ht⟩) hS.2.2 d_MO_readRequest_304
  have L225 : ∀ (s0 : Int32) (X : ST) (Y : Int64) (H : Heap) (locs : List Loc) (ls : Array Slot), wq_MO_readRequest_225 post s0 X Y → va_P (dC, dI) vwCl (wdM cA ad X Y) H → va_S (CA ad 23 s.heap.size) s.heap H locs → lv_has ls 5 [(0, .ref (ad 0))] → W p l e (headSpec ws_MO_readRequest ({ frames := 3, cells := 0, slots := 0, locals := 68 } : Room)).room s m (([.ref (ad 0)] : List Value).toArray) below meth c H locs 0 0 (MQ below (va_Qv (fun (u : ST × Int64) => post u.1 u.2) (fun (u : ST × Int64) t => va_P (dC, dI) vwCl (wdM cA ad u.1 u.2) t.heap) (CA ad 23 s.heap.size)) (([.ref (ad 0)] : List Value).toArray) s 0 0 (CA ad 23 s.heap.size)) (F0 m 225 ls [.int s0, .ref (ad 0)]) := by
    intro s0 X Y H locs ls hw hP hS hl
    unfold wq_MO_readRequest_225 at hw
    obtain ⟨h2, hw⟩ := hw
    refine va_put (D := (dC, dI)) (ci := 9) (v := .int s0) (ty := .boolean) (C := R_MO) (T := T_MO) (N := 36) hx hb hts in_MO ty_MO ty_MO_ok nm_MO hown hK hP (hD0 _ _) hS (0) atM_MO rfl 32 (by decide) (hts _ gw_397) (fun _ h9 => h9) rfl (by decide +kernel) (zw_bn h2) (zw_bf h2) (Nat.le_of_ble_eq_true rfl) d_MO_readRequest_225 (fun H locs hP _ hS => ?_)
    have hP : va_P (dC, dI) vwCl (wdM cA ad (up X 67 0 s0) Y) H := by rw [← stM_MO_32]; exact hP
    refine lv_aload_n hx hb d_MO_readRequest_228 rfl (lv_at hl 0 rfl) ?_
    refine va_calli (va_runV (As := []) (rest := []) ⟨hx, hb, hml, hown, hts⟩ (mt_MO_takeNumber l hl9 dC dI cA ad hI _ hw) (cwV 0 hts (gV gw_413 gw_414 gw_415 gw_306 gw_412) rfl rfl rfl (by decide +kernel) ⟨Nat.le_of_ble_eq_true rfl, Nat.le_of_ble_eq_true rfl⟩) ⟨zwM_blind, va_recv hK hP (ci := 9) (q0 := 0) rfl atM_MO, zwM_pre hP hS hG9⟩ rfl rfl hl.1 rfl (lv_room (Nat.le_of_ble_eq_true rfl)) d_MO_readRequest_229 ⟨Nat.le_of_ble_eq_true rfl, Nat.le_of_ble_eq_true rfl⟩) hS (fun q _ h => CA_le hS.1 q h) (fun q h => CA_le hS.1 q h) (fun r5 u9 t H locs ht hvm hw hP hz1 hk1 hS => ?_)
    obtain ⟨X3, Y4⟩ := u9
    have hP : va_P (dC, dI) vwCl (wdM cA ad X3 Y4) H := by rw [← ht]; exact hP
    try dsimp only at hw
    refine lv_istore (lv' := [(4, .int r5), (0, .ref (ad 0))]) hx hb d_MO_readRequest_232 hl (by decide) rfl (fun ls hl => ?_)
    refine lv_aload_n hx hb d_MO_readRequest_234 rfl (lv_at hl 1 rfl) ?_
    refine lv_lconst (v := (0 : Int64)) hx hb d_MO_readRequest_235 (by decide) ?_
    refine va_put (D := (dC, dI)) (ci := 9) (v := .long (0 : Int64)) (ty := .long) (C := R_MO) (T := T_MO) (N := 36) hx hb hts in_MO ty_MO ty_MO_ok nm_MO hown hK hP (hD0 _ _) hS (0) atM_MO rfl 35 (by decide) (hts _ gw_300) (fun _ h9 => h9) rfl (by decide +kernel) rfl rfl (Nat.le_of_ble_eq_true rfl) d_MO_readRequest_236 (fun H locs hP _ hS => ?_)
    have hP : va_P (dC, dI) vwCl (wdM cA ad X3 (0 : Int64)) H := by rw [← stM_MO_35]; exact hP
    refine lv_aload_n hx hb d_MO_readRequest_239 rfl (lv_at hl 1 rfl) ?_
    refine lv_bipush (v := (9 : Int32)) hx hb d_MO_readRequest_240 (by decide) ?_
    refine va_callv (va_runV (As := [.int (9 : Int32)]) (rest := []) ⟨hx, hb, hml, hown, hts⟩ (mt_MO_mix l hl9 dC dI cA ad hI _ hw) (cwV 1 hts (gV gw_303 gw_304 gw_305 gw_306 gw_302) rfl rfl rfl (by decide +kernel) ⟨Nat.le_of_ble_eq_true rfl, Nat.le_of_ble_eq_true rfl⟩) ⟨zwM_blind, va_recv hK hP (ci := 9) (q0 := 0) rfl atM_MO, zwM_pre hP hS hG9⟩ rfl rfl hl.1 rfl (lv_room (Nat.le_of_ble_eq_true rfl)) d_MO_readRequest_242 ⟨Nat.le_of_ble_eq_true rfl, Nat.le_of_ble_eq_true rfl⟩) hS (fun q _ h => CA_le hS.1 q h) (fun q h => CA_le hS.1 q h) (fun u9 t H locs ht hvm hw hP hz1 hk1 hS => ?_)
    obtain ⟨X6, Y7⟩ := u9
    have hP : va_P (dC, dI) vwCl (wdM cA ad X6 Y7) H := by rw [← ht]; exact hP
    try dsimp only at hw
    refine lv_aload_n hx hb d_MO_readRequest_245 rfl (lv_at hl 1 rfl) ?_
    refine lv_aload_n hx hb d_MO_readRequest_246 rfl (lv_at hl 1 rfl) ?_
    refine va_get (D := (dC, dI)) (ci := 9) (v := .int (X6 64 0)) (C := R_MO) (T := T_MO) (N := 36) hx hb hts in_MO hown hK hP (0) atM_MO rfl 33 (by decide) (hts _ gw_416) (fun _ h9 => h9) rfl d_MO_readRequest_247 ?_
    refine va_callv (va_runV (As := [.int (X6 64 0)]) (rest := []) ⟨hx, hb, hml, hown, hts⟩ (mt_MO_mix l hl9 dC dI cA ad hI _ hw) (cwV 1 hts (gV gw_303 gw_304 gw_305 gw_306 gw_302) rfl rfl rfl (by decide +kernel) ⟨Nat.le_of_ble_eq_true rfl, Nat.le_of_ble_eq_true rfl⟩) ⟨zwM_blind, va_recv hK hP (ci := 9) (q0 := 0) rfl atM_MO, zwM_pre hP hS hG9⟩ rfl rfl hl.1 rfl (lv_room (Nat.le_of_ble_eq_true rfl)) d_MO_readRequest_250 ⟨Nat.le_of_ble_eq_true rfl, Nat.le_of_ble_eq_true rfl⟩) hS (fun q _ h => CA_le hS.1 q h) (fun q h => CA_le hS.1 q h) (fun u9 t H locs ht hvm hw hP hz1 hk1 hS => ?_)
    obtain ⟨X9, Y10⟩ := u9
    have hP : va_P (dC, dI) vwCl (wdM cA ad X9 Y10) H := by rw [← ht]; exact hP
    try dsimp only at hw
    refine lv_aload_n hx hb d_MO_readRequest_253 rfl (lv_at hl 1 rfl) ?_
    refine lv_aload_n hx hb d_MO_readRequest_254 rfl (lv_at hl 1 rfl) ?_
    refine va_get (D := (dC, dI)) (ci := 9) (v := .int (X9 65 0)) (C := R_MO) (T := T_MO) (N := 36) hx hb hts in_MO hown hK hP (0) atM_MO rfl 34 (by decide) (hts _ gw_417) (fun _ h9 => h9) rfl d_MO_readRequest_255 ?_
    refine va_callv (va_runV (As := [.int (X9 65 0)]) (rest := []) ⟨hx, hb, hml, hown, hts⟩ (mt_MO_mix l hl9 dC dI cA ad hI _ hw) (cwV 1 hts (gV gw_303 gw_304 gw_305 gw_306 gw_302) rfl rfl rfl (by decide +kernel) ⟨Nat.le_of_ble_eq_true rfl, Nat.le_of_ble_eq_true rfl⟩) ⟨zwM_blind, va_recv hK hP (ci := 9) (q0 := 0) rfl atM_MO, zwM_pre hP hS hG9⟩ rfl rfl hl.1 rfl (lv_room (Nat.le_of_ble_eq_true rfl)) d_MO_readRequest_258 ⟨Nat.le_of_ble_eq_true rfl, Nat.le_of_ble_eq_true rfl⟩) hS (fun q _ h => CA_le hS.1 q h) (fun q h => CA_le hS.1 q h) (fun u9 t H locs ht hvm hw hP hz1 hk1 hS => ?_)
    obtain ⟨X12, Y13⟩ := u9
    have hP : va_P (dC, dI) vwCl (wdM cA ad X12 Y13) H := by rw [← ht]; exact hP
    try dsimp only at hw
    refine lv_aload_n hx hb d_MO_readRequest_261 rfl (lv_at hl 1 rfl) ?_
    refine lv_aload_n hx hb d_MO_readRequest_262 rfl (lv_at hl 1 rfl) ?_
    refine va_get (D := (dC, dI)) (ci := 9) (v := .int (X12 67 0)) (C := R_MO) (T := T_MO) (N := 36) hx hb hts in_MO hown hK hP (0) atM_MO rfl 32 (by decide) (hts _ gw_397) (fun _ h9 => h9) rfl d_MO_readRequest_263 ?_
    refine lv_if_eq (tgt := 300) hx hb d_MO_readRequest_266 (by decide) (fun c15 => ?_) (fun c15 => ?_)
    · have hw := hw.1 c15
      refine lv_iconst (v := (0 : Int32)) hx hb d_MO_readRequest_300 (by decide) ?_
      have hl := lv_sub hl (l' := []) [] rfl
      exact L301 _ _ _ _ _ _ hw hP hS hl
    · have hw := hw.2 c15
      refine lv_aload_n hx hb d_MO_readRequest_269 rfl (lv_at hl 1 rfl) ?_
      refine va_get (D := (dC, dI)) (ci := 9) (v := .int (X12 66 0)) (C := R_MO) (T := T_MO) (N := 36) hx hb hts in_MO hown hK hP (0) atM_MO rfl 31 (by decide) (hts _ gw_396) (fun _ h9 => h9) rfl d_MO_readRequest_270 ?_
      refine lv_aload_n hx hb d_MO_readRequest_273 rfl (lv_at hl 1 rfl) ?_
      refine va_get (D := (dC, dI)) (ci := 9) (v := .int (X12 7 0)) (C := R_MO) (T := T_MO) (N := 36) hx hb hts in_MO hown hK hP (0) atM_MO rfl 30 (by decide) (hts _ gw_399) (fun _ h9 => h9) rfl d_MO_readRequest_274 ?_
      refine lv_icmp_ne (tgt := 300) hx hb d_MO_readRequest_277 (by decide) (fun c16 => ?_) (fun c16 => ?_)
      · have hw := hw.2 c16
        refine lv_iconst (v := (0 : Int32)) hx hb d_MO_readRequest_300 (by decide) ?_
        have hl := lv_sub hl (l' := []) [] rfl
        exact L301 _ _ _ _ _ _ hw hP hS hl
      · have hw := hw.1 c16
        refine lv_iload hx hb d_MO_readRequest_280 (lv_at hl 0 rfl) ?_
        refine lv_aload_n hx hb d_MO_readRequest_282 rfl (lv_at hl 1 rfl) ?_
        refine va_calli (va_runV (As := []) (rest := [.int r5, .ref (ad 0)]) ⟨hx, hb, hml, hown, hts⟩ (mt_MO_mixedDigest l hl9 dC dI cA ad hI _ hw) (cwV 0 hts (gV gw_308 gw_309 gw_310 gw_306 gw_307) rfl rfl rfl (by decide +kernel) ⟨Nat.le_of_ble_eq_true rfl, Nat.le_of_ble_eq_true rfl⟩) ⟨zwM_blind, va_recv hK hP (ci := 9) (q0 := 0) rfl atM_MO, zwM_pre hP hS hG9⟩ rfl rfl hl.1 rfl (lv_room (Nat.le_of_ble_eq_true rfl)) d_MO_readRequest_283 ⟨Nat.le_of_ble_eq_true rfl, Nat.le_of_ble_eq_true rfl⟩) hS (fun q _ h => CA_le hS.1 q h) (fun q h => CA_le hS.1 q h) (fun r19 u9 t H locs ht hvm hw hP hz1 hk1 hS => ?_)
        obtain ⟨X17, Y18⟩ := u9
        have hP : va_P (dC, dI) vwCl (wdM cA ad X17 Y18) H := by rw [← ht]; exact hP
        try dsimp only at hw
        refine lv_aload_n hx hb d_MO_readRequest_286 rfl (lv_at hl 1 rfl) ?_
        refine va_get (D := (dC, dI)) (ci := 9) (v := .int (X17 64 0)) (C := R_MO) (T := T_MO) (N := 36) hx hb hts in_MO hown hK hP (0) atM_MO rfl 33 (by decide) (hts _ gw_416) (fun _ h9 => h9) rfl d_MO_readRequest_287 ?_
        refine va_calli (va_runS (As := [.int r5, .int r19, .int (X17 64 0)]) (rest := [.ref (ad 0)]) ⟨hx, hb, hml, hown, hts⟩ (mt_MO_isRight l hl9 dC dI cA ad hI _ hw) (va_cwS 3 hts (gS gw_335 gw_336 gw_306 gw_334) rfl rfl rfl (by decide +kernel) ⟨Nat.le_of_ble_eq_true rfl, Nat.le_of_ble_eq_true rfl⟩) ⟨zwM_blind, zwM_pre hP hS hG9⟩ rfl rfl hl.1 rfl (lv_room (Nat.le_of_ble_eq_true rfl)) d_MO_readRequest_290 ⟨Nat.le_of_ble_eq_true rfl, Nat.le_of_ble_eq_true rfl⟩) hS (fun q _ h => CA_le hS.1 q h) (fun q h => CA_le hS.1 q h) (fun r22 u9 t H locs ht hvm hw hP hz1 hk1 hS => ?_)
        obtain ⟨X20, Y21⟩ := u9
        have hP : va_P (dC, dI) vwCl (wdM cA ad X20 Y21) H := by rw [← ht]; exact hP
        try dsimp only at hw
        refine lv_if_eq (tgt := 300) hx hb d_MO_readRequest_293 (by decide) (fun c23 => ?_) (fun c23 => ?_)
        · have hw := hw.1 c23
          refine lv_iconst (v := (0 : Int32)) hx hb d_MO_readRequest_300 (by decide) ?_
          have hl := lv_sub hl (l' := []) [] rfl
          exact L301 _ _ _ _ _ _ hw hP hS hl
        · have hw := hw.2 c23
          refine lv_iconst (v := (1 : Int32)) hx hb d_MO_readRequest_296 (by decide) ?_
          refine lv_goto (tgt := 301) hx hb d_MO_readRequest_297 (by decide) ?_
          have hl := lv_sub hl (l' := []) [] rfl
          exact L301 _ _ _ _ _ _ hw hP hS hl
  have L204 : ∀ (v3 : Int32) (X : ST) (Y : Int64) (H : Heap) (locs : List Loc) (ls : Array Slot), wq_MO_readRequest_204 post v3 X Y → va_P (dC, dI) vwCl (wdM cA ad X Y) H → va_S (CA ad 23 s.heap.size) s.heap H locs → lv_has ls 5 [(0, .ref (ad 0)), (3, .int v3)] → W p l e (headSpec ws_MO_readRequest ({ frames := 3, cells := 0, slots := 0, locals := 68 } : Room)).room s m (([.ref (ad 0)] : List Value).toArray) below meth c H locs 0 0 (MQ below (va_Qv (fun (u : ST × Int64) => post u.1 u.2) (fun (u : ST × Int64) t => va_P (dC, dI) vwCl (wdM cA ad u.1 u.2) t.heap) (CA ad 23 s.heap.size)) (([.ref (ad 0)] : List Value).toArray) s 0 0 (CA ad 23 s.heap.size)) (F0 m 204 ls []) := by
    intro v3 X Y H locs ls hw hP hS hl
    unfold wq_MO_readRequest_204 at hw
    refine lv_aload_n hx hb d_MO_readRequest_204 rfl (lv_at hl 0 rfl) ?_
    refine lv_aload_n hx hb d_MO_readRequest_205 rfl (lv_at hl 0 rfl) ?_
    refine va_get (D := (dC, dI)) (ci := 9) (v := .int (X 67 0)) (C := R_MO) (T := T_MO) (N := 36) hx hb hts in_MO hown hK hP (0) atM_MO rfl 32 (by decide) (hts _ gw_397) (fun _ h9 => h9) rfl d_MO_readRequest_206 ?_
    refine lv_if_eq (tgt := 224) hx hb d_MO_readRequest_209 (by decide) (fun c24 => ?_) (fun c24 => ?_)
    · have hw := hw.1 c24
      refine lv_iconst (v := (0 : Int32)) hx hb d_MO_readRequest_224 (by decide) ?_
      have hl := lv_sub hl (l' := [(0, .ref (ad 0))]) [0] rfl
      exact L225 _ _ _ _ _ _ hw hP hS hl
    · have hw := hw.2 c24
      refine lv_aload_n hx hb d_MO_readRequest_212 rfl (lv_at hl 0 rfl) ?_
      refine va_get (D := (dC, dI)) (ci := 9) (v := .int (X 66 0)) (C := R_MO) (T := T_MO) (N := 36) hx hb hts in_MO hown hK hP (0) atM_MO rfl 31 (by decide) (hts _ gw_396) (fun _ h9 => h9) rfl d_MO_readRequest_213 ?_
      refine lv_iload_n hx hb d_MO_readRequest_216 rfl (lv_at hl 1 rfl) ?_
      refine lv_icmp_ne (tgt := 224) hx hb d_MO_readRequest_217 (by decide) (fun c25 => ?_) (fun c25 => ?_)
      · have hw := hw.2 c25
        refine lv_iconst (v := (0 : Int32)) hx hb d_MO_readRequest_224 (by decide) ?_
        have hl := lv_sub hl (l' := [(0, .ref (ad 0))]) [0] rfl
        exact L225 _ _ _ _ _ _ hw hP hS hl
      · have hw := hw.1 c25
        refine lv_iconst (v := (1 : Int32)) hx hb d_MO_readRequest_220 (by decide) ?_
        refine lv_goto (tgt := 225) hx hb d_MO_readRequest_221 (by decide) ?_
        have hl := lv_sub hl (l' := [(0, .ref (ad 0))]) [0] rfl
        exact L225 _ _ _ _ _ _ hw hP hS hl
  have L178 : ∀ (v3 : Int32), ∀ (J127 : ST → Int64 → Prop), (∀ (X : ST) (Y : Int64) (H : Heap) (locs : List Loc) (ls : Array Slot), J127 X Y → va_P (dC, dI) vwCl (wdM cA ad X Y) H → va_S (CA ad 23 s.heap.size) s.heap H locs → lv_has ls 5 [(0, .ref (ad 0)), (3, .int v3)] → W p l e (headSpec ws_MO_readRequest ({ frames := 3, cells := 0, slots := 0, locals := 68 } : Room)).room s m (([.ref (ad 0)] : List Value).toArray) below meth c H locs 0 0 (MQ below (va_Qv (fun (u : ST × Int64) => post u.1 u.2) (fun (u : ST × Int64) t => va_P (dC, dI) vwCl (wdM cA ad u.1 u.2) t.heap) (CA ad 23 s.heap.size)) (([.ref (ad 0)] : List Value).toArray) s 0 0 (CA ad 23 s.heap.size)) (F0 m 127 ls [])) → ∀ (s0 : Int32) (v4 : Int32) (X : ST) (Y : Int64) (H : Heap) (locs : List Loc) (ls : Array Slot), wq_MO_readRequest_178 post J127 s0 v3 v4 X Y → va_P (dC, dI) vwCl (wdM cA ad X Y) H → va_S (CA ad 23 s.heap.size) s.heap H locs → lv_has ls 5 [(0, .ref (ad 0)), (3, .int v3), (4, .int v4)] → W p l e (headSpec ws_MO_readRequest ({ frames := 3, cells := 0, slots := 0, locals := 68 } : Room)).room s m (([.ref (ad 0)] : List Value).toArray) below meth c H locs 0 0 (MQ below (va_Qv (fun (u : ST × Int64) => post u.1 u.2) (fun (u : ST × Int64) t => va_P (dC, dI) vwCl (wdM cA ad u.1 u.2) t.heap) (CA ad 23 s.heap.size)) (([.ref (ad 0)] : List Value).toArray) s 0 0 (CA ad 23 s.heap.size)) (F0 m 178 ls [.int s0, .ref (ad 0)]) := by
    intro v3 J127 hJ127 s0 v4 X Y H locs ls hw hP hS hl
    unfold wq_MO_readRequest_178 at hw
    obtain ⟨h26, hw⟩ := hw
    refine va_put (D := (dC, dI)) (ci := 9) (v := .int s0) (ty := .boolean) (C := R_MO) (T := T_MO) (N := 36) hx hb hts in_MO ty_MO ty_MO_ok nm_MO hown hK hP (hD0 _ _) hS (0) atM_MO rfl 32 (by decide) (hts _ gw_397) (fun _ h9 => h9) rfl (by decide +kernel) (zw_bn h26) (zw_bf h26) (Nat.le_of_ble_eq_true rfl) d_MO_readRequest_178 (fun H locs hP _ hS => ?_)
    have hP : va_P (dC, dI) vwCl (wdM cA ad (up X 67 0 s0) Y) H := by rw [← stM_MO_32]; exact hP
    refine lv_aload_n hx hb d_MO_readRequest_181 rfl (lv_at hl 0 rfl) ?_
    refine va_get (D := (dC, dI)) (ci := 9) (v := .int s0) (C := R_MO) (T := T_MO) (N := 36) hx hb hts in_MO hown hK hP (0) atM_MO rfl 32 (by decide) (hts _ gw_397) (fun _ h9 => h9) rfl d_MO_readRequest_182 ?_
    refine lv_if_eq (tgt := 201) hx hb d_MO_readRequest_185 (by decide) (fun c27 => ?_) (fun c27 => ?_)
    · have hw := hw.1 c27
      refine lv_goto (tgt := 127) hx hb d_MO_readRequest_201 (by decide) ?_
      have hl := lv_sub hl (l' := [(0, .ref (ad 0)), (3, .int v3)]) [0, 1] rfl
      exact hJ127 _ _ _ _ _ hw hP hS hl
    · have hw := hw.2 c27
      refine lv_aload_n hx hb d_MO_readRequest_188 rfl (lv_at hl 0 rfl) ?_
      refine lv_aload_n hx hb d_MO_readRequest_189 rfl (lv_at hl 0 rfl) ?_
      refine va_get (D := (dC, dI)) (ci := 9) (v := .int (X 65 0)) (C := R_MO) (T := T_MO) (N := 36) hx hb hts in_MO hown hK hP (0) atM_MO rfl 34 (by decide) (hts _ gw_417) (fun _ h9 => h9) rfl d_MO_readRequest_190 ?_
      refine lv_iconst (v := (1 : Int32)) hx hb d_MO_readRequest_193 (by decide) ?_
      refine lv_iload hx hb d_MO_readRequest_194 (lv_at hl 2 rfl) ?_
      refine lv_ishl hx hb d_MO_readRequest_196 ?_
      refine lv_ior hx hb d_MO_readRequest_197 ?_
      refine va_put (D := (dC, dI)) (ci := 9) (v := .int ((X 65 0) ||| ((1 : Int32) <<< (v4 &&& 31)))) (ty := .int) (C := R_MO) (T := T_MO) (N := 36) hx hb hts in_MO ty_MO ty_MO_ok nm_MO hown hK hP (hD0 _ _) hS (0) atM_MO rfl 34 (by decide) (hts _ gw_417) (fun _ h9 => h9) rfl (by decide +kernel) rfl rfl (Nat.le_of_ble_eq_true rfl) d_MO_readRequest_198 (fun H locs hP _ hS => ?_)
      have hP : va_P (dC, dI) vwCl (wdM cA ad (up (up X 67 0 s0) 65 0 ((X 65 0) ||| ((1 : Int32) <<< (v4 &&& 31)))) Y) H := by rw [← stM_MO_34]; exact hP
      refine lv_goto (tgt := 127) hx hb d_MO_readRequest_201 (by decide) ?_
      have hl := lv_sub hl (l' := [(0, .ref (ad 0)), (3, .int v3)]) [0, 1] rfl
      exact hJ127 _ _ _ _ _ hw hP hS hl
  have L127 : ∀ (v3 : Int32), ∀ (n : Nat), ∀ (X : ST) (Y : Int64) (H : Heap) (locs : List Loc) (ls : Array Slot), wq_MO_readRequest_127 post v3 n X Y → va_P (dC, dI) vwCl (wdM cA ad X Y) H → va_S (CA ad 23 s.heap.size) s.heap H locs → lv_has ls 5 [(0, .ref (ad 0)), (3, .int v3)] → W p l e (headSpec ws_MO_readRequest ({ frames := 3, cells := 0, slots := 0, locals := 68 } : Room)).room s m (([.ref (ad 0)] : List Value).toArray) below meth c H locs 0 0 (MQ below (va_Qv (fun (u : ST × Int64) => post u.1 u.2) (fun (u : ST × Int64) t => va_P (dC, dI) vwCl (wdM cA ad u.1 u.2) t.heap) (CA ad 23 s.heap.size)) (([.ref (ad 0)] : List Value).toArray) s 0 0 (CA ad 23 s.heap.size)) (F0 m 127 ls []) := by
    intro v3 n
    induction n with
    | zero => intro X Y H locs ls hw hP hS hl; exact False.elim hw
    | succ n ih =>
      intro X Y H locs ls hw hP hS hl
      dsimp only [wq_MO_readRequest_127] at hw
      refine lv_aload_n hx hb d_MO_readRequest_127 rfl (lv_at hl 0 rfl) ?_
      refine va_get (D := (dC, dI)) (ci := 9) (v := .int (X 67 0)) (C := R_MO) (T := T_MO) (N := 36) hx hb hts in_MO hown hK hP (0) atM_MO rfl 32 (by decide) (hts _ gw_397) (fun _ h9 => h9) rfl d_MO_readRequest_128 ?_
      refine lv_if_eq (tgt := 204) hx hb d_MO_readRequest_131 (by decide) (fun c28 => ?_) (fun c28 => ?_)
      · have hw := hw.1 c28
        have hl := lv_sub hl (l' := [(0, .ref (ad 0)), (3, .int v3)]) [0, 1] rfl
        exact L204 _ _ _ _ _ _ hw hP hS hl
      · have hw := hw.2 c28
        refine lv_aload_n hx hb d_MO_readRequest_134 rfl (lv_at hl 0 rfl) ?_
        refine va_get (D := (dC, dI)) (ci := 9) (v := .int (X 66 0)) (C := R_MO) (T := T_MO) (N := 36) hx hb hts in_MO hown hK hP (0) atM_MO rfl 31 (by decide) (hts _ gw_396) (fun _ h9 => h9) rfl d_MO_readRequest_135 ?_
        refine lv_iload_n hx hb d_MO_readRequest_138 rfl (lv_at hl 1 rfl) ?_
        refine lv_icmp_ge (tgt := 204) hx hb d_MO_readRequest_139 (by decide) (fun c29 => ?_) (fun c29 => ?_)
        · have hw := hw.1 c29
          have hl := lv_sub hl (l' := [(0, .ref (ad 0)), (3, .int v3)]) [0, 1] rfl
          exact L204 _ _ _ _ _ _ hw hP hS hl
        · have hw := hw.2 c29
          refine lv_aload_n hx hb d_MO_readRequest_142 rfl (lv_at hl 0 rfl) ?_
          refine va_calli (va_runV (As := []) (rest := []) ⟨hx, hb, hml, hown, hts⟩ (mt_MO_takeNumber l hl9 dC dI cA ad hI _ hw) (cwV 0 hts (gV gw_413 gw_414 gw_415 gw_306 gw_412) rfl rfl rfl (by decide +kernel) ⟨Nat.le_of_ble_eq_true rfl, Nat.le_of_ble_eq_true rfl⟩) ⟨zwM_blind, va_recv hK hP (ci := 9) (q0 := 0) rfl atM_MO, zwM_pre hP hS hG9⟩ rfl rfl hl.1 rfl (lv_room (Nat.le_of_ble_eq_true rfl)) d_MO_readRequest_143 ⟨Nat.le_of_ble_eq_true rfl, Nat.le_of_ble_eq_true rfl⟩) hS (fun q _ h => CA_le hS.1 q h) (fun q h => CA_le hS.1 q h) (fun r32 u9 t H locs ht hvm hw hP hz1 hk1 hS => ?_)
          obtain ⟨X30, Y31⟩ := u9
          have hP : va_P (dC, dI) vwCl (wdM cA ad X30 Y31) H := by rw [← ht]; exact hP
          try dsimp only at hw
          refine lv_istore (lv' := [(4, .int r32), (0, .ref (ad 0)), (3, .int v3)]) hx hb d_MO_readRequest_146 hl (by decide) rfl (fun ls hl => ?_)
          refine lv_aload_n hx hb d_MO_readRequest_148 rfl (lv_at hl 1 rfl) ?_
          refine lv_aload_n hx hb d_MO_readRequest_149 rfl (lv_at hl 1 rfl) ?_
          refine va_get (D := (dC, dI)) (ci := 9) (v := .int (X30 67 0)) (C := R_MO) (T := T_MO) (N := 36) hx hb hts in_MO hown hK hP (0) atM_MO rfl 32 (by decide) (hts _ gw_397) (fun _ h9 => h9) rfl d_MO_readRequest_150 ?_
          refine lv_if_eq (tgt := 177) hx hb d_MO_readRequest_153 (by decide) (fun c33 => ?_) (fun c33 => ?_)
          · have hw := hw.1 c33
            refine lv_iconst (v := (0 : Int32)) hx hb d_MO_readRequest_177 (by decide) ?_
            have hl := lv_sub hl (l' := [(0, .ref (ad 0)), (3, .int v3), (4, .int r32)]) [1, 2, 0] rfl
            exact L178 _ (wq_MO_readRequest_127 post v3 n) ih _ _ _ _ _ _ _ hw hP hS hl
          · have hw := hw.2 c33
            refine lv_iload hx hb d_MO_readRequest_156 (lv_at hl 0 rfl) ?_
            refine lv_bipush (v := (16 : Int32)) hx hb d_MO_readRequest_158 (by decide) ?_
            refine lv_icmp_ge (tgt := 177) hx hb d_MO_readRequest_160 (by decide) (fun c34 => ?_) (fun c34 => ?_)
            · have hw := hw.1 c34
              refine lv_iconst (v := (0 : Int32)) hx hb d_MO_readRequest_177 (by decide) ?_
              have hl := lv_sub hl (l' := [(0, .ref (ad 0)), (3, .int v3), (4, .int r32)]) [1, 2, 0] rfl
              exact L178 _ (wq_MO_readRequest_127 post v3 n) ih _ _ _ _ _ _ _ hw hP hS hl
            · have hw := hw.2 c34
              refine lv_aload_n hx hb d_MO_readRequest_163 rfl (lv_at hl 1 rfl) ?_
              refine va_get (D := (dC, dI)) (ci := 9) (v := .int (X30 65 0)) (C := R_MO) (T := T_MO) (N := 36) hx hb hts in_MO hown hK hP (0) atM_MO rfl 34 (by decide) (hts _ gw_417) (fun _ h9 => h9) rfl d_MO_readRequest_164 ?_
              refine lv_iload hx hb d_MO_readRequest_167 (lv_at hl 0 rfl) ?_
              refine lv_ishr hx hb d_MO_readRequest_169 ?_
              refine lv_if_ne (tgt := 177) hx hb d_MO_readRequest_170 (by decide) (fun c35 => ?_) (fun c35 => ?_)
              · have hw := hw.2 c35
                refine lv_iconst (v := (0 : Int32)) hx hb d_MO_readRequest_177 (by decide) ?_
                have hl := lv_sub hl (l' := [(0, .ref (ad 0)), (3, .int v3), (4, .int r32)]) [1, 2, 0] rfl
                exact L178 _ (wq_MO_readRequest_127 post v3 n) ih _ _ _ _ _ _ _ hw hP hS hl
              · have hw := hw.1 c35
                refine lv_iconst (v := (1 : Int32)) hx hb d_MO_readRequest_173 (by decide) ?_
                refine lv_goto (tgt := 178) hx hb d_MO_readRequest_174 (by decide) ?_
                have hl := lv_sub hl (l' := [(0, .ref (ad 0)), (3, .int v3), (4, .int r32)]) [1, 2, 0] rfl
                exact L178 _ (wq_MO_readRequest_127 post v3 n) ih _ _ _ _ _ _ _ hw hP hS hl
  have L119 : ∀ (s0 : Int32) (v3 : Int32) (X : ST) (Y : Int64) (H : Heap) (locs : List Loc) (ls : Array Slot), wq_MO_readRequest_119 post s0 v3 X Y → va_P (dC, dI) vwCl (wdM cA ad X Y) H → va_S (CA ad 23 s.heap.size) s.heap H locs → lv_has ls 5 [(0, .ref (ad 0)), (3, .int v3)] → W p l e (headSpec ws_MO_readRequest ({ frames := 3, cells := 0, slots := 0, locals := 68 } : Room)).room s m (([.ref (ad 0)] : List Value).toArray) below meth c H locs 0 0 (MQ below (va_Qv (fun (u : ST × Int64) => post u.1 u.2) (fun (u : ST × Int64) t => va_P (dC, dI) vwCl (wdM cA ad u.1 u.2) t.heap) (CA ad 23 s.heap.size)) (([.ref (ad 0)] : List Value).toArray) s 0 0 (CA ad 23 s.heap.size)) (F0 m 119 ls [.int s0, .ref (ad 0)]) := by
    intro s0 v3 X Y H locs ls hw hP hS hl
    unfold wq_MO_readRequest_119 at hw
    obtain ⟨h36, hw⟩ := hw
    refine va_put (D := (dC, dI)) (ci := 9) (v := .int s0) (ty := .boolean) (C := R_MO) (T := T_MO) (N := 36) hx hb hts in_MO ty_MO ty_MO_ok nm_MO hown hK hP (hD0 _ _) hS (0) atM_MO rfl 32 (by decide) (hts _ gw_397) (fun _ h9 => h9) rfl (by decide +kernel) (zw_bn h36) (zw_bf h36) (Nat.le_of_ble_eq_true rfl) d_MO_readRequest_119 (fun H locs hP _ hS => ?_)
    have hP : va_P (dC, dI) vwCl (wdM cA ad (up X 67 0 s0) Y) H := by rw [← stM_MO_32]; exact hP
    refine lv_aload_n hx hb d_MO_readRequest_122 rfl (lv_at hl 0 rfl) ?_
    refine lv_iconst (v := (0 : Int32)) hx hb d_MO_readRequest_123 (by decide) ?_
    refine va_put (D := (dC, dI)) (ci := 9) (v := .int (0 : Int32)) (ty := .int) (C := R_MO) (T := T_MO) (N := 36) hx hb hts in_MO ty_MO ty_MO_ok nm_MO hown hK hP (hD0 _ _) hS (0) atM_MO rfl 34 (by decide) (hts _ gw_417) (fun _ h9 => h9) rfl (by decide +kernel) rfl rfl (Nat.le_of_ble_eq_true rfl) d_MO_readRequest_124 (fun H locs hP _ hS => ?_)
    have hP : va_P (dC, dI) vwCl (wdM cA ad (up (up X 67 0 s0) 65 0 (0 : Int32)) Y) H := by rw [← stM_MO_34]; exact hP
    have hl := lv_sub hl (l' := [(0, .ref (ad 0)), (3, .int v3)]) [0, 1] rfl
    obtain ⟨n9, hw⟩ := hw
    exact L127 _ n9 _ _ _ _ _ hw hP hS hl
  have L81 : ∀ (s0 : Int32) (X : ST) (Y : Int64) (H : Heap) (locs : List Loc) (ls : Array Slot), wq_MO_readRequest_81 post s0 X Y → va_P (dC, dI) vwCl (wdM cA ad X Y) H → va_S (CA ad 23 s.heap.size) s.heap H locs → lv_has ls 5 [(0, .ref (ad 0))] → W p l e (headSpec ws_MO_readRequest ({ frames := 3, cells := 0, slots := 0, locals := 68 } : Room)).room s m (([.ref (ad 0)] : List Value).toArray) below meth c H locs 0 0 (MQ below (va_Qv (fun (u : ST × Int64) => post u.1 u.2) (fun (u : ST × Int64) t => va_P (dC, dI) vwCl (wdM cA ad u.1 u.2) t.heap) (CA ad 23 s.heap.size)) (([.ref (ad 0)] : List Value).toArray) s 0 0 (CA ad 23 s.heap.size)) (F0 m 81 ls [.int s0, .ref (ad 0)]) := by
    intro s0 X Y H locs ls hw hP hS hl
    unfold wq_MO_readRequest_81 at hw
    obtain ⟨h37, hw⟩ := hw
    refine va_put (D := (dC, dI)) (ci := 9) (v := .int s0) (ty := .boolean) (C := R_MO) (T := T_MO) (N := 36) hx hb hts in_MO ty_MO ty_MO_ok nm_MO hown hK hP (hD0 _ _) hS (0) atM_MO rfl 32 (by decide) (hts _ gw_397) (fun _ h9 => h9) rfl (by decide +kernel) (zw_bn h37) (zw_bf h37) (Nat.le_of_ble_eq_true rfl) d_MO_readRequest_81 (fun H locs hP _ hS => ?_)
    have hP : va_P (dC, dI) vwCl (wdM cA ad (up X 67 0 s0) Y) H := by rw [← stM_MO_32]; exact hP
    refine lv_aload_n hx hb d_MO_readRequest_84 rfl (lv_at hl 0 rfl) ?_
    refine lv_bipush (v := (48 : Int32)) hx hb d_MO_readRequest_85 (by decide) ?_
    refine va_callv (va_runV (As := [.int (48 : Int32)]) (rest := []) ⟨hx, hb, hml, hown, hts⟩ (mt_MO_must l hl9 dC dI cA ad hI _ hw) (cwV 1 hts (gV gw_405 gw_406 gw_407 gw_306 gw_404) rfl rfl rfl (by decide +kernel) ⟨Nat.le_of_ble_eq_true rfl, Nat.le_of_ble_eq_true rfl⟩) ⟨zwM_blind, va_recv hK hP (ci := 9) (q0 := 0) rfl atM_MO, zwM_pre hP hS hG9⟩ rfl rfl hl.1 rfl (lv_room (Nat.le_of_ble_eq_true rfl)) d_MO_readRequest_87 ⟨Nat.le_of_ble_eq_true rfl, Nat.le_of_ble_eq_true rfl⟩) hS (fun q _ h => CA_le hS.1 q h) (fun q h => CA_le hS.1 q h) (fun u9 t H locs ht hvm hw hP hz1 hk1 hS => ?_)
    obtain ⟨X38, Y39⟩ := u9
    have hP : va_P (dC, dI) vwCl (wdM cA ad X38 Y39) H := by rw [← ht]; exact hP
    try dsimp only at hw
    refine lv_aload_n hx hb d_MO_readRequest_90 rfl (lv_at hl 0 rfl) ?_
    refine va_calli (va_runV (As := []) (rest := []) ⟨hx, hb, hml, hown, hts⟩ (mt_MO_takeLength l hl9 dC dI cA ad hI _ hw) (cwV 0 hts (gV gw_409 gw_410 gw_411 gw_306 gw_408) rfl rfl rfl (by decide +kernel) ⟨Nat.le_of_ble_eq_true rfl, Nat.le_of_ble_eq_true rfl⟩) ⟨zwM_blind, va_recv hK hP (ci := 9) (q0 := 0) rfl atM_MO, zwM_pre hP hS hG9⟩ rfl rfl hl.1 rfl (lv_room (Nat.le_of_ble_eq_true rfl)) d_MO_readRequest_91 ⟨Nat.le_of_ble_eq_true rfl, Nat.le_of_ble_eq_true rfl⟩) hS (fun q _ h => CA_le hS.1 q h) (fun q h => CA_le hS.1 q h) (fun r43 u9 t H locs ht hvm hw hP hz1 hk1 hS => ?_)
    obtain ⟨X41, Y42⟩ := u9
    have hP : va_P (dC, dI) vwCl (wdM cA ad X41 Y42) H := by rw [← ht]; exact hP
    try dsimp only at hw
    refine lv_istore_n (lv' := [(2, .int r43), (0, .ref (ad 0))]) hx hb d_MO_readRequest_94 rfl hl (by decide) rfl (fun ls hl => ?_)
    refine lv_aload_n hx hb d_MO_readRequest_95 rfl (lv_at hl 1 rfl) ?_
    refine va_get (D := (dC, dI)) (ci := 9) (v := .int (X41 66 0)) (C := R_MO) (T := T_MO) (N := 36) hx hb hts in_MO hown hK hP (0) atM_MO rfl 31 (by decide) (hts _ gw_396) (fun _ h9 => h9) rfl d_MO_readRequest_96 ?_
    refine lv_iload_n hx hb d_MO_readRequest_99 rfl (lv_at hl 0 rfl) ?_
    refine lv_iadd hx hb d_MO_readRequest_100 ?_
    refine lv_istore_n (lv' := [(3, .int ((X41 66 0) + r43)), (2, .int r43), (0, .ref (ad 0))]) hx hb d_MO_readRequest_101 rfl hl (by decide) rfl (fun ls hl => ?_)
    refine lv_aload_n hx hb d_MO_readRequest_102 rfl (lv_at hl 2 rfl) ?_
    refine lv_aload_n hx hb d_MO_readRequest_103 rfl (lv_at hl 2 rfl) ?_
    refine va_get (D := (dC, dI)) (ci := 9) (v := .int (X41 67 0)) (C := R_MO) (T := T_MO) (N := 36) hx hb hts in_MO hown hK hP (0) atM_MO rfl 32 (by decide) (hts _ gw_397) (fun _ h9 => h9) rfl d_MO_readRequest_104 ?_
    refine lv_if_eq (tgt := 118) hx hb d_MO_readRequest_107 (by decide) (fun c44 => ?_) (fun c44 => ?_)
    · have hw := hw.1 c44
      refine lv_iconst (v := (0 : Int32)) hx hb d_MO_readRequest_118 (by decide) ?_
      have hl := lv_sub hl (l' := [(0, .ref (ad 0)), (3, .int ((X41 66 0) + r43))]) [2, 0] rfl
      exact L119 _ _ _ _ _ _ _ hw hP hS hl
    · have hw := hw.2 c44
      refine lv_iload_n hx hb d_MO_readRequest_110 rfl (lv_at hl 1 rfl) ?_
      refine lv_if_le (tgt := 118) hx hb d_MO_readRequest_111 (by decide) (fun c45 => ?_) (fun c45 => ?_)
      · have hw := hw.1 c45
        refine lv_iconst (v := (0 : Int32)) hx hb d_MO_readRequest_118 (by decide) ?_
        have hl := lv_sub hl (l' := [(0, .ref (ad 0)), (3, .int ((X41 66 0) + r43))]) [2, 0] rfl
        exact L119 _ _ _ _ _ _ _ hw hP hS hl
      · have hw := hw.2 c45
        refine lv_iconst (v := (1 : Int32)) hx hb d_MO_readRequest_114 (by decide) ?_
        refine lv_goto (tgt := 119) hx hb d_MO_readRequest_115 (by decide) ?_
        have hl := lv_sub hl (l' := [(0, .ref (ad 0)), (3, .int ((X41 66 0) + r43))]) [2, 0] rfl
        exact L119 _ _ _ _ _ _ _ hw hP hS hl
  have L47 : ∀ (s0 : Int32) (X : ST) (Y : Int64) (H : Heap) (locs : List Loc) (ls : Array Slot), wq_MO_readRequest_47 post s0 X Y → va_P (dC, dI) vwCl (wdM cA ad X Y) H → va_S (CA ad 23 s.heap.size) s.heap H locs → lv_has ls 5 [(0, .ref (ad 0))] → W p l e (headSpec ws_MO_readRequest ({ frames := 3, cells := 0, slots := 0, locals := 68 } : Room)).room s m (([.ref (ad 0)] : List Value).toArray) below meth c H locs 0 0 (MQ below (va_Qv (fun (u : ST × Int64) => post u.1 u.2) (fun (u : ST × Int64) t => va_P (dC, dI) vwCl (wdM cA ad u.1 u.2) t.heap) (CA ad 23 s.heap.size)) (([.ref (ad 0)] : List Value).toArray) s 0 0 (CA ad 23 s.heap.size)) (F0 m 47 ls [.int s0, .ref (ad 0)]) := by
    intro s0 X Y H locs ls hw hP hS hl
    unfold wq_MO_readRequest_47 at hw
    obtain ⟨h46, hw⟩ := hw
    refine va_put (D := (dC, dI)) (ci := 9) (v := .int s0) (ty := .boolean) (C := R_MO) (T := T_MO) (N := 36) hx hb hts in_MO ty_MO ty_MO_ok nm_MO hown hK hP (hD0 _ _) hS (0) atM_MO rfl 32 (by decide) (hts _ gw_397) (fun _ h9 => h9) rfl (by decide +kernel) (zw_bn h46) (zw_bf h46) (Nat.le_of_ble_eq_true rfl) d_MO_readRequest_47 (fun H locs hP _ hS => ?_)
    have hP : va_P (dC, dI) vwCl (wdM cA ad (up X 67 0 s0) Y) H := by rw [← stM_MO_32]; exact hP
    refine lv_aload_n hx hb d_MO_readRequest_50 rfl (lv_at hl 0 rfl) ?_
    refine lv_aload_n hx hb d_MO_readRequest_51 rfl (lv_at hl 0 rfl) ?_
    refine va_calli (va_runV (As := []) (rest := [.ref (ad 0)]) ⟨hx, hb, hml, hown, hts⟩ (mt_MO_takeNumber l hl9 dC dI cA ad hI _ hw) (cwV 0 hts (gV gw_413 gw_414 gw_415 gw_306 gw_412) rfl rfl rfl (by decide +kernel) ⟨Nat.le_of_ble_eq_true rfl, Nat.le_of_ble_eq_true rfl⟩) ⟨zwM_blind, va_recv hK hP (ci := 9) (q0 := 0) rfl atM_MO, zwM_pre hP hS hG9⟩ rfl rfl hl.1 rfl (lv_room (Nat.le_of_ble_eq_true rfl)) d_MO_readRequest_52 ⟨Nat.le_of_ble_eq_true rfl, Nat.le_of_ble_eq_true rfl⟩) hS (fun q _ h => CA_le hS.1 q h) (fun q h => CA_le hS.1 q h) (fun r49 u9 t H locs ht hvm hw hP hz1 hk1 hS => ?_)
    obtain ⟨X47, Y48⟩ := u9
    have hP : va_P (dC, dI) vwCl (wdM cA ad X47 Y48) H := by rw [← ht]; exact hP
    try dsimp only at hw
    refine va_put (D := (dC, dI)) (ci := 9) (v := .int r49) (ty := .int) (C := R_MO) (T := T_MO) (N := 36) hx hb hts in_MO ty_MO ty_MO_ok nm_MO hown hK hP (hD0 _ _) hS (0) atM_MO rfl 33 (by decide) (hts _ gw_416) (fun _ h9 => h9) rfl (by decide +kernel) rfl rfl (Nat.le_of_ble_eq_true rfl) d_MO_readRequest_55 (fun H locs hP _ hS => ?_)
    have hP : va_P (dC, dI) vwCl (wdM cA ad (up X47 64 0 r49) Y48) H := by rw [← stM_MO_33]; exact hP
    refine lv_aload_n hx hb d_MO_readRequest_58 rfl (lv_at hl 0 rfl) ?_
    refine lv_aload_n hx hb d_MO_readRequest_59 rfl (lv_at hl 0 rfl) ?_
    refine va_get (D := (dC, dI)) (ci := 9) (v := .int (X47 67 0)) (C := R_MO) (T := T_MO) (N := 36) hx hb hts in_MO hown hK hP (0) atM_MO rfl 32 (by decide) (hts _ gw_397) (fun _ h9 => h9) rfl d_MO_readRequest_60 ?_
    refine lv_if_eq (tgt := 80) hx hb d_MO_readRequest_63 (by decide) (fun c50 => ?_) (fun c50 => ?_)
    · have hw := hw.1 c50
      refine lv_iconst (v := (0 : Int32)) hx hb d_MO_readRequest_80 (by decide) ?_
      have hl := lv_sub hl (l' := [(0, .ref (ad 0))]) [0] rfl
      exact L81 _ _ _ _ _ _ hw hP hS hl
    · have hw := hw.2 c50
      refine lv_aload_n hx hb d_MO_readRequest_66 rfl (lv_at hl 0 rfl) ?_
      refine va_get (D := (dC, dI)) (ci := 9) (v := .int r49) (C := R_MO) (T := T_MO) (N := 36) hx hb hts in_MO hown hK hP (0) atM_MO rfl 33 (by decide) (hts _ gw_416) (fun _ h9 => h9) rfl d_MO_readRequest_67 ?_
      refine va_calli (va_runS (As := [.int r49]) (rest := [.ref (ad 0)]) ⟨hx, hb, hml, hown, hts⟩ (mt_MO_isKey l hl9 dC dI cA ad hI _ hw) (va_cwS 1 hts (gS gw_325 gw_326 gw_306 gw_324) rfl rfl rfl (by decide +kernel) ⟨Nat.le_of_ble_eq_true rfl, Nat.le_of_ble_eq_true rfl⟩) ⟨zwM_blind, zwM_pre hP hS hG9⟩ rfl rfl hl.1 rfl (lv_room (Nat.le_of_ble_eq_true rfl)) d_MO_readRequest_70 ⟨Nat.le_of_ble_eq_true rfl, Nat.le_of_ble_eq_true rfl⟩) hS (fun q _ h => CA_le hS.1 q h) (fun q h => CA_le hS.1 q h) (fun r53 u9 t H locs ht hvm hw hP hz1 hk1 hS => ?_)
      obtain ⟨X51, Y52⟩ := u9
      have hP : va_P (dC, dI) vwCl (wdM cA ad X51 Y52) H := by rw [← ht]; exact hP
      try dsimp only at hw
      refine lv_if_eq (tgt := 80) hx hb d_MO_readRequest_73 (by decide) (fun c54 => ?_) (fun c54 => ?_)
      · have hw := hw.1 c54
        refine lv_iconst (v := (0 : Int32)) hx hb d_MO_readRequest_80 (by decide) ?_
        have hl := lv_sub hl (l' := [(0, .ref (ad 0))]) [0] rfl
        exact L81 _ _ _ _ _ _ hw hP hS hl
      · have hw := hw.2 c54
        refine lv_iconst (v := (1 : Int32)) hx hb d_MO_readRequest_76 (by decide) ?_
        refine lv_goto (tgt := 81) hx hb d_MO_readRequest_77 (by decide) ?_
        have hl := lv_sub hl (l' := [(0, .ref (ad 0))]) [0] rfl
        exact L81 _ _ _ _ _ _ hw hP hS hl
  unfold wp_MO_readRequest at hw
  refine lv_aload_n hx hb d_MO_readRequest_0 rfl (lv_at hl 0 rfl) ?_
  refine lv_iconst (v := (0 : Int32)) hx hb d_MO_readRequest_1 (by decide) ?_
  refine va_put (D := (dC, dI)) (ci := 9) (v := .int (0 : Int32)) (ty := .int) (C := R_MO) (T := T_MO) (N := 36) hx hb hts in_MO ty_MO ty_MO_ok nm_MO hown hK hP (hD0 _ _) hS (0) atM_MO rfl 31 (by decide) (hts _ gw_396) (fun _ h9 => h9) rfl (by decide +kernel) rfl rfl (Nat.le_of_ble_eq_true rfl) d_MO_readRequest_2 (fun H locs hP _ hS => ?_)
  have hP : va_P (dC, dI) vwCl (wdM cA ad (up X 66 0 (0 : Int32)) Y) H := by rw [← stM_MO_31]; exact hP
  refine lv_aload_n hx hb d_MO_readRequest_5 rfl (lv_at hl 0 rfl) ?_
  refine lv_iconst (v := (1 : Int32)) hx hb d_MO_readRequest_6 (by decide) ?_
  refine va_put (D := (dC, dI)) (ci := 9) (v := .int (1 : Int32)) (ty := .boolean) (C := R_MO) (T := T_MO) (N := 36) hx hb hts in_MO ty_MO ty_MO_ok nm_MO hown hK hP (hD0 _ _) hS (0) atM_MO rfl 32 (by decide) (hts _ gw_397) (fun _ h9 => h9) rfl (by decide +kernel) rfl rfl (Nat.le_of_ble_eq_true rfl) d_MO_readRequest_7 (fun H locs hP _ hS => ?_)
  have hP : va_P (dC, dI) vwCl (wdM cA ad (up (up X 66 0 (0 : Int32)) 67 0 (1 : Int32)) Y) H := by rw [← stM_MO_32]; exact hP
  refine lv_aload_n hx hb d_MO_readRequest_10 rfl (lv_at hl 0 rfl) ?_
  refine lv_bipush (v := (48 : Int32)) hx hb d_MO_readRequest_11 (by decide) ?_
  refine va_callv (va_runV (As := [.int (48 : Int32)]) (rest := []) ⟨hx, hb, hml, hown, hts⟩ (mt_MO_must l hl9 dC dI cA ad hI _ hw) (cwV 1 hts (gV gw_405 gw_406 gw_407 gw_306 gw_404) rfl rfl rfl (by decide +kernel) ⟨Nat.le_of_ble_eq_true rfl, Nat.le_of_ble_eq_true rfl⟩) ⟨zwM_blind, va_recv hK hP (ci := 9) (q0 := 0) rfl atM_MO, zwM_pre hP hS hG9⟩ rfl rfl hl.1 rfl (lv_room (Nat.le_of_ble_eq_true rfl)) d_MO_readRequest_13 ⟨Nat.le_of_ble_eq_true rfl, Nat.le_of_ble_eq_true rfl⟩) hS (fun q _ h => CA_le hS.1 q h) (fun q h => CA_le hS.1 q h) (fun u9 t H locs ht hvm hw hP hz1 hk1 hS => ?_)
  obtain ⟨X55, Y56⟩ := u9
  have hP : va_P (dC, dI) vwCl (wdM cA ad X55 Y56) H := by rw [← ht]; exact hP
  try dsimp only at hw
  refine lv_aload_n hx hb d_MO_readRequest_16 rfl (lv_at hl 0 rfl) ?_
  refine va_calli (va_runV (As := []) (rest := []) ⟨hx, hb, hml, hown, hts⟩ (mt_MO_takeLength l hl9 dC dI cA ad hI _ hw) (cwV 0 hts (gV gw_409 gw_410 gw_411 gw_306 gw_408) rfl rfl rfl (by decide +kernel) ⟨Nat.le_of_ble_eq_true rfl, Nat.le_of_ble_eq_true rfl⟩) ⟨zwM_blind, va_recv hK hP (ci := 9) (q0 := 0) rfl atM_MO, zwM_pre hP hS hG9⟩ rfl rfl hl.1 rfl (lv_room (Nat.le_of_ble_eq_true rfl)) d_MO_readRequest_17 ⟨Nat.le_of_ble_eq_true rfl, Nat.le_of_ble_eq_true rfl⟩) hS (fun q _ h => CA_le hS.1 q h) (fun q h => CA_le hS.1 q h) (fun r60 u9 t H locs ht hvm hw hP hz1 hk1 hS => ?_)
  obtain ⟨X58, Y59⟩ := u9
  have hP : va_P (dC, dI) vwCl (wdM cA ad X58 Y59) H := by rw [← ht]; exact hP
  try dsimp only at hw
  refine lv_istore_n (lv' := [(1, .int r60), (0, .ref (ad 0))]) hx hb d_MO_readRequest_20 rfl hl (by decide) rfl (fun ls hl => ?_)
  refine lv_aload_n hx hb d_MO_readRequest_21 rfl (lv_at hl 1 rfl) ?_
  refine lv_aload_n hx hb d_MO_readRequest_22 rfl (lv_at hl 1 rfl) ?_
  refine va_get (D := (dC, dI)) (ci := 9) (v := .int (X58 67 0)) (C := R_MO) (T := T_MO) (N := 36) hx hb hts in_MO hown hK hP (0) atM_MO rfl 32 (by decide) (hts _ gw_397) (fun _ h9 => h9) rfl d_MO_readRequest_23 ?_
  refine lv_if_eq (tgt := 46) hx hb d_MO_readRequest_26 (by decide) (fun c61 => ?_) (fun c61 => ?_)
  · have hw := hw.1 c61
    refine lv_iconst (v := (0 : Int32)) hx hb d_MO_readRequest_46 (by decide) ?_
    have hl := lv_sub hl (l' := [(0, .ref (ad 0))]) [1] rfl
    exact L47 _ _ _ _ _ _ hw hP hS hl
  · have hw := hw.2 c61
    refine lv_aload_n hx hb d_MO_readRequest_29 rfl (lv_at hl 1 rfl) ?_
    refine va_get (D := (dC, dI)) (ci := 9) (v := .int (X58 66 0)) (C := R_MO) (T := T_MO) (N := 36) hx hb hts in_MO hown hK hP (0) atM_MO rfl 31 (by decide) (hts _ gw_396) (fun _ h9 => h9) rfl d_MO_readRequest_30 ?_
    refine lv_iload_n hx hb d_MO_readRequest_33 rfl (lv_at hl 0 rfl) ?_
    refine lv_iadd hx hb d_MO_readRequest_34 ?_
    refine lv_aload_n hx hb d_MO_readRequest_35 rfl (lv_at hl 1 rfl) ?_
    refine va_get (D := (dC, dI)) (ci := 9) (v := .int (X58 7 0)) (C := R_MO) (T := T_MO) (N := 36) hx hb hts in_MO hown hK hP (0) atM_MO rfl 30 (by decide) (hts _ gw_399) (fun _ h9 => h9) rfl d_MO_readRequest_36 ?_
    refine lv_icmp_ne (tgt := 46) hx hb d_MO_readRequest_39 (by decide) (fun c62 => ?_) (fun c62 => ?_)
    · have hw := hw.2 c62
      refine lv_iconst (v := (0 : Int32)) hx hb d_MO_readRequest_46 (by decide) ?_
      have hl := lv_sub hl (l' := [(0, .ref (ad 0))]) [1] rfl
      exact L47 _ _ _ _ _ _ hw hP hS hl
    · have hw := hw.1 c62
      refine lv_iconst (v := (1 : Int32)) hx hb d_MO_readRequest_42 (by decide) ?_
      refine lv_goto (tgt := 47) hx hb d_MO_readRequest_43 (by decide) ?_
      have hl := lv_sub hl (l' := [(0, .ref (ad 0))]) [1] rfl
      exact L47 _ _ _ _ _ _ hw hP hS hl
