def y_CA_init : MethodName := ⟨"ChallengeAuthority", "<init>", "(I)V"⟩
def GK (dC : Nat → ClassId) (dI : Nat → Nat → Nat) (cA : Nat → ClassId) (U : State) : Prop := va_K (dC, dI) vwCl (tyC cA) U ∧ (∀ w ∈ NGL, va_Nw w U) ∧ va_AO "ChallengeAuthority$Account" U ∧ va_AO "ChallengeAuthority$Order" U ∧ va_AO "ChallengeAuthority$Authorization" U ∧ va_AO "ChallengeAuthority$Challenge" U ∧ va_AO "ChallengeAuthority$Certificate" U
abbrev c_CA_init : ByteArray := prog_1_method_1_code
def ws_CA_init : List Cond := Cond.code y_CA_init c_CA_init 3 (Option.none : Option Jvm.ClassFile.FieldType) :: GW
theorem d_CA_init_0 : decode c_CA_init 0 = .ok (.aload_n 0, 1) := by decide +kernel
theorem d_CA_init_1 : decode c_CA_init 1 = .ok (.invokespecial 1, 3) := by decide +kernel
theorem d_CA_init_4 : decode c_CA_init 4 = .ok (.aload_n 0, 1) := by decide +kernel
theorem d_CA_init_5 : decode c_CA_init 5 = .ok (.bipush 6, 2) := by decide +kernel
theorem d_CA_init_7 : decode c_CA_init 7 = .ok (.anewarray 9, 3) := by decide +kernel
theorem d_CA_init_10 : decode c_CA_init 10 = .ok (.putfield 11, 3) := by decide +kernel
theorem d_CA_init_13 : decode c_CA_init 13 = .ok (.aload_n 0, 1) := by decide +kernel
theorem d_CA_init_14 : decode c_CA_init 14 = .ok (.bipush 12, 2) := by decide +kernel
theorem d_CA_init_16 : decode c_CA_init 16 = .ok (.anewarray 15, 3) := by decide +kernel
theorem d_CA_init_19 : decode c_CA_init 19 = .ok (.putfield 17, 3) := by decide +kernel
theorem d_CA_init_22 : decode c_CA_init 22 = .ok (.aload_n 0, 1) := by decide +kernel
theorem d_CA_init_23 : decode c_CA_init 23 = .ok (.bipush 24, 2) := by decide +kernel
theorem d_CA_init_25 : decode c_CA_init 25 = .ok (.anewarray 21, 3) := by decide +kernel
theorem d_CA_init_28 : decode c_CA_init 28 = .ok (.putfield 23, 3) := by decide +kernel
theorem d_CA_init_31 : decode c_CA_init 31 = .ok (.aload_n 0, 1) := by decide +kernel
theorem d_CA_init_32 : decode c_CA_init 32 = .ok (.bipush 48, 2) := by decide +kernel
theorem d_CA_init_34 : decode c_CA_init 34 = .ok (.anewarray 27, 3) := by decide +kernel
theorem d_CA_init_37 : decode c_CA_init 37 = .ok (.putfield 29, 3) := by decide +kernel
theorem d_CA_init_40 : decode c_CA_init 40 = .ok (.aload_n 0, 1) := by decide +kernel
theorem d_CA_init_41 : decode c_CA_init 41 = .ok (.bipush 12, 2) := by decide +kernel
theorem d_CA_init_43 : decode c_CA_init 43 = .ok (.anewarray 33, 3) := by decide +kernel
theorem d_CA_init_46 : decode c_CA_init 46 = .ok (.putfield 35, 3) := by decide +kernel
theorem d_CA_init_49 : decode c_CA_init 49 = .ok (.aload_n 0, 1) := by decide +kernel
theorem d_CA_init_50 : decode c_CA_init 50 = .ok (.new 39, 3) := by decide +kernel
theorem d_CA_init_53 : decode c_CA_init 53 = .ok (.dup, 1) := by decide +kernel
theorem d_CA_init_54 : decode c_CA_init 54 = .ok (.invokespecial 41, 3) := by decide +kernel
theorem d_CA_init_57 : decode c_CA_init 57 = .ok (.putfield 42, 3) := by decide +kernel
theorem d_CA_init_60 : decode c_CA_init 60 = .ok (.aload_n 0, 1) := by decide +kernel
theorem d_CA_init_61 : decode c_CA_init 61 = .ok (.new 46, 3) := by decide +kernel
theorem d_CA_init_64 : decode c_CA_init 64 = .ok (.dup, 1) := by decide +kernel
theorem d_CA_init_65 : decode c_CA_init 65 = .ok (.invokespecial 48, 3) := by decide +kernel
theorem d_CA_init_68 : decode c_CA_init 68 = .ok (.putfield 49, 3) := by decide +kernel
theorem d_CA_init_71 : decode c_CA_init 71 = .ok (.aload_n 0, 1) := by decide +kernel
theorem d_CA_init_72 : decode c_CA_init 72 = .ok (.new 53, 3) := by decide +kernel
theorem d_CA_init_75 : decode c_CA_init 75 = .ok (.dup, 1) := by decide +kernel
theorem d_CA_init_76 : decode c_CA_init 76 = .ok (.invokespecial 55, 3) := by decide +kernel
theorem d_CA_init_79 : decode c_CA_init 79 = .ok (.putfield 56, 3) := by decide +kernel
theorem d_CA_init_82 : decode c_CA_init 82 = .ok (.aload_n 0, 1) := by decide +kernel
theorem d_CA_init_83 : decode c_CA_init 83 = .ok (.iload_n 1, 1) := by decide +kernel
theorem d_CA_init_84 : decode c_CA_init 84 = .ok (.putfield 60, 3) := by decide +kernel
theorem d_CA_init_87 : decode c_CA_init 87 = .ok (.iconst 0, 1) := by decide +kernel
theorem d_CA_init_88 : decode c_CA_init 88 = .ok (.istore_n 2, 1) := by decide +kernel
theorem d_CA_init_89 : decode c_CA_init 89 = .ok (.iload_n 2, 1) := by decide +kernel
theorem d_CA_init_90 : decode c_CA_init 90 = .ok (.bipush 6, 2) := by decide +kernel
theorem d_CA_init_92 : decode c_CA_init 92 = .ok (.if_icmp .ge 22, 3) := by decide +kernel
theorem d_CA_init_95 : decode c_CA_init 95 = .ok (.aload_n 0, 1) := by decide +kernel
theorem d_CA_init_96 : decode c_CA_init 96 = .ok (.getfield 11, 3) := by decide +kernel
theorem d_CA_init_99 : decode c_CA_init 99 = .ok (.iload_n 2, 1) := by decide +kernel
theorem d_CA_init_100 : decode c_CA_init 100 = .ok (.new 9, 3) := by decide +kernel
theorem d_CA_init_103 : decode c_CA_init 103 = .ok (.dup, 1) := by decide +kernel
theorem d_CA_init_104 : decode c_CA_init 104 = .ok (.invokespecial 64, 3) := by decide +kernel
theorem d_CA_init_107 : decode c_CA_init 107 = .ok (.aastore, 1) := by decide +kernel
theorem d_CA_init_108 : decode c_CA_init 108 = .ok (.iinc 2 1, 3) := by decide +kernel
theorem d_CA_init_111 : decode c_CA_init 111 = .ok (.goto (-22), 3) := by decide +kernel
theorem d_CA_init_114 : decode c_CA_init 114 = .ok (.iconst 0, 1) := by decide +kernel
theorem d_CA_init_115 : decode c_CA_init 115 = .ok (.istore_n 2, 1) := by decide +kernel
theorem d_CA_init_116 : decode c_CA_init 116 = .ok (.iload_n 2, 1) := by decide +kernel
theorem d_CA_init_117 : decode c_CA_init 117 = .ok (.bipush 12, 2) := by decide +kernel
theorem d_CA_init_119 : decode c_CA_init 119 = .ok (.if_icmp .ge 22, 3) := by decide +kernel
theorem d_CA_init_122 : decode c_CA_init 122 = .ok (.aload_n 0, 1) := by decide +kernel
theorem d_CA_init_123 : decode c_CA_init 123 = .ok (.getfield 17, 3) := by decide +kernel
theorem d_CA_init_126 : decode c_CA_init 126 = .ok (.iload_n 2, 1) := by decide +kernel
theorem d_CA_init_127 : decode c_CA_init 127 = .ok (.new 15, 3) := by decide +kernel
theorem d_CA_init_130 : decode c_CA_init 130 = .ok (.dup, 1) := by decide +kernel
theorem d_CA_init_131 : decode c_CA_init 131 = .ok (.invokespecial 65, 3) := by decide +kernel
theorem d_CA_init_134 : decode c_CA_init 134 = .ok (.aastore, 1) := by decide +kernel
theorem d_CA_init_135 : decode c_CA_init 135 = .ok (.iinc 2 1, 3) := by decide +kernel
theorem d_CA_init_138 : decode c_CA_init 138 = .ok (.goto (-22), 3) := by decide +kernel
theorem d_CA_init_141 : decode c_CA_init 141 = .ok (.iconst 0, 1) := by decide +kernel
theorem d_CA_init_142 : decode c_CA_init 142 = .ok (.istore_n 2, 1) := by decide +kernel
theorem d_CA_init_143 : decode c_CA_init 143 = .ok (.iload_n 2, 1) := by decide +kernel
theorem d_CA_init_144 : decode c_CA_init 144 = .ok (.bipush 24, 2) := by decide +kernel
theorem d_CA_init_146 : decode c_CA_init 146 = .ok (.if_icmp .ge 22, 3) := by decide +kernel
theorem d_CA_init_149 : decode c_CA_init 149 = .ok (.aload_n 0, 1) := by decide +kernel
theorem d_CA_init_150 : decode c_CA_init 150 = .ok (.getfield 23, 3) := by decide +kernel
theorem d_CA_init_153 : decode c_CA_init 153 = .ok (.iload_n 2, 1) := by decide +kernel
theorem d_CA_init_154 : decode c_CA_init 154 = .ok (.new 21, 3) := by decide +kernel
theorem d_CA_init_157 : decode c_CA_init 157 = .ok (.dup, 1) := by decide +kernel
theorem d_CA_init_158 : decode c_CA_init 158 = .ok (.invokespecial 66, 3) := by decide +kernel
theorem d_CA_init_161 : decode c_CA_init 161 = .ok (.aastore, 1) := by decide +kernel
theorem d_CA_init_162 : decode c_CA_init 162 = .ok (.iinc 2 1, 3) := by decide +kernel
theorem d_CA_init_165 : decode c_CA_init 165 = .ok (.goto (-22), 3) := by decide +kernel
theorem d_CA_init_168 : decode c_CA_init 168 = .ok (.iconst 0, 1) := by decide +kernel
theorem d_CA_init_169 : decode c_CA_init 169 = .ok (.istore_n 2, 1) := by decide +kernel
theorem d_CA_init_170 : decode c_CA_init 170 = .ok (.iload_n 2, 1) := by decide +kernel
theorem d_CA_init_171 : decode c_CA_init 171 = .ok (.bipush 48, 2) := by decide +kernel
theorem d_CA_init_173 : decode c_CA_init 173 = .ok (.if_icmp .ge 22, 3) := by decide +kernel
theorem d_CA_init_176 : decode c_CA_init 176 = .ok (.aload_n 0, 1) := by decide +kernel
theorem d_CA_init_177 : decode c_CA_init 177 = .ok (.getfield 29, 3) := by decide +kernel
theorem d_CA_init_180 : decode c_CA_init 180 = .ok (.iload_n 2, 1) := by decide +kernel
theorem d_CA_init_181 : decode c_CA_init 181 = .ok (.new 27, 3) := by decide +kernel
theorem d_CA_init_184 : decode c_CA_init 184 = .ok (.dup, 1) := by decide +kernel
theorem d_CA_init_185 : decode c_CA_init 185 = .ok (.invokespecial 67, 3) := by decide +kernel
theorem d_CA_init_188 : decode c_CA_init 188 = .ok (.aastore, 1) := by decide +kernel
theorem d_CA_init_189 : decode c_CA_init 189 = .ok (.iinc 2 1, 3) := by decide +kernel
theorem d_CA_init_192 : decode c_CA_init 192 = .ok (.goto (-22), 3) := by decide +kernel
theorem d_CA_init_195 : decode c_CA_init 195 = .ok (.iconst 0, 1) := by decide +kernel
theorem d_CA_init_196 : decode c_CA_init 196 = .ok (.istore_n 2, 1) := by decide +kernel
theorem d_CA_init_197 : decode c_CA_init 197 = .ok (.iload_n 2, 1) := by decide +kernel
theorem d_CA_init_198 : decode c_CA_init 198 = .ok (.bipush 12, 2) := by decide +kernel
theorem d_CA_init_200 : decode c_CA_init 200 = .ok (.if_icmp .ge 22, 3) := by decide +kernel
theorem d_CA_init_203 : decode c_CA_init 203 = .ok (.aload_n 0, 1) := by decide +kernel
theorem d_CA_init_204 : decode c_CA_init 204 = .ok (.getfield 35, 3) := by decide +kernel
theorem d_CA_init_207 : decode c_CA_init 207 = .ok (.iload_n 2, 1) := by decide +kernel
theorem d_CA_init_208 : decode c_CA_init 208 = .ok (.new 33, 3) := by decide +kernel
theorem d_CA_init_211 : decode c_CA_init 211 = .ok (.dup, 1) := by decide +kernel
theorem d_CA_init_212 : decode c_CA_init 212 = .ok (.invokespecial 68, 3) := by decide +kernel
theorem d_CA_init_215 : decode c_CA_init 215 = .ok (.aastore, 1) := by decide +kernel
theorem d_CA_init_216 : decode c_CA_init 216 = .ok (.iinc 2 1, 3) := by decide +kernel
theorem d_CA_init_219 : decode c_CA_init 219 = .ok (.goto (-22), 3) := by decide +kernel
theorem d_CA_init_222 : decode c_CA_init 222 = .ok (.return_, 1) := by decide +kernel
set_option maxHeartbeats 4000000 in
set_option maxRecDepth 100000 in
theorem mt_CA_init (l : Launch) (dC : Nat → ClassId) (dI : Nat → Nat → Nat) (cA : Nat → ClassId) (a0 sz : Nat) (sd : Int32) (hlt : a0 < sz) : Met l y_CA_init ws_CA_init ({ frames := 2, cells := 124, slots := 670, locals := 32 } : Room) (va_Pc [.ref a0, .int sd] (fun U => U.heap.size = sz ∧ va_P (dC, dI) vwCl [(a0, .inr (0, [.int 0, .int 0, .int 0, .int 0, .int 0, .int 0, .null, .null, .null, .null, .null, .null, .null, .null]))] U.heap ∧ GK dC dI cA U)) (va_Qv (fun (ad : Nat → Nat) => ad 0 = a0 ∧ INJ ad 125 ∧ ∀ k : Nat, 0 < k → k < 125 → sz ≤ ad k) (fun (ad : Nat → Nat) t => va_P (dC, dI) vwCl (wdC cA ad (X0 sd)) t.heap) (B1 a0 sz)) 124 670 (B1 a0 sz) := by
  refine Met.ofW (cc := c_CA_init) (maxL := 3) (ret := none) (by decide) rfl ?_
  intro p e s m args below meth c s₁ B hml hv
  obtain ⟨rfl, hsz, hP, hG⟩ := hv
  have hx := B.exec
  have hb := B.bytes
  have hr := B.returns
  have hts : ∀ w ∈ GW, w.before (([.ref a0, .int sd] : List Value).toArray) s = true := fun w h => atoms_spec (ws := ws_CA_init) B.pre w (List.mem_cons_of_mem _ h)
  have hown : s.vm.findClass R_CA = some m.cls := findClass_of_methodNamed B.named
  have hlocks := B.notSynchronized
  have hin : meth.name = "<init>" := (name_of_methodNamed B.named B.method).1
  subst hsz
  have hK := hG.1
  have hNW := hG.2.1
  have hS : va_S (B1 a0 s.heap.size) s.heap s.heap [] := va_S.rf
  have hA : ∀ q : Nat, s.heap.size ≤ q → B1 a0 s.heap.size q := fun q h => Or.inr h
  have hD : va_D (B1 a0 s.heap.size) [(a0, .inr (0, [.int 0, .int 0, .int 0, .int 0, .int 0, .int 0, .null, .null, .null, .null, .null, .null, .null, .null]))] := va_D1
  have hl := lv_entry ([.ref a0, .int sd]) (n := 3) (Nat.le_of_ble_eq_true rfl)
  rw [lg_entry_eq]
  generalize (lg_sl ([.ref a0, .int sd]) ++ List.replicate (3 - (lg_sl ([.ref a0, .int sd])).length) Slot.unset).toArray = ls at hl ⊢
  have hl : lv_has ls 3 [(0, .ref a0), (1, .int sd)] := hl
  have L197 : ∀ (d i : Nat), i + d = 12 → ∀ (bd : Nat → Nat) (g : Nat → Nat → Option Nat) (H : Heap) (locs : List Loc) (ls : Array Slot), bd 0 = a0 → va_P (dC, dI) vwCl (wB cA sd (113 + i) bd g) H → va_D (B1 a0 s.heap.size) (wB cA sd (113 + i) bd g) → va_S (B1 a0 s.heap.size) s.heap H locs → GI 6 12 24 48 i bd g → lv_has ls 3 [(2, .int (nI i)), (0, .ref a0), (1, .int sd)] → W p l e (headSpec ws_CA_init ({ frames := 2, cells := 124, slots := 670, locals := 32 } : Room)).room s m (([.ref a0, .int sd] : List Value).toArray) below meth c H locs (112 + i) (598 + 6 * i) (MQ below (va_Qv (fun (ad : Nat → Nat) => ad 0 = a0 ∧ INJ ad 125 ∧ ∀ k : Nat, 0 < k → k < 125 → s.heap.size ≤ ad k) (fun (ad : Nat → Nat) t => va_P (dC, dI) vwCl (wdC cA ad (X0 sd)) t.heap) (B1 a0 s.heap.size)) (([.ref a0, .int sd] : List Value).toArray) s 124 670 (B1 a0 s.heap.size)) (F0 m 197 ls []) := by
    intro d
    induction d with
    | zero =>
      intro i hi bd g H locs ls hb0 hP hD hS hG hl
      have hi : i = 12 := by omega
      subst hi
      refine lv_iload_n hx hb d_CA_init_197 rfl (lv_at hl 0 rfl) ?_
      refine lv_bipush (v := (12 : Int32)) hx hb d_CA_init_198 (by decide) ?_
      refine lv_icmp_ge (tgt := 222) hx hb d_CA_init_200 (by decide) (fun h => ?_) (fun h => ?_)
      rotate_left
      · exact absurd (nI_le (Nat.le_refl 12) (by decide)) h
      obtain ⟨hI9, hA9⟩ := inj_of_D (ad := bd) (n := 125) hD (by unfold wB; rw [List.map_map]; rfl)
      have hpo : (fun c => bd (pm c)) 0 = a0 ∧ INJ (fun c => bd (pm c)) 125 ∧ ∀ k : Nat, 0 < k → k < 125 → s.heap.size ≤ (fun c => bd (pm c)) k := by
        refine ⟨hb0, fun x y hx9 hy9 he => pm_inj hx9 hy9 (hI9 _ _ (pm_lt hx9) (pm_lt hy9) he), fun k h1 h2 => ?_⟩
        rcases hA9 (pm k) (pm_lt h2) with h3 | h3
        · have h4 := hI9 (pm k) 0 (pm_lt h2) (by decide) (by rw [h3, hb0])
          have h5 : k = 0 := pm_inj h2 (by decide) (h4.trans rfl)
          omega
        · exact h3
      have hP := wB_fin hP hG
      refine W.widen (k := 124) (n := 670) (Nat.le_of_ble_eq_true rfl) (Nat.le_of_ble_eq_true rfl) ?_
      exact W.vret hx hb hr (fun t ht _ => ⟨⟨fun c => bd (pm c), rfl, hpo, by show va_P _ _ _ t.heap; rw [ht]; exact hP⟩, hS.F ht⟩) hS.2.2 d_CA_init_222
    | succ d ih =>
      intro i hi bd g H locs ls hb0 hP hD hS hG hl
      have hic : i < 12 := by omega
      refine lv_iload_n hx hb d_CA_init_197 rfl (lv_at hl 0 rfl) ?_
      refine lv_bipush (v := (12 : Int32)) hx hb d_CA_init_198 (by decide) ?_
      refine lv_icmp_ge (tgt := 222) hx hb d_CA_init_200 (by decide) (fun h => ?_) (fun h => ?_)
      · exact absurd h (nI_ge hic (by decide))
      have hat0 : (wB cA sd (113 + i) bd g)[0]? = some (a0, .inr (0, [.int sd, .int 0, .int 0, .int 0, .int 0, .int 0, .ref (bd 1), .ref (bd 2), .ref (bd 3), .ref (bd 4), .ref (bd 5), .ref (bd 6), .ref (bd 8), .ref (bd 10)])) := by
        rw [wB_at (show 0 < (113 + i) by omega), hb0]
        rfl
      refine lv_aload_n hx hb d_CA_init_203 rfl (lv_at hl 1 rfl) ?_
      refine va_get (D := (dC, dI)) (ci := 0) (v := .ref (bd 5)) (C := R_CA) (T := T_CA) (N := 14) hx hb hts in_CA hown hK hP 0 hat0 rfl 10 (by decide) (hts _ gw_191) (fun _ h9 => h9) rfl d_CA_init_204 ?_
      refine lv_iload_n hx hb d_CA_init_207 rfl (lv_at hl 0 rfl) ?_
      refine va_new (ci := 8) (fs := [.int 0, .int 0, .int 0, .int 0, .int 0, .int 0]) (C := R_Cer) (T := T_Cer) (N := 6) hx hb hts in_Cer ty_Cer ty_Cer_ok hown (hts _ gw_606) (hts _ gw_619) (hts _ gw_279) hK hP hD hS hA rfl (fun j hj => by rcases (show j = 0 ∨ j = 1 ∨ j = 2 ∨ j = 3 ∨ j = 4 ∨ j = 5 by omega) with rfl | rfl | rfl | rfl | rfl | rfl <;> rfl) (show (112 + i) + 1 ≤ 124 by omega) (show (598 + 6 * i) + 6 ≤ 670 by omega) d_CA_init_208 (fun q H hP hD hS => ?_)
      refine lv_dup hx hb d_CA_init_211 rfl ?_
      have hat9 : (wB cA sd (113 + i) bd g ++ [(q, .inr (8, [.int 0, .int 0, .int 0, .int 0, .int 0, .int 0]))])[(113 + i)]? = some (q, .inr (8, [.int 0, .int 0, .int 0, .int 0, .int 0, .int 0])) := by
        rw [List.getElem?_append_right (by unfold wB; rw [List.length_map, List.length_range]; exact Nat.le_refl _)]
        unfold wB
        rw [List.length_map, List.length_range, Nat.sub_self]
        rfl
      have hPc : va_P (dC, dI) vwCl [(q, .inr (8, [.int 0, .int 0, .int 0, .int 0, .int 0, .int 0]))] H := hP.by (fun _ => (113 + i)) (fun k9 x9 hx9 => by
        have h9 := (List.getElem?_eq_some_iff.mp hx9).1
        have h0 : k9 = 0 := by simp at h9; exact h9
        subst h0
        cases hx9
        exact hat9)
      have hlc : q < H.size := (hP _ _ hat9).lt
      have hAq : B1 a0 s.heap.size q := hD.2 _ _ hat9
      refine va_callv (va_runIN (As := []) (rest := [.ref q, .int (nI i), .ref (bd 5)]) ⟨hx, hb, hml, hown, hts⟩ (mt_Cer_init l dC dI cA q _ hlc) ⟨va_cnB 0 hts (gN gw_620) rfl rfl rfl (hNW _ (List.mem_of_getElem? (i := 7) rfl)) (hts _ gw_279) (by decide +kernel) ⟨(Nat.le_of_ble_eq_true rfl), (Nat.le_of_ble_eq_true rfl)⟩, rfl, hts _ gw_621⟩ ⟨zK_blind, zK_pre hPc hK⟩ rfl rfl hl.1 rfl (lv_room (Nat.le_of_ble_eq_true rfl)) d_CA_init_212 ⟨(show (112 + i) + 1 + 0 ≤ 124 by omega), (show (598 + 6 * i) + 6 + 0 ≤ 670 by omega)⟩) hS (fun x _ h => h.elim (fun e => by rw [e]; exact hAq) (fun h => Or.inr (Nat.le_trans hS.1 h))) (fun x h => h.elim (fun e => by rw [e]; exact hAq) (fun h => Or.inr (Nat.le_trans hS.1 h))) (fun u9 t H9 locs ht hvm hw hB hz1 hk1 hS9 => ?_)
      have hB9 : va_P (dC, dI) vwCl [(q, .inr (8, [.int 0, .int 0, .int 0, .int 0, .int 0, .int (-1)]))] H9 := by rw [← ht]; exact hB
      have hP9 := va_P.lasts hP hD hB9 hk1
      have hD9 : va_D (B1 a0 s.heap.size) (wB cA sd (113 + i) bd g ++ [(q, .inr (8, [.int 0, .int 0, .int 0, .int 0, .int 0, .int (-1)]))]) := hD.re (by simp)
      have hP := hP9
      have hD := hD9
      rw [wB_push (by omega) (by omega) (by unfold cB; rw [if_neg (show ¬ (113 + i) = 0 by omega), if_neg (show ¬ (113 + i) = 1 by omega), if_neg (show ¬ (113 + i) = 2 by omega), if_neg (show ¬ (113 + i) = 3 by omega), if_neg (show ¬ (113 + i) = 4 by omega), if_neg (show ¬ (113 + i) = 5 by omega), if_neg (show ¬ (113 + i) = 6 by omega), if_neg (show ¬ (113 + i) = 7 by omega), if_neg (show ¬ (113 + i) = 8 by omega), if_neg (show ¬ (113 + i) = 9 by omega), if_neg (show ¬ (113 + i) = 10 by omega), if_neg (show ¬ (113 + i) < 17 by omega), if_neg (show ¬ (113 + i) < 41 by omega), if_neg (show ¬ (113 + i) < 65 by omega), if_neg (show ¬ (113 + i) < 113 by omega)])] at hP hD
      have hS := hS9
      have hlow : ∀ c : Nat, c < (113 + i) → (bset bd (113 + i) q) c = bd c := fun c hc => if_neg (Nat.ne_of_lt hc)
      have hnq : (bset bd (113 + i) q) (113 + i) = q := if_pos rfl
      have hata : (wB cA sd ((113 + i) + 1) (bset bd (113 + i) q) g)[5]? = some (bd 5, .inl (cA 4, 12, .inr (.inr (.inr (.inr (g 5)))))) := by
        rw [wB_at (show 5 < ((113 + i) + 1) by omega), hlow 5 (by omega)]
        rfl
      have hatn : (wB cA sd ((113 + i) + 1) (bset bd (113 + i) q) g)[(113 + i)]? = some (q, .inr (8, [.int 0, .int 0, .int 0, .int 0, .int 0, .int (-1)])) := by
        rw [wB_at (show (113 + i) < ((113 + i) + 1) by omega), hnq, show cB cA sd (bset bd (113 + i) q) g (113 + i) = .inr (8, [.int 0, .int 0, .int 0, .int 0, .int 0, .int (-1)]) from (by unfold cB; rw [if_neg (show ¬ (113 + i) = 0 by omega), if_neg (show ¬ (113 + i) = 1 by omega), if_neg (show ¬ (113 + i) = 2 by omega), if_neg (show ¬ (113 + i) = 3 by omega), if_neg (show ¬ (113 + i) = 4 by omega), if_neg (show ¬ (113 + i) = 5 by omega), if_neg (show ¬ (113 + i) = 6 by omega), if_neg (show ¬ (113 + i) = 7 by omega), if_neg (show ¬ (113 + i) = 8 by omega), if_neg (show ¬ (113 + i) = 9 by omega), if_neg (show ¬ (113 + i) = 10 by omega), if_neg (show ¬ (113 + i) < 17 by omega), if_neg (show ¬ (113 + i) < 41 by omega), if_neg (show ¬ (113 + i) < 65 by omega), if_neg (show ¬ (113 + i) < 113 by omega)])]
      refine va_astq hx hb hK hP hD hS 5 4 (113 + i) 8 hata rfl hatn rfl (vp_in_nI hic (by decide)) d_CA_init_215 (fun H locs hP hD hS => ?_)
      rw [nI_clamp (show i < 2 ^ 31 by omega), ← hlow 5 (by omega), wB_set (g := g) (k := 5) (e := .inl (cA 4, 12, .inr (.inr (.inr (.inr (va_up (g 5) i (some q))))))) (h := va_up (g 5) i (some q)) (show 5 < ((113 + i) + 1) by omega) rfl cB_g5] at hP hD
      refine lv_iinc (k := 0) (v := nI (i + 1)) (lv' := [(2, .int (nI (i + 1))), (0, .ref a0), (1, .int sd)]) hx hb d_CA_init_216 hl rfl (by rw [nI_succ]; rfl) (by decide) rfl (fun ls hl => ?_)
      refine lv_goto (tgt := 197) hx hb d_CA_init_219 (by decide) ?_
      have hG9 : GI 6 12 24 48 (i + 1) (bset bd (113 + i) q) (gset g 5 (va_up (g 5) i (some q))) := by
        refine ⟨fun j hj => ?_, fun j hj => ?_, fun j hj => ?_, fun j hj => ?_, fun j hj => ?_⟩
        · rw [hlow (11 + j) (by omega)]
          exact hG.1 j hj
        · rw [hlow (17 + 2 * j) (by omega)]
          exact hG.2.1 j hj
        · rw [hlow (41 + j) (by omega)]
          exact hG.2.2.1 j hj
        · rw [hlow (65 + j) (by omega)]
          exact hG.2.2.2.1 j hj
        · show va_up (g 5) i (some q) j = _
          by_cases hji : j = i
          · subst hji
            rw [va_up_self, hnq]
          · rw [va_up_ne _ _ hji, hlow (113 + j) (by omega)]
            exact hG.2.2.2.2 j (by omega)
      have hb9 : (bset bd (113 + i) q) 0 = a0 := (hlow 0 (by omega)).trans hb0
      exact ih (i + 1) (by omega) (bset bd (113 + i) q) _ H locs ls hb9 hP hD hS hG9 hl
  have L170 : ∀ (d i : Nat), i + d = 48 → ∀ (bd : Nat → Nat) (g : Nat → Nat → Option Nat) (H : Heap) (locs : List Loc) (ls : Array Slot), bd 0 = a0 → va_P (dC, dI) vwCl (wB cA sd (65 + i) bd g) H → va_D (B1 a0 s.heap.size) (wB cA sd (65 + i) bd g) → va_S (B1 a0 s.heap.size) s.heap H locs → GI 6 12 24 i 0 bd g → lv_has ls 3 [(2, .int (nI i)), (0, .ref a0), (1, .int sd)] → W p l e (headSpec ws_CA_init ({ frames := 2, cells := 124, slots := 670, locals := 32 } : Room)).room s m (([.ref a0, .int sd] : List Value).toArray) below meth c H locs (64 + i) (454 + 3 * i) (MQ below (va_Qv (fun (ad : Nat → Nat) => ad 0 = a0 ∧ INJ ad 125 ∧ ∀ k : Nat, 0 < k → k < 125 → s.heap.size ≤ ad k) (fun (ad : Nat → Nat) t => va_P (dC, dI) vwCl (wdC cA ad (X0 sd)) t.heap) (B1 a0 s.heap.size)) (([.ref a0, .int sd] : List Value).toArray) s 124 670 (B1 a0 s.heap.size)) (F0 m 170 ls []) := by
    intro d
    induction d with
    | zero =>
      intro i hi bd g H locs ls hb0 hP hD hS hG hl
      have hi : i = 48 := by omega
      subst hi
      refine lv_iload_n hx hb d_CA_init_170 rfl (lv_at hl 0 rfl) ?_
      refine lv_bipush (v := (48 : Int32)) hx hb d_CA_init_171 (by decide) ?_
      refine lv_icmp_ge (tgt := 195) hx hb d_CA_init_173 (by decide) (fun h => ?_) (fun h => ?_)
      rotate_left
      · exact absurd (nI_le (Nat.le_refl 48) (by decide)) h
      refine lv_iconst (v := (0 : Int32)) hx hb d_CA_init_195 (by decide) ?_
      refine lv_istore_n (lv' := [(2, .int (0 : Int32)), (0, .ref a0), (1, .int sd)]) hx hb d_CA_init_196 rfl hl (by decide) rfl (fun ls hl => ?_)
      exact L197 12 0 (by decide) bd g H locs ls hb0 hP hD hS hG hl
    | succ d ih =>
      intro i hi bd g H locs ls hb0 hP hD hS hG hl
      have hic : i < 48 := by omega
      refine lv_iload_n hx hb d_CA_init_170 rfl (lv_at hl 0 rfl) ?_
      refine lv_bipush (v := (48 : Int32)) hx hb d_CA_init_171 (by decide) ?_
      refine lv_icmp_ge (tgt := 195) hx hb d_CA_init_173 (by decide) (fun h => ?_) (fun h => ?_)
      · exact absurd h (nI_ge hic (by decide))
      have hat0 : (wB cA sd (65 + i) bd g)[0]? = some (a0, .inr (0, [.int sd, .int 0, .int 0, .int 0, .int 0, .int 0, .ref (bd 1), .ref (bd 2), .ref (bd 3), .ref (bd 4), .ref (bd 5), .ref (bd 6), .ref (bd 8), .ref (bd 10)])) := by
        rw [wB_at (show 0 < (65 + i) by omega), hb0]
        rfl
      refine lv_aload_n hx hb d_CA_init_176 rfl (lv_at hl 1 rfl) ?_
      refine va_get (D := (dC, dI)) (ci := 0) (v := .ref (bd 4)) (C := R_CA) (T := T_CA) (N := 14) hx hb hts in_CA hown hK hP 0 hat0 rfl 9 (by decide) (hts _ gw_87) (fun _ h9 => h9) rfl d_CA_init_177 ?_
      refine lv_iload_n hx hb d_CA_init_180 rfl (lv_at hl 0 rfl) ?_
      refine va_new (ci := 7) (fs := [.int 0, .int 0, .int 0]) (C := R_Cha) (T := T_Cha) (N := 3) hx hb hts in_Cha ty_Cha ty_Cha_ok hown (hts _ gw_605) (hts _ gw_622) (hts _ gw_296) hK hP hD hS hA rfl (fun j hj => by rcases (show j = 0 ∨ j = 1 ∨ j = 2 by omega) with rfl | rfl | rfl <;> rfl) (show (64 + i) + 1 ≤ 124 by omega) (show (454 + 3 * i) + 3 ≤ 670 by omega) d_CA_init_181 (fun q H hP hD hS => ?_)
      refine lv_dup hx hb d_CA_init_184 rfl ?_
      refine va_callv (va_runIN (As := []) (rest := [.ref q, .int (nI i), .ref (bd 4)]) ⟨hx, hb, hml, hown, hts⟩ (mt_Cha_init l q _) ⟨va_cnB 0 hts (gN gw_623) rfl rfl rfl (hNW _ (List.mem_of_getElem? (i := 6) rfl)) (hts _ gw_296) (by decide +kernel) ⟨(Nat.le_of_ble_eq_true rfl), (Nat.le_of_ble_eq_true rfl)⟩, rfl, hts _ gw_624⟩ ⟨z0_blind, z0_pre⟩ rfl rfl hl.1 rfl (lv_room (Nat.le_of_ble_eq_true rfl)) d_CA_init_185 ⟨(show (64 + i) + 1 + 0 ≤ 124 by omega), (show (454 + 3 * i) + 3 + 0 ≤ 670 by omega)⟩) hS (fun x _ h => h.elim) (fun x h => h.elim) (fun u9 t H9 locs ht hvm hw hB hz1 hk1 hS => ?_)
      have hP := zw_keep hP (fun x hx9 => hk1 x hx9 (fun h => h))
      rw [wB_push (by omega) (by omega) (by unfold cB; rw [if_neg (show ¬ (65 + i) = 0 by omega), if_neg (show ¬ (65 + i) = 1 by omega), if_neg (show ¬ (65 + i) = 2 by omega), if_neg (show ¬ (65 + i) = 3 by omega), if_neg (show ¬ (65 + i) = 4 by omega), if_neg (show ¬ (65 + i) = 5 by omega), if_neg (show ¬ (65 + i) = 6 by omega), if_neg (show ¬ (65 + i) = 7 by omega), if_neg (show ¬ (65 + i) = 8 by omega), if_neg (show ¬ (65 + i) = 9 by omega), if_neg (show ¬ (65 + i) = 10 by omega), if_neg (show ¬ (65 + i) < 17 by omega), if_neg (show ¬ (65 + i) < 41 by omega), if_neg (show ¬ (65 + i) < 65 by omega), if_pos (show (65 + i) < 113 by omega)])] at hP hD
      have hlow : ∀ c : Nat, c < (65 + i) → (bset bd (65 + i) q) c = bd c := fun c hc => if_neg (Nat.ne_of_lt hc)
      have hnq : (bset bd (65 + i) q) (65 + i) = q := if_pos rfl
      have hata : (wB cA sd ((65 + i) + 1) (bset bd (65 + i) q) g)[4]? = some (bd 4, .inl (cA 3, 48, .inr (.inr (.inr (.inr (g 4)))))) := by
        rw [wB_at (show 4 < ((65 + i) + 1) by omega), hlow 4 (by omega)]
        rfl
      have hatn : (wB cA sd ((65 + i) + 1) (bset bd (65 + i) q) g)[(65 + i)]? = some (q, .inr (7, [.int 0, .int 0, .int 0])) := by
        rw [wB_at (show (65 + i) < ((65 + i) + 1) by omega), hnq, show cB cA sd (bset bd (65 + i) q) g (65 + i) = .inr (7, [.int 0, .int 0, .int 0]) from (by unfold cB; rw [if_neg (show ¬ (65 + i) = 0 by omega), if_neg (show ¬ (65 + i) = 1 by omega), if_neg (show ¬ (65 + i) = 2 by omega), if_neg (show ¬ (65 + i) = 3 by omega), if_neg (show ¬ (65 + i) = 4 by omega), if_neg (show ¬ (65 + i) = 5 by omega), if_neg (show ¬ (65 + i) = 6 by omega), if_neg (show ¬ (65 + i) = 7 by omega), if_neg (show ¬ (65 + i) = 8 by omega), if_neg (show ¬ (65 + i) = 9 by omega), if_neg (show ¬ (65 + i) = 10 by omega), if_neg (show ¬ (65 + i) < 17 by omega), if_neg (show ¬ (65 + i) < 41 by omega), if_neg (show ¬ (65 + i) < 65 by omega), if_pos (show (65 + i) < 113 by omega)])]
      refine va_astq hx hb hK hP hD hS 4 3 (65 + i) 7 hata rfl hatn rfl (vp_in_nI hic (by decide)) d_CA_init_188 (fun H locs hP hD hS => ?_)
      rw [nI_clamp (show i < 2 ^ 31 by omega), ← hlow 4 (by omega), wB_set (g := g) (k := 4) (e := .inl (cA 3, 48, .inr (.inr (.inr (.inr (va_up (g 4) i (some q))))))) (h := va_up (g 4) i (some q)) (show 4 < ((65 + i) + 1) by omega) rfl cB_g4] at hP hD
      refine lv_iinc (k := 0) (v := nI (i + 1)) (lv' := [(2, .int (nI (i + 1))), (0, .ref a0), (1, .int sd)]) hx hb d_CA_init_189 hl rfl (by rw [nI_succ]; rfl) (by decide) rfl (fun ls hl => ?_)
      refine lv_goto (tgt := 170) hx hb d_CA_init_192 (by decide) ?_
      have hG9 : GI 6 12 24 (i + 1) 0 (bset bd (65 + i) q) (gset g 4 (va_up (g 4) i (some q))) := by
        refine ⟨fun j hj => ?_, fun j hj => ?_, fun j hj => ?_, fun j hj => ?_, fun j hj => ?_⟩
        · rw [hlow (11 + j) (by omega)]
          exact hG.1 j hj
        · rw [hlow (17 + 2 * j) (by omega)]
          exact hG.2.1 j hj
        · rw [hlow (41 + j) (by omega)]
          exact hG.2.2.1 j hj
        · show va_up (g 4) i (some q) j = _
          by_cases hji : j = i
          · subst hji
            rw [va_up_self, hnq]
          · rw [va_up_ne _ _ hji, hlow (65 + j) (by omega)]
            exact hG.2.2.2.1 j (by omega)
        · exact absurd hj (Nat.not_lt_zero j)
      have hb9 : (bset bd (65 + i) q) 0 = a0 := (hlow 0 (by omega)).trans hb0
      exact ih (i + 1) (by omega) (bset bd (65 + i) q) _ H locs ls hb9 hP hD hS hG9 hl
  have L143 : ∀ (d i : Nat), i + d = 24 → ∀ (bd : Nat → Nat) (g : Nat → Nat → Option Nat) (H : Heap) (locs : List Loc) (ls : Array Slot), bd 0 = a0 → va_P (dC, dI) vwCl (wB cA sd (41 + i) bd g) H → va_D (B1 a0 s.heap.size) (wB cA sd (41 + i) bd g) → va_S (B1 a0 s.heap.size) s.heap H locs → GI 6 12 i 0 0 bd g → lv_has ls 3 [(2, .int (nI i)), (0, .ref a0), (1, .int sd)] → W p l e (headSpec ws_CA_init ({ frames := 2, cells := 124, slots := 670, locals := 32 } : Room)).room s m (([.ref a0, .int sd] : List Value).toArray) below meth c H locs (40 + i) (358 + 4 * i) (MQ below (va_Qv (fun (ad : Nat → Nat) => ad 0 = a0 ∧ INJ ad 125 ∧ ∀ k : Nat, 0 < k → k < 125 → s.heap.size ≤ ad k) (fun (ad : Nat → Nat) t => va_P (dC, dI) vwCl (wdC cA ad (X0 sd)) t.heap) (B1 a0 s.heap.size)) (([.ref a0, .int sd] : List Value).toArray) s 124 670 (B1 a0 s.heap.size)) (F0 m 143 ls []) := by
    intro d
    induction d with
    | zero =>
      intro i hi bd g H locs ls hb0 hP hD hS hG hl
      have hi : i = 24 := by omega
      subst hi
      refine lv_iload_n hx hb d_CA_init_143 rfl (lv_at hl 0 rfl) ?_
      refine lv_bipush (v := (24 : Int32)) hx hb d_CA_init_144 (by decide) ?_
      refine lv_icmp_ge (tgt := 168) hx hb d_CA_init_146 (by decide) (fun h => ?_) (fun h => ?_)
      rotate_left
      · exact absurd (nI_le (Nat.le_refl 24) (by decide)) h
      refine lv_iconst (v := (0 : Int32)) hx hb d_CA_init_168 (by decide) ?_
      refine lv_istore_n (lv' := [(2, .int (0 : Int32)), (0, .ref a0), (1, .int sd)]) hx hb d_CA_init_169 rfl hl (by decide) rfl (fun ls hl => ?_)
      exact L170 48 0 (by decide) bd g H locs ls hb0 hP hD hS hG hl
    | succ d ih =>
      intro i hi bd g H locs ls hb0 hP hD hS hG hl
      have hic : i < 24 := by omega
      refine lv_iload_n hx hb d_CA_init_143 rfl (lv_at hl 0 rfl) ?_
      refine lv_bipush (v := (24 : Int32)) hx hb d_CA_init_144 (by decide) ?_
      refine lv_icmp_ge (tgt := 168) hx hb d_CA_init_146 (by decide) (fun h => ?_) (fun h => ?_)
      · exact absurd h (nI_ge hic (by decide))
      have hat0 : (wB cA sd (41 + i) bd g)[0]? = some (a0, .inr (0, [.int sd, .int 0, .int 0, .int 0, .int 0, .int 0, .ref (bd 1), .ref (bd 2), .ref (bd 3), .ref (bd 4), .ref (bd 5), .ref (bd 6), .ref (bd 8), .ref (bd 10)])) := by
        rw [wB_at (show 0 < (41 + i) by omega), hb0]
        rfl
      refine lv_aload_n hx hb d_CA_init_149 rfl (lv_at hl 1 rfl) ?_
      refine va_get (D := (dC, dI)) (ci := 0) (v := .ref (bd 3)) (C := R_CA) (T := T_CA) (N := 14) hx hb hts in_CA hown hK hP 0 hat0 rfl 8 (by decide) (hts _ gw_75) (fun _ h9 => h9) rfl d_CA_init_150 ?_
      refine lv_iload_n hx hb d_CA_init_153 rfl (lv_at hl 0 rfl) ?_
      refine va_new (ci := 6) (fs := [.int 0, .int 0, .int 0, .int 0]) (C := R_Aut) (T := T_Aut) (N := 4) hx hb hts in_Aut ty_Aut ty_Aut_ok hown (hts _ gw_604) (hts _ gw_625) (hts _ gw_115) hK hP hD hS hA rfl (fun j hj => by rcases (show j = 0 ∨ j = 1 ∨ j = 2 ∨ j = 3 by omega) with rfl | rfl | rfl | rfl <;> rfl) (show (40 + i) + 1 ≤ 124 by omega) (show (358 + 4 * i) + 4 ≤ 670 by omega) d_CA_init_154 (fun q H hP hD hS => ?_)
      refine lv_dup hx hb d_CA_init_157 rfl ?_
      refine va_callv (va_runIN (As := []) (rest := [.ref q, .int (nI i), .ref (bd 3)]) ⟨hx, hb, hml, hown, hts⟩ (mt_Aut_init l q _) ⟨va_cnB 0 hts (gN gw_626) rfl rfl rfl (hNW _ (List.mem_of_getElem? (i := 5) rfl)) (hts _ gw_115) (by decide +kernel) ⟨(Nat.le_of_ble_eq_true rfl), (Nat.le_of_ble_eq_true rfl)⟩, rfl, hts _ gw_627⟩ ⟨z0_blind, z0_pre⟩ rfl rfl hl.1 rfl (lv_room (Nat.le_of_ble_eq_true rfl)) d_CA_init_158 ⟨(show (40 + i) + 1 + 0 ≤ 124 by omega), (show (358 + 4 * i) + 4 + 0 ≤ 670 by omega)⟩) hS (fun x _ h => h.elim) (fun x h => h.elim) (fun u9 t H9 locs ht hvm hw hB hz1 hk1 hS => ?_)
      have hP := zw_keep hP (fun x hx9 => hk1 x hx9 (fun h => h))
      rw [wB_push (by omega) (by omega) (by unfold cB; rw [if_neg (show ¬ (41 + i) = 0 by omega), if_neg (show ¬ (41 + i) = 1 by omega), if_neg (show ¬ (41 + i) = 2 by omega), if_neg (show ¬ (41 + i) = 3 by omega), if_neg (show ¬ (41 + i) = 4 by omega), if_neg (show ¬ (41 + i) = 5 by omega), if_neg (show ¬ (41 + i) = 6 by omega), if_neg (show ¬ (41 + i) = 7 by omega), if_neg (show ¬ (41 + i) = 8 by omega), if_neg (show ¬ (41 + i) = 9 by omega), if_neg (show ¬ (41 + i) = 10 by omega), if_neg (show ¬ (41 + i) < 17 by omega), if_neg (show ¬ (41 + i) < 41 by omega), if_pos (show (41 + i) < 65 by omega)])] at hP hD
      have hlow : ∀ c : Nat, c < (41 + i) → (bset bd (41 + i) q) c = bd c := fun c hc => if_neg (Nat.ne_of_lt hc)
      have hnq : (bset bd (41 + i) q) (41 + i) = q := if_pos rfl
      have hata : (wB cA sd ((41 + i) + 1) (bset bd (41 + i) q) g)[3]? = some (bd 3, .inl (cA 2, 24, .inr (.inr (.inr (.inr (g 3)))))) := by
        rw [wB_at (show 3 < ((41 + i) + 1) by omega), hlow 3 (by omega)]
        rfl
      have hatn : (wB cA sd ((41 + i) + 1) (bset bd (41 + i) q) g)[(41 + i)]? = some (q, .inr (6, [.int 0, .int 0, .int 0, .int 0])) := by
        rw [wB_at (show (41 + i) < ((41 + i) + 1) by omega), hnq, show cB cA sd (bset bd (41 + i) q) g (41 + i) = .inr (6, [.int 0, .int 0, .int 0, .int 0]) from (by unfold cB; rw [if_neg (show ¬ (41 + i) = 0 by omega), if_neg (show ¬ (41 + i) = 1 by omega), if_neg (show ¬ (41 + i) = 2 by omega), if_neg (show ¬ (41 + i) = 3 by omega), if_neg (show ¬ (41 + i) = 4 by omega), if_neg (show ¬ (41 + i) = 5 by omega), if_neg (show ¬ (41 + i) = 6 by omega), if_neg (show ¬ (41 + i) = 7 by omega), if_neg (show ¬ (41 + i) = 8 by omega), if_neg (show ¬ (41 + i) = 9 by omega), if_neg (show ¬ (41 + i) = 10 by omega), if_neg (show ¬ (41 + i) < 17 by omega), if_neg (show ¬ (41 + i) < 41 by omega), if_pos (show (41 + i) < 65 by omega)])]
      refine va_astq hx hb hK hP hD hS 3 2 (41 + i) 6 hata rfl hatn rfl (vp_in_nI hic (by decide)) d_CA_init_161 (fun H locs hP hD hS => ?_)
      rw [nI_clamp (show i < 2 ^ 31 by omega), ← hlow 3 (by omega), wB_set (g := g) (k := 3) (e := .inl (cA 2, 24, .inr (.inr (.inr (.inr (va_up (g 3) i (some q))))))) (h := va_up (g 3) i (some q)) (show 3 < ((41 + i) + 1) by omega) rfl cB_g3] at hP hD
      refine lv_iinc (k := 0) (v := nI (i + 1)) (lv' := [(2, .int (nI (i + 1))), (0, .ref a0), (1, .int sd)]) hx hb d_CA_init_162 hl rfl (by rw [nI_succ]; rfl) (by decide) rfl (fun ls hl => ?_)
      refine lv_goto (tgt := 143) hx hb d_CA_init_165 (by decide) ?_
      have hG9 : GI 6 12 (i + 1) 0 0 (bset bd (41 + i) q) (gset g 3 (va_up (g 3) i (some q))) := by
        refine ⟨fun j hj => ?_, fun j hj => ?_, fun j hj => ?_, fun j hj => ?_, fun j hj => ?_⟩
        · rw [hlow (11 + j) (by omega)]
          exact hG.1 j hj
        · rw [hlow (17 + 2 * j) (by omega)]
          exact hG.2.1 j hj
        · show va_up (g 3) i (some q) j = _
          by_cases hji : j = i
          · subst hji
            rw [va_up_self, hnq]
          · rw [va_up_ne _ _ hji, hlow (41 + j) (by omega)]
            exact hG.2.2.1 j (by omega)
        · exact absurd hj (Nat.not_lt_zero j)
        · exact absurd hj (Nat.not_lt_zero j)
      have hb9 : (bset bd (41 + i) q) 0 = a0 := (hlow 0 (by omega)).trans hb0
      exact ih (i + 1) (by omega) (bset bd (41 + i) q) _ H locs ls hb9 hP hD hS hG9 hl
  have L116 : ∀ (d i : Nat), i + d = 12 → ∀ (bd : Nat → Nat) (g : Nat → Nat → Option Nat) (H : Heap) (locs : List Loc) (ls : Array Slot), bd 0 = a0 → va_P (dC, dI) vwCl (wB cA sd (17 + 2 * i) bd g) H → va_D (B1 a0 s.heap.size) (wB cA sd (17 + 2 * i) bd g) → va_S (B1 a0 s.heap.size) s.heap H locs → GI 6 i 0 0 0 bd g → lv_has ls 3 [(2, .int (nI i)), (0, .ref a0), (1, .int sd)] → W p l e (headSpec ws_CA_init ({ frames := 2, cells := 124, slots := 670, locals := 32 } : Room)).room s m (([.ref a0, .int sd] : List Value).toArray) below meth c H locs (16 + 2 * i) (226 + 11 * i) (MQ below (va_Qv (fun (ad : Nat → Nat) => ad 0 = a0 ∧ INJ ad 125 ∧ ∀ k : Nat, 0 < k → k < 125 → s.heap.size ≤ ad k) (fun (ad : Nat → Nat) t => va_P (dC, dI) vwCl (wdC cA ad (X0 sd)) t.heap) (B1 a0 s.heap.size)) (([.ref a0, .int sd] : List Value).toArray) s 124 670 (B1 a0 s.heap.size)) (F0 m 116 ls []) := by
    intro d
    induction d with
    | zero =>
      intro i hi bd g H locs ls hb0 hP hD hS hG hl
      have hi : i = 12 := by omega
      subst hi
      refine lv_iload_n hx hb d_CA_init_116 rfl (lv_at hl 0 rfl) ?_
      refine lv_bipush (v := (12 : Int32)) hx hb d_CA_init_117 (by decide) ?_
      refine lv_icmp_ge (tgt := 141) hx hb d_CA_init_119 (by decide) (fun h => ?_) (fun h => ?_)
      rotate_left
      · exact absurd (nI_le (Nat.le_refl 12) (by decide)) h
      refine lv_iconst (v := (0 : Int32)) hx hb d_CA_init_141 (by decide) ?_
      refine lv_istore_n (lv' := [(2, .int (0 : Int32)), (0, .ref a0), (1, .int sd)]) hx hb d_CA_init_142 rfl hl (by decide) rfl (fun ls hl => ?_)
      exact L143 24 0 (by decide) bd g H locs ls hb0 hP hD hS hG hl
    | succ d ih =>
      intro i hi bd g H locs ls hb0 hP hD hS hG hl
      have hic : i < 12 := by omega
      refine lv_iload_n hx hb d_CA_init_116 rfl (lv_at hl 0 rfl) ?_
      refine lv_bipush (v := (12 : Int32)) hx hb d_CA_init_117 (by decide) ?_
      refine lv_icmp_ge (tgt := 141) hx hb d_CA_init_119 (by decide) (fun h => ?_) (fun h => ?_)
      · exact absurd h (nI_ge hic (by decide))
      have hat0 : (wB cA sd (17 + 2 * i) bd g)[0]? = some (a0, .inr (0, [.int sd, .int 0, .int 0, .int 0, .int 0, .int 0, .ref (bd 1), .ref (bd 2), .ref (bd 3), .ref (bd 4), .ref (bd 5), .ref (bd 6), .ref (bd 8), .ref (bd 10)])) := by
        rw [wB_at (show 0 < (17 + 2 * i) by omega), hb0]
        rfl
      refine lv_aload_n hx hb d_CA_init_122 rfl (lv_at hl 1 rfl) ?_
      refine va_get (D := (dC, dI)) (ci := 0) (v := .ref (bd 2)) (C := R_CA) (T := T_CA) (N := 14) hx hb hts in_CA hown hK hP 0 hat0 rfl 7 (by decide) (hts _ gw_102) (fun _ h9 => h9) rfl d_CA_init_123 ?_
      refine lv_iload_n hx hb d_CA_init_126 rfl (lv_at hl 0 rfl) ?_
      refine va_new (ci := 5) (fs := [.int 0, .int 0, .int 0, .int 0, .int 0, .int 0, .null]) (C := R_Ord) (T := T_Ord) (N := 7) hx hb hts in_Ord ty_Ord ty_Ord_ok hown (hts _ gw_603) (hts _ gw_628) (hts _ gw_96) hK hP hD hS hA rfl (fun j hj => by rcases (show j = 0 ∨ j = 1 ∨ j = 2 ∨ j = 3 ∨ j = 4 ∨ j = 5 ∨ j = 6 by omega) with rfl | rfl | rfl | rfl | rfl | rfl | rfl <;> rfl) (show (16 + 2 * i) + 1 ≤ 124 by omega) (show (226 + 11 * i) + 7 ≤ 670 by omega) d_CA_init_127 (fun q H hP hD hS => ?_)
      refine lv_dup hx hb d_CA_init_130 rfl ?_
      have hat9 : (wB cA sd (17 + 2 * i) bd g ++ [(q, .inr (5, [.int 0, .int 0, .int 0, .int 0, .int 0, .int 0, .null]))])[(17 + 2 * i)]? = some (q, .inr (5, [.int 0, .int 0, .int 0, .int 0, .int 0, .int 0, .null])) := by
        rw [List.getElem?_append_right (by unfold wB; rw [List.length_map, List.length_range]; exact Nat.le_refl _)]
        unfold wB
        rw [List.length_map, List.length_range, Nat.sub_self]
        rfl
      have hPc : va_P (dC, dI) vwCl [(q, .inr (5, [.int 0, .int 0, .int 0, .int 0, .int 0, .int 0, .null]))] H := hP.by (fun _ => (17 + 2 * i)) (fun k9 x9 hx9 => by
        have h9 := (List.getElem?_eq_some_iff.mp hx9).1
        have h0 : k9 = 0 := by simp at h9; exact h9
        subst h0
        cases hx9
        exact hat9)
      have hlc : q < H.size := (hP _ _ hat9).lt
      have hAq : B1 a0 s.heap.size q := hD.2 _ _ hat9
      refine va_callv (va_runIN (As := []) (rest := [.ref q, .int (nI i), .ref (bd 2)]) ⟨hx, hb, hml, hown, hts⟩ (mt_Ord_init l dC dI cA q _ hlc) ⟨va_cnB 0 hts (gN gw_629) rfl rfl rfl (hNW _ (List.mem_of_getElem? (i := 4) rfl)) (hts _ gw_96) (by decide +kernel) ⟨(Nat.le_of_ble_eq_true rfl), (Nat.le_of_ble_eq_true rfl)⟩, rfl, hts _ gw_630⟩ ⟨zK_blind, zK_pre hPc hK⟩ rfl rfl hl.1 rfl (lv_room (Nat.le_of_ble_eq_true rfl)) d_CA_init_131 ⟨(show (16 + 2 * i) + 1 + 1 ≤ 124 by omega), (show (226 + 11 * i) + 7 + 4 ≤ 670 by omega)⟩) hS (fun x _ h => h.elim (fun e => by rw [e]; exact hAq) (fun h => Or.inr (Nat.le_trans hS.1 h))) (fun x h => h.elim (fun e => by rw [e]; exact hAq) (fun h => Or.inr (Nat.le_trans hS.1 h))) (fun q2 t H9 locs ht hvm hw hB hz1 hk1 hS9 => ?_)
      have hB9 : va_P (dC, dI) vwCl [(q, .inr (5, [.int 0, .int 0, .int 0, .int 0, .int (-1), .int 0, .ref q2])), (q2, .inl (cA 7, 4, .inl (fun _ => 0)))] H9 := by rw [← ht]; exact hB
      have hP9 := va_P.lasts hP hD hB9 hk1
      have hD9 := va_D.two (e' := .inr (5, [.int 0, .int 0, .int 0, .int 0, .int (-1), .int 0, .ref q2])) (e2 := .inl (cA 7, 4, .inl (fun _ => 0))) hD hP hw (Or.inr (Nat.le_trans hS.1 hw))
      have hP := hP9
      have hD := hD9
      rw [wB_push2 (by omega) (by omega) (by unfold cB; rw [if_neg (show ¬ (17 + 2 * i) = 0 by omega), if_neg (show ¬ (17 + 2 * i) = 1 by omega), if_neg (show ¬ (17 + 2 * i) = 2 by omega), if_neg (show ¬ (17 + 2 * i) = 3 by omega), if_neg (show ¬ (17 + 2 * i) = 4 by omega), if_neg (show ¬ (17 + 2 * i) = 5 by omega), if_neg (show ¬ (17 + 2 * i) = 6 by omega), if_neg (show ¬ (17 + 2 * i) = 7 by omega), if_neg (show ¬ (17 + 2 * i) = 8 by omega), if_neg (show ¬ (17 + 2 * i) = 9 by omega), if_neg (show ¬ (17 + 2 * i) = 10 by omega), if_neg (show ¬ (17 + 2 * i) < 17 by omega), if_pos (show (17 + 2 * i) < 41 by omega), if_pos (show ((17 + 2 * i) - 17) % 2 = 0 by omega), show (bset (bset bd (17 + 2 * i) q) ((17 + 2 * i) + 1) q2) ((17 + 2 * i) + 1) = q2 from if_pos rfl]) (by unfold cB; rw [if_neg (show ¬ (17 + 2 * i) + 1 = 0 by omega), if_neg (show ¬ (17 + 2 * i) + 1 = 1 by omega), if_neg (show ¬ (17 + 2 * i) + 1 = 2 by omega), if_neg (show ¬ (17 + 2 * i) + 1 = 3 by omega), if_neg (show ¬ (17 + 2 * i) + 1 = 4 by omega), if_neg (show ¬ (17 + 2 * i) + 1 = 5 by omega), if_neg (show ¬ (17 + 2 * i) + 1 = 6 by omega), if_neg (show ¬ (17 + 2 * i) + 1 = 7 by omega), if_neg (show ¬ (17 + 2 * i) + 1 = 8 by omega), if_neg (show ¬ (17 + 2 * i) + 1 = 9 by omega), if_neg (show ¬ (17 + 2 * i) + 1 = 10 by omega), if_neg (show ¬ (17 + 2 * i) + 1 < 17 by omega), if_pos (show (17 + 2 * i) + 1 < 41 by omega), if_neg (show ¬ ((17 + 2 * i) + 1 - 17) % 2 = 0 by omega)])] at hP hD
      have hS := hS9
      have hlow : ∀ c : Nat, c < (17 + 2 * i) → (bset (bset bd (17 + 2 * i) q) ((17 + 2 * i) + 1) q2) c = bd c := fun c hc => (if_neg (show ¬ c = (17 + 2 * i) + 1 by omega)).trans (if_neg (Nat.ne_of_lt hc))
      have hnq : (bset (bset bd (17 + 2 * i) q) ((17 + 2 * i) + 1) q2) (17 + 2 * i) = q := (if_neg (show ¬ (17 + 2 * i) = (17 + 2 * i) + 1 by omega)).trans (if_pos rfl)
      have hata : (wB cA sd ((17 + 2 * i) + 2) (bset (bset bd (17 + 2 * i) q) ((17 + 2 * i) + 1) q2) g)[2]? = some (bd 2, .inl (cA 1, 12, .inr (.inr (.inr (.inr (g 2)))))) := by
        rw [wB_at (show 2 < ((17 + 2 * i) + 2) by omega), hlow 2 (by omega)]
        rfl
      have hatn : (wB cA sd ((17 + 2 * i) + 2) (bset (bset bd (17 + 2 * i) q) ((17 + 2 * i) + 1) q2) g)[(17 + 2 * i)]? = some (q, .inr (5, [.int 0, .int 0, .int 0, .int 0, .int (-1), .int 0, .ref q2])) := by
        rw [wB_at (show (17 + 2 * i) < ((17 + 2 * i) + 2) by omega), hnq, show cB cA sd (bset (bset bd (17 + 2 * i) q) ((17 + 2 * i) + 1) q2) g (17 + 2 * i) = .inr (5, [.int 0, .int 0, .int 0, .int 0, .int (-1), .int 0, .ref q2]) from (by unfold cB; rw [if_neg (show ¬ (17 + 2 * i) = 0 by omega), if_neg (show ¬ (17 + 2 * i) = 1 by omega), if_neg (show ¬ (17 + 2 * i) = 2 by omega), if_neg (show ¬ (17 + 2 * i) = 3 by omega), if_neg (show ¬ (17 + 2 * i) = 4 by omega), if_neg (show ¬ (17 + 2 * i) = 5 by omega), if_neg (show ¬ (17 + 2 * i) = 6 by omega), if_neg (show ¬ (17 + 2 * i) = 7 by omega), if_neg (show ¬ (17 + 2 * i) = 8 by omega), if_neg (show ¬ (17 + 2 * i) = 9 by omega), if_neg (show ¬ (17 + 2 * i) = 10 by omega), if_neg (show ¬ (17 + 2 * i) < 17 by omega), if_pos (show (17 + 2 * i) < 41 by omega), if_pos (show ((17 + 2 * i) - 17) % 2 = 0 by omega), show (bset (bset bd (17 + 2 * i) q) ((17 + 2 * i) + 1) q2) ((17 + 2 * i) + 1) = q2 from if_pos rfl])]
      refine va_astq hx hb hK hP hD hS 2 1 (17 + 2 * i) 5 hata rfl hatn rfl (vp_in_nI hic (by decide)) d_CA_init_134 (fun H locs hP hD hS => ?_)
      rw [nI_clamp (show i < 2 ^ 31 by omega), ← hlow 2 (by omega), wB_set (g := g) (k := 2) (e := .inl (cA 1, 12, .inr (.inr (.inr (.inr (va_up (g 2) i (some q))))))) (h := va_up (g 2) i (some q)) (show 2 < ((17 + 2 * i) + 2) by omega) rfl cB_g2] at hP hD
      refine lv_iinc (k := 0) (v := nI (i + 1)) (lv' := [(2, .int (nI (i + 1))), (0, .ref a0), (1, .int sd)]) hx hb d_CA_init_135 hl rfl (by rw [nI_succ]; rfl) (by decide) rfl (fun ls hl => ?_)
      refine lv_goto (tgt := 116) hx hb d_CA_init_138 (by decide) ?_
      have hG9 : GI 6 (i + 1) 0 0 0 (bset (bset bd (17 + 2 * i) q) ((17 + 2 * i) + 1) q2) (gset g 2 (va_up (g 2) i (some q))) := by
        refine ⟨fun j hj => ?_, fun j hj => ?_, fun j hj => ?_, fun j hj => ?_, fun j hj => ?_⟩
        · rw [hlow (11 + j) (by omega)]
          exact hG.1 j hj
        · show va_up (g 2) i (some q) j = _
          by_cases hji : j = i
          · subst hji
            rw [va_up_self, hnq]
          · rw [va_up_ne _ _ hji, hlow (17 + 2 * j) (by omega)]
            exact hG.2.1 j (by omega)
        · exact absurd hj (Nat.not_lt_zero j)
        · exact absurd hj (Nat.not_lt_zero j)
        · exact absurd hj (Nat.not_lt_zero j)
      have hb9 : (bset (bset bd (17 + 2 * i) q) ((17 + 2 * i) + 1) q2) 0 = a0 := (hlow 0 (by omega)).trans hb0
      exact ih (i + 1) (by omega) (bset (bset bd (17 + 2 * i) q) ((17 + 2 * i) + 1) q2) _ H locs ls hb9 hP hD hS hG9 hl
  have L89 : ∀ (d i : Nat), i + d = 6 → ∀ (bd : Nat → Nat) (g : Nat → Nat → Option Nat) (H : Heap) (locs : List Loc) (ls : Array Slot), bd 0 = a0 → va_P (dC, dI) vwCl (wB cA sd (11 + i) bd g) H → va_D (B1 a0 s.heap.size) (wB cA sd (11 + i) bd g) → va_S (B1 a0 s.heap.size) s.heap H locs → GI i 0 0 0 0 bd g → lv_has ls 3 [(2, .int (nI i)), (0, .ref a0), (1, .int sd)] → W p l e (headSpec ws_CA_init ({ frames := 2, cells := 124, slots := 670, locals := 32 } : Room)).room s m (([.ref a0, .int sd] : List Value).toArray) below meth c H locs (10 + i) (214 + 2 * i) (MQ below (va_Qv (fun (ad : Nat → Nat) => ad 0 = a0 ∧ INJ ad 125 ∧ ∀ k : Nat, 0 < k → k < 125 → s.heap.size ≤ ad k) (fun (ad : Nat → Nat) t => va_P (dC, dI) vwCl (wdC cA ad (X0 sd)) t.heap) (B1 a0 s.heap.size)) (([.ref a0, .int sd] : List Value).toArray) s 124 670 (B1 a0 s.heap.size)) (F0 m 89 ls []) := by
    intro d
    induction d with
    | zero =>
      intro i hi bd g H locs ls hb0 hP hD hS hG hl
      have hi : i = 6 := by omega
      subst hi
      refine lv_iload_n hx hb d_CA_init_89 rfl (lv_at hl 0 rfl) ?_
      refine lv_bipush (v := (6 : Int32)) hx hb d_CA_init_90 (by decide) ?_
      refine lv_icmp_ge (tgt := 114) hx hb d_CA_init_92 (by decide) (fun h => ?_) (fun h => ?_)
      rotate_left
      · exact absurd (nI_le (Nat.le_refl 6) (by decide)) h
      refine lv_iconst (v := (0 : Int32)) hx hb d_CA_init_114 (by decide) ?_
      refine lv_istore_n (lv' := [(2, .int (0 : Int32)), (0, .ref a0), (1, .int sd)]) hx hb d_CA_init_115 rfl hl (by decide) rfl (fun ls hl => ?_)
      exact L116 12 0 (by decide) bd g H locs ls hb0 hP hD hS hG hl
    | succ d ih =>
      intro i hi bd g H locs ls hb0 hP hD hS hG hl
      have hic : i < 6 := by omega
      refine lv_iload_n hx hb d_CA_init_89 rfl (lv_at hl 0 rfl) ?_
      refine lv_bipush (v := (6 : Int32)) hx hb d_CA_init_90 (by decide) ?_
      refine lv_icmp_ge (tgt := 114) hx hb d_CA_init_92 (by decide) (fun h => ?_) (fun h => ?_)
      · exact absurd h (nI_ge hic (by decide))
      have hat0 : (wB cA sd (11 + i) bd g)[0]? = some (a0, .inr (0, [.int sd, .int 0, .int 0, .int 0, .int 0, .int 0, .ref (bd 1), .ref (bd 2), .ref (bd 3), .ref (bd 4), .ref (bd 5), .ref (bd 6), .ref (bd 8), .ref (bd 10)])) := by
        rw [wB_at (show 0 < (11 + i) by omega), hb0]
        rfl
      refine lv_aload_n hx hb d_CA_init_95 rfl (lv_at hl 1 rfl) ?_
      refine va_get (D := (dC, dI)) (ci := 0) (v := .ref (bd 1)) (C := R_CA) (T := T_CA) (N := 14) hx hb hts in_CA hown hK hP 0 hat0 rfl 6 (by decide) (hts _ gw_33) (fun _ h9 => h9) rfl d_CA_init_96 ?_
      refine lv_iload_n hx hb d_CA_init_99 rfl (lv_at hl 0 rfl) ?_
      refine va_new (ci := 4) (fs := [.int 0, .int 0]) (C := R_Acc) (T := T_Acc) (N := 2) hx hb hts in_Acc ty_Acc ty_Acc_ok hown (hts _ gw_602) (hts _ gw_631) (hts _ gw_632) hK hP hD hS hA rfl (fun j hj => by rcases (show j = 0 ∨ j = 1 by omega) with rfl | rfl <;> rfl) (show (10 + i) + 1 ≤ 124 by omega) (show (214 + 2 * i) + 2 ≤ 670 by omega) d_CA_init_100 (fun q H hP hD hS => ?_)
      refine lv_dup hx hb d_CA_init_103 rfl ?_
      refine va_callv (va_runIN (As := []) (rest := [.ref q, .int (nI i), .ref (bd 1)]) ⟨hx, hb, hml, hown, hts⟩ (mt_Acc_init l q _) ⟨va_cnB 0 hts (gN gw_633) rfl rfl rfl (hNW _ (List.mem_of_getElem? (i := 3) rfl)) (hts _ gw_632) (by decide +kernel) ⟨(Nat.le_of_ble_eq_true rfl), (Nat.le_of_ble_eq_true rfl)⟩, rfl, hts _ gw_634⟩ ⟨z0_blind, z0_pre⟩ rfl rfl hl.1 rfl (lv_room (Nat.le_of_ble_eq_true rfl)) d_CA_init_104 ⟨(show (10 + i) + 1 + 0 ≤ 124 by omega), (show (214 + 2 * i) + 2 + 0 ≤ 670 by omega)⟩) hS (fun x _ h => h.elim) (fun x h => h.elim) (fun u9 t H9 locs ht hvm hw hB hz1 hk1 hS => ?_)
      have hP := zw_keep hP (fun x hx9 => hk1 x hx9 (fun h => h))
      rw [wB_push (by omega) (by omega) (by unfold cB; rw [if_neg (show ¬ (11 + i) = 0 by omega), if_neg (show ¬ (11 + i) = 1 by omega), if_neg (show ¬ (11 + i) = 2 by omega), if_neg (show ¬ (11 + i) = 3 by omega), if_neg (show ¬ (11 + i) = 4 by omega), if_neg (show ¬ (11 + i) = 5 by omega), if_neg (show ¬ (11 + i) = 6 by omega), if_neg (show ¬ (11 + i) = 7 by omega), if_neg (show ¬ (11 + i) = 8 by omega), if_neg (show ¬ (11 + i) = 9 by omega), if_neg (show ¬ (11 + i) = 10 by omega), if_pos (show (11 + i) < 17 by omega)])] at hP hD
      have hlow : ∀ c : Nat, c < (11 + i) → (bset bd (11 + i) q) c = bd c := fun c hc => if_neg (Nat.ne_of_lt hc)
      have hnq : (bset bd (11 + i) q) (11 + i) = q := if_pos rfl
      have hata : (wB cA sd ((11 + i) + 1) (bset bd (11 + i) q) g)[1]? = some (bd 1, .inl (cA 0, 6, .inr (.inr (.inr (.inr (g 1)))))) := by
        rw [wB_at (show 1 < ((11 + i) + 1) by omega), hlow 1 (by omega)]
        rfl
      have hatn : (wB cA sd ((11 + i) + 1) (bset bd (11 + i) q) g)[(11 + i)]? = some (q, .inr (4, [.int 0, .int 0])) := by
        rw [wB_at (show (11 + i) < ((11 + i) + 1) by omega), hnq, show cB cA sd (bset bd (11 + i) q) g (11 + i) = .inr (4, [.int 0, .int 0]) from (by unfold cB; rw [if_neg (show ¬ (11 + i) = 0 by omega), if_neg (show ¬ (11 + i) = 1 by omega), if_neg (show ¬ (11 + i) = 2 by omega), if_neg (show ¬ (11 + i) = 3 by omega), if_neg (show ¬ (11 + i) = 4 by omega), if_neg (show ¬ (11 + i) = 5 by omega), if_neg (show ¬ (11 + i) = 6 by omega), if_neg (show ¬ (11 + i) = 7 by omega), if_neg (show ¬ (11 + i) = 8 by omega), if_neg (show ¬ (11 + i) = 9 by omega), if_neg (show ¬ (11 + i) = 10 by omega), if_pos (show (11 + i) < 17 by omega)])]
      refine va_astq hx hb hK hP hD hS 1 0 (11 + i) 4 hata rfl hatn rfl (vp_in_nI hic (by decide)) d_CA_init_107 (fun H locs hP hD hS => ?_)
      rw [nI_clamp (show i < 2 ^ 31 by omega), ← hlow 1 (by omega), wB_set (g := g) (k := 1) (e := .inl (cA 0, 6, .inr (.inr (.inr (.inr (va_up (g 1) i (some q))))))) (h := va_up (g 1) i (some q)) (show 1 < ((11 + i) + 1) by omega) rfl cB_g1] at hP hD
      refine lv_iinc (k := 0) (v := nI (i + 1)) (lv' := [(2, .int (nI (i + 1))), (0, .ref a0), (1, .int sd)]) hx hb d_CA_init_108 hl rfl (by rw [nI_succ]; rfl) (by decide) rfl (fun ls hl => ?_)
      refine lv_goto (tgt := 89) hx hb d_CA_init_111 (by decide) ?_
      have hG9 : GI (i + 1) 0 0 0 0 (bset bd (11 + i) q) (gset g 1 (va_up (g 1) i (some q))) := by
        refine ⟨fun j hj => ?_, fun j hj => ?_, fun j hj => ?_, fun j hj => ?_, fun j hj => ?_⟩
        · show va_up (g 1) i (some q) j = _
          by_cases hji : j = i
          · subst hji
            rw [va_up_self, hnq]
          · rw [va_up_ne _ _ hji, hlow (11 + j) (by omega)]
            exact hG.1 j (by omega)
        · exact absurd hj (Nat.not_lt_zero j)
        · exact absurd hj (Nat.not_lt_zero j)
        · exact absurd hj (Nat.not_lt_zero j)
        · exact absurd hj (Nat.not_lt_zero j)
      have hb9 : (bset bd (11 + i) q) 0 = a0 := (hlow 0 (by omega)).trans hb0
      exact ih (i + 1) (by omega) (bset bd (11 + i) q) _ H locs ls hb9 hP hD hS hG9 hl
  refine lv_aload_n hx hb d_CA_init_0 rfl (lv_at hl 0 rfl) ?_
  refine W.objInit hx hb hown (hts _ gw_601) (hts _ gw_589) (hts _ gw_590) rfl (by rw [hml]; exact hl.1) rfl d_CA_init_1 (Nat.le_of_ble_eq_true rfl) (Nat.le_of_ble_eq_true rfl) ?_
  refine W.eq (g2 := F0 m 4 ls []) rfl ?_
  refine lv_aload_n hx hb d_CA_init_4 rfl (lv_at hl 0 rfl) ?_
  refine lv_bipush (v := (6 : Int32)) hx hb d_CA_init_5 (by decide) ?_
  refine va_newq (C := "ChallengeAuthority$Account") (n := (6 : Int32)) (N' := 6) hx hb hown (hts _ gw_602) hG.2.2.1 hK hP hD hS hA (by decide) rfl (by decide) (Nat.le_of_ble_eq_true rfl) (Nat.le_of_ble_eq_true rfl) d_CA_init_7 (fun q1 cA9 H hK9 hP hD hS => ?_)
  have e9 : cA9 = cA 0 := ky_obj hK (k := 0) rfl hK9
  subst e9
  have hP : va_P (dC, dI) vwCl [(a0, .inr (0, [.int 0, .int 0, .int 0, .int 0, .int 0, .int 0, .null, .null, .null, .null, .null, .null, .null, .null])), (q1, .inl (cA 0, 6, .inr (.inr (.inr (.inr (fun _ => none))))))] H := hP
  have hD : va_D (B1 a0 s.heap.size) [(a0, .inr (0, [.int 0, .int 0, .int 0, .int 0, .int 0, .int 0, .null, .null, .null, .null, .null, .null, .null, .null])), (q1, .inl (cA 0, 6, .inr (.inr (.inr (.inr (fun _ => none))))))] := hD
  refine va_putF (D := (dC, dI)) (ci := 0) (v := .ref q1) (ty := (.array (.object "ChallengeAuthority$Account"))) (C := R_CA) (T := T_CA) (N := 14) hx hb hts in_CA ty_CA ty_CA_ok nm_CA hown hK hP hD hS 0 rfl rfl 6 (by decide) (hts _ gw_33) (fun _ h9 => h9) rfl hin rfl (by decide +kernel) rfl rfl (Nat.le_of_ble_eq_true rfl) d_CA_init_10 (fun H locs hP hD hS => ?_)
  have hP : va_P (dC, dI) vwCl [(a0, .inr (0, [.int 0, .int 0, .int 0, .int 0, .int 0, .int 0, .ref q1, .null, .null, .null, .null, .null, .null, .null])), (q1, .inl (cA 0, 6, .inr (.inr (.inr (.inr (fun _ => none))))))] H := hP
  have hD : va_D (B1 a0 s.heap.size) [(a0, .inr (0, [.int 0, .int 0, .int 0, .int 0, .int 0, .int 0, .ref q1, .null, .null, .null, .null, .null, .null, .null])), (q1, .inl (cA 0, 6, .inr (.inr (.inr (.inr (fun _ => none))))))] := hD
  refine lv_aload_n hx hb d_CA_init_13 rfl (lv_at hl 0 rfl) ?_
  refine lv_bipush (v := (12 : Int32)) hx hb d_CA_init_14 (by decide) ?_
  refine va_newq (C := "ChallengeAuthority$Order") (n := (12 : Int32)) (N' := 12) hx hb hown (hts _ gw_603) hG.2.2.2.1 hK hP hD hS hA (by decide) rfl (by decide) (Nat.le_of_ble_eq_true rfl) (Nat.le_of_ble_eq_true rfl) d_CA_init_16 (fun q2 cA9 H hK9 hP hD hS => ?_)
  have e9 : cA9 = cA 1 := ky_obj hK (k := 1) rfl hK9
  subst e9
  have hP : va_P (dC, dI) vwCl [(a0, .inr (0, [.int 0, .int 0, .int 0, .int 0, .int 0, .int 0, .ref q1, .null, .null, .null, .null, .null, .null, .null])), (q1, .inl (cA 0, 6, .inr (.inr (.inr (.inr (fun _ => none)))))), (q2, .inl (cA 1, 12, .inr (.inr (.inr (.inr (fun _ => none))))))] H := hP
  have hD : va_D (B1 a0 s.heap.size) [(a0, .inr (0, [.int 0, .int 0, .int 0, .int 0, .int 0, .int 0, .ref q1, .null, .null, .null, .null, .null, .null, .null])), (q1, .inl (cA 0, 6, .inr (.inr (.inr (.inr (fun _ => none)))))), (q2, .inl (cA 1, 12, .inr (.inr (.inr (.inr (fun _ => none))))))] := hD
  refine va_putF (D := (dC, dI)) (ci := 0) (v := .ref q2) (ty := (.array (.object "ChallengeAuthority$Order"))) (C := R_CA) (T := T_CA) (N := 14) hx hb hts in_CA ty_CA ty_CA_ok nm_CA hown hK hP hD hS 0 rfl rfl 7 (by decide) (hts _ gw_102) (fun _ h9 => h9) rfl hin rfl (by decide +kernel) rfl rfl (Nat.le_of_ble_eq_true rfl) d_CA_init_19 (fun H locs hP hD hS => ?_)
  have hP : va_P (dC, dI) vwCl [(a0, .inr (0, [.int 0, .int 0, .int 0, .int 0, .int 0, .int 0, .ref q1, .ref q2, .null, .null, .null, .null, .null, .null])), (q1, .inl (cA 0, 6, .inr (.inr (.inr (.inr (fun _ => none)))))), (q2, .inl (cA 1, 12, .inr (.inr (.inr (.inr (fun _ => none))))))] H := hP
  have hD : va_D (B1 a0 s.heap.size) [(a0, .inr (0, [.int 0, .int 0, .int 0, .int 0, .int 0, .int 0, .ref q1, .ref q2, .null, .null, .null, .null, .null, .null])), (q1, .inl (cA 0, 6, .inr (.inr (.inr (.inr (fun _ => none)))))), (q2, .inl (cA 1, 12, .inr (.inr (.inr (.inr (fun _ => none))))))] := hD
  refine lv_aload_n hx hb d_CA_init_22 rfl (lv_at hl 0 rfl) ?_
  refine lv_bipush (v := (24 : Int32)) hx hb d_CA_init_23 (by decide) ?_
  refine va_newq (C := "ChallengeAuthority$Authorization") (n := (24 : Int32)) (N' := 24) hx hb hown (hts _ gw_604) hG.2.2.2.2.1 hK hP hD hS hA (by decide) rfl (by decide) (Nat.le_of_ble_eq_true rfl) (Nat.le_of_ble_eq_true rfl) d_CA_init_25 (fun q3 cA9 H hK9 hP hD hS => ?_)
  have e9 : cA9 = cA 2 := ky_obj hK (k := 2) rfl hK9
  subst e9
  have hP : va_P (dC, dI) vwCl [(a0, .inr (0, [.int 0, .int 0, .int 0, .int 0, .int 0, .int 0, .ref q1, .ref q2, .null, .null, .null, .null, .null, .null])), (q1, .inl (cA 0, 6, .inr (.inr (.inr (.inr (fun _ => none)))))), (q2, .inl (cA 1, 12, .inr (.inr (.inr (.inr (fun _ => none)))))), (q3, .inl (cA 2, 24, .inr (.inr (.inr (.inr (fun _ => none))))))] H := hP
  have hD : va_D (B1 a0 s.heap.size) [(a0, .inr (0, [.int 0, .int 0, .int 0, .int 0, .int 0, .int 0, .ref q1, .ref q2, .null, .null, .null, .null, .null, .null])), (q1, .inl (cA 0, 6, .inr (.inr (.inr (.inr (fun _ => none)))))), (q2, .inl (cA 1, 12, .inr (.inr (.inr (.inr (fun _ => none)))))), (q3, .inl (cA 2, 24, .inr (.inr (.inr (.inr (fun _ => none))))))] := hD
  refine va_putF (D := (dC, dI)) (ci := 0) (v := .ref q3) (ty := (.array (.object "ChallengeAuthority$Authorization"))) (C := R_CA) (T := T_CA) (N := 14) hx hb hts in_CA ty_CA ty_CA_ok nm_CA hown hK hP hD hS 0 rfl rfl 8 (by decide) (hts _ gw_75) (fun _ h9 => h9) rfl hin rfl (by decide +kernel) rfl rfl (Nat.le_of_ble_eq_true rfl) d_CA_init_28 (fun H locs hP hD hS => ?_)
  have hP : va_P (dC, dI) vwCl [(a0, .inr (0, [.int 0, .int 0, .int 0, .int 0, .int 0, .int 0, .ref q1, .ref q2, .ref q3, .null, .null, .null, .null, .null])), (q1, .inl (cA 0, 6, .inr (.inr (.inr (.inr (fun _ => none)))))), (q2, .inl (cA 1, 12, .inr (.inr (.inr (.inr (fun _ => none)))))), (q3, .inl (cA 2, 24, .inr (.inr (.inr (.inr (fun _ => none))))))] H := hP
  have hD : va_D (B1 a0 s.heap.size) [(a0, .inr (0, [.int 0, .int 0, .int 0, .int 0, .int 0, .int 0, .ref q1, .ref q2, .ref q3, .null, .null, .null, .null, .null])), (q1, .inl (cA 0, 6, .inr (.inr (.inr (.inr (fun _ => none)))))), (q2, .inl (cA 1, 12, .inr (.inr (.inr (.inr (fun _ => none)))))), (q3, .inl (cA 2, 24, .inr (.inr (.inr (.inr (fun _ => none))))))] := hD
  refine lv_aload_n hx hb d_CA_init_31 rfl (lv_at hl 0 rfl) ?_
  refine lv_bipush (v := (48 : Int32)) hx hb d_CA_init_32 (by decide) ?_
  refine va_newq (C := "ChallengeAuthority$Challenge") (n := (48 : Int32)) (N' := 48) hx hb hown (hts _ gw_605) hG.2.2.2.2.2.1 hK hP hD hS hA (by decide) rfl (by decide) (Nat.le_of_ble_eq_true rfl) (Nat.le_of_ble_eq_true rfl) d_CA_init_34 (fun q4 cA9 H hK9 hP hD hS => ?_)
  have e9 : cA9 = cA 3 := ky_obj hK (k := 3) rfl hK9
  subst e9
  have hP : va_P (dC, dI) vwCl [(a0, .inr (0, [.int 0, .int 0, .int 0, .int 0, .int 0, .int 0, .ref q1, .ref q2, .ref q3, .null, .null, .null, .null, .null])), (q1, .inl (cA 0, 6, .inr (.inr (.inr (.inr (fun _ => none)))))), (q2, .inl (cA 1, 12, .inr (.inr (.inr (.inr (fun _ => none)))))), (q3, .inl (cA 2, 24, .inr (.inr (.inr (.inr (fun _ => none)))))), (q4, .inl (cA 3, 48, .inr (.inr (.inr (.inr (fun _ => none))))))] H := hP
  have hD : va_D (B1 a0 s.heap.size) [(a0, .inr (0, [.int 0, .int 0, .int 0, .int 0, .int 0, .int 0, .ref q1, .ref q2, .ref q3, .null, .null, .null, .null, .null])), (q1, .inl (cA 0, 6, .inr (.inr (.inr (.inr (fun _ => none)))))), (q2, .inl (cA 1, 12, .inr (.inr (.inr (.inr (fun _ => none)))))), (q3, .inl (cA 2, 24, .inr (.inr (.inr (.inr (fun _ => none)))))), (q4, .inl (cA 3, 48, .inr (.inr (.inr (.inr (fun _ => none))))))] := hD
  refine va_putF (D := (dC, dI)) (ci := 0) (v := .ref q4) (ty := (.array (.object "ChallengeAuthority$Challenge"))) (C := R_CA) (T := T_CA) (N := 14) hx hb hts in_CA ty_CA ty_CA_ok nm_CA hown hK hP hD hS 0 rfl rfl 9 (by decide) (hts _ gw_87) (fun _ h9 => h9) rfl hin rfl (by decide +kernel) rfl rfl (Nat.le_of_ble_eq_true rfl) d_CA_init_37 (fun H locs hP hD hS => ?_)
  have hP : va_P (dC, dI) vwCl [(a0, .inr (0, [.int 0, .int 0, .int 0, .int 0, .int 0, .int 0, .ref q1, .ref q2, .ref q3, .ref q4, .null, .null, .null, .null])), (q1, .inl (cA 0, 6, .inr (.inr (.inr (.inr (fun _ => none)))))), (q2, .inl (cA 1, 12, .inr (.inr (.inr (.inr (fun _ => none)))))), (q3, .inl (cA 2, 24, .inr (.inr (.inr (.inr (fun _ => none)))))), (q4, .inl (cA 3, 48, .inr (.inr (.inr (.inr (fun _ => none))))))] H := hP
  have hD : va_D (B1 a0 s.heap.size) [(a0, .inr (0, [.int 0, .int 0, .int 0, .int 0, .int 0, .int 0, .ref q1, .ref q2, .ref q3, .ref q4, .null, .null, .null, .null])), (q1, .inl (cA 0, 6, .inr (.inr (.inr (.inr (fun _ => none)))))), (q2, .inl (cA 1, 12, .inr (.inr (.inr (.inr (fun _ => none)))))), (q3, .inl (cA 2, 24, .inr (.inr (.inr (.inr (fun _ => none)))))), (q4, .inl (cA 3, 48, .inr (.inr (.inr (.inr (fun _ => none))))))] := hD
  refine lv_aload_n hx hb d_CA_init_40 rfl (lv_at hl 0 rfl) ?_
  refine lv_bipush (v := (12 : Int32)) hx hb d_CA_init_41 (by decide) ?_
  refine va_newq (C := "ChallengeAuthority$Certificate") (n := (12 : Int32)) (N' := 12) hx hb hown (hts _ gw_606) hG.2.2.2.2.2.2 hK hP hD hS hA (by decide) rfl (by decide) (Nat.le_of_ble_eq_true rfl) (Nat.le_of_ble_eq_true rfl) d_CA_init_43 (fun q5 cA9 H hK9 hP hD hS => ?_)
  have e9 : cA9 = cA 4 := ky_obj hK (k := 4) rfl hK9
  subst e9
  have hP : va_P (dC, dI) vwCl [(a0, .inr (0, [.int 0, .int 0, .int 0, .int 0, .int 0, .int 0, .ref q1, .ref q2, .ref q3, .ref q4, .null, .null, .null, .null])), (q1, .inl (cA 0, 6, .inr (.inr (.inr (.inr (fun _ => none)))))), (q2, .inl (cA 1, 12, .inr (.inr (.inr (.inr (fun _ => none)))))), (q3, .inl (cA 2, 24, .inr (.inr (.inr (.inr (fun _ => none)))))), (q4, .inl (cA 3, 48, .inr (.inr (.inr (.inr (fun _ => none)))))), (q5, .inl (cA 4, 12, .inr (.inr (.inr (.inr (fun _ => none))))))] H := hP
  have hD : va_D (B1 a0 s.heap.size) [(a0, .inr (0, [.int 0, .int 0, .int 0, .int 0, .int 0, .int 0, .ref q1, .ref q2, .ref q3, .ref q4, .null, .null, .null, .null])), (q1, .inl (cA 0, 6, .inr (.inr (.inr (.inr (fun _ => none)))))), (q2, .inl (cA 1, 12, .inr (.inr (.inr (.inr (fun _ => none)))))), (q3, .inl (cA 2, 24, .inr (.inr (.inr (.inr (fun _ => none)))))), (q4, .inl (cA 3, 48, .inr (.inr (.inr (.inr (fun _ => none)))))), (q5, .inl (cA 4, 12, .inr (.inr (.inr (.inr (fun _ => none))))))] := hD
  refine va_putF (D := (dC, dI)) (ci := 0) (v := .ref q5) (ty := (.array (.object "ChallengeAuthority$Certificate"))) (C := R_CA) (T := T_CA) (N := 14) hx hb hts in_CA ty_CA ty_CA_ok nm_CA hown hK hP hD hS 0 rfl rfl 10 (by decide) (hts _ gw_191) (fun _ h9 => h9) rfl hin rfl (by decide +kernel) rfl rfl (Nat.le_of_ble_eq_true rfl) d_CA_init_46 (fun H locs hP hD hS => ?_)
  have hP : va_P (dC, dI) vwCl [(a0, .inr (0, [.int 0, .int 0, .int 0, .int 0, .int 0, .int 0, .ref q1, .ref q2, .ref q3, .ref q4, .ref q5, .null, .null, .null])), (q1, .inl (cA 0, 6, .inr (.inr (.inr (.inr (fun _ => none)))))), (q2, .inl (cA 1, 12, .inr (.inr (.inr (.inr (fun _ => none)))))), (q3, .inl (cA 2, 24, .inr (.inr (.inr (.inr (fun _ => none)))))), (q4, .inl (cA 3, 48, .inr (.inr (.inr (.inr (fun _ => none)))))), (q5, .inl (cA 4, 12, .inr (.inr (.inr (.inr (fun _ => none))))))] H := hP
  have hD : va_D (B1 a0 s.heap.size) [(a0, .inr (0, [.int 0, .int 0, .int 0, .int 0, .int 0, .int 0, .ref q1, .ref q2, .ref q3, .ref q4, .ref q5, .null, .null, .null])), (q1, .inl (cA 0, 6, .inr (.inr (.inr (.inr (fun _ => none)))))), (q2, .inl (cA 1, 12, .inr (.inr (.inr (.inr (fun _ => none)))))), (q3, .inl (cA 2, 24, .inr (.inr (.inr (.inr (fun _ => none)))))), (q4, .inl (cA 3, 48, .inr (.inr (.inr (.inr (fun _ => none)))))), (q5, .inl (cA 4, 12, .inr (.inr (.inr (.inr (fun _ => none))))))] := hD
  refine lv_aload_n hx hb d_CA_init_49 rfl (lv_at hl 0 rfl) ?_
  refine va_new (ci := 1) (fs := [.int 0, .null]) (C := R_Non) (T := T_Non) (N := 2) hx hb hts in_Non ty_Non ty_Non_ok hown (hts _ gw_607) (hts _ gw_608) (hts _ gw_8) hK hP hD hS hA rfl (fun j hj => by rcases (show j = 0 ∨ j = 1 by omega) with rfl | rfl <;> rfl) (Nat.le_of_ble_eq_true rfl) (Nat.le_of_ble_eq_true rfl) d_CA_init_50 (fun q6 H hP hD hS => ?_)
  have hP : va_P (dC, dI) vwCl [(a0, .inr (0, [.int 0, .int 0, .int 0, .int 0, .int 0, .int 0, .ref q1, .ref q2, .ref q3, .ref q4, .ref q5, .null, .null, .null])), (q1, .inl (cA 0, 6, .inr (.inr (.inr (.inr (fun _ => none)))))), (q2, .inl (cA 1, 12, .inr (.inr (.inr (.inr (fun _ => none)))))), (q3, .inl (cA 2, 24, .inr (.inr (.inr (.inr (fun _ => none)))))), (q4, .inl (cA 3, 48, .inr (.inr (.inr (.inr (fun _ => none)))))), (q5, .inl (cA 4, 12, .inr (.inr (.inr (.inr (fun _ => none)))))), (q6, .inr (1, [.int 0, .null]))] H := hP
  have hD : va_D (B1 a0 s.heap.size) [(a0, .inr (0, [.int 0, .int 0, .int 0, .int 0, .int 0, .int 0, .ref q1, .ref q2, .ref q3, .ref q4, .ref q5, .null, .null, .null])), (q1, .inl (cA 0, 6, .inr (.inr (.inr (.inr (fun _ => none)))))), (q2, .inl (cA 1, 12, .inr (.inr (.inr (.inr (fun _ => none)))))), (q3, .inl (cA 2, 24, .inr (.inr (.inr (.inr (fun _ => none)))))), (q4, .inl (cA 3, 48, .inr (.inr (.inr (.inr (fun _ => none)))))), (q5, .inl (cA 4, 12, .inr (.inr (.inr (.inr (fun _ => none)))))), (q6, .inr (1, [.int 0, .null]))] := hD
  refine lv_dup hx hb d_CA_init_53 rfl ?_
  have hPc := hP.sub (ws' := [(q6, .inr (1, [.int 0, .null]))]) [6] rfl
  have hlc := (hP 6 (q6, _) rfl).lt
  refine va_callv (va_runIN (As := []) (rest := [.ref q6, .ref a0]) ⟨hx, hb, hml, hown, hts⟩ (mt_Non_init l dC dI cA q6 _ hlc) ⟨va_cnB 0 hts (gN gw_609) rfl rfl rfl (hNW _ (List.mem_of_getElem? (i := 0) rfl)) (hts _ gw_8) (by decide +kernel) ⟨(Nat.le_of_ble_eq_true rfl), (Nat.le_of_ble_eq_true rfl)⟩, rfl, hts _ gw_610⟩ ⟨zK_blind, zK_pre hPc hK⟩ rfl rfl hl.1 rfl (lv_room (Nat.le_of_ble_eq_true rfl)) d_CA_init_54 ⟨(Nat.le_of_ble_eq_true rfl), (Nat.le_of_ble_eq_true rfl)⟩) hS (fun x _ h => h.elim (fun e => by rw [e]; exact hD.2 6 (q6, _) rfl) (fun h => Or.inr (Nat.le_trans hS.1 h))) (fun x h => h.elim (fun e => by rw [e]; exact hD.2 6 (q6, _) rfl) (fun h => Or.inr (Nat.le_trans hS.1 h))) (fun q7 t H9 locs ht hvm hw hB hz1 hk1 hS9 => ?_)
  have hB9 : va_P (dC, dI) vwCl [(q6, .inr (1, [.int 0, .ref q7])), (q7, .inl (cA 5, 8, .inl (fun _ => 0)))] H9 := by rw [← ht]; exact hB
  have hP9 := va_P.lasts (ws := [(a0, .inr (0, [.int 0, .int 0, .int 0, .int 0, .int 0, .int 0, .ref q1, .ref q2, .ref q3, .ref q4, .ref q5, .null, .null, .null])), (q1, .inl (cA 0, 6, .inr (.inr (.inr (.inr (fun _ => none)))))), (q2, .inl (cA 1, 12, .inr (.inr (.inr (.inr (fun _ => none)))))), (q3, .inl (cA 2, 24, .inr (.inr (.inr (.inr (fun _ => none)))))), (q4, .inl (cA 3, 48, .inr (.inr (.inr (.inr (fun _ => none)))))), (q5, .inl (cA 4, 12, .inr (.inr (.inr (.inr (fun _ => none))))))]) hP hD hB9 hk1
  have hD9 := va_D.two (ws := [(a0, .inr (0, [.int 0, .int 0, .int 0, .int 0, .int 0, .int 0, .ref q1, .ref q2, .ref q3, .ref q4, .ref q5, .null, .null, .null])), (q1, .inl (cA 0, 6, .inr (.inr (.inr (.inr (fun _ => none)))))), (q2, .inl (cA 1, 12, .inr (.inr (.inr (.inr (fun _ => none)))))), (q3, .inl (cA 2, 24, .inr (.inr (.inr (.inr (fun _ => none)))))), (q4, .inl (cA 3, 48, .inr (.inr (.inr (.inr (fun _ => none)))))), (q5, .inl (cA 4, 12, .inr (.inr (.inr (.inr (fun _ => none))))))]) (e' := .inr (1, [.int 0, .ref q7])) (e2 := .inl (cA 5, 8, .inl (fun _ => 0))) hD hP hw (Or.inr (Nat.le_trans hS.1 hw))
  have hP : va_P (dC, dI) vwCl [(a0, .inr (0, [.int 0, .int 0, .int 0, .int 0, .int 0, .int 0, .ref q1, .ref q2, .ref q3, .ref q4, .ref q5, .null, .null, .null])), (q1, .inl (cA 0, 6, .inr (.inr (.inr (.inr (fun _ => none)))))), (q2, .inl (cA 1, 12, .inr (.inr (.inr (.inr (fun _ => none)))))), (q3, .inl (cA 2, 24, .inr (.inr (.inr (.inr (fun _ => none)))))), (q4, .inl (cA 3, 48, .inr (.inr (.inr (.inr (fun _ => none)))))), (q5, .inl (cA 4, 12, .inr (.inr (.inr (.inr (fun _ => none)))))), (q6, .inr (1, [.int 0, .ref q7])), (q7, .inl (cA 5, 8, .inl (fun _ => 0)))] H9 := hP9
  have hD : va_D (B1 a0 s.heap.size) [(a0, .inr (0, [.int 0, .int 0, .int 0, .int 0, .int 0, .int 0, .ref q1, .ref q2, .ref q3, .ref q4, .ref q5, .null, .null, .null])), (q1, .inl (cA 0, 6, .inr (.inr (.inr (.inr (fun _ => none)))))), (q2, .inl (cA 1, 12, .inr (.inr (.inr (.inr (fun _ => none)))))), (q3, .inl (cA 2, 24, .inr (.inr (.inr (.inr (fun _ => none)))))), (q4, .inl (cA 3, 48, .inr (.inr (.inr (.inr (fun _ => none)))))), (q5, .inl (cA 4, 12, .inr (.inr (.inr (.inr (fun _ => none)))))), (q6, .inr (1, [.int 0, .ref q7])), (q7, .inl (cA 5, 8, .inl (fun _ => 0)))] := hD9
  have hS := hS9
  generalize H9 = H at hP hS ⊢
  refine va_putF (D := (dC, dI)) (ci := 0) (v := .ref q6) (ty := (.object "ChallengeAuthority$Nonces")) (C := R_CA) (T := T_CA) (N := 14) hx hb hts in_CA ty_CA ty_CA_ok nm_CA hown hK hP hD hS 0 rfl rfl 11 (by decide) (hts _ gw_14) (fun _ h9 => h9) rfl hin rfl (by decide +kernel) rfl rfl (Nat.le_of_ble_eq_true rfl) d_CA_init_57 (fun H locs hP hD hS => ?_)
  have hP : va_P (dC, dI) vwCl [(a0, .inr (0, [.int 0, .int 0, .int 0, .int 0, .int 0, .int 0, .ref q1, .ref q2, .ref q3, .ref q4, .ref q5, .ref q6, .null, .null])), (q1, .inl (cA 0, 6, .inr (.inr (.inr (.inr (fun _ => none)))))), (q2, .inl (cA 1, 12, .inr (.inr (.inr (.inr (fun _ => none)))))), (q3, .inl (cA 2, 24, .inr (.inr (.inr (.inr (fun _ => none)))))), (q4, .inl (cA 3, 48, .inr (.inr (.inr (.inr (fun _ => none)))))), (q5, .inl (cA 4, 12, .inr (.inr (.inr (.inr (fun _ => none)))))), (q6, .inr (1, [.int 0, .ref q7])), (q7, .inl (cA 5, 8, .inl (fun _ => 0)))] H := hP
  have hD : va_D (B1 a0 s.heap.size) [(a0, .inr (0, [.int 0, .int 0, .int 0, .int 0, .int 0, .int 0, .ref q1, .ref q2, .ref q3, .ref q4, .ref q5, .ref q6, .null, .null])), (q1, .inl (cA 0, 6, .inr (.inr (.inr (.inr (fun _ => none)))))), (q2, .inl (cA 1, 12, .inr (.inr (.inr (.inr (fun _ => none)))))), (q3, .inl (cA 2, 24, .inr (.inr (.inr (.inr (fun _ => none)))))), (q4, .inl (cA 3, 48, .inr (.inr (.inr (.inr (fun _ => none)))))), (q5, .inl (cA 4, 12, .inr (.inr (.inr (.inr (fun _ => none)))))), (q6, .inr (1, [.int 0, .ref q7])), (q7, .inl (cA 5, 8, .inl (fun _ => 0)))] := hD
  refine lv_aload_n hx hb d_CA_init_60 rfl (lv_at hl 0 rfl) ?_
  refine va_new (ci := 2) (fs := [.int 0, .null]) (C := R_Txt) (T := T_Txt) (N := 2) hx hb hts in_Txt ty_Txt ty_Txt_ok hown (hts _ gw_611) (hts _ gw_612) (hts _ gw_233) hK hP hD hS hA rfl (fun j hj => by rcases (show j = 0 ∨ j = 1 by omega) with rfl | rfl <;> rfl) (Nat.le_of_ble_eq_true rfl) (Nat.le_of_ble_eq_true rfl) d_CA_init_61 (fun q8 H hP hD hS => ?_)
  have hP : va_P (dC, dI) vwCl [(a0, .inr (0, [.int 0, .int 0, .int 0, .int 0, .int 0, .int 0, .ref q1, .ref q2, .ref q3, .ref q4, .ref q5, .ref q6, .null, .null])), (q1, .inl (cA 0, 6, .inr (.inr (.inr (.inr (fun _ => none)))))), (q2, .inl (cA 1, 12, .inr (.inr (.inr (.inr (fun _ => none)))))), (q3, .inl (cA 2, 24, .inr (.inr (.inr (.inr (fun _ => none)))))), (q4, .inl (cA 3, 48, .inr (.inr (.inr (.inr (fun _ => none)))))), (q5, .inl (cA 4, 12, .inr (.inr (.inr (.inr (fun _ => none)))))), (q6, .inr (1, [.int 0, .ref q7])), (q7, .inl (cA 5, 8, .inl (fun _ => 0))), (q8, .inr (2, [.int 0, .null]))] H := hP
  have hD : va_D (B1 a0 s.heap.size) [(a0, .inr (0, [.int 0, .int 0, .int 0, .int 0, .int 0, .int 0, .ref q1, .ref q2, .ref q3, .ref q4, .ref q5, .ref q6, .null, .null])), (q1, .inl (cA 0, 6, .inr (.inr (.inr (.inr (fun _ => none)))))), (q2, .inl (cA 1, 12, .inr (.inr (.inr (.inr (fun _ => none)))))), (q3, .inl (cA 2, 24, .inr (.inr (.inr (.inr (fun _ => none)))))), (q4, .inl (cA 3, 48, .inr (.inr (.inr (.inr (fun _ => none)))))), (q5, .inl (cA 4, 12, .inr (.inr (.inr (.inr (fun _ => none)))))), (q6, .inr (1, [.int 0, .ref q7])), (q7, .inl (cA 5, 8, .inl (fun _ => 0))), (q8, .inr (2, [.int 0, .null]))] := hD
  refine lv_dup hx hb d_CA_init_64 rfl ?_
  have hPc := hP.sub (ws' := [(q8, .inr (2, [.int 0, .null]))]) [8] rfl
  have hlc := (hP 8 (q8, _) rfl).lt
  refine va_callv (va_runIN (As := []) (rest := [.ref q8, .ref a0]) ⟨hx, hb, hml, hown, hts⟩ (mt_Txt_init l dC dI cA q8 _ hlc) ⟨va_cnB 0 hts (gN gw_613) rfl rfl rfl (hNW _ (List.mem_of_getElem? (i := 1) rfl)) (hts _ gw_233) (by decide +kernel) ⟨(Nat.le_of_ble_eq_true rfl), (Nat.le_of_ble_eq_true rfl)⟩, rfl, hts _ gw_614⟩ ⟨zK_blind, zK_pre hPc hK⟩ rfl rfl hl.1 rfl (lv_room (Nat.le_of_ble_eq_true rfl)) d_CA_init_65 ⟨(Nat.le_of_ble_eq_true rfl), (Nat.le_of_ble_eq_true rfl)⟩) hS (fun x _ h => h.elim (fun e => by rw [e]; exact hD.2 8 (q8, _) rfl) (fun h => Or.inr (Nat.le_trans hS.1 h))) (fun x h => h.elim (fun e => by rw [e]; exact hD.2 8 (q8, _) rfl) (fun h => Or.inr (Nat.le_trans hS.1 h))) (fun q9 t H9 locs ht hvm hw hB hz1 hk1 hS9 => ?_)
  have hB9 : va_P (dC, dI) vwCl [(q8, .inr (2, [.int 0, .ref q9])), (q9, .inl (cA 6, 96, .inl (fun _ => 0)))] H9 := by rw [← ht]; exact hB
  have hP9 := va_P.lasts (ws := [(a0, .inr (0, [.int 0, .int 0, .int 0, .int 0, .int 0, .int 0, .ref q1, .ref q2, .ref q3, .ref q4, .ref q5, .ref q6, .null, .null])), (q1, .inl (cA 0, 6, .inr (.inr (.inr (.inr (fun _ => none)))))), (q2, .inl (cA 1, 12, .inr (.inr (.inr (.inr (fun _ => none)))))), (q3, .inl (cA 2, 24, .inr (.inr (.inr (.inr (fun _ => none)))))), (q4, .inl (cA 3, 48, .inr (.inr (.inr (.inr (fun _ => none)))))), (q5, .inl (cA 4, 12, .inr (.inr (.inr (.inr (fun _ => none)))))), (q6, .inr (1, [.int 0, .ref q7])), (q7, .inl (cA 5, 8, .inl (fun _ => 0)))]) hP hD hB9 hk1
  have hD9 := va_D.two (ws := [(a0, .inr (0, [.int 0, .int 0, .int 0, .int 0, .int 0, .int 0, .ref q1, .ref q2, .ref q3, .ref q4, .ref q5, .ref q6, .null, .null])), (q1, .inl (cA 0, 6, .inr (.inr (.inr (.inr (fun _ => none)))))), (q2, .inl (cA 1, 12, .inr (.inr (.inr (.inr (fun _ => none)))))), (q3, .inl (cA 2, 24, .inr (.inr (.inr (.inr (fun _ => none)))))), (q4, .inl (cA 3, 48, .inr (.inr (.inr (.inr (fun _ => none)))))), (q5, .inl (cA 4, 12, .inr (.inr (.inr (.inr (fun _ => none)))))), (q6, .inr (1, [.int 0, .ref q7])), (q7, .inl (cA 5, 8, .inl (fun _ => 0)))]) (e' := .inr (2, [.int 0, .ref q9])) (e2 := .inl (cA 6, 96, .inl (fun _ => 0))) hD hP hw (Or.inr (Nat.le_trans hS.1 hw))
  have hP : va_P (dC, dI) vwCl [(a0, .inr (0, [.int 0, .int 0, .int 0, .int 0, .int 0, .int 0, .ref q1, .ref q2, .ref q3, .ref q4, .ref q5, .ref q6, .null, .null])), (q1, .inl (cA 0, 6, .inr (.inr (.inr (.inr (fun _ => none)))))), (q2, .inl (cA 1, 12, .inr (.inr (.inr (.inr (fun _ => none)))))), (q3, .inl (cA 2, 24, .inr (.inr (.inr (.inr (fun _ => none)))))), (q4, .inl (cA 3, 48, .inr (.inr (.inr (.inr (fun _ => none)))))), (q5, .inl (cA 4, 12, .inr (.inr (.inr (.inr (fun _ => none)))))), (q6, .inr (1, [.int 0, .ref q7])), (q7, .inl (cA 5, 8, .inl (fun _ => 0))), (q8, .inr (2, [.int 0, .ref q9])), (q9, .inl (cA 6, 96, .inl (fun _ => 0)))] H9 := hP9
  have hD : va_D (B1 a0 s.heap.size) [(a0, .inr (0, [.int 0, .int 0, .int 0, .int 0, .int 0, .int 0, .ref q1, .ref q2, .ref q3, .ref q4, .ref q5, .ref q6, .null, .null])), (q1, .inl (cA 0, 6, .inr (.inr (.inr (.inr (fun _ => none)))))), (q2, .inl (cA 1, 12, .inr (.inr (.inr (.inr (fun _ => none)))))), (q3, .inl (cA 2, 24, .inr (.inr (.inr (.inr (fun _ => none)))))), (q4, .inl (cA 3, 48, .inr (.inr (.inr (.inr (fun _ => none)))))), (q5, .inl (cA 4, 12, .inr (.inr (.inr (.inr (fun _ => none)))))), (q6, .inr (1, [.int 0, .ref q7])), (q7, .inl (cA 5, 8, .inl (fun _ => 0))), (q8, .inr (2, [.int 0, .ref q9])), (q9, .inl (cA 6, 96, .inl (fun _ => 0)))] := hD9
  have hS := hS9
  generalize H9 = H at hP hS ⊢
  refine va_putF (D := (dC, dI)) (ci := 0) (v := .ref q8) (ty := (.object "ChallengeAuthority$Text")) (C := R_CA) (T := T_CA) (N := 14) hx hb hts in_CA ty_CA ty_CA_ok nm_CA hown hK hP hD hS 0 rfl rfl 12 (by decide) (hts _ gw_153) (fun _ h9 => h9) rfl hin rfl (by decide +kernel) rfl rfl (Nat.le_of_ble_eq_true rfl) d_CA_init_68 (fun H locs hP hD hS => ?_)
  have hP : va_P (dC, dI) vwCl [(a0, .inr (0, [.int 0, .int 0, .int 0, .int 0, .int 0, .int 0, .ref q1, .ref q2, .ref q3, .ref q4, .ref q5, .ref q6, .ref q8, .null])), (q1, .inl (cA 0, 6, .inr (.inr (.inr (.inr (fun _ => none)))))), (q2, .inl (cA 1, 12, .inr (.inr (.inr (.inr (fun _ => none)))))), (q3, .inl (cA 2, 24, .inr (.inr (.inr (.inr (fun _ => none)))))), (q4, .inl (cA 3, 48, .inr (.inr (.inr (.inr (fun _ => none)))))), (q5, .inl (cA 4, 12, .inr (.inr (.inr (.inr (fun _ => none)))))), (q6, .inr (1, [.int 0, .ref q7])), (q7, .inl (cA 5, 8, .inl (fun _ => 0))), (q8, .inr (2, [.int 0, .ref q9])), (q9, .inl (cA 6, 96, .inl (fun _ => 0)))] H := hP
  have hD : va_D (B1 a0 s.heap.size) [(a0, .inr (0, [.int 0, .int 0, .int 0, .int 0, .int 0, .int 0, .ref q1, .ref q2, .ref q3, .ref q4, .ref q5, .ref q6, .ref q8, .null])), (q1, .inl (cA 0, 6, .inr (.inr (.inr (.inr (fun _ => none)))))), (q2, .inl (cA 1, 12, .inr (.inr (.inr (.inr (fun _ => none)))))), (q3, .inl (cA 2, 24, .inr (.inr (.inr (.inr (fun _ => none)))))), (q4, .inl (cA 3, 48, .inr (.inr (.inr (.inr (fun _ => none)))))), (q5, .inl (cA 4, 12, .inr (.inr (.inr (.inr (fun _ => none)))))), (q6, .inr (1, [.int 0, .ref q7])), (q7, .inl (cA 5, 8, .inl (fun _ => 0))), (q8, .inr (2, [.int 0, .ref q9])), (q9, .inl (cA 6, 96, .inl (fun _ => 0)))] := hD
  refine lv_aload_n hx hb d_CA_init_71 rfl (lv_at hl 0 rfl) ?_
  refine va_new (ci := 3) (fs := [.int 0, .int 0, .int 0, .int 0]) (C := R_Req) (T := T_Req) (N := 4) hx hb hts in_Req ty_Req ty_Req_ok hown (hts _ gw_615) (hts _ gw_616) (hts _ gw_164) hK hP hD hS hA rfl (fun j hj => by rcases (show j = 0 ∨ j = 1 ∨ j = 2 ∨ j = 3 by omega) with rfl | rfl | rfl | rfl <;> rfl) (Nat.le_of_ble_eq_true rfl) (Nat.le_of_ble_eq_true rfl) d_CA_init_72 (fun q10 H hP hD hS => ?_)
  have hP : va_P (dC, dI) vwCl [(a0, .inr (0, [.int 0, .int 0, .int 0, .int 0, .int 0, .int 0, .ref q1, .ref q2, .ref q3, .ref q4, .ref q5, .ref q6, .ref q8, .null])), (q1, .inl (cA 0, 6, .inr (.inr (.inr (.inr (fun _ => none)))))), (q2, .inl (cA 1, 12, .inr (.inr (.inr (.inr (fun _ => none)))))), (q3, .inl (cA 2, 24, .inr (.inr (.inr (.inr (fun _ => none)))))), (q4, .inl (cA 3, 48, .inr (.inr (.inr (.inr (fun _ => none)))))), (q5, .inl (cA 4, 12, .inr (.inr (.inr (.inr (fun _ => none)))))), (q6, .inr (1, [.int 0, .ref q7])), (q7, .inl (cA 5, 8, .inl (fun _ => 0))), (q8, .inr (2, [.int 0, .ref q9])), (q9, .inl (cA 6, 96, .inl (fun _ => 0))), (q10, .inr (3, [.int 0, .int 0, .int 0, .int 0]))] H := hP
  have hD : va_D (B1 a0 s.heap.size) [(a0, .inr (0, [.int 0, .int 0, .int 0, .int 0, .int 0, .int 0, .ref q1, .ref q2, .ref q3, .ref q4, .ref q5, .ref q6, .ref q8, .null])), (q1, .inl (cA 0, 6, .inr (.inr (.inr (.inr (fun _ => none)))))), (q2, .inl (cA 1, 12, .inr (.inr (.inr (.inr (fun _ => none)))))), (q3, .inl (cA 2, 24, .inr (.inr (.inr (.inr (fun _ => none)))))), (q4, .inl (cA 3, 48, .inr (.inr (.inr (.inr (fun _ => none)))))), (q5, .inl (cA 4, 12, .inr (.inr (.inr (.inr (fun _ => none)))))), (q6, .inr (1, [.int 0, .ref q7])), (q7, .inl (cA 5, 8, .inl (fun _ => 0))), (q8, .inr (2, [.int 0, .ref q9])), (q9, .inl (cA 6, 96, .inl (fun _ => 0))), (q10, .inr (3, [.int 0, .int 0, .int 0, .int 0]))] := hD
  refine lv_dup hx hb d_CA_init_75 rfl ?_
  refine va_callv (va_runIN (As := []) (rest := [.ref q10, .ref a0]) ⟨hx, hb, hml, hown, hts⟩ (mt_Req_init l q10 _) ⟨va_cnB 0 hts (gN gw_617) rfl rfl rfl (hNW _ (List.mem_of_getElem? (i := 2) rfl)) (hts _ gw_164) (by decide +kernel) ⟨(Nat.le_of_ble_eq_true rfl), (Nat.le_of_ble_eq_true rfl)⟩, rfl, hts _ gw_618⟩ ⟨z0_blind, z0_pre⟩ rfl rfl hl.1 rfl (lv_room (Nat.le_of_ble_eq_true rfl)) d_CA_init_76 ⟨(Nat.le_of_ble_eq_true rfl), (Nat.le_of_ble_eq_true rfl)⟩) hS (fun x _ h => h.elim) (fun x h => h.elim) (fun u9 t H9 locs ht hvm hw hB hz1 hk1 hS => ?_)
  have hP := zw_keep hP (fun x hx9 => hk1 x hx9 (fun h => h))
  generalize H9 = H at hP hS ⊢
  refine va_putF (D := (dC, dI)) (ci := 0) (v := .ref q10) (ty := (.object "ChallengeAuthority$Request")) (C := R_CA) (T := T_CA) (N := 14) hx hb hts in_CA ty_CA ty_CA_ok nm_CA hown hK hP hD hS 0 rfl rfl 13 (by decide) (hts _ gw_201) (fun _ h9 => h9) rfl hin rfl (by decide +kernel) rfl rfl (Nat.le_of_ble_eq_true rfl) d_CA_init_79 (fun H locs hP hD hS => ?_)
  have hP : va_P (dC, dI) vwCl [(a0, .inr (0, [.int 0, .int 0, .int 0, .int 0, .int 0, .int 0, .ref q1, .ref q2, .ref q3, .ref q4, .ref q5, .ref q6, .ref q8, .ref q10])), (q1, .inl (cA 0, 6, .inr (.inr (.inr (.inr (fun _ => none)))))), (q2, .inl (cA 1, 12, .inr (.inr (.inr (.inr (fun _ => none)))))), (q3, .inl (cA 2, 24, .inr (.inr (.inr (.inr (fun _ => none)))))), (q4, .inl (cA 3, 48, .inr (.inr (.inr (.inr (fun _ => none)))))), (q5, .inl (cA 4, 12, .inr (.inr (.inr (.inr (fun _ => none)))))), (q6, .inr (1, [.int 0, .ref q7])), (q7, .inl (cA 5, 8, .inl (fun _ => 0))), (q8, .inr (2, [.int 0, .ref q9])), (q9, .inl (cA 6, 96, .inl (fun _ => 0))), (q10, .inr (3, [.int 0, .int 0, .int 0, .int 0]))] H := hP
  have hD : va_D (B1 a0 s.heap.size) [(a0, .inr (0, [.int 0, .int 0, .int 0, .int 0, .int 0, .int 0, .ref q1, .ref q2, .ref q3, .ref q4, .ref q5, .ref q6, .ref q8, .ref q10])), (q1, .inl (cA 0, 6, .inr (.inr (.inr (.inr (fun _ => none)))))), (q2, .inl (cA 1, 12, .inr (.inr (.inr (.inr (fun _ => none)))))), (q3, .inl (cA 2, 24, .inr (.inr (.inr (.inr (fun _ => none)))))), (q4, .inl (cA 3, 48, .inr (.inr (.inr (.inr (fun _ => none)))))), (q5, .inl (cA 4, 12, .inr (.inr (.inr (.inr (fun _ => none)))))), (q6, .inr (1, [.int 0, .ref q7])), (q7, .inl (cA 5, 8, .inl (fun _ => 0))), (q8, .inr (2, [.int 0, .ref q9])), (q9, .inl (cA 6, 96, .inl (fun _ => 0))), (q10, .inr (3, [.int 0, .int 0, .int 0, .int 0]))] := hD
  refine lv_aload_n hx hb d_CA_init_82 rfl (lv_at hl 0 rfl) ?_
  refine lv_iload_n hx hb d_CA_init_83 rfl (lv_at hl 1 rfl) ?_
  refine va_put (D := (dC, dI)) (ci := 0) (v := .int sd) (ty := .int) (C := R_CA) (T := T_CA) (N := 14) hx hb hts in_CA ty_CA ty_CA_ok nm_CA hown hK hP hD hS 0 rfl rfl 0 (by decide) (hts _ gw_0) (fun _ h9 => h9) rfl (by decide +kernel) rfl rfl (Nat.le_of_ble_eq_true rfl) d_CA_init_84 (fun H locs hP hD hS => ?_)
  have hP : va_P (dC, dI) vwCl [(a0, .inr (0, [.int sd, .int 0, .int 0, .int 0, .int 0, .int 0, .ref q1, .ref q2, .ref q3, .ref q4, .ref q5, .ref q6, .ref q8, .ref q10])), (q1, .inl (cA 0, 6, .inr (.inr (.inr (.inr (fun _ => none)))))), (q2, .inl (cA 1, 12, .inr (.inr (.inr (.inr (fun _ => none)))))), (q3, .inl (cA 2, 24, .inr (.inr (.inr (.inr (fun _ => none)))))), (q4, .inl (cA 3, 48, .inr (.inr (.inr (.inr (fun _ => none)))))), (q5, .inl (cA 4, 12, .inr (.inr (.inr (.inr (fun _ => none)))))), (q6, .inr (1, [.int 0, .ref q7])), (q7, .inl (cA 5, 8, .inl (fun _ => 0))), (q8, .inr (2, [.int 0, .ref q9])), (q9, .inl (cA 6, 96, .inl (fun _ => 0))), (q10, .inr (3, [.int 0, .int 0, .int 0, .int 0]))] H := hP
  have hD : va_D (B1 a0 s.heap.size) [(a0, .inr (0, [.int sd, .int 0, .int 0, .int 0, .int 0, .int 0, .ref q1, .ref q2, .ref q3, .ref q4, .ref q5, .ref q6, .ref q8, .ref q10])), (q1, .inl (cA 0, 6, .inr (.inr (.inr (.inr (fun _ => none)))))), (q2, .inl (cA 1, 12, .inr (.inr (.inr (.inr (fun _ => none)))))), (q3, .inl (cA 2, 24, .inr (.inr (.inr (.inr (fun _ => none)))))), (q4, .inl (cA 3, 48, .inr (.inr (.inr (.inr (fun _ => none)))))), (q5, .inl (cA 4, 12, .inr (.inr (.inr (.inr (fun _ => none)))))), (q6, .inr (1, [.int 0, .ref q7])), (q7, .inl (cA 5, 8, .inl (fun _ => 0))), (q8, .inr (2, [.int 0, .ref q9])), (q9, .inl (cA 6, 96, .inl (fun _ => 0))), (q10, .inr (3, [.int 0, .int 0, .int 0, .int 0]))] := hD
  have hP : va_P (dC, dI) vwCl (wB cA sd 11 (fun k => ([a0, q1, q2, q3, q4, q5, q6, q7, q8, q9, q10] : List Nat).getD k 0) (fun _ _ => none)) H := hP
  have hD : va_D (B1 a0 s.heap.size) (wB cA sd 11 (fun k => ([a0, q1, q2, q3, q4, q5, q6, q7, q8, q9, q10] : List Nat).getD k 0) (fun _ _ => none)) := hD
  refine lv_iconst (v := (0 : Int32)) hx hb d_CA_init_87 (by decide) ?_
  refine lv_istore_n (lv' := [(2, .int (0 : Int32)), (0, .ref a0), (1, .int sd)]) hx hb d_CA_init_88 rfl hl (by decide) rfl (fun ls hl => ?_)
  exact L89 6 0 rfl (fun k => ([a0, q1, q2, q3, q4, q5, q6, q7, q8, q9, q10] : List Nat).getD k 0) (fun _ _ => none) H locs ls rfl hP hD hS ⟨fun j hj => absurd hj (Nat.not_lt_zero j), fun j hj => absurd hj (Nat.not_lt_zero j), fun j hj => absurd hj (Nat.not_lt_zero j), fun j hj => absurd hj (Nat.not_lt_zero j), fun j hj => absurd hj (Nat.not_lt_zero j)⟩ hl
