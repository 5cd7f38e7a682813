-- ===== feed =====
def by8 (v : Int64) (j : Nat) : Int32 := nI (v.toBitVec.toNat / 2 ^ (8 * j) % 256)
theorem sh8a : ∀ j : Nat, j < 8 → ((((8 : Int32) * nI j).toInt64.toUInt64 &&& Int64.toUInt64 63).toBitVec % 64).toNat = 8 * j := by decide +kernel
theorem sh8b : ∀ j : Nat, j < 8 → ((((8 : Int32) * nI j).toInt64 &&& 63).toBitVec.smod 64).toNat = 8 * j := by decide +kernel
theorem by_c {v : Int64} {j : Nat} (hj : j < 8) : (((v.toUInt64 >>> (((8 : Int32) * nI j).toInt64.toUInt64 &&& Int64.toUInt64 63)).toInt64).toInt32) &&& (255 : Int32) = by8 v j := by
  rw [pk_and _ 8 rfl]
  unfold by8
  congr 1
  rw [Int64.toBitVec_toInt32, BitVec.signExtend_eq_setWidth_of_le _ (by decide)]
  show (BitVec.setWidth 32 ((v.toUInt64 >>> (((8 : Int32) * nI j).toInt64.toUInt64 &&& Int64.toUInt64 63)).toBitVec)).toNat % 2 ^ 8 = _
  rw [UInt64.toBitVec_shiftRight, BitVec.toNat_setWidth]
  show (v.toBitVec >>> ((((8 : Int32) * nI j).toInt64.toUInt64 &&& Int64.toUInt64 63).toBitVec % 64).toNat).toNat % 2 ^ 32 % 2 ^ 8 = _
  rw [BitVec.toNat_ushiftRight, sh8a j hj, Nat.shiftRight_eq_div_pow, Nat.mod_mod_of_dvd _ (by decide)]
theorem sr_mod (b : BitVec 64) (s : Nat) (hs : s ≤ 56) : (b.sshiftRight s).toNat % 256 = b.toNat / 2 ^ s % 256 := by
  have h1 : (b.sshiftRight s).setWidth 8 = (b >>> s).setWidth 8 := by
    apply BitVec.eq_of_getLsbD_eq
    intro i hi
    rw [BitVec.getLsbD_setWidth, BitVec.getLsbD_setWidth, BitVec.getLsbD_sshiftRight, BitVec.getLsbD_ushiftRight, if_pos (by omega), show decide (64 ≤ i) = false from decide_eq_false (by omega)]
    simp
  have h2 := congrArg BitVec.toNat h1
  rw [BitVec.toNat_setWidth, BitVec.toNat_setWidth, BitVec.toNat_ushiftRight, Nat.shiftRight_eq_div_pow] at h2
  exact h2
theorem by_m {v : Int64} {j : Nat} (hj : j < 8) : ((v >>> (((8 : Int32) * nI j).toInt64 &&& 63)) &&& (255 : Int64)).toInt32 = by8 v j := by
  apply Int32.toBitVec_inj.mp
  apply BitVec.eq_of_toNat_eq
  unfold by8
  rw [Int64.toBitVec_toInt32, BitVec.signExtend_eq_setWidth_of_le _ (by decide), BitVec.toNat_setWidth, Int64.toBitVec_and, Int64.toBitVec_shiftRight, BitVec.toNat_and]
  rw [show (255 : Int64).toBitVec.toNat = 2 ^ 8 - 1 from rfl, Nat.and_two_pow_sub_one_eq_mod]
  show (v.toBitVec.sshiftRight ((((8 : Int32) * nI j).toInt64 &&& 63).toBitVec.smod 64).toNat).toNat % 256 % 2 ^ 32 = _
  rw [sh8b j hj, sr_mod _ _ (by omega)]
  rfl
def fd (v : Int64) : Nat → Nat → ST → ST
  | 0, _, X => X
  | m + 1, s, X => fd v m (s + 1) (up (up X 63 s (by8 v m)) 7 0 (nI (s + 1)))
theorem by8_lt (v : Int64) (j : Nat) : ∃ w : Nat, w < 256 ∧ by8 v j = nI w := ⟨_, Nat.mod_lt _ (by decide), rfl⟩
section FD
variable {X Z : ST} {Y : Int64} {t : Int32} {na no nu np nn nt s : Nat} {v : Int64}
theorem IV.b {j : Nat} (h : IV na no nu np nn nt X) (hs : nt < 96) : IV na no nu np nn (nt + 1) (up (up X 63 nt (by8 v j)) 7 0 (nI (nt + 1))) := by
  have h1 : IV na no nu np nn nt (up X 63 nt (by8 v j)) := by
    refine ⟨h.1.u (by decide), h.2.1.u (by decide), h.2.2.1.u (by decide), h.2.2.2.1.u (by decide), h.2.2.2.2.1.u (by decide), h.2.2.2.2.2.1.u (by decide), fun i hi => ?_, h.2.2.2.2.2.2.2.u (by decide)⟩
    by_cases e : i = nt
    · rw [e, up_eq]
      exact by8_lt v j
    · rw [up_j e]
      exact h.2.2.2.2.2.2.1 i hi
  refine h1.n (by decide) ?_ h1.2.1 h1.2.2.1 h1.2.2.2.1 h1.2.2.2.2.1 h1.2.2.2.2.2.1 h1.2.2.2.2.2.2.2
  have := h1.1
  unfold IN at this ⊢
  rw [up_g (show (2 : Nat) ≠ 7 by decide), up_g (show (3 : Nat) ≠ 7 by decide), up_g (show (4 : Nat) ≠ 7 by decide), up_g (show (5 : Nat) ≠ 7 by decide), up_g (show (6 : Nat) ≠ 7 by decide), up_eq]
  exact ⟨this.1, this.2.1, this.2.2.1, this.2.2.2.1, this.2.2.2.2.1, rfl, by omega⟩
theorem fd_IV : ∀ (m s : Nat) (X : ST), IV na no nu np nn s X → s + m ≤ 96 → IV na no nu np nn (s + m) (fd v m s X) := by
  intro m
  induction m with
  | zero => intro s X h _; exact h
  | succ m ih =>
    intro s X h hs
    rw [show s + (m + 1) = s + 1 + m by omega]
    exact ih (s + 1) _ (h.b (by omega)) (by omega)
theorem c_fd {post : Int32 → ST → Prop} : ∀ (m s : Nat) (X : ST), X 7 0 = nI s → s + m ≤ 96 → m ≤ 8 → post 1 (fd v m s X) → wq_Txt_append_18 post v (m + 1) (nI m - 1) X := by
  intro m
  induction m with
  | zero =>
    intro s X h7 hs hm h
    rw [wq_Txt_append_18]; dsimp only
    exact ⟨fun _ => h, fun q => absurd (by decide) q⟩
  | succ m ih =>
    intro s X h7 hs hm h
    rw [wq_Txt_append_18]; dsimp only
    rw [nI_pred, h7, nI_clamp (show s < 2 ^ 31 by omega), nI_1, by_c (by omega), show nI m + (-1 : Int32) = nI m - 1 from (Int32.sub_eq_add_neg _ _).symm]
    exact ⟨fun q => absurd q (nI_pos (by omega)), fun _ => ⟨vp_in_nI (by omega) (by decide), ih (s + 1) _ (up_eq _ _ _ _) (by omega) (by omega) h⟩⟩
theorem m_fd {post : Int32 → ST → Int64 → Prop} : ∀ (m s : Nat) (X Z : ST), X 7 0 = nI s → s + m ≤ 96 → m ≤ 8 → EQ no np X Z t → (∀ Z1 : ST, EQ no np (fd v m s X) Z1 t → post 1 Z1 Y) → wq_MO_feed_34 post v (m + 1) (nI m - 1) Z Y := by
  intro m
  induction m with
  | zero =>
    intro s X Z h7 hs hm hE h
    rw [wq_MO_feed_34]; dsimp only
    exact ⟨fun _ => h Z hE, fun q => absurd (by decide) q⟩
  | succ m ih =>
    intro s X Z h7 hs hm hE h
    have z7 : Z 7 0 = nI s := (hE.a 7 0 (by unfold cmp; omega)).trans h7
    rw [wq_MO_feed_34]; dsimp only
    rw [nI_pred, z7, nI_clamp (show s < 2 ^ 31 by omega), nI_1, by_m (by omega), show nI m + (-1 : Int32) = nI m - 1 from (Int32.sub_eq_add_neg _ _).symm]
    exact ⟨fun q => absurd q (nI_pos (by omega)), fun _ => ⟨vp_in_nI (by omega) (by decide), ih (s + 1) _ _ (up_eq _ _ _ _) (by omega) (by omega) ((hE.upB 63 s _ (by decide)).upB 7 0 _ (by decide)) h⟩⟩
end FD
theorem sp_12 {X : ST} {O : Nat → Int64} {Z : ST} {Y : Int64} (h : RL X O Z Y) (a1 : Int64) (a2 : Int32) : cs_12 RL X O Z Y a1 a2 := by
  obtain ⟨na, no, nu, np, nn, nt, t, hI, hE⟩ := h
  have hnt := hI.1.2.2.2.2.2.2
  have x7 : X 7 0 = nI nt := hI.1.2.2.2.2.2.1
  have z7 : Z 7 0 = nI nt := (hE.a 7 0 (by unfold cmp; omega)).trans x7
  have no0 : (0 : Int32) = 0 ∧ RL X O (up Z 90 0 0) Y := ⟨rfl, na, no, nu, np, nn, nt, 0, hI, hE.thr 0⟩
  suffices key : ∀ P : Int32 → ST → Prop, (∀ r X1, wp_MO_feed (fun (r2 : Int32) (Z1 : ST) (Y1 : Int64) => r = r2 ∧ RL X1 O Z1 Y1) Z Y a1 a2 → P r X1) → wp_CA_feed P X a1 a2 from key _ (fun _ _ h => h)
  intro P hP
  unfold wp_MO_feed at hP
  unfold wp_CA_feed wp_Txt_append
  refine ⟨fun e => hP _ _ ⟨fun _ => no0, fun q => absurd e q⟩, fun e1 => ⟨fun e => hP _ _ ⟨fun q => absurd q e1, fun _ => ⟨fun _ => no0, fun q => absurd e q⟩⟩, fun e2 => ?_⟩⟩
  obtain ⟨n, hn', rfl⟩ := nI_of (x := a2) (fun q => e1 (Int32.lt_of_lt_of_le q (by decide)))
  have hn : n ≤ 8 := by
    rcases Nat.lt_or_ge 8 n with q | q
    · exact absurd (show nI 8 < nI n from nI_lt q hn') e2
    · exact q
  rw [x7, show (96 : Int32) - nI nt = nI (96 - nt) from pk_sub (a := 96) hnt]
  refine ⟨fun e3 => ?_, fun e3 => ⟨fun _ => hP _ _ ⟨fun q => absurd q e1, fun _ => ⟨fun q => absurd q e2, fun _ => ?_⟩⟩, fun q => absurd rfl q⟩⟩
  · have h3 : n ≤ 96 - nt := (nI_leI (by omega) (by omega)).mp e3
    refine ⟨n + 1, c_fd n nt X x7 (by omega) hn ⟨n1, fun _ => hP _ _ ⟨fun q => absurd q e1, fun _ => ⟨fun q => absurd q e2, fun _ => ?_⟩⟩⟩⟩
    rw [z7, nI_add]
    refine ⟨fun _ => ⟨n + 1, m_fd n nt X _ x7 (by omega) hn (hE.thr 0) (fun Z1 hE1 => ⟨rfl, na, no, nu, np, nn, nt + n, 0, fd_IV n nt X hI (by omega), hE1⟩)⟩, fun q => absurd (show nI (nt + n) ≤ nI 96 from nI_le (by omega) (by decide)) q⟩
  · rw [z7, nI_add]
    refine ⟨fun q => absurd (nI_le ?_ (by omega)) e3, fun _ => no0⟩
    have := (nI_leI (by omega) (by decide)).mp (show nI (nt + n) ≤ nI 96 from q)
    omega

