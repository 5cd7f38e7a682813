-- ===== detail =====
def od (X : ST) (k : Int32) : Nat → Nat
  | 0 => 0
  | i + 1 => if X 21 i = k then od X k i + 1 else od X k i
section DT
variable {X Z : ST} {Y : Int64} {t k w : Int32} {na no nu np nn nt : Nat}
theorem c_od {post : Int32 → ST → Prop} (h3 : X 3 0 = nI no) (hno : no ≤ 12) (h : post (nI (od X k no)) X) : wp_CA_ordersOf post X k := by
  have key : ∀ d i : Nat, i + d = no → wq_CA_ordersOf_4 post k (d + 1) (nI (od X k i)) (nI i) X := by
    intro d
    induction d with
    | zero =>
      intro i hi
      have hi : i = no := hi
      subst hi
      rw [wq_CA_ordersOf_4]; dsimp only
      rw [h3]
      exact ⟨fun _ => h, fun a => absurd (nI_le (Nat.le_refl _) (by omega)) a⟩
    | succ d ih =>
      intro i hi
      rw [wq_CA_ordersOf_4]; dsimp only
      rw [h3, nI_clamp (show i < 2 ^ 31 by omega), nI_1, nI_1]
      have g := ih (i + 1) (by omega)
      refine ⟨fun a => absurd a (nI_ge (by omega) (by omega)), fun _ => ⟨vp_in_nI (by omega) (by decide), fun e => ?_, fun e => ?_⟩⟩
      · rw [show od X k (i + 1) = od X k i + 1 from if_pos e] at g
        exact g
      · rw [show od X k (i + 1) = od X k i from if_neg e] at g
        exact g
  exact ⟨no + 1, key no 0 (by omega)⟩
theorem m_od {post : Int32 → ST → Int64 → Prop} (hE : EQ no np X Z t) (h3 : X 3 0 = nI no) (hno : no ≤ 12) (h : ((w = 0 → (vp_in k 6 ∧ post (Z 11 k.toNatClampNeg) Z Y)) ∧ (¬ w = 0 → ((w = (1 : Int32) → post (nI (od X k no)) Z Y) ∧ (¬ w = (1 : Int32) → post (-1 : Int32) Z Y))))) : wp_MO_ofAccount post Z Y k w := by
  have z3 := (hE.a 3 0 (by unfold cmp; omega)).trans h3
  have key : ∀ d i : Nat, i + d = no → wq_MO_ofAccount_5 post k w (d + 1) (nI (od X k i)) (nI i) Z Y := by
    intro d
    induction d with
    | zero =>
      intro i hi
      have hi : i = no := hi
      subst hi
      rw [wq_MO_ofAccount_5]; dsimp only
      rw [z3]
      exact ⟨fun _ => h, fun a => absurd (nI_le (Nat.le_refl _) (by omega)) a⟩
    | succ d ih =>
      intro i hi
      rw [wq_MO_ofAccount_5]; dsimp only
      rw [z3, nI_clamp (show i < 2 ^ 31 by omega), nI_1, nI_1, hE.a 21 i (by unfold cmp; omega)]
      have g := ih (i + 1) (by omega)
      refine ⟨fun a => absurd a (nI_ge (by omega) (by omega)), fun _ => ⟨vp_in_nI (by omega) (by decide), fun e => ?_, fun e => ?_⟩⟩
      · rw [show od X k (i + 1) = od X k i + 1 from if_pos e] at g
        exact g
      · rw [show od X k (i + 1) = od X k i from if_neg e] at g
        exact g
  exact ⟨no + 1, key no 0 (by omega)⟩
theorem i_02 {k : Int32} (h1 : ¬ k < 0) (h2 : ¬ (2 : Int32) < k) : k = 0 ∨ k = 1 ∨ k = 2 := by
  rcases i_04 h1 (fun q => h2 (Int32.lt_trans (by decide) q)) with rfl | rfl | rfl | rfl | rfl
  · exact Or.inl rfl
  · exact Or.inr (Or.inl rfl)
  · exact Or.inr (Or.inr rfl)
  · exact absurd (by decide) h2
  · exact absurd (by decide) h2
/-- what an order, an authorization, a challenge, a certificate tells -/
theorem c_oto {post : Int32 → ST → Prop} {o n : Nat} (ho : o < 12) (hO : OR X o n) (h : ∀ r : Int32, (∀ (Z : ST) (t : Int32) (Y : Int64) (Q : Int32 → ST → Int64 → Prop), EQ no np X Z t → o < no → Q r Z Y → wp_MO_ofOrder Q Z Y (nI o) w) → post r X) : wp_Ord_told post X o w := by
  have hc : (nI o).toNatClampNeg = o := nI_clamp (by omega)
  have hv : vp_in (nI o) 12 := vp_in_nI ho (by decide)
  have hn := hO.1
  unfold wp_MO_ofOrder at h
  rw [hc] at h
  unfold wp_Ord_told wp_Ord_authorizationTold
  by_cases e0 : w < 0
  · refine tt e0 ⟨ho, tt (Int32.lt_trans e0 (by decide)) (h _ (fun Z t Y Q _ _ q => tt e0 (tt (Int32.le_of_lt (Int32.lt_trans e0 (by decide))) q)))⟩
  · refine ff e0 ?_
    obtain ⟨q, hq, rfl⟩ := nI_of e0
    by_cases e4 : (4 : Int32) < nI q
    · have hq5 : 4 < q := (nI_ltI (by decide) hq).mp (show nI 4 < nI q from e4)
      have e5 : ¬ nI q < (5 : Int32) := nI_nlt (b := 5) (by omega) hq
      have e6 : ¬ nI q ≤ (4 : Int32) := nI_ge (b := q) (a := 4) (by omega) hq
      refine tt e4 ⟨ho, ff e5 ⟨ho, ?_⟩⟩
      rw [hO.2.1, show (5 : Int32) + nI n = nI (5 + n) from nI_add 5 n]
      have s1 : nI q - (5 : Int32) = nI (q - 5) := pk_sub (b := 5) (by omega)
      by_cases e7 : nI (5 + n) ≤ nI q
      · refine tt e7 (h _ (fun Z t Y Q hE hono qq => ff e0 (tt e4 (ff e6 ⟨hv, ?_⟩))))
        rw [(hE.a 25 o (by unfold cmp; omega)).trans hO.2.1, show (5 : Int32) + nI n = nI (5 + n) from nI_add 5 n]
        exact tt e7 qq
      · have h8 : q < 5 + n := by
          rcases Nat.lt_or_ge q (5 + n) with r | r
          · exact r
          · exact absurd (nI_le r hq) e7
        refine ff e7 ?_
        rw [s1, nI_clamp (show q - 5 < 2 ^ 31 by omega)]
        refine ⟨vp_in_nI (by omega) (by decide), h _ (fun Z t Y Q hE hono qq => ff e0 (tt e4 (ff e6 ⟨hv, ?_⟩)))⟩
        rw [(hE.a 25 o (by unfold cmp; omega)).trans hO.2.1, show (5 : Int32) + nI n = nI (5 + n) from nI_add 5 n]
        refine ff e7 ?_
        have s2 : (4 : Int32) * nI o + nI q - 5 = nI (4 * o + (q - 5)) := by
          rw [show (4 : Int32) = nI 4 from rfl, pk_mul, nI_add, show (5 : Int32) = nI 5 from rfl, pk_sub (by omega)]
          congr 1
          omega
        rw [s2, nI_clamp (show 4 * o + (q - 5) < 2 ^ 31 by omega), ← hE.2.1 o (q - 5) ho (by omega)]
        exact ⟨vp_in_nI (by omega) (by decide), qq⟩
    · refine ff e4 ?_
      rcases i_04 e0 e4 with e | e | e | e | e
      · refine tt e ⟨ho, h _ (fun Z t Y Q hE hono qq => ff e0 (ff e4 (tt e ⟨hv, ?_⟩)))⟩
        rw [hE.a 21 o (by unfold cmp; omega)]
        exact qq
      · rw [e] at h e0 e4 ⊢
        refine ff (by decide) (tt rfl ⟨ho, h _ (fun Z t Y Q hE hono qq => ff e0 (ff e4 (ff (by decide) (tt rfl ⟨hv, ?_⟩))))⟩)
        rw [hE.a 22 o (by unfold cmp; omega)]
        exact qq
      · rw [e] at h e0 e4 ⊢
        refine ff (by decide) (ff (by decide) (tt rfl ⟨ho, h _ (fun Z t Y Q hE hono qq => ff e0 (ff e4 (ff (by decide) (ff (by decide) (tt rfl ⟨hv, ?_⟩)))))⟩))
        rw [hE.a 23 o (by unfold cmp; omega)]
        exact qq
      · rw [e] at h e0 e4 ⊢
        refine ff (by decide) (ff (by decide) (ff (by decide) (tt rfl ⟨ho, h _ (fun Z t Y Q hE hono qq => ff e0 (ff e4 (ff (by decide) (ff (by decide) (ff (by decide) (tt rfl ⟨hv, ?_⟩))))))⟩)))
        rw [hE.a 24 o (by unfold cmp; omega)]
        exact qq
      · rw [e] at h e0 e4 ⊢
        refine ff (by decide) (ff (by decide) (ff (by decide) (ff (by decide) (tt rfl ⟨ho, h _ (fun Z t Y Q hE hono qq => ff e0 (ff e4 (ff (by decide) (ff (by decide) (ff (by decide) (ff (by decide) (tt rfl ⟨hv, ?_⟩)))))))⟩))))
        rw [hE.a 25 o (by unfold cmp; omega)]
        exact qq
theorem c_cto {post : Int32 → ST → Prop} {c o : Nat} (hc : c < np) (hnp : np ≤ 12) (ho : o < 12) (h51 : X 51 c = nI o) (h52 : X 52 c = X 22 o) (h : ∀ r : Int32, (∀ (Z : ST) (t : Int32) (Y : Int64) (Q : Int32 → ST → Int64 → Prop), EQ no np X Z t → Q r Z Y → wp_MO_ofPaper Q Z Y (nI c) w) → post r X) : wp_Cer_told post X c w := by
  have hcc : (nI c).toNatClampNeg = c := nI_clamp (by omega)
  have hv : vp_in (nI c) 12 := vp_in_nI (by omega) (by decide)
  have hc12 : c < 12 := by omega
  unfold wp_MO_ofPaper at h
  rw [hcc] at h
  unfold wp_Cer_told
  by_cases e0 : w < 0
  · exact tt e0 (h _ (fun Z t Y Q hE q => tt e0 (ff (fun r => by rw [r] at e0; exact absurd e0 (by decide)) q)))
  · refine ff e0 ?_
    by_cases e4 : (4 : Int32) < w
    · exact tt e4 (h _ (fun Z t Y Q hE q => ff e0 (tt (Int32.lt_trans (by decide) e4) (ff (fun r => by rw [r] at e4; exact absurd e4 (by decide)) q))))
    · refine ff e4 ?_
      rcases i_04 e0 e4 with rfl | rfl | rfl | rfl | rfl
      · refine tt rfl ⟨hc12, h _ (fun Z t Y Q hE qq => ff e0 (ff (by decide) (tt rfl ⟨hv, ?_⟩)))⟩
        rw [hE.a 51 c (by unfold cmp; omega)]
        exact qq
      · refine ff (by decide) (tt rfl ⟨hc12, h _ (fun Z t Y Q hE qq => ff e0 (ff (by decide) (ff (by decide) (tt rfl ⟨hv, ?_⟩))))⟩)
        rw [(hE.a 51 c (by unfold cmp; omega)).trans h51, nI_clamp (show o < 2 ^ 31 by omega), hE.a 22 o (by unfold cmp; omega), ← h52]
        exact ⟨vp_in_nI ho (by decide), qq⟩
      · refine ff (by decide) (ff (by decide) (tt rfl ⟨hc12, h _ (fun Z t Y Q hE qq => ff e0 (ff (by decide) (ff (by decide) (ff (by decide) (tt rfl ⟨hv, ?_⟩)))))⟩))
        rw [hE.a 53 c (by unfold cmp; omega)]
        exact qq
      · refine ff (by decide) (ff (by decide) (ff (by decide) (tt rfl ⟨hc12, h _ (fun Z t Y Q hE qq => ff e0 (ff (by decide) (ff (by decide) (ff (by decide) (ff (by decide) (tt rfl ⟨hv, ?_⟩))))))⟩)))
        rw [hE.a 54 c (by unfold cmp; omega)]
        exact qq
      · refine ff (by decide) (ff (by decide) (ff (by decide) (ff (by decide) (tt rfl ⟨hc12, h _ (fun Z t Y Q hE qq => ff e0 (tt (by decide) (tt rfl ⟨hv, ?_⟩)))⟩))))
        rw [hE.a 55 c (by unfold cmp; omega)]
        exact qq
end DT
theorem sp_18 {X : ST} {O : Nat → Int64} {Z : ST} {Y : Int64} (h : RL X O Z Y) (a1 a2 a3 : Int32) : cs_18 RL X O Z Y a1 a2 a3 := by
  obtain ⟨na, no, nu, np, nn, nt, t, hI, hE⟩ := h
  have b1 := hI.1.1.2
  have b2 := hI.1.2.1.2
  have b3 := hI.1.2.2.1.2
  have b4 := hI.1.2.2.2.1.2
  suffices key : ∀ P : Int32 → ST → (Nat → Int64) → Prop, (∀ k X1 O1, wp_MO_detail (FN k X1 O1) Z Y a1 a2 a3 → P k X1 O1) → wp_LW_detail P X O a1 a2 a3 from key _ (fun _ _ _ h => h)
  intro P hP
  unfold wp_MO_detail at hP
  unfold wp_LW_detail wp_CA_detail
  have hE0 := hE.thr 0
  refine c_req (fun q => ⟨rfl, hP _ _ _ <| m_look hE (fun _ => ff (by rw [up_eq]; decide) (fin9 hI (hE.thr 1) n1)) (fun r1 r2 => absurd q (fun q => q.elim r1 (fun r => r r2)))⟩) (fun q1 q2 => ?_)
  obtain ⟨K, rfl, hk⟩ := ctv_n hI q1 q2
  have ml : ∀ (Q : ST → Int64 → Prop), Q (up Z 90 0 0) Y → wp_MO_look Q Z Y a1 (nI K) := fun Q hQ => m_look hE (fun q => absurd q (fun q => q.elim q1 (fun r => r q2))) (fun _ _ => hQ)
  have y90 : up Z 90 0 0 90 0 = 0 := up_eq _ _ _ _
  have hcK : (nI K).toNatClampNeg = K := by
    refine nI_clamp ?_
    rcases hk with ⟨_, hk⟩ | ⟨_, hk⟩ | ⟨_, hk⟩ | ⟨_, hk⟩ | ⟨_, hk⟩ <;> omega
  have fin : ∀ r : Int32, FN 0 X (vp_updL O 0 r.toInt64) r (up Z 90 0 0) Y := fun r => fin9 hI hE0 (fun _ => pk_uLs)
  rw [hcK]
  rcases hk with ⟨rfl, hk⟩ | ⟨rfl, hk⟩ | ⟨rfl, hk⟩ | ⟨rfl, hk⟩ | ⟨rfl, hk⟩
  · refine ff (by decide) (ff (by decide) (tt rfl ?_))
    have go : ∀ r : Int32, ((a3 = 0 → (vp_in (nI K) 6 ∧ FN 0 X (vp_updL O 0 r.toInt64) (up Z 90 0 0 11 (nI K).toNatClampNeg) (up Z 90 0 0) Y)) ∧ (¬ a3 = 0 → ((a3 = (1 : Int32) → FN 0 X (vp_updL O 0 r.toInt64) (nI (od X (nI K) no)) (up Z 90 0 0) Y) ∧ (¬ a3 = (1 : Int32) → FN 0 X (vp_updL O 0 r.toInt64) (-1 : Int32) (up Z 90 0 0) Y)))) → P 0 X (vp_updL O 0 r.toInt64) := fun r hr => hP _ _ _ <| ml _ (tt y90 (ff (by decide) (ff (by decide) (tt rfl (m_od hE0 hI.1.2.1.1 b2 hr)))))
    have hv : vp_in (nI K) 6 := vp_in_nI (by omega) (by decide)
    unfold wp_CA_accountDetail
    rw [hcK]
    refine ⟨fun e => ⟨hv, go _ (tt e ⟨hv, ?_⟩)⟩, fun e => ⟨fun e2 => c_od hI.1.2.1.1 b2 (go _ (ff e (tt e2 (fin _)))), fun e2 => go _ (ff e (ff e2 (fin _)))⟩⟩
    rw [hcK, hE0.a 11 K (by unfold cmp; omega)]
    exact fin _
  · obtain ⟨n, hO⟩ := hI.2.2.1.or b3 hk
    refine ff (by decide) (ff (by decide) (ff (by decide) (tt rfl ⟨vp_in_nI (by omega) (by decide), c_oto (no := no) (np := np) (by omega) hO (fun r hr => hP _ _ _ <| ml _ (tt y90 (ff (by decide) (ff (by decide) (ff (by decide) (tt rfl (hr _ _ _ _ hE0 hk (fin r))))))))⟩)))
  · refine ff (by decide) (ff (by decide) (ff (by decide) (ff (by decide) (tt rfl ⟨vp_in_nI (by omega) (by decide), ?_⟩))))
    have go : ∀ r : Int32, ((a3 = 0 → (vp_in (nI K) 24 ∧ FN 0 X (vp_updL O 0 r.toInt64) (up Z 90 0 0 31 (nI K).toNatClampNeg) (up Z 90 0 0) Y)) ∧ (¬ a3 = 0 → ((a3 = (1 : Int32) → (vp_in (nI K) 24 ∧ FN 0 X (vp_updL O 0 r.toInt64) (up Z 90 0 0 32 (nI K).toNatClampNeg) (up Z 90 0 0) Y)) ∧ (¬ a3 = (1 : Int32) → ((a3 = (2 : Int32) → (vp_in (nI K) 24 ∧ FN 0 X (vp_updL O 0 r.toInt64) (up Z 90 0 0 33 (nI K).toNatClampNeg) (up Z 90 0 0) Y)) ∧ (¬ a3 = (2 : Int32) → FN 0 X (vp_updL O 0 r.toInt64) (-1 : Int32) (up Z 90 0 0) Y)))))) → P 0 X (vp_updL O 0 r.toInt64) := fun r hr => hP _ _ _ <| ml _ (tt y90 (ff (by decide) (ff (by decide) (ff (by decide) (ff (by decide) (tt rfl hr))))))
    have hv : vp_in (nI K) 24 := vp_in_nI (by omega) (by decide)
    rw [hcK, hE0.a 31 K (by unfold cmp; omega), hE0.a 32 K (by unfold cmp; omega), hE0.a 33 K (by unfold cmp; omega)] at go
    unfold wp_Aut_told
    have hK24 : K < 24 := by omega
    by_cases e0 : a3 < 0
    · exact tt e0 (go _ (ff (fun e => by rw [e] at e0; exact absurd e0 (by decide)) (ff (fun e => by rw [e] at e0; exact absurd e0 (by decide)) (ff (fun e => by rw [e] at e0; exact absurd e0 (by decide)) (fin _)))))
    · refine ff e0 ?_
      by_cases e2 : (2 : Int32) < a3
      · exact tt e2 (go _ (ff (fun e => by rw [e] at e2; exact absurd e2 (by decide)) (ff (fun e => by rw [e] at e2; exact absurd e2 (by decide)) (ff (fun e => by rw [e] at e2; exact absurd e2 (by decide)) (fin _)))))
      · refine ff e2 ?_
        rcases i_02 e0 e2 with rfl | rfl | rfl
        · exact tt rfl ⟨hK24, go _ (tt rfl ⟨hv, fin _⟩)⟩
        · exact ff (by decide) (tt rfl ⟨hK24, go _ (ff (by decide) (tt rfl ⟨hv, fin _⟩))⟩)
        · exact ff (by decide) (ff (by decide) (tt rfl ⟨hK24, go _ (ff (by decide) (ff (by decide) (tt rfl ⟨hv, fin _⟩)))⟩))
  · refine ff (by decide) (ff (by decide) (ff (by decide) (ff (by decide) (ff (by decide) (tt rfl ⟨vp_in_nI (by omega) (by decide), ?_⟩)))))
    have go : ∀ r : Int32, ((a3 = 0 → (vp_in (nI K) 48 ∧ FN 0 X (vp_updL O 0 r.toInt64) (up Z 90 0 0 41 (nI K).toNatClampNeg) (up Z 90 0 0) Y)) ∧ (¬ a3 = 0 → ((a3 = (1 : Int32) → (vp_in (nI K) 48 ∧ FN 0 X (vp_updL O 0 r.toInt64) (up Z 90 0 0 42 (nI K).toNatClampNeg) (up Z 90 0 0) Y)) ∧ (¬ a3 = (1 : Int32) → FN 0 X (vp_updL O 0 r.toInt64) (-1 : Int32) (up Z 90 0 0) Y)))) → P 0 X (vp_updL O 0 r.toInt64) := fun r hr => hP _ _ _ <| ml _ (tt y90 (ff (by decide) (ff (by decide) (ff (by decide) (ff (by decide) (ff (by decide) (tt rfl hr)))))))
    have hv : vp_in (nI K) 48 := vp_in_nI (by omega) (by decide)
    rw [hcK, hE0.a 41 K (by unfold cmp; omega), hE0.a 42 K (by unfold cmp; omega)] at go
    unfold wp_Cha_told
    have hK48 : K < 48 := by omega
    exact ⟨fun e => ⟨hK48, go _ (tt e ⟨hv, fin _⟩)⟩, fun e => ⟨fun e2 => ⟨hK48, go _ (ff e (tt e2 ⟨hv, fin _⟩))⟩, fun e2 => go _ (ff e (ff e2 (fin _)))⟩⟩
  · obtain ⟨o, ho, h51, h52, _⟩ := hI.2.2.2.2.2.1.1 K hk
    refine ff (by decide) (tt (by decide) ⟨vp_in_nI (by omega) (by decide), c_cto (no := no) (np := np) hk b4 (by omega) h51 h52 (fun r hr => hP _ _ _ <| ml _ (tt y90 (ff (by decide) (tt (by decide) (hr _ _ _ _ hE0 (fin r))))))⟩)

