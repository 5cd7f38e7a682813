/-- the class's state when the names below i are done -/
def mkO (n k e : Int32) (G : Int32 → Int32) (o nu : Nat) (X : ST) : Nat → ST
  | 0 => X
  | i + 1 => if hs n i then (if G (nI i) = -1 then atd (mkA (mkO n k e G o nu X i) (nu + ms G n i) k (nI i) e) o (cn n i) (nI (nu + ms G n i)) else atd (mkO n k e G o nu X i) o (cn n i) (G (nI i))) else mkO n k e G o nu X i
section MK
variable {X : ST} {na no nu np nn nt K : Nat} {n e : Int32} {G : Int32 → Int32}
theorem atd_g {S : ST} {o c g : Nat} {r : Int32} (h : g ≠ 25 ∧ g < 1000) : atd S o c r g = S g := funext (fun j => by unfold atd; rw [up_g h.1, up_g (by omega)])
theorem mkO_0 {i : Nat} {k : Int32} {o : Nat} (h : ¬ hs n i) : mkO n k e G o nu X (i + 1) = mkO n k e G o nu X i := if_neg h
theorem mkO_m {i : Nat} {k : Int32} {o : Nat} (h : hs n i) (h2 : G (nI i) = -1) : mkO n k e G o nu X (i + 1) = atd (mkA (mkO n k e G o nu X i) (nu + ms G n i) k (nI i) e) o (cn n i) (nI (nu + ms G n i)) := (if_pos h).trans (if_pos h2)
theorem mkO_v {i : Nat} {k : Int32} {o : Nat} (h : hs n i) (h2 : ¬ G (nI i) = -1) : mkO n k e G o nu X (i + 1) = atd (mkO n k e G o nu X i) o (cn n i) (G (nI i)) := (if_pos h).trans (if_neg h2)
theorem mkO_KV (h0 : KV na no nu np nn nt 0 X) (hG : ∀ m : Int32, nv X (nI K) m nu = G m) (hK : K < na) (hms : nu + ms G n 16 ≤ 24) (hcn : cn n 16 ≤ 4) : ∀ i : Nat, i ≤ 16 → KV na no (nu + ms G n i) np nn nt (cn n i) (mkO n (nI K) e G no nu X i) ∧ ∀ m : Int32, nv (mkO n (nI K) e G no nu X i) (nI K) m (nu + ms G n i) = G m := by
  intro i
  induction i with
  | zero => intro _; exact ⟨h0, hG⟩
  | succ i ih =>
    intro hi
    obtain ⟨ih1, ih2⟩ := ih (by omega)
    have m1 := ms_mono G n (i + 1) (15 - i)
    have m2 := cn_mono n (i + 1) (15 - i)
    rw [show i + 1 + (15 - i) = 16 by omega] at m1 m2
    by_cases e1 : hs n i
    · have c1 : cn n (i + 1) = cn n i + 1 := if_pos e1
      by_cases e2 : G (nI i) = -1
      · have s1 : ms G n (i + 1) = ms G n i + 1 := if_pos ⟨e1, e2⟩
        rw [mkO_m e1 e2, c1, s1, ← Nat.add_assoc]
        refine ⟨kv_atd (kv_mkA ih1 (by omega) hK) (by omega) (by omega), fun m => ?_⟩
        show (if _ then _ else _) = G m
        rw [if_neg]
        · rw [nv_of (X := mkO n (nI K) e G no nu X i) _ (fun a ha => ?_)]
          · exact ih2 m
          · rw [atd_g (by decide), atd_g (by decide), atd_g (by decide), mkA_j 31 (Or.inl rfl) (by omega), mkA_j 32 (Or.inr rfl) (by omega), mkA_g (by decide)]
            exact ⟨rfl, rfl, rfl⟩
        · intro q
          have q3 := q.2.2
          rw [atd_g (by decide), mkA_g (by decide), ih1.2.2.2.1.2.1 _ (Nat.le_refl _) (by omega)] at q3
          exact absurd q3 (by decide)
      · have s1 : ms G n (i + 1) = ms G n i := if_neg (fun q => e2 q.2)
        rw [mkO_v e1 e2, c1, s1]
        have ha : ∃ a : Nat, a < nu ∧ G (nI i) = nI a := by
          rcases nv_or X (nI K) (nI i) nu with q | q
          · exact absurd ((hG (nI i)).symm.trans q) e2
          · rw [hG] at q
            exact q
        obtain ⟨a, ha, hg⟩ := ha
        rw [hg]
        refine ⟨kv_atd ih1 (by omega) (by omega), fun m => ?_⟩
        rw [nv_of (X := mkO n (nI K) e G no nu X i) _ (fun a ha => ?_)]
        · exact ih2 m
        · rw [atd_g (by decide), atd_g (by decide), atd_g (by decide)]
          exact ⟨rfl, rfl, rfl⟩
    · rw [mkO_0 e1, show cn n (i + 1) = cn n i from if_neg e1, show ms G n (i + 1) = ms G n i from if_neg (fun q => e1 q.1)]
      exact ⟨ih1, ih2⟩
theorem c_attach {post : ST → Prop} {S : ST} {o c : Nat} {r : Int32} (ho : o < 12) (h25 : S 25 o = nI c) (hc : c < 4) (h : post (atd S o c r)) : wp_Ord_attach post S o r := by
  unfold wp_Ord_attach
  rw [up_g (show (25 : Nat) ≠ 1000 + (S 25 o).toNatClampNeg by omega), h25, nI_clamp (show c < 2 ^ 31 by omega), nI_1]
  exact ⟨ho, fun q => absurd (show nI 4 ≤ nI c from q) (nI_ge hc (by decide)), fun _ => ⟨vp_in_nI hc (by decide), h⟩⟩
theorem c_mkO {post : Int32 → ST → Prop} (h0 : KV na no nu np nn nt 0 X) (hno : no < 12) (hG : ∀ m : Int32, nv X (nI K) m nu = G m) (hK : K < na) (hms : nu + ms G n 16 ≤ 24) (hcn : cn n 16 ≤ 4) (h : post (nI no) (up (mkO n (nI K) e G no nu X 16) 3 0 (nI (no + 1)))) : ∃ n9, wq_CA_makeOrder_32 post (nI K) n e no n9 (0 : Int32) X := by
  have hk := mkO_KV (e := e) h0 hG hK hms hcn
  have key : ∀ d i : Nat, i + d = 16 → wq_CA_makeOrder_32 post (nI K) n e no (d + 1) (nI i) (mkO n (nI K) e G no nu X i) := by
    intro d
    induction d with
    | zero =>
      intro i hi
      have hi : i = 16 := hi
      subst hi
      rw [wq_CA_makeOrder_32]; dsimp only
      rw [(hk 16 (by omega)).1.1.2.1.1, nI_1]
      exact ⟨fun _ => h, fun q => absurd (by decide) q⟩
    | succ d ih =>
      intro i hi
      rw [wq_CA_makeOrder_32]; dsimp only
      rw [nI_1]
      obtain ⟨k1, k2⟩ := hk i (by omega)
      have m1 := ms_mono G n (i + 1) (15 - i)
      have m2 := cn_mono n (i + 1) (15 - i)
      rw [show i + 1 + (15 - i) = 16 by omega] at m1 m2
      have g := ih (i + 1) (by omega)
      have hle := k1.1.2.2.1.2
      refine ⟨fun a => absurd (show nI 16 ≤ nI i from a) (nI_ge (by omega) (by omega)), fun _ => c_has (br_b (fun e1 => ?_) (fun e1 => c_newest k1.1.2.2.1.1 hle ?_))⟩
      · rw [mkO_0 e1] at g
        exact g
      · have c1 : cn n (i + 1) = cn n i + 1 := if_pos e1
        rw [k2]
        unfold wq_CA_makeOrder_78
        refine ⟨fun e2 => ?_, fun e2 => ?_⟩
        · have s1 : ms G n (i + 1) = ms G n i + 1 := if_pos ⟨e1, e2⟩
          rw [mkO_m e1 e2] at g
          refine c_mkA k1.1.2.2.1.1 (by omega) ⟨hno, c_attach (c := cn n i) hno ?_ (by omega) ?_⟩
          · rw [mkA_g (by decide)]
            exact k1.2.2.1.2.2.2.1
          · rw [nI_1]
            exact g
        · rw [mkO_v e1 e2] at g
          refine ⟨hno, c_attach hno k1.2.2.1.2.2.2.1 (by omega) ?_⟩
          rw [nI_1]
          exact g
  exact ⟨17, key 16 0 (by omega)⟩
theorem m_mkO {post : Int32 → ST → Int64 → Prop} {Z : ST} {Y : Int64} {t l : Int32} (h0 : KV na no nu np nn nt 0 X) (hno : no < 12) (hG : ∀ m : Int32, nv X (nI K) m nu = G m) (hK : K < na) (hms : nu + ms G n 16 ≤ 24) (hcn : cn n 16 ≤ 4) (he : e = X 1 0 + l) (hE : EQ3 no np X Z t) (h : ∀ Z1 : ST, EQ3 no np (mkO n (nI K) e G no nu X 16) Z1 t → wp_MO_settle (fun (X4 : ST) (Y5 : Int64) => post (nI no) X4 Y5) Z1 Y) : ∃ n9, wq_MO_order_194 post (nI K) n l (nI no) n9 (0 : Int32) Z Y := by
  have hk := mkO_KV (e := e) h0 hG hK hms hcn
  have t1 : ∀ i : Nat, mkO n (nI K) e G no nu X i 1 0 = X 1 0 := by
    intro i
    induction i with
    | zero => rfl
    | succ i ih =>
      by_cases e1 : hs n i
      · by_cases e2 : G (nI i) = -1
        · rw [mkO_m e1 e2, atd_g (by decide), mkA_g (by decide)]
          exact ih
        · rw [mkO_v e1 e2, atd_g (by decide)]
          exact ih
      · rw [mkO_0 e1]
        exact ih
  have key : ∀ (d i : Nat) (Z1 : ST), i + d = 16 → EQ3 no np (mkO n (nI K) e G no nu X i) Z1 t → wq_MO_order_194 post (nI K) n l (nI no) (d + 1) (nI i) Z1 Y := by
    intro d
    induction d with
    | zero =>
      intro i Z1 hi hE1
      have hi : i = 16 := hi
      subst hi
      rw [wq_MO_order_194]; dsimp only
      exact ⟨fun _ => h Z1 hE1, fun q => absurd (by decide) q⟩
    | succ d ih =>
      intro i Z1 hi hE1
      rw [wq_MO_order_194]; dsimp only
      rw [nI_1]
      obtain ⟨k1, k2⟩ := hk i (by omega)
      have m1 := ms_mono G n (i + 1) (15 - i)
      have m2 := cn_mono n (i + 1) (15 - i)
      rw [show i + 1 + (15 - i) = 16 by omega] at m1 m2
      have g := fun Z1 => ih (i + 1) Z1 (by omega)
      have hle := k1.1.2.2.1.2
      have z4 : Z1 4 0 = nI (nu + ms G n i) := (hE1.a 4 0 (by decide) (by unfold cmp; omega)).trans k1.1.2.2.1.1
      have z25 : Z1 25 no = nI (cn n i) := (hE1.a 25 no (by decide) (by unfold cmp; omega)).trans k1.2.2.1.2.2.2.1
      have znv : nv Z1 (nI K) (nI i) (nu + ms G n i) = G (nI i) := by
        rw [nv_of (X := mkO n (nI K) e G no nu X i) _ (fun a ha => ⟨hE1.a 31 a (by decide) (by unfold cmp; omega), hE1.a 32 a (by decide) (by unfold cmp; omega), hE1.a 30 a (by decide) (by unfold cmp; omega)⟩)]
        exact k2 _
      refine ⟨fun a => absurd (show nI 16 ≤ nI i from a) (nI_ge (by omega) (by omega)), fun _ => m_has (br_b (fun e1 => ?_) (fun e1 => m_valid z4 hle ?_))⟩
      · rw [mkO_0 e1] at g
        exact g _ hE1
      · have c1 : cn n (i + 1) = cn n i + 1 := if_pos e1
        have hge : 0 ≤ G (nI i) ↔ ¬ G (nI i) = -1 := by rw [← znv]; exact nv_ge hle
        have e4 : (4 : Int32) * nI no + nI (cn n i) = nI (4 * no + cn n i) := by rw [show (4 : Int32) = nI 4 from rfl, pk_mul, nI_add]
        rw [znv]
        unfold wq_MO_order_254
        rw [nI_clamp (show no < 2 ^ 31 by omega), z25, e4, nI_clamp (show 4 * no + cn n i < 2 ^ 31 by omega), nI_1, nI_1]
        refine ⟨vp_in_nI hno (by decide), fun q => ?_, fun q => ?_⟩
        · rw [mkO_v e1 (hge.mp q)] at g
          exact ⟨vp_in_nI (by omega) (by decide), vp_in_nI hno (by decide), g _ ((hE1.at (by omega) _).upB 25 no _ (by decide))⟩
        · have e2 : G (nI i) = -1 := Decidable.of_not_not (fun r => q (hge.mpr r))
          have s1 : ms G n (i + 1) = ms G n i + 1 := if_pos ⟨e1, e2⟩
          rw [mkO_m e1 e2] at g
          refine m_mkA hE1 k1.1.2.2.1.1 (by omega) (k1.2.2.2.1.2.1 _ (Nat.le_refl _) (by omega)) k1.2.2.2.2.1.1 (fun Z2 hE2 => ?_)
          rw [t1, ← he] at hE2
          have y25 : Z2 25 no = nI (cn n i) := (hE2.a 25 no (by decide) (by unfold cmp; omega)).trans (by rw [mkA_g (by decide)]; exact k1.2.2.1.2.2.2.1)
          rw [y25, nI_1]
          exact ⟨vp_in_nI (by omega) (by decide), vp_in_nI hno (by decide), g _ ((hE2.at (by omega) _).upB 25 no _ (by decide))⟩
  exact ⟨17, key 16 0 Z (by omega) hE⟩
end MK

