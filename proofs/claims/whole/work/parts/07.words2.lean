def XIX : List Nat := [11, 12, 13, 14, 15, 16, 17, 24, 25, 26, 42, 50, 57, 68, 74, 89, 94, 101, 106, 135, 140, 157, 162, 174, 179, 203, 246, 315, 316, 317, 322, 323, 324, 325, 326, 327, 328, 329, 330, 331, 332, 333, 334, 335, 336, 337, 338, 339, 340, 341, 342, 343, 344, 345, 346, 347, 348, 349, 350, 351, 352, 353, 354, 355, 356, 357, 358, 359, 360, 361, 362, 363, 364, 365, 366, 367, 368, 369, 370, 371, 372, 373, 374, 375, 376, 377, 378, 379, 380, 381, 382, 383, 384, 385, 390, 391, 392, 393, 394, 395, 396, 397, 398, 399, 400, 401, 402, 403, 404, 413, 414, 415, 416, 417, 418, 419, 420, 421, 422, 423, 424, 425, 426, 427, 435, 444, 445, 446, 447, 448, 449, 450, 451, 452, 453, 454, 455, 456, 457, 458, 679, 788, 998]
def XAL : List Cond := XIX.filterMap (fun i => tables_1[i]?)
theorem XAL_in : ∀ w ∈ XAL, w ∈ tables_1 := fun w hw => by
  obtain ⟨i, -, h⟩ := List.mem_filterMap.mp hw
  exact List.mem_of_getElem? h
def XNG : List Cond := NGL ++ [.laysStatic Bundle.tN "UNASSIGNED_STACK" Bundle.steD, .laysStatic Bundle.tN "SUPPRESSED_SENTINEL" Bundle.listD, .isRef (.static Bundle.tN "UNASSIGNED_STACK" Bundle.steD), .isRef (.static Bundle.tN "SUPPRESSED_SENTINEL" Bundle.listD)]
theorem xc_hat {own cls : String} {ic : Nat} {names : List String} {dC : Nat → ClassId} {dI : Nat → Nat → Nat} {cA : Nat → ClassId} {ad : Nat → Nat} {X : ST} {s : State} {H : Heap} {locs : List Loc} {args : Array Value}
    (h : (Bundle.ownAtoms0 own ic cls names).all (fun w => (decide (w ∈ XAL) && goodWord w) || decide (w ∈ XNG)) = true) (hts : ∀ w ∈ GW, w.before args s = true) (hG : GC dC dI cA ad s) (hP : va_P (dC, dI) vwCl (wdC cA ad X) H) (hS : va_S (CA ad 125 s.heap.size) s.heap H locs) :
    ∀ U : State, U.heap = H → s.WarmedH U.vm → ∀ a ∈ Bundle.ownAtoms0 own ic cls names, a.before args U = true := by
  intro U hU hW a ha
  have hGU : GC dC dI cA ad U := (zwC_pre (av := []) hP hS hG U hU hW).2.2.2
  have h1 := List.all_eq_true.mp h a ha
  simp only [Bool.or_eq_true, Bool.and_eq_true, decide_eq_true_eq] at h1
  rcases h1 with ⟨h1, h2⟩ | h1
  · exact word_at hW (good_of_word h2) (hts a (gw_t (XAL_in a h1) h2))
  · rcases List.mem_append.mp h1 with h1 | h1
    · exact va_Nw.use (ngk_on (ng_k a h1)) (hGU.2.1 a h1)
    · simp only [List.mem_cons, List.not_mem_nil, or_false] at h1
      rcases h1 with rfl | rfl | rfl | rfl
      · exact hGU.2.2.1.lays
      · exact hGU.2.2.2.lays
      · exact hGU.2.2.1.isRef
      · exact hGU.2.2.2.isRef
set_option maxRecDepth 100000 in
theorem xa_0 : (Bundle.ownAtoms0 R_CA 95 "java/lang/IllegalArgumentException" ["java/lang/RuntimeException", "java/lang/Exception"]).all (fun w => (decide (w ∈ XAL) && goodWord w) || decide (w ∈ XNG)) = true := by decide +kernel
set_option maxRecDepth 100000 in
theorem xa_1 : (Bundle.ownAtoms0 R_CA 106 "java/lang/UnsupportedOperationException" ["java/lang/RuntimeException", "java/lang/Exception"]).all (fun w => (decide (w ∈ XAL) && goodWord w) || decide (w ∈ XNG)) = true := by decide +kernel
set_option maxRecDepth 100000 in
theorem xa_2 : (Bundle.ownAtoms0 R_CA 122 "java/lang/IllegalStateException" ["java/lang/RuntimeException", "java/lang/Exception"]).all (fun w => (decide (w ∈ XAL) && goodWord w) || decide (w ∈ XNG)) = true := by decide +kernel
set_option maxRecDepth 100000 in
theorem xa_3 : (Bundle.ownAtoms0 R_CA 179 "java/util/NoSuchElementException" ["java/lang/RuntimeException", "java/lang/Exception"]).all (fun w => (decide (w ∈ XAL) && goodWord w) || decide (w ∈ XNG)) = true := by decide +kernel
