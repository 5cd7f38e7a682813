def R_Int : String := "java/lang/Integer"
def R_CA : String := "ChallengeAuthority"
def T_CA : u_T := fun k => match k with
  | 0 => ("ChallengeAuthority", "drawState", "I", false)
  | 1 => ("ChallengeAuthority", "time", "I", false)
  | 2 => ("ChallengeAuthority", "accountCount", "I", false)
  | 3 => ("ChallengeAuthority", "orderCount", "I", false)
  | 4 => ("ChallengeAuthority", "authorizationCount", "I", false)
  | 5 => ("ChallengeAuthority", "certificateCount", "I", false)
  | 6 => ("ChallengeAuthority", "accounts", "[LChallengeAuthority$Account;", true)
  | 7 => ("ChallengeAuthority", "orders", "[LChallengeAuthority$Order;", true)
  | 8 => ("ChallengeAuthority", "authorizations", "[LChallengeAuthority$Authorization;", true)
  | 9 => ("ChallengeAuthority", "challenges", "[LChallengeAuthority$Challenge;", true)
  | 10 => ("ChallengeAuthority", "certificates", "[LChallengeAuthority$Certificate;", true)
  | 11 => ("ChallengeAuthority", "nonces", "LChallengeAuthority$Nonces;", true)
  | 12 => ("ChallengeAuthority", "text", "LChallengeAuthority$Text;", true)
  | _ => ("ChallengeAuthority", "request", "LChallengeAuthority$Request;", true)
def ty_CA : Nat → FieldType := fun k => match k with
  | 0 => .int
  | 1 => .int
  | 2 => .int
  | 3 => .int
  | 4 => .int
  | 5 => .int
  | 6 => .array (.object "ChallengeAuthority$Account")
  | 7 => .array (.object "ChallengeAuthority$Order")
  | 8 => .array (.object "ChallengeAuthority$Authorization")
  | 9 => .array (.object "ChallengeAuthority$Challenge")
  | 10 => .array (.object "ChallengeAuthority$Certificate")
  | 11 => .object "ChallengeAuthority$Nonces"
  | 12 => .object "ChallengeAuthority$Text"
  | _ => .object "ChallengeAuthority$Request"
theorem ty_CA_ok : ∀ k, k < 14 → parseFieldDescriptor (T_CA k).2.2.1 = some (ty_CA k) := by decide +kernel
theorem nm_CA : ∀ a, a < 14 → ∀ b, b < 14 → a ≠ b → (T_CA a).2.1 ≠ (T_CA b).2.1 := by decide +kernel
theorem in_CA : ∀ w ∈ u_ws R_CA T_CA 14, w ∈ GW := by
  intro w hw
  obtain ⟨k, hk, rfl⟩ := List.mem_map.mp hw
  have hk := List.mem_range.mp hk
  rcases (show k = 0 ∨ k = 1 ∨ k = 2 ∨ k = 3 ∨ k = 4 ∨ k = 5 ∨ k = 6 ∨ k = 7 ∨ k = 8 ∨ k = 9 ∨ k = 10 ∨ k = 11 ∨ k = 12 ∨ k = 13 by omega) with rfl | rfl | rfl | rfl | rfl | rfl | rfl | rfl | rfl | rfl | rfl | rfl | rfl | rfl
  · exact gw_460
  · exact gw_461
  · exact gw_462
  · exact gw_463
  · exact gw_464
  · exact gw_465
  · exact gw_466
  · exact gw_467
  · exact gw_468
  · exact gw_469
  · exact gw_470
  · exact gw_471
  · exact gw_472
  · exact gw_473
def R_Non : String := "ChallengeAuthority$Nonces"
def T_Non : u_T := fun k => match k with
  | 0 => ("ChallengeAuthority$Nonces", "count", "I", false)
  | _ => ("ChallengeAuthority$Nonces", "out", "[I", true)
def ty_Non : Nat → FieldType := fun k => match k with
  | 0 => .int
  | _ => .array (.int)
theorem ty_Non_ok : ∀ k, k < 2 → parseFieldDescriptor (T_Non k).2.2.1 = some (ty_Non k) := by decide +kernel
theorem nm_Non : ∀ a, a < 2 → ∀ b, b < 2 → a ≠ b → (T_Non a).2.1 ≠ (T_Non b).2.1 := by decide +kernel
theorem in_Non : ∀ w ∈ u_ws R_Non T_Non 2, w ∈ GW := by
  intro w hw
  obtain ⟨k, hk, rfl⟩ := List.mem_map.mp hw
  have hk := List.mem_range.mp hk
  rcases (show k = 0 ∨ k = 1 by omega) with rfl | rfl
  · exact gw_474
  · exact gw_475
def R_Txt : String := "ChallengeAuthority$Text"
def T_Txt : u_T := fun k => match k with
  | 0 => ("ChallengeAuthority$Text", "size", "I", false)
  | _ => ("ChallengeAuthority$Text", "bytes", "[I", true)
def ty_Txt : Nat → FieldType := fun k => match k with
  | 0 => .int
  | _ => .array (.int)
theorem ty_Txt_ok : ∀ k, k < 2 → parseFieldDescriptor (T_Txt k).2.2.1 = some (ty_Txt k) := by decide +kernel
theorem nm_Txt : ∀ a, a < 2 → ∀ b, b < 2 → a ≠ b → (T_Txt a).2.1 ≠ (T_Txt b).2.1 := by decide +kernel
theorem in_Txt : ∀ w ∈ u_ws R_Txt T_Txt 2, w ∈ GW := by
  intro w hw
  obtain ⟨k, hk, rfl⟩ := List.mem_map.mp hw
  have hk := List.mem_range.mp hk
  rcases (show k = 0 ∨ k = 1 by omega) with rfl | rfl
  · exact gw_476
  · exact gw_477
def R_Req : String := "ChallengeAuthority$Request"
def T_Req : u_T := fun k => match k with
  | 0 => ("ChallengeAuthority$Request", "key", "I", false)
  | 1 => ("ChallengeAuthority$Request", "names", "I", false)
  | 2 => ("ChallengeAuthority$Request", "at", "I", false)
  | _ => ("ChallengeAuthority$Request", "sound", "Z", false)
def ty_Req : Nat → FieldType := fun k => match k with
  | 0 => .int
  | 1 => .int
  | 2 => .int
  | _ => .boolean
theorem ty_Req_ok : ∀ k, k < 4 → parseFieldDescriptor (T_Req k).2.2.1 = some (ty_Req k) := by decide +kernel
theorem nm_Req : ∀ a, a < 4 → ∀ b, b < 4 → a ≠ b → (T_Req a).2.1 ≠ (T_Req b).2.1 := by decide +kernel
theorem in_Req : ∀ w ∈ u_ws R_Req T_Req 4, w ∈ GW := by
  intro w hw
  obtain ⟨k, hk, rfl⟩ := List.mem_map.mp hw
  have hk := List.mem_range.mp hk
  rcases (show k = 0 ∨ k = 1 ∨ k = 2 ∨ k = 3 by omega) with rfl | rfl | rfl | rfl
  · exact gw_478
  · exact gw_479
  · exact gw_480
  · exact gw_481
def R_Acc : String := "ChallengeAuthority$Account"
def T_Acc : u_T := fun k => match k with
  | 0 => ("ChallengeAuthority$Account", "state", "I", false)
  | _ => ("ChallengeAuthority$Account", "key", "I", false)
def ty_Acc : Nat → FieldType := fun k => match k with
  | 0 => .int
  | _ => .int
theorem ty_Acc_ok : ∀ k, k < 2 → parseFieldDescriptor (T_Acc k).2.2.1 = some (ty_Acc k) := by decide +kernel
theorem nm_Acc : ∀ a, a < 2 → ∀ b, b < 2 → a ≠ b → (T_Acc a).2.1 ≠ (T_Acc b).2.1 := by decide +kernel
theorem in_Acc : ∀ w ∈ u_ws R_Acc T_Acc 2, w ∈ GW := by
  intro w hw
  obtain ⟨k, hk, rfl⟩ := List.mem_map.mp hw
  have hk := List.mem_range.mp hk
  rcases (show k = 0 ∨ k = 1 by omega) with rfl | rfl
  · exact gw_482
  · exact gw_483
def R_Ord : String := "ChallengeAuthority$Order"
def T_Ord : u_T := fun k => match k with
  | 0 => ("ChallengeAuthority$Order", "state", "I", false)
  | 1 => ("ChallengeAuthority$Order", "owner", "I", false)
  | 2 => ("ChallengeAuthority$Order", "names", "I", false)
  | 3 => ("ChallengeAuthority$Order", "expires", "I", false)
  | 4 => ("ChallengeAuthority$Order", "certificate", "I", false)
  | 5 => ("ChallengeAuthority$Order", "attached", "I", false)
  | _ => ("ChallengeAuthority$Order", "authorizations", "[I", true)
def ty_Ord : Nat → FieldType := fun k => match k with
  | 0 => .int
  | 1 => .int
  | 2 => .int
  | 3 => .int
  | 4 => .int
  | 5 => .int
  | _ => .array (.int)
theorem ty_Ord_ok : ∀ k, k < 7 → parseFieldDescriptor (T_Ord k).2.2.1 = some (ty_Ord k) := by decide +kernel
theorem nm_Ord : ∀ a, a < 7 → ∀ b, b < 7 → a ≠ b → (T_Ord a).2.1 ≠ (T_Ord b).2.1 := by decide +kernel
theorem in_Ord : ∀ w ∈ u_ws R_Ord T_Ord 7, w ∈ GW := by
  intro w hw
  obtain ⟨k, hk, rfl⟩ := List.mem_map.mp hw
  have hk := List.mem_range.mp hk
  rcases (show k = 0 ∨ k = 1 ∨ k = 2 ∨ k = 3 ∨ k = 4 ∨ k = 5 ∨ k = 6 by omega) with rfl | rfl | rfl | rfl | rfl | rfl | rfl
  · exact gw_484
  · exact gw_485
  · exact gw_486
  · exact gw_487
  · exact gw_488
  · exact gw_489
  · exact gw_490
def R_Aut : String := "ChallengeAuthority$Authorization"
def T_Aut : u_T := fun k => match k with
  | 0 => ("ChallengeAuthority$Authorization", "state", "I", false)
  | 1 => ("ChallengeAuthority$Authorization", "owner", "I", false)
  | 2 => ("ChallengeAuthority$Authorization", "name", "I", false)
  | _ => ("ChallengeAuthority$Authorization", "expires", "I", false)
def ty_Aut : Nat → FieldType := fun k => match k with
  | 0 => .int
  | 1 => .int
  | 2 => .int
  | _ => .int
theorem ty_Aut_ok : ∀ k, k < 4 → parseFieldDescriptor (T_Aut k).2.2.1 = some (ty_Aut k) := by decide +kernel
theorem nm_Aut : ∀ a, a < 4 → ∀ b, b < 4 → a ≠ b → (T_Aut a).2.1 ≠ (T_Aut b).2.1 := by decide +kernel
theorem in_Aut : ∀ w ∈ u_ws R_Aut T_Aut 4, w ∈ GW := by
  intro w hw
  obtain ⟨k, hk, rfl⟩ := List.mem_map.mp hw
  have hk := List.mem_range.mp hk
  rcases (show k = 0 ∨ k = 1 ∨ k = 2 ∨ k = 3 by omega) with rfl | rfl | rfl | rfl
  · exact gw_491
  · exact gw_492
  · exact gw_493
  · exact gw_494
def R_Cha : String := "ChallengeAuthority$Challenge"
def T_Cha : u_T := fun k => match k with
  | 0 => ("ChallengeAuthority$Challenge", "state", "I", false)
  | 1 => ("ChallengeAuthority$Challenge", "token", "I", false)
  | _ => ("ChallengeAuthority$Challenge", "wrong", "I", false)
def ty_Cha : Nat → FieldType := fun k => match k with
  | 0 => .int
  | 1 => .int
  | _ => .int
theorem ty_Cha_ok : ∀ k, k < 3 → parseFieldDescriptor (T_Cha k).2.2.1 = some (ty_Cha k) := by decide +kernel
theorem nm_Cha : ∀ a, a < 3 → ∀ b, b < 3 → a ≠ b → (T_Cha a).2.1 ≠ (T_Cha b).2.1 := by decide +kernel
theorem in_Cha : ∀ w ∈ u_ws R_Cha T_Cha 3, w ∈ GW := by
  intro w hw
  obtain ⟨k, hk, rfl⟩ := List.mem_map.mp hw
  have hk := List.mem_range.mp hk
  rcases (show k = 0 ∨ k = 1 ∨ k = 2 by omega) with rfl | rfl | rfl
  · exact gw_495
  · exact gw_496
  · exact gw_497
def R_Cer : String := "ChallengeAuthority$Certificate"
def T_Cer : u_T := fun k => match k with
  | 0 => ("ChallengeAuthority$Certificate", "state", "I", false)
  | 1 => ("ChallengeAuthority$Certificate", "order", "I", false)
  | 2 => ("ChallengeAuthority$Certificate", "names", "I", false)
  | 3 => ("ChallengeAuthority$Certificate", "key", "I", false)
  | 4 => ("ChallengeAuthority$Certificate", "issued", "I", false)
  | _ => ("ChallengeAuthority$Certificate", "reason", "I", false)
def ty_Cer : Nat → FieldType := fun k => match k with
  | 0 => .int
  | 1 => .int
  | 2 => .int
  | 3 => .int
  | 4 => .int
  | _ => .int
theorem ty_Cer_ok : ∀ k, k < 6 → parseFieldDescriptor (T_Cer k).2.2.1 = some (ty_Cer k) := by decide +kernel
theorem nm_Cer : ∀ a, a < 6 → ∀ b, b < 6 → a ≠ b → (T_Cer a).2.1 ≠ (T_Cer b).2.1 := by decide +kernel
theorem in_Cer : ∀ w ∈ u_ws R_Cer T_Cer 6, w ∈ GW := by
  intro w hw
  obtain ⟨k, hk, rfl⟩ := List.mem_map.mp hw
  have hk := List.mem_range.mp hk
  rcases (show k = 0 ∨ k = 1 ∨ k = 2 ∨ k = 3 ∨ k = 4 ∨ k = 5 by omega) with rfl | rfl | rfl | rfl | rfl | rfl
  · exact gw_498
  · exact gw_499
  · exact gw_500
  · exact gw_501
  · exact gw_502
  · exact gw_503
def R_MO : String := "ChallengeAuthorityModel"
def T_MO : u_T := fun k => match k with
  | 0 => ("ChallengeAuthorityModel", "thrown", "I", false)
  | 1 => ("ChallengeAuthorityModel", "seed", "I", false)
  | 2 => ("ChallengeAuthorityModel", "time", "I", false)
  | 3 => ("ChallengeAuthorityModel", "accounts", "I", false)
  | 4 => ("ChallengeAuthorityModel", "keys", "[I", true)
  | 5 => ("ChallengeAuthorityModel", "closed", "[Z", true)
  | 6 => ("ChallengeAuthorityModel", "orders", "I", false)
  | 7 => ("ChallengeAuthorityModel", "orderAccount", "[I", true)
  | 8 => ("ChallengeAuthorityModel", "orderNames", "[I", true)
  | 9 => ("ChallengeAuthorityModel", "orderEnds", "[I", true)
  | 10 => ("ChallengeAuthorityModel", "orderState", "[I", true)
  | 11 => ("ChallengeAuthorityModel", "orderPaper", "[I", true)
  | 12 => ("ChallengeAuthorityModel", "orderMany", "[I", true)
  | 13 => ("ChallengeAuthorityModel", "orderAuths", "[I", true)
  | 14 => ("ChallengeAuthorityModel", "auths", "I", false)
  | 15 => ("ChallengeAuthorityModel", "authAccount", "[I", true)
  | 16 => ("ChallengeAuthorityModel", "authName", "[I", true)
  | 17 => ("ChallengeAuthorityModel", "authEnds", "[I", true)
  | 18 => ("ChallengeAuthorityModel", "authState", "[I", true)
  | 19 => ("ChallengeAuthorityModel", "token", "[I", true)
  | 20 => ("ChallengeAuthorityModel", "stage", "[I", true)
  | 21 => ("ChallengeAuthorityModel", "wrong", "[I", true)
  | 22 => ("ChallengeAuthorityModel", "papers", "I", false)
  | 23 => ("ChallengeAuthorityModel", "paperOrder", "[I", true)
  | 24 => ("ChallengeAuthorityModel", "paperKey", "[I", true)
  | 25 => ("ChallengeAuthorityModel", "paperTime", "[I", true)
  | 26 => ("ChallengeAuthorityModel", "paperReason", "[I", true)
  | 27 => ("ChallengeAuthorityModel", "out", "I", false)
  | 28 => ("ChallengeAuthorityModel", "nonces", "[I", true)
  | 29 => ("ChallengeAuthorityModel", "text", "[I", true)
  | 30 => ("ChallengeAuthorityModel", "size", "I", false)
  | 31 => ("ChallengeAuthorityModel", "at", "I", false)
  | 32 => ("ChallengeAuthorityModel", "good", "Z", false)
  | 33 => ("ChallengeAuthorityModel", "wantedKey", "I", false)
  | 34 => ("ChallengeAuthorityModel", "wantedNames", "I", false)
  | _ => ("ChallengeAuthorityModel", "mixed", "J", false)
def ty_MO : Nat → FieldType := fun k => match k with
  | 0 => .int
  | 1 => .int
  | 2 => .int
  | 3 => .int
  | 4 => .array (.int)
  | 5 => .array (.boolean)
  | 6 => .int
  | 7 => .array (.int)
  | 8 => .array (.int)
  | 9 => .array (.int)
  | 10 => .array (.int)
  | 11 => .array (.int)
  | 12 => .array (.int)
  | 13 => .array (.int)
  | 14 => .int
  | 15 => .array (.int)
  | 16 => .array (.int)
  | 17 => .array (.int)
  | 18 => .array (.int)
  | 19 => .array (.int)
  | 20 => .array (.int)
  | 21 => .array (.int)
  | 22 => .int
  | 23 => .array (.int)
  | 24 => .array (.int)
  | 25 => .array (.int)
  | 26 => .array (.int)
  | 27 => .int
  | 28 => .array (.int)
  | 29 => .array (.int)
  | 30 => .int
  | 31 => .int
  | 32 => .boolean
  | 33 => .int
  | 34 => .int
  | _ => .long
theorem ty_MO_ok : ∀ k, k < 36 → parseFieldDescriptor (T_MO k).2.2.1 = some (ty_MO k) := by decide +kernel
theorem nm_MO : ∀ a, a < 36 → ∀ b, b < 36 → a ≠ b → (T_MO a).2.1 ≠ (T_MO b).2.1 := by decide +kernel
theorem in_MO : ∀ w ∈ u_ws R_MO T_MO 36, w ∈ GW := by
  intro w hw
  obtain ⟨k, hk, rfl⟩ := List.mem_map.mp hw
  have hk := List.mem_range.mp hk
  rcases (show k = 0 ∨ k = 1 ∨ k = 2 ∨ k = 3 ∨ k = 4 ∨ k = 5 ∨ k = 6 ∨ k = 7 ∨ k = 8 ∨ k = 9 ∨ k = 10 ∨ k = 11 ∨ k = 12 ∨ k = 13 ∨ k = 14 ∨ k = 15 ∨ k = 16 ∨ k = 17 ∨ k = 18 ∨ k = 19 ∨ k = 20 ∨ k = 21 ∨ k = 22 ∨ k = 23 ∨ k = 24 ∨ k = 25 ∨ k = 26 ∨ k = 27 ∨ k = 28 ∨ k = 29 ∨ k = 30 ∨ k = 31 ∨ k = 32 ∨ k = 33 ∨ k = 34 ∨ k = 35 by omega) with rfl | rfl | rfl | rfl | rfl | rfl | rfl | rfl | rfl | rfl | rfl | rfl | rfl | rfl | rfl | rfl | rfl | rfl | rfl | rfl | rfl | rfl | rfl | rfl | rfl | rfl | rfl | rfl | rfl | rfl | rfl | rfl | rfl | rfl | rfl | rfl
  · exact gw_504
  · exact gw_505
  · exact gw_506
  · exact gw_507
  · exact gw_508
  · exact gw_509
  · exact gw_510
  · exact gw_511
  · exact gw_512
  · exact gw_513
  · exact gw_514
  · exact gw_515
  · exact gw_516
  · exact gw_517
  · exact gw_518
  · exact gw_519
  · exact gw_520
  · exact gw_521
  · exact gw_522
  · exact gw_523
  · exact gw_524
  · exact gw_525
  · exact gw_526
  · exact gw_527
  · exact gw_528
  · exact gw_529
  · exact gw_530
  · exact gw_531
  · exact gw_532
  · exact gw_533
  · exact gw_534
  · exact gw_535
  · exact gw_536
  · exact gw_537
  · exact gw_538
  · exact gw_539
abbrev vwCl : List vw_C := [(R_CA, T_CA, 14), (R_Non, T_Non, 2), (R_Txt, T_Txt, 2), (R_Req, T_Req, 4), (R_Acc, T_Acc, 2), (R_Ord, T_Ord, 7), (R_Aut, T_Aut, 4), (R_Cha, T_Cha, 3), (R_Cer, T_Cer, 6), (R_MO, T_MO, 36)]
abbrev tyC (cA : Nat → ClassId) : List (ClassId × FieldType) := [(cA 0, .object "ChallengeAuthority$Account"), (cA 1, .object "ChallengeAuthority$Order"), (cA 2, .object "ChallengeAuthority$Authorization"), (cA 3, .object "ChallengeAuthority$Challenge"), (cA 4, .object "ChallengeAuthority$Certificate"), (cA 5, .int), (cA 6, .int), (cA 7, .int)]
abbrev tyM (cA : Nat → ClassId) : List (ClassId × FieldType) := [(cA 0, .int), (cA 1, .boolean), (cA 2, .int), (cA 3, .int), (cA 4, .int), (cA 5, .int), (cA 6, .int), (cA 7, .int), (cA 8, .int), (cA 9, .int), (cA 10, .int), (cA 11, .int), (cA 12, .int), (cA 13, .int), (cA 14, .int), (cA 15, .int), (cA 16, .int), (cA 17, .int), (cA 18, .int), (cA 19, .int), (cA 20, .int), (cA 21, .int)]
def NGL : List Cond := [.methodLinkNest "ChallengeAuthority" 41 y_Non_init "ChallengeAuthority", .methodLinkNest "ChallengeAuthority" 48 y_Txt_init "ChallengeAuthority", .methodLinkNest "ChallengeAuthority" 55 y_Req_init "ChallengeAuthority", .methodLinkNest "ChallengeAuthority" 64 y_Acc_init "ChallengeAuthority", .methodLinkNest "ChallengeAuthority" 65 y_Ord_init "ChallengeAuthority", .methodLinkNest "ChallengeAuthority" 66 y_Aut_init "ChallengeAuthority", .methodLinkNest "ChallengeAuthority" 67 y_Cha_init "ChallengeAuthority", .methodLinkNest "ChallengeAuthority" 68 y_Cer_init "ChallengeAuthority", .castable "java/lang/IllegalArgumentException" "java/lang/IllegalArgumentException", .declares (⟨"java/lang/RuntimeException", "<init>", "()V"⟩ : MethodName), .declares (⟨"java/lang/RuntimeException", "<init>", "(Ljava/lang/String;)V"⟩ : MethodName), .declares (⟨"java/lang/Exception", "<init>", "()V"⟩ : MethodName), .declares (⟨"java/lang/Exception", "<init>", "(Ljava/lang/String;)V"⟩ : MethodName), .declares (⟨"java/lang/Throwable", "<init>", "()V"⟩ : MethodName), .declares (⟨"java/lang/Throwable", "<init>", "(Ljava/lang/String;)V"⟩ : MethodName), .castable "java/lang/UnsupportedOperationException" "java/lang/UnsupportedOperationException", .castable "java/lang/IllegalStateException" "java/lang/IllegalStateException", .castable "java/util/NoSuchElementException" "java/util/NoSuchElementException", .methodLinkNest "ChallengeAuthority$Request" 40 y_CA_isKey "ChallengeAuthority", .methodLinkNest "ChallengeAuthority$Request" 52 y_CA_mix "ChallengeAuthority", .methodLinkNest "ChallengeAuthority$Request" 56 y_CA_digestEnd "ChallengeAuthority", .methodLinkNest "ChallengeAuthority$Request" 48 y_CA_isRight "ChallengeAuthority"]
