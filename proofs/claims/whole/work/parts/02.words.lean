theorem gw_0 : Cond.fieldLink "ChallengeAuthority" 60 "ChallengeAuthority" "drawState" "I" ∈ GW := gw_t (tb_1 (List.mem_of_getElem? (i := 204) rfl)) rfl
theorem gw_1 : Cond.constant "ChallengeAuthority" 256 1103515245 ∈ GW := gw_t (tb_2 (List.mem_of_getElem? (i := 15) rfl)) rfl
theorem gw_2 : Cond.fieldLink "ChallengeAuthority$Nonces" 15 "ChallengeAuthority$Nonces" "count" "I" ∈ GW := gw_t (tb_1 (List.mem_of_getElem? (i := 43) rfl)) rfl
theorem gw_3 : Cond.fieldLink "ChallengeAuthority$Nonces" 9 "ChallengeAuthority$Nonces" "out" "[I" ∈ GW := gw_t (tb_1 (List.mem_of_getElem? (i := 45) rfl)) rfl
theorem gw_4 : Cond.code y_Non_removeAt prog_6_method_4_code 3 (Option.none : Option Jvm.ClassFile.FieldType) ∈ GW := gw_t (tb_2 (List.mem_of_getElem? (i := 23) rfl)) rfl
theorem gw_5 : Cond.methodLink "ChallengeAuthority$Nonces" 19 y_Non_removeAt ∈ GW := gw_t (tb_2 (List.mem_of_getElem? (i := 20) rfl)) rfl
theorem gw_6 : Cond.instanceMethod y_Non_removeAt ∈ GW := gw_t (tb_2 (List.mem_of_getElem? (i := 22) rfl)) rfl
theorem gw_7 : Cond.selects "ChallengeAuthority$Nonces" y_Non_removeAt y_Non_removeAt ∈ GW := gw_p (List.mem_of_getElem? (i := 1) rfl) rfl
theorem gw_8 : Cond.initialized "ChallengeAuthority$Nonces" ∈ GW := gw_t (tb_1 (List.mem_of_getElem? (i := 2) rfl)) rfl
theorem gw_9 : Cond.code y_CA_draw prog_1_method_28_code 1 (Option.some Jvm.ClassFile.FieldType.int) ∈ GW := gw_t (tb_2 (List.mem_of_getElem? (i := 14) rfl)) rfl
theorem gw_10 : Cond.methodLink "ChallengeAuthority" 69 y_CA_draw ∈ GW := gw_t (tb_2 (List.mem_of_getElem? (i := 11) rfl)) rfl
theorem gw_11 : Cond.instanceMethod y_CA_draw ∈ GW := gw_t (tb_2 (List.mem_of_getElem? (i := 13) rfl)) rfl
theorem gw_12 : Cond.selects "ChallengeAuthority" y_CA_draw y_CA_draw ∈ GW := gw_p (List.mem_of_getElem? (i := 0) rfl) rfl
theorem gw_13 : Cond.initialized "ChallengeAuthority" ∈ GW := gw_t (tb_1 (List.mem_of_getElem? (i := 1) rfl)) rfl
theorem gw_14 : Cond.fieldLink "ChallengeAuthority" 42 "ChallengeAuthority" "nonces" "LChallengeAuthority$Nonces;" ∈ GW := gw_t (tb_1 (List.mem_of_getElem? (i := 215) rfl)) rfl
theorem gw_15 : Cond.code y_Non_putOut prog_6_method_2_code 2 (Option.none : Option Jvm.ClassFile.FieldType) ∈ GW := gw_t (tb_2 (List.mem_of_getElem? (i := 19) rfl)) rfl
theorem gw_16 : Cond.methodLink "ChallengeAuthority" 73 y_Non_putOut ∈ GW := gw_t (tb_2 (List.mem_of_getElem? (i := 16) rfl)) rfl
theorem gw_17 : Cond.instanceMethod y_Non_putOut ∈ GW := gw_t (tb_2 (List.mem_of_getElem? (i := 17) rfl)) rfl
theorem gw_18 : Cond.selects "ChallengeAuthority$Nonces" y_Non_putOut y_Non_putOut ∈ GW := gw_t (tb_2 (List.mem_of_getElem? (i := 18) rfl)) rfl
theorem gw_19 : Cond.code y_CA_isKey prog_1_method_21_code 1 (Option.some Jvm.ClassFile.FieldType.boolean) ∈ GW := gw_t (tb_2 (List.mem_of_getElem? (i := 30) rfl)) rfl
theorem gw_20 : Cond.methodLink "ChallengeAuthority" 77 y_CA_isKey ∈ GW := gw_t (tb_2 (List.mem_of_getElem? (i := 28) rfl)) rfl
theorem gw_21 : Cond.static y_CA_isKey ∈ GW := gw_t (tb_2 (List.mem_of_getElem? (i := 29) rfl)) rfl
theorem gw_22 : Cond.code y_CA_powerModulo prog_1_method_22_code 6 (Option.some Jvm.ClassFile.FieldType.int) ∈ GW := gw_t (tb_2 (List.mem_of_getElem? (i := 33) rfl)) rfl
theorem gw_23 : Cond.methodLink "ChallengeAuthority" 81 y_CA_powerModulo ∈ GW := gw_t (tb_2 (List.mem_of_getElem? (i := 31) rfl)) rfl
theorem gw_24 : Cond.static y_CA_powerModulo ∈ GW := gw_t (tb_2 (List.mem_of_getElem? (i := 32) rfl)) rfl
theorem gw_25 : Cond.constantLong "ChallengeAuthority" 248 (-7046029254386353131) ∈ GW := gw_t (tb_2 (List.mem_of_getElem? (i := 41) rfl)) rfl
theorem gw_26 : Cond.code y_CA_mix prog_1_method_24_code 5 (Option.some Jvm.ClassFile.FieldType.long) ∈ GW := gw_t (tb_2 (List.mem_of_getElem? (i := 40) rfl)) rfl
theorem gw_27 : Cond.methodLink "ChallengeAuthority" 85 y_CA_mix ∈ GW := gw_t (tb_2 (List.mem_of_getElem? (i := 38) rfl)) rfl
theorem gw_28 : Cond.static y_CA_mix ∈ GW := gw_t (tb_2 (List.mem_of_getElem? (i := 39) rfl)) rfl
theorem gw_29 : Cond.code y_CA_digestEnd prog_1_method_25_code 2 (Option.some Jvm.ClassFile.FieldType.int) ∈ GW := gw_t (tb_2 (List.mem_of_getElem? (i := 44) rfl)) rfl
theorem gw_30 : Cond.methodLink "ChallengeAuthority" 89 y_CA_digestEnd ∈ GW := gw_t (tb_2 (List.mem_of_getElem? (i := 42) rfl)) rfl
theorem gw_31 : Cond.static y_CA_digestEnd ∈ GW := gw_t (tb_2 (List.mem_of_getElem? (i := 43) rfl)) rfl
theorem gw_32 : Cond.fieldLink "ChallengeAuthority" 114 "ChallengeAuthority" "accountCount" "I" ∈ GW := gw_t (tb_1 (List.mem_of_getElem? (i := 206) rfl)) rfl
theorem gw_33 : Cond.fieldLink "ChallengeAuthority" 11 "ChallengeAuthority" "accounts" "[LChallengeAuthority$Account;" ∈ GW := gw_t (tb_1 (List.mem_of_getElem? (i := 210) rfl)) rfl
theorem gw_34 : Cond.fieldLink "ChallengeAuthority" 164 "ChallengeAuthority$Account" "key" "I" ∈ GW := gw_t (tb_1 (List.mem_of_getElem? (i := 96) rfl)) rfl
theorem gw_35 : Cond.code y_CA_makeAccount prog_1_method_31_code 2 (Option.some Jvm.ClassFile.FieldType.int) ∈ GW := gw_t (tb_2 (List.mem_of_getElem? (i := 191) rfl)) rfl
theorem gw_36 : Cond.methodLink "ChallengeAuthority" 123 y_CA_makeAccount ∈ GW := gw_t (tb_2 (List.mem_of_getElem? (i := 188) rfl)) rfl
theorem gw_37 : Cond.instanceMethod y_CA_makeAccount ∈ GW := gw_t (tb_2 (List.mem_of_getElem? (i := 190) rfl)) rfl
theorem gw_38 : Cond.selects "ChallengeAuthority" y_CA_makeAccount y_CA_makeAccount ∈ GW := gw_p (List.mem_of_getElem? (i := 4) rfl) rfl
theorem gw_39 : Cond.classLink "ChallengeAuthority" 93 "java/lang/IllegalArgumentException" ∈ GW := gw_t (tb_2 (List.mem_of_getElem? (i := 82) rfl)) rfl
theorem gw_40 : Cond.initialized "java/lang/IllegalArgumentException" ∈ GW := gw_t (tb_1 (List.mem_of_getElem? (i := 14) rfl)) rfl
theorem gw_41 : Cond.instantiable "java/lang/IllegalArgumentException" 6 ∈ GW := gw_t (tb_2 (List.mem_of_getElem? (i := 83) rfl)) rfl
theorem gw_42 : Cond.code y_CA_digest prog_1_method_4_code 6 (Option.some Jvm.ClassFile.FieldType.int) ∈ GW := gw_t (tb_2 (List.mem_of_getElem? (i := 37) rfl)) rfl
theorem gw_43 : Cond.methodLink "ChallengeAuthority" 96 y_CA_digest ∈ GW := gw_t (tb_2 (List.mem_of_getElem? (i := 146) rfl)) rfl
theorem gw_44 : Cond.instanceMethod y_CA_digest ∈ GW := gw_t (tb_2 (List.mem_of_getElem? (i := 35) rfl)) rfl
theorem gw_45 : Cond.selects "ChallengeAuthority" y_CA_digest y_CA_digest ∈ GW := gw_t (tb_2 (List.mem_of_getElem? (i := 36) rfl)) rfl
theorem gw_46 : Cond.code y_CA_isRight prog_1_method_23_code 3 (Option.some Jvm.ClassFile.FieldType.boolean) ∈ GW := gw_t (tb_2 (List.mem_of_getElem? (i := 149) rfl)) rfl
theorem gw_47 : Cond.methodLink "ChallengeAuthority" 100 y_CA_isRight ∈ GW := gw_t (tb_2 (List.mem_of_getElem? (i := 147) rfl)) rfl
theorem gw_48 : Cond.static y_CA_isRight ∈ GW := gw_t (tb_2 (List.mem_of_getElem? (i := 148) rfl)) rfl
theorem gw_49 : Cond.classLink "ChallengeAuthority" 104 "java/lang/UnsupportedOperationException" ∈ GW := gw_t (tb_2 (List.mem_of_getElem? (i := 150) rfl)) rfl
theorem gw_50 : Cond.initialized "java/lang/UnsupportedOperationException" ∈ GW := gw_t (tb_1 (List.mem_of_getElem? (i := 15) rfl)) rfl
theorem gw_51 : Cond.instantiable "java/lang/UnsupportedOperationException" 6 ∈ GW := gw_t (tb_2 (List.mem_of_getElem? (i := 151) rfl)) rfl
theorem gw_52 : Cond.code y_Non_takeBack prog_6_method_3_code 3 (Option.some Jvm.ClassFile.FieldType.boolean) ∈ GW := gw_t (tb_2 (List.mem_of_getElem? (i := 168) rfl)) rfl
theorem gw_53 : Cond.methodLink "ChallengeAuthority" 107 y_Non_takeBack ∈ GW := gw_t (tb_2 (List.mem_of_getElem? (i := 165) rfl)) rfl
theorem gw_54 : Cond.instanceMethod y_Non_takeBack ∈ GW := gw_t (tb_2 (List.mem_of_getElem? (i := 166) rfl)) rfl
theorem gw_55 : Cond.selects "ChallengeAuthority$Nonces" y_Non_takeBack y_Non_takeBack ∈ GW := gw_t (tb_2 (List.mem_of_getElem? (i := 167) rfl)) rfl
theorem gw_56 : Cond.code y_CA_accountWithKey prog_1_method_30_code 3 (Option.some Jvm.ClassFile.FieldType.int) ∈ GW := gw_t (tb_2 (List.mem_of_getElem? (i := 172) rfl)) rfl
theorem gw_57 : Cond.methodLink "ChallengeAuthority" 110 y_CA_accountWithKey ∈ GW := gw_t (tb_2 (List.mem_of_getElem? (i := 169) rfl)) rfl
theorem gw_58 : Cond.instanceMethod y_CA_accountWithKey ∈ GW := gw_t (tb_2 (List.mem_of_getElem? (i := 171) rfl)) rfl
theorem gw_59 : Cond.selects "ChallengeAuthority" y_CA_accountWithKey y_CA_accountWithKey ∈ GW := gw_p (List.mem_of_getElem? (i := 3) rfl) rfl
theorem gw_60 : Cond.classLink "ChallengeAuthority" 120 "java/lang/IllegalStateException" ∈ GW := gw_t (tb_2 (List.mem_of_getElem? (i := 173) rfl)) rfl
theorem gw_61 : Cond.initialized "java/lang/IllegalStateException" ∈ GW := gw_t (tb_1 (List.mem_of_getElem? (i := 16) rfl)) rfl
theorem gw_62 : Cond.instantiable "java/lang/IllegalStateException" 6 ∈ GW := gw_t (tb_2 (List.mem_of_getElem? (i := 174) rfl)) rfl
theorem gw_63 : Cond.fieldLink "ChallengeAuthority" 117 "ChallengeAuthority$Account" "state" "I" ∈ GW := gw_t (tb_1 (List.mem_of_getElem? (i := 95) rfl)) rfl
theorem gw_64 : Cond.classLink "ChallengeAuthority" 177 "java/util/NoSuchElementException" ∈ GW := gw_t (tb_2 (List.mem_of_getElem? (i := 204) rfl)) rfl
theorem gw_65 : Cond.initialized "java/util/NoSuchElementException" ∈ GW := gw_t (tb_1 (List.mem_of_getElem? (i := 17) rfl)) rfl
theorem gw_66 : Cond.instantiable "java/util/NoSuchElementException" 6 ∈ GW := gw_t (tb_2 (List.mem_of_getElem? (i := 205) rfl)) rfl
theorem gw_67 : Cond.constant "java/lang/Integer" 265 1431655765 ∈ GW := gw_t (tb_2 (List.mem_of_getElem? (i := 226) rfl)) rfl
theorem gw_68 : Cond.constant "java/lang/Integer" 266 858993459 ∈ GW := gw_t (tb_2 (List.mem_of_getElem? (i := 227) rfl)) rfl
theorem gw_69 : Cond.constant "java/lang/Integer" 267 252645135 ∈ GW := gw_t (tb_2 (List.mem_of_getElem? (i := 228) rfl)) rfl
theorem gw_70 : Cond.constant "ChallengeAuthority" 250 65536 ∈ GW := gw_t (tb_2 (List.mem_of_getElem? (i := 222) rfl)) rfl
theorem gw_71 : Cond.code y_Int_bitCount prog_15_method_49_code 1 (Option.some Jvm.ClassFile.FieldType.int) ∈ GW := gw_t (tb_2 (List.mem_of_getElem? (i := 225) rfl)) rfl
theorem gw_72 : Cond.methodLink "ChallengeAuthority" 251 y_Int_bitCount ∈ GW := gw_t (tb_2 (List.mem_of_getElem? (i := 223) rfl)) rfl
theorem gw_73 : Cond.static y_Int_bitCount ∈ GW := gw_t (tb_2 (List.mem_of_getElem? (i := 224) rfl)) rfl
theorem gw_74 : Cond.initialized "java/lang/Integer" ∈ GW := gw_t (tb_1 (List.mem_of_getElem? (i := 18) rfl)) rfl
theorem gw_75 : Cond.fieldLink "ChallengeAuthority" 23 "ChallengeAuthority" "authorizations" "[LChallengeAuthority$Authorization;" ∈ GW := gw_t (tb_1 (List.mem_of_getElem? (i := 212) rfl)) rfl
theorem gw_76 : Cond.fieldLink "ChallengeAuthority" 156 "ChallengeAuthority$Authorization" "owner" "I" ∈ GW := gw_t (tb_1 (List.mem_of_getElem? (i := 144) rfl)) rfl
theorem gw_77 : Cond.fieldLink "ChallengeAuthority" 257 "ChallengeAuthority$Authorization" "name" "I" ∈ GW := gw_t (tb_1 (List.mem_of_getElem? (i := 146) rfl)) rfl
theorem gw_78 : Cond.fieldLink "ChallengeAuthority" 159 "ChallengeAuthority$Authorization" "state" "I" ∈ GW := gw_t (tb_1 (List.mem_of_getElem? (i := 142) rfl)) rfl
theorem gw_79 : Cond.fieldLink "ChallengeAuthority" 136 "ChallengeAuthority" "authorizationCount" "I" ∈ GW := gw_t (tb_1 (List.mem_of_getElem? (i := 208) rfl)) rfl
theorem gw_80 : Cond.code y_CA_hasName prog_1_method_26_code 2 (Option.some Jvm.ClassFile.FieldType.boolean) ∈ GW := gw_t (tb_2 (List.mem_of_getElem? (i := 235) rfl)) rfl
theorem gw_81 : Cond.methodLink "ChallengeAuthority" 260 y_CA_hasName ∈ GW := gw_t (tb_2 (List.mem_of_getElem? (i := 233) rfl)) rfl
theorem gw_82 : Cond.static y_CA_hasName ∈ GW := gw_t (tb_2 (List.mem_of_getElem? (i := 234) rfl)) rfl
theorem gw_83 : Cond.code y_CA_newestValid prog_1_method_32_code 5 (Option.some Jvm.ClassFile.FieldType.int) ∈ GW := gw_t (tb_2 (List.mem_of_getElem? (i := 239) rfl)) rfl
theorem gw_84 : Cond.methodLink "ChallengeAuthority" 264 y_CA_newestValid ∈ GW := gw_t (tb_2 (List.mem_of_getElem? (i := 236) rfl)) rfl
theorem gw_85 : Cond.instanceMethod y_CA_newestValid ∈ GW := gw_t (tb_2 (List.mem_of_getElem? (i := 238) rfl)) rfl
theorem gw_86 : Cond.selects "ChallengeAuthority" y_CA_newestValid y_CA_newestValid ∈ GW := gw_p (List.mem_of_getElem? (i := 7) rfl) rfl
theorem gw_87 : Cond.fieldLink "ChallengeAuthority" 29 "ChallengeAuthority" "challenges" "[LChallengeAuthority$Challenge;" ∈ GW := gw_t (tb_1 (List.mem_of_getElem? (i := 213) rfl)) rfl
theorem gw_88 : Cond.fieldLink "ChallengeAuthority" 161 "ChallengeAuthority$Challenge" "token" "I" ∈ GW := gw_t (tb_1 (List.mem_of_getElem? (i := 165) rfl)) rfl
theorem gw_89 : Cond.fieldLink "ChallengeAuthority" 167 "ChallengeAuthority$Authorization" "expires" "I" ∈ GW := gw_t (tb_1 (List.mem_of_getElem? (i := 148) rfl)) rfl
theorem gw_90 : Cond.fieldLink "ChallengeAuthority$Order" 22 "ChallengeAuthority$Order" "attached" "I" ∈ GW := gw_t (tb_1 (List.mem_of_getElem? (i := 117) rfl)) rfl
theorem gw_91 : Cond.fieldLink "ChallengeAuthority$Order" 15 "ChallengeAuthority$Order" "authorizations" "[I" ∈ GW := gw_t (tb_1 (List.mem_of_getElem? (i := 119) rfl)) rfl
theorem gw_92 : Cond.code y_Ord_attach prog_7_method_3_code 2 (Option.none : Option Jvm.ClassFile.FieldType) ∈ GW := gw_t (tb_3 (List.mem_of_getElem? (i := 11) rfl)) rfl
theorem gw_93 : Cond.methodLink "ChallengeAuthority" 271 y_Ord_attach ∈ GW := gw_t (tb_3 (List.mem_of_getElem? (i := 8) rfl)) rfl
theorem gw_94 : Cond.instanceMethod y_Ord_attach ∈ GW := gw_t (tb_3 (List.mem_of_getElem? (i := 9) rfl)) rfl
theorem gw_95 : Cond.selects "ChallengeAuthority$Order" y_Ord_attach y_Ord_attach ∈ GW := gw_t (tb_3 (List.mem_of_getElem? (i := 10) rfl)) rfl
theorem gw_96 : Cond.initialized "ChallengeAuthority$Order" ∈ GW := gw_t (tb_1 (List.mem_of_getElem? (i := 6) rfl)) rfl
theorem gw_97 : Cond.fieldLink "ChallengeAuthority" 133 "ChallengeAuthority" "orderCount" "I" ∈ GW := gw_t (tb_1 (List.mem_of_getElem? (i := 207) rfl)) rfl
theorem gw_98 : Cond.code y_CA_makeAuthorization prog_1_method_35_code 6 (Option.some Jvm.ClassFile.FieldType.int) ∈ GW := gw_t (tb_3 (List.mem_of_getElem? (i := 7) rfl)) rfl
theorem gw_99 : Cond.methodLink "ChallengeAuthority" 268 y_CA_makeAuthorization ∈ GW := gw_t (tb_3 (List.mem_of_getElem? (i := 4) rfl)) rfl
theorem gw_100 : Cond.instanceMethod y_CA_makeAuthorization ∈ GW := gw_t (tb_3 (List.mem_of_getElem? (i := 6) rfl)) rfl
theorem gw_101 : Cond.selects "ChallengeAuthority" y_CA_makeAuthorization y_CA_makeAuthorization ∈ GW := gw_p (List.mem_of_getElem? (i := 9) rfl) rfl
theorem gw_102 : Cond.fieldLink "ChallengeAuthority" 17 "ChallengeAuthority" "orders" "[LChallengeAuthority$Order;" ∈ GW := gw_t (tb_1 (List.mem_of_getElem? (i := 211) rfl)) rfl
theorem gw_103 : Cond.fieldLink "ChallengeAuthority" 180 "ChallengeAuthority$Order" "owner" "I" ∈ GW := gw_t (tb_1 (List.mem_of_getElem? (i := 110) rfl)) rfl
theorem gw_104 : Cond.fieldLink "ChallengeAuthority" 192 "ChallengeAuthority$Order" "names" "I" ∈ GW := gw_t (tb_1 (List.mem_of_getElem? (i := 112) rfl)) rfl
theorem gw_105 : Cond.fieldLink "ChallengeAuthority" 267 "ChallengeAuthority$Order" "expires" "I" ∈ GW := gw_t (tb_1 (List.mem_of_getElem? (i := 114) rfl)) rfl
theorem gw_106 : Cond.fieldLink "ChallengeAuthority$Order" 19 "ChallengeAuthority$Order" "state" "I" ∈ GW := gw_t (tb_1 (List.mem_of_getElem? (i := 107) rfl)) rfl
theorem gw_107 : Cond.fieldLink "ChallengeAuthority$Authorization" 7 "ChallengeAuthority$Authorization" "state" "I" ∈ GW := gw_t (tb_1 (List.mem_of_getElem? (i := 141) rfl)) rfl
theorem gw_108 : Cond.fieldLink "ChallengeAuthority" 292 "ChallengeAuthority$Order" "attached" "I" ∈ GW := gw_t (tb_1 (List.mem_of_getElem? (i := 118) rfl)) rfl
theorem gw_109 : Cond.fieldLink "ChallengeAuthority" 181 "ChallengeAuthority$Order" "state" "I" ∈ GW := gw_t (tb_1 (List.mem_of_getElem? (i := 108) rfl)) rfl
theorem gw_110 : Cond.fieldLink "ChallengeAuthority" 295 "ChallengeAuthority$Order" "authorizations" "[I" ∈ GW := gw_t (tb_1 (List.mem_of_getElem? (i := 120) rfl)) rfl
theorem gw_111 : Cond.code y_Aut_isLive prog_3_method_2_code 1 (Option.some Jvm.ClassFile.FieldType.boolean) ∈ GW := gw_t (tb_3 (List.mem_of_getElem? (i := 27) rfl)) rfl
theorem gw_112 : Cond.methodLink "ChallengeAuthority" 281 y_Aut_isLive ∈ GW := gw_t (tb_3 (List.mem_of_getElem? (i := 24) rfl)) rfl
theorem gw_113 : Cond.instanceMethod y_Aut_isLive ∈ GW := gw_t (tb_3 (List.mem_of_getElem? (i := 25) rfl)) rfl
theorem gw_114 : Cond.selects "ChallengeAuthority$Authorization" y_Aut_isLive y_Aut_isLive ∈ GW := gw_t (tb_3 (List.mem_of_getElem? (i := 26) rfl)) rfl
theorem gw_115 : Cond.initialized "ChallengeAuthority$Authorization" ∈ GW := gw_t (tb_1 (List.mem_of_getElem? (i := 7) rfl)) rfl
theorem gw_116 : Cond.code y_Ord_isOpen prog_7_method_2_code 1 (Option.some Jvm.ClassFile.FieldType.boolean) ∈ GW := gw_t (tb_3 (List.mem_of_getElem? (i := 19) rfl)) rfl
theorem gw_117 : Cond.methodLink "ChallengeAuthority" 285 y_Ord_isOpen ∈ GW := gw_t (tb_3 (List.mem_of_getElem? (i := 16) rfl)) rfl
theorem gw_118 : Cond.instanceMethod y_Ord_isOpen ∈ GW := gw_t (tb_3 (List.mem_of_getElem? (i := 17) rfl)) rfl
theorem gw_119 : Cond.selects "ChallengeAuthority$Order" y_Ord_isOpen y_Ord_isOpen ∈ GW := gw_t (tb_3 (List.mem_of_getElem? (i := 18) rfl)) rfl
theorem gw_120 : Cond.code y_CA_settle prog_1_method_43_code 5 (Option.none : Option Jvm.ClassFile.FieldType) ∈ GW := gw_t (tb_3 (List.mem_of_getElem? (i := 23) rfl)) rfl
theorem gw_121 : Cond.methodLink "ChallengeAuthority" 288 y_CA_settle ∈ GW := gw_t (tb_3 (List.mem_of_getElem? (i := 20) rfl)) rfl
theorem gw_122 : Cond.instanceMethod y_CA_settle ∈ GW := gw_t (tb_3 (List.mem_of_getElem? (i := 22) rfl)) rfl
theorem gw_123 : Cond.selects "ChallengeAuthority" y_CA_settle y_CA_settle ∈ GW := gw_p (List.mem_of_getElem? (i := 11) rfl) rfl
theorem gw_124 : Cond.code y_CA_acceptSigned prog_1_method_29_code 5 (Option.none : Option Jvm.ClassFile.FieldType) ∈ GW := gw_t (tb_2 (List.mem_of_getElem? (i := 203) rfl)) rfl
theorem gw_125 : Cond.methodLink "ChallengeAuthority" 126 y_CA_acceptSigned ∈ GW := gw_t (tb_2 (List.mem_of_getElem? (i := 200) rfl)) rfl
theorem gw_126 : Cond.instanceMethod y_CA_acceptSigned ∈ GW := gw_t (tb_2 (List.mem_of_getElem? (i := 202) rfl)) rfl
theorem gw_127 : Cond.selects "ChallengeAuthority" y_CA_acceptSigned y_CA_acceptSigned ∈ GW := gw_p (List.mem_of_getElem? (i := 5) rfl) rfl
theorem gw_128 : Cond.code y_CA_canBeOrdered prog_1_method_27_code 1 (Option.some Jvm.ClassFile.FieldType.boolean) ∈ GW := gw_t (tb_2 (List.mem_of_getElem? (i := 221) rfl)) rfl
theorem gw_129 : Cond.methodLink "ChallengeAuthority" 130 y_CA_canBeOrdered ∈ GW := gw_t (tb_2 (List.mem_of_getElem? (i := 219) rfl)) rfl
theorem gw_130 : Cond.static y_CA_canBeOrdered ∈ GW := gw_t (tb_2 (List.mem_of_getElem? (i := 220) rfl)) rfl
theorem gw_131 : Cond.code y_CA_missingAuthorizations prog_1_method_33_code 5 (Option.some Jvm.ClassFile.FieldType.int) ∈ GW := gw_t (tb_2 (List.mem_of_getElem? (i := 232) rfl)) rfl
theorem gw_132 : Cond.methodLink "ChallengeAuthority" 139 y_CA_missingAuthorizations ∈ GW := gw_t (tb_2 (List.mem_of_getElem? (i := 229) rfl)) rfl
theorem gw_133 : Cond.instanceMethod y_CA_missingAuthorizations ∈ GW := gw_t (tb_2 (List.mem_of_getElem? (i := 231) rfl)) rfl
theorem gw_134 : Cond.selects "ChallengeAuthority" y_CA_missingAuthorizations y_CA_missingAuthorizations ∈ GW := gw_p (List.mem_of_getElem? (i := 6) rfl) rfl
theorem gw_135 : Cond.fieldLink "ChallengeAuthority" 143 "ChallengeAuthority" "time" "I" ∈ GW := gw_t (tb_1 (List.mem_of_getElem? (i := 205) rfl)) rfl
theorem gw_136 : Cond.code y_CA_makeOrder prog_1_method_34_code 7 (Option.some Jvm.ClassFile.FieldType.int) ∈ GW := gw_t (tb_3 (List.mem_of_getElem? (i := 3) rfl)) rfl
theorem gw_137 : Cond.methodLink "ChallengeAuthority" 146 y_CA_makeOrder ∈ GW := gw_t (tb_3 (List.mem_of_getElem? (i := 0) rfl)) rfl
theorem gw_138 : Cond.instanceMethod y_CA_makeOrder ∈ GW := gw_t (tb_3 (List.mem_of_getElem? (i := 2) rfl)) rfl
theorem gw_139 : Cond.selects "ChallengeAuthority" y_CA_makeOrder y_CA_makeOrder ∈ GW := gw_p (List.mem_of_getElem? (i := 8) rfl) rfl
theorem gw_140 : Cond.code y_CA_settleOrders prog_1_method_42_code 2 (Option.none : Option Jvm.ClassFile.FieldType) ∈ GW := gw_t (tb_3 (List.mem_of_getElem? (i := 15) rfl)) rfl
theorem gw_141 : Cond.methodLink "ChallengeAuthority" 149 y_CA_settleOrders ∈ GW := gw_t (tb_3 (List.mem_of_getElem? (i := 12) rfl)) rfl
theorem gw_142 : Cond.instanceMethod y_CA_settleOrders ∈ GW := gw_t (tb_3 (List.mem_of_getElem? (i := 14) rfl)) rfl
theorem gw_143 : Cond.selects "ChallengeAuthority" y_CA_settleOrders y_CA_settleOrders ∈ GW := gw_p (List.mem_of_getElem? (i := 10) rfl) rfl
theorem gw_144 : Cond.code y_CA_challengeOf prog_1_method_36_code 3 (Option.some (Jvm.ClassFile.FieldType.object "ChallengeAuthority$Challenge")) ∈ GW := gw_t (tb_3 (List.mem_of_getElem? (i := 38) rfl)) rfl
theorem gw_145 : Cond.methodLink "ChallengeAuthority" 152 y_CA_challengeOf ∈ GW := gw_t (tb_3 (List.mem_of_getElem? (i := 35) rfl)) rfl
theorem gw_146 : Cond.instanceMethod y_CA_challengeOf ∈ GW := gw_t (tb_3 (List.mem_of_getElem? (i := 37) rfl)) rfl
theorem gw_147 : Cond.selects "ChallengeAuthority" y_CA_challengeOf y_CA_challengeOf ∈ GW := gw_p (List.mem_of_getElem? (i := 12) rfl) rfl
theorem gw_148 : Cond.fieldLink "ChallengeAuthority" 160 "ChallengeAuthority$Challenge" "state" "I" ∈ GW := gw_t (tb_1 (List.mem_of_getElem? (i := 163) rfl)) rfl
theorem gw_149 : Cond.fieldLink "ChallengeAuthority" 274 "ChallengeAuthority$Challenge" "wrong" "I" ∈ GW := gw_t (tb_1 (List.mem_of_getElem? (i := 167) rfl)) rfl
theorem gw_150 : Cond.code y_CA_countWrong prog_1_method_37_code 2 (Option.none : Option Jvm.ClassFile.FieldType) ∈ GW := gw_t (tb_3 (List.mem_of_getElem? (i := 48) rfl)) rfl
theorem gw_151 : Cond.methodLink "ChallengeAuthority" 170 y_CA_countWrong ∈ GW := gw_t (tb_3 (List.mem_of_getElem? (i := 46) rfl)) rfl
theorem gw_152 : Cond.static y_CA_countWrong ∈ GW := gw_t (tb_3 (List.mem_of_getElem? (i := 47) rfl)) rfl
theorem gw_153 : Cond.fieldLink "ChallengeAuthority" 49 "ChallengeAuthority" "text" "LChallengeAuthority$Text;" ∈ GW := gw_t (tb_1 (List.mem_of_getElem? (i := 216) rfl)) rfl
theorem gw_154 : Cond.fieldLink "ChallengeAuthority" 221 "ChallengeAuthority$Text" "size" "I" ∈ GW := gw_t (tb_1 (List.mem_of_getElem? (i := 60) rfl)) rfl
theorem gw_155 : Cond.fieldLink "ChallengeAuthority" 224 "ChallengeAuthority$Text" "bytes" "[I" ∈ GW := gw_t (tb_1 (List.mem_of_getElem? (i := 63) rfl)) rfl
theorem gw_156 : Cond.fieldLink "ChallengeAuthority$Request" 15 "ChallengeAuthority$Request" "sound" "Z" ∈ GW := gw_t (tb_1 (List.mem_of_getElem? (i := 80) rfl)) rfl
theorem gw_157 : Cond.fieldLink "ChallengeAuthority$Request" 70 "ChallengeAuthority$Text" "bytes" "[I" ∈ GW := gw_t (tb_1 (List.mem_of_getElem? (i := 62) rfl)) rfl
theorem gw_158 : Cond.fieldLink "ChallengeAuthority$Request" 9 "ChallengeAuthority$Request" "at" "I" ∈ GW := gw_t (tb_1 (List.mem_of_getElem? (i := 79) rfl)) rfl
theorem gw_159 : Cond.fieldLink "ChallengeAuthority$Request" 19 "ChallengeAuthority$Text" "size" "I" ∈ GW := gw_t (tb_1 (List.mem_of_getElem? (i := 59) rfl)) rfl
theorem gw_160 : Cond.code y_Req_readByte prog_8_method_9_code 3 (Option.some Jvm.ClassFile.FieldType.int) ∈ GW := gw_t (tb_3 (List.mem_of_getElem? (i := 72) rfl)) rfl
theorem gw_161 : Cond.methodLink "ChallengeAuthority$Request" 67 y_Req_readByte ∈ GW := gw_t (tb_3 (List.mem_of_getElem? (i := 69) rfl)) rfl
theorem gw_162 : Cond.instanceMethod y_Req_readByte ∈ GW := gw_t (tb_3 (List.mem_of_getElem? (i := 71) rfl)) rfl
theorem gw_163 : Cond.selects "ChallengeAuthority$Request" y_Req_readByte y_Req_readByte ∈ GW := gw_p (List.mem_of_getElem? (i := 15) rfl) rfl
theorem gw_164 : Cond.initialized "ChallengeAuthority$Request" ∈ GW := gw_t (tb_1 (List.mem_of_getElem? (i := 4) rfl)) rfl
theorem gw_165 : Cond.code y_Req_skipTag prog_8_method_7_code 5 (Option.none : Option Jvm.ClassFile.FieldType) ∈ GW := gw_t (tb_3 (List.mem_of_getElem? (i := 68) rfl)) rfl
theorem gw_166 : Cond.methodLink "ChallengeAuthority$Request" 60 y_Req_skipTag ∈ GW := gw_t (tb_3 (List.mem_of_getElem? (i := 65) rfl)) rfl
theorem gw_167 : Cond.instanceMethod y_Req_skipTag ∈ GW := gw_t (tb_3 (List.mem_of_getElem? (i := 67) rfl)) rfl
theorem gw_168 : Cond.selects "ChallengeAuthority$Request" y_Req_skipTag y_Req_skipTag ∈ GW := gw_p (List.mem_of_getElem? (i := 14) rfl) rfl
theorem gw_169 : Cond.code y_Req_readLength prog_8_method_8_code 4 (Option.some Jvm.ClassFile.FieldType.int) ∈ GW := gw_t (tb_3 (List.mem_of_getElem? (i := 76) rfl)) rfl
theorem gw_170 : Cond.methodLink "ChallengeAuthority$Request" 64 y_Req_readLength ∈ GW := gw_t (tb_3 (List.mem_of_getElem? (i := 73) rfl)) rfl
theorem gw_171 : Cond.instanceMethod y_Req_readLength ∈ GW := gw_t (tb_3 (List.mem_of_getElem? (i := 75) rfl)) rfl
theorem gw_172 : Cond.selects "ChallengeAuthority$Request" y_Req_readLength y_Req_readLength ∈ GW := gw_p (List.mem_of_getElem? (i := 16) rfl) rfl
theorem gw_173 : Cond.code y_Req_readNumber prog_8_method_5_code 8 (Option.some Jvm.ClassFile.FieldType.int) ∈ GW := gw_t (tb_3 (List.mem_of_getElem? (i := 80) rfl)) rfl
theorem gw_174 : Cond.methodLink "ChallengeAuthority$Request" 28 y_Req_readNumber ∈ GW := gw_t (tb_3 (List.mem_of_getElem? (i := 77) rfl)) rfl
theorem gw_175 : Cond.instanceMethod y_Req_readNumber ∈ GW := gw_t (tb_3 (List.mem_of_getElem? (i := 79) rfl)) rfl
theorem gw_176 : Cond.selects "ChallengeAuthority$Request" y_Req_readNumber y_Req_readNumber ∈ GW := gw_p (List.mem_of_getElem? (i := 17) rfl) rfl
theorem gw_177 : Cond.fieldLink "ChallengeAuthority$Request" 31 "ChallengeAuthority$Request" "key" "I" ∈ GW := gw_t (tb_1 (List.mem_of_getElem? (i := 75) rfl)) rfl
theorem gw_178 : Cond.fieldLink "ChallengeAuthority$Request" 37 "ChallengeAuthority$Request" "names" "I" ∈ GW := gw_t (tb_1 (List.mem_of_getElem? (i := 77) rfl)) rfl
theorem gw_179 : Cond.code y_Req_readRowEnd prog_8_method_6_code 4 (Option.some Jvm.ClassFile.FieldType.int) ∈ GW := gw_t (tb_3 (List.mem_of_getElem? (i := 64) rfl)) rfl
theorem gw_180 : Cond.methodLink "ChallengeAuthority$Request" 24 y_Req_readRowEnd ∈ GW := gw_t (tb_3 (List.mem_of_getElem? (i := 61) rfl)) rfl
theorem gw_181 : Cond.instanceMethod y_Req_readRowEnd ∈ GW := gw_t (tb_3 (List.mem_of_getElem? (i := 63) rfl)) rfl
theorem gw_182 : Cond.selects "ChallengeAuthority$Request" y_Req_readRowEnd y_Req_readRowEnd ∈ GW := gw_p (List.mem_of_getElem? (i := 13) rfl) rfl
theorem gw_183 : Cond.code y_Req_readNames prog_8_method_4_code 7 (Option.some Jvm.ClassFile.FieldType.int) ∈ GW := gw_t (tb_3 (List.mem_of_getElem? (i := 84) rfl)) rfl
theorem gw_184 : Cond.methodLink "ChallengeAuthority$Request" 34 y_Req_readNames ∈ GW := gw_t (tb_3 (List.mem_of_getElem? (i := 81) rfl)) rfl
theorem gw_185 : Cond.instanceMethod y_Req_readNames ∈ GW := gw_t (tb_3 (List.mem_of_getElem? (i := 83) rfl)) rfl
theorem gw_186 : Cond.selects "ChallengeAuthority$Request" y_Req_readNames y_Req_readNames ∈ GW := gw_p (List.mem_of_getElem? (i := 18) rfl) rfl
theorem gw_187 : Cond.code y_Req_signedDigest prog_8_method_3_code 1 (Option.some Jvm.ClassFile.FieldType.int) ∈ GW := gw_t (tb_3 (List.mem_of_getElem? (i := 89) rfl)) rfl
theorem gw_188 : Cond.methodLink "ChallengeAuthority$Request" 44 y_Req_signedDigest ∈ GW := gw_t (tb_3 (List.mem_of_getElem? (i := 86) rfl)) rfl
theorem gw_189 : Cond.instanceMethod y_Req_signedDigest ∈ GW := gw_t (tb_3 (List.mem_of_getElem? (i := 88) rfl)) rfl
theorem gw_190 : Cond.selects "ChallengeAuthority$Request" y_Req_signedDigest y_Req_signedDigest ∈ GW := gw_p (List.mem_of_getElem? (i := 19) rfl) rfl
theorem gw_191 : Cond.fieldLink "ChallengeAuthority" 35 "ChallengeAuthority" "certificates" "[LChallengeAuthority$Certificate;" ∈ GW := gw_t (tb_1 (List.mem_of_getElem? (i := 214) rfl)) rfl
theorem gw_192 : Cond.fieldLink "ChallengeAuthority" 182 "ChallengeAuthority" "certificateCount" "I" ∈ GW := gw_t (tb_1 (List.mem_of_getElem? (i := 209) rfl)) rfl
theorem gw_193 : Cond.fieldLink "ChallengeAuthority" 200 "ChallengeAuthority$Certificate" "order" "I" ∈ GW := gw_t (tb_1 (List.mem_of_getElem? (i := 182) rfl)) rfl
theorem gw_194 : Cond.fieldLink "ChallengeAuthority" 203 "ChallengeAuthority$Certificate" "names" "I" ∈ GW := gw_t (tb_1 (List.mem_of_getElem? (i := 184) rfl)) rfl
theorem gw_195 : Cond.fieldLink "ChallengeAuthority" 277 "ChallengeAuthority$Certificate" "key" "I" ∈ GW := gw_t (tb_1 (List.mem_of_getElem? (i := 186) rfl)) rfl
theorem gw_196 : Cond.fieldLink "ChallengeAuthority" 278 "ChallengeAuthority$Certificate" "issued" "I" ∈ GW := gw_t (tb_1 (List.mem_of_getElem? (i := 188) rfl)) rfl
theorem gw_197 : Cond.code y_CA_csr prog_1_method_16_code 4 (Option.some Jvm.ClassFile.FieldType.int) ∈ GW := gw_t (tb_2 (List.mem_of_getElem? (i := 64) rfl)) rfl
theorem gw_198 : Cond.methodLink "ChallengeAuthority" 174 y_CA_csr ∈ GW := gw_t (tb_3 (List.mem_of_getElem? (i := 56) rfl)) rfl
theorem gw_199 : Cond.instanceMethod y_CA_csr ∈ GW := gw_t (tb_2 (List.mem_of_getElem? (i := 62) rfl)) rfl
theorem gw_200 : Cond.selects "ChallengeAuthority" y_CA_csr y_CA_csr ∈ GW := gw_t (tb_2 (List.mem_of_getElem? (i := 63) rfl)) rfl
theorem gw_201 : Cond.fieldLink "ChallengeAuthority" 56 "ChallengeAuthority" "request" "LChallengeAuthority$Request;" ∈ GW := gw_t (tb_1 (List.mem_of_getElem? (i := 217) rfl)) rfl
theorem gw_202 : Cond.code y_Req_readFrom prog_8_method_2_code 4 (Option.some Jvm.ClassFile.FieldType.boolean) ∈ GW := gw_t (tb_3 (List.mem_of_getElem? (i := 60) rfl)) rfl
theorem gw_203 : Cond.methodLink "ChallengeAuthority" 185 y_Req_readFrom ∈ GW := gw_t (tb_3 (List.mem_of_getElem? (i := 57) rfl)) rfl
theorem gw_204 : Cond.instanceMethod y_Req_readFrom ∈ GW := gw_t (tb_3 (List.mem_of_getElem? (i := 58) rfl)) rfl
theorem gw_205 : Cond.selects "ChallengeAuthority$Request" y_Req_readFrom y_Req_readFrom ∈ GW := gw_t (tb_3 (List.mem_of_getElem? (i := 59) rfl)) rfl
theorem gw_206 : Cond.fieldLink "ChallengeAuthority" 189 "ChallengeAuthority$Request" "names" "I" ∈ GW := gw_t (tb_1 (List.mem_of_getElem? (i := 78) rfl)) rfl
theorem gw_207 : Cond.fieldLink "ChallengeAuthority" 193 "ChallengeAuthority$Request" "key" "I" ∈ GW := gw_t (tb_1 (List.mem_of_getElem? (i := 76) rfl)) rfl
theorem gw_208 : Cond.code y_CA_makeCertificate prog_1_method_38_code 5 (Option.some Jvm.ClassFile.FieldType.int) ∈ GW := gw_t (tb_3 (List.mem_of_getElem? (i := 96) rfl)) rfl
theorem gw_209 : Cond.methodLink "ChallengeAuthority" 194 y_CA_makeCertificate ∈ GW := gw_t (tb_3 (List.mem_of_getElem? (i := 93) rfl)) rfl
theorem gw_210 : Cond.instanceMethod y_CA_makeCertificate ∈ GW := gw_t (tb_3 (List.mem_of_getElem? (i := 95) rfl)) rfl
theorem gw_211 : Cond.selects "ChallengeAuthority" y_CA_makeCertificate y_CA_makeCertificate ∈ GW := gw_p (List.mem_of_getElem? (i := 20) rfl) rfl
theorem gw_212 : Cond.fieldLink "ChallengeAuthority" 197 "ChallengeAuthority$Order" "certificate" "I" ∈ GW := gw_t (tb_1 (List.mem_of_getElem? (i := 116) rfl)) rfl
theorem gw_213 : Cond.fieldLink "ChallengeAuthority" 204 "ChallengeAuthority$Certificate" "state" "I" ∈ GW := gw_t (tb_1 (List.mem_of_getElem? (i := 180) rfl)) rfl
theorem gw_214 : Cond.fieldLink "ChallengeAuthority" 205 "ChallengeAuthority$Certificate" "reason" "I" ∈ GW := gw_t (tb_1 (List.mem_of_getElem? (i := 190) rfl)) rfl
theorem gw_215 : Cond.code y_CA_goodCertificates prog_1_method_39_code 3 (Option.some Jvm.ClassFile.FieldType.int) ∈ GW := gw_t (tb_3 (List.mem_of_getElem? (i := 107) rfl)) rfl
theorem gw_216 : Cond.methodLink "ChallengeAuthority" 208 y_CA_goodCertificates ∈ GW := gw_t (tb_3 (List.mem_of_getElem? (i := 104) rfl)) rfl
theorem gw_217 : Cond.instanceMethod y_CA_goodCertificates ∈ GW := gw_t (tb_3 (List.mem_of_getElem? (i := 106) rfl)) rfl
theorem gw_218 : Cond.selects "ChallengeAuthority" y_CA_goodCertificates y_CA_goodCertificates ∈ GW := gw_p (List.mem_of_getElem? (i := 21) rfl) rfl
theorem gw_219 : Cond.code y_CA_closeAccount prog_1_method_40_code 4 (Option.some Jvm.ClassFile.FieldType.int) ∈ GW := gw_t (tb_3 (List.mem_of_getElem? (i := 118) rfl)) rfl
theorem gw_220 : Cond.methodLink "ChallengeAuthority" 211 y_CA_closeAccount ∈ GW := gw_t (tb_3 (List.mem_of_getElem? (i := 115) rfl)) rfl
theorem gw_221 : Cond.instanceMethod y_CA_closeAccount ∈ GW := gw_t (tb_3 (List.mem_of_getElem? (i := 117) rfl)) rfl
theorem gw_222 : Cond.selects "ChallengeAuthority" y_CA_closeAccount y_CA_closeAccount ∈ GW := gw_p (List.mem_of_getElem? (i := 22) rfl) rfl
theorem gw_223 : Cond.code y_CA_deactivateOne prog_1_method_41_code 3 (Option.some Jvm.ClassFile.FieldType.int) ∈ GW := gw_t (tb_3 (List.mem_of_getElem? (i := 122) rfl)) rfl
theorem gw_224 : Cond.methodLink "ChallengeAuthority" 214 y_CA_deactivateOne ∈ GW := gw_t (tb_3 (List.mem_of_getElem? (i := 119) rfl)) rfl
theorem gw_225 : Cond.instanceMethod y_CA_deactivateOne ∈ GW := gw_t (tb_3 (List.mem_of_getElem? (i := 121) rfl)) rfl
theorem gw_226 : Cond.selects "ChallengeAuthority" y_CA_deactivateOne y_CA_deactivateOne ∈ GW := gw_p (List.mem_of_getElem? (i := 23) rfl) rfl
theorem gw_227 : Cond.fieldLink "ChallengeAuthority$Text" 9 "ChallengeAuthority$Text" "bytes" "[I" ∈ GW := gw_t (tb_1 (List.mem_of_getElem? (i := 61) rfl)) rfl
theorem gw_228 : Cond.fieldLink "ChallengeAuthority$Text" 15 "ChallengeAuthority$Text" "size" "I" ∈ GW := gw_t (tb_1 (List.mem_of_getElem? (i := 58) rfl)) rfl
theorem gw_229 : Cond.code y_Txt_append prog_9_method_2_code 5 (Option.some Jvm.ClassFile.FieldType.boolean) ∈ GW := gw_t (tb_2 (List.mem_of_getElem? (i := 56) rfl)) rfl
theorem gw_230 : Cond.methodLink "ChallengeAuthority" 217 y_Txt_append ∈ GW := gw_t (tb_2 (List.mem_of_getElem? (i := 53) rfl)) rfl
theorem gw_231 : Cond.instanceMethod y_Txt_append ∈ GW := gw_t (tb_2 (List.mem_of_getElem? (i := 54) rfl)) rfl
theorem gw_232 : Cond.selects "ChallengeAuthority$Text" y_Txt_append y_Txt_append ∈ GW := gw_t (tb_2 (List.mem_of_getElem? (i := 55) rfl)) rfl
theorem gw_233 : Cond.initialized "ChallengeAuthority$Text" ∈ GW := gw_t (tb_1 (List.mem_of_getElem? (i := 3) rfl)) rfl
theorem gw_234 : Cond.methodLink "ChallengeAuthority$Authorization" 13 y_Aut_isLive ∈ GW := gw_t (tb_3 (List.mem_of_getElem? (i := 141) rfl)) rfl
theorem gw_235 : Cond.fieldLink "ChallengeAuthority$Authorization" 17 "ChallengeAuthority$Authorization" "expires" "I" ∈ GW := gw_t (tb_1 (List.mem_of_getElem? (i := 147) rfl)) rfl
theorem gw_236 : Cond.methodLink "ChallengeAuthority$Order" 25 y_Ord_isOpen ∈ GW := gw_t (tb_3 (List.mem_of_getElem? (i := 146) rfl)) rfl
theorem gw_237 : Cond.fieldLink "ChallengeAuthority$Order" 29 "ChallengeAuthority$Order" "expires" "I" ∈ GW := gw_t (tb_1 (List.mem_of_getElem? (i := 113) rfl)) rfl
theorem gw_238 : Cond.code y_Ord_expireAt prog_7_method_4_code 2 (Option.none : Option Jvm.ClassFile.FieldType) ∈ GW := gw_t (tb_3 (List.mem_of_getElem? (i := 145) rfl)) rfl
theorem gw_239 : Cond.methodLink "ChallengeAuthority" 231 y_Ord_expireAt ∈ GW := gw_t (tb_3 (List.mem_of_getElem? (i := 142) rfl)) rfl
theorem gw_240 : Cond.instanceMethod y_Ord_expireAt ∈ GW := gw_t (tb_3 (List.mem_of_getElem? (i := 143) rfl)) rfl
theorem gw_241 : Cond.selects "ChallengeAuthority$Order" y_Ord_expireAt y_Ord_expireAt ∈ GW := gw_t (tb_3 (List.mem_of_getElem? (i := 144) rfl)) rfl
theorem gw_242 : Cond.code y_Aut_expireAt prog_3_method_3_code 2 (Option.none : Option Jvm.ClassFile.FieldType) ∈ GW := gw_t (tb_3 (List.mem_of_getElem? (i := 140) rfl)) rfl
theorem gw_243 : Cond.methodLink "ChallengeAuthority" 228 y_Aut_expireAt ∈ GW := gw_t (tb_3 (List.mem_of_getElem? (i := 137) rfl)) rfl
theorem gw_244 : Cond.instanceMethod y_Aut_expireAt ∈ GW := gw_t (tb_3 (List.mem_of_getElem? (i := 138) rfl)) rfl
theorem gw_245 : Cond.selects "ChallengeAuthority$Authorization" y_Aut_expireAt y_Aut_expireAt ∈ GW := gw_t (tb_3 (List.mem_of_getElem? (i := 139) rfl)) rfl
theorem gw_246 : Cond.fieldLink "ChallengeAuthority" 232 "ChallengeAuthority$Nonces" "count" "I" ∈ GW := gw_t (tb_1 (List.mem_of_getElem? (i := 44) rfl)) rfl
theorem gw_247 : Cond.code y_CA_there prog_1_method_18_code 2 (Option.some Jvm.ClassFile.FieldType.int) ∈ GW := gw_t (tb_2 (List.mem_of_getElem? (i := 68) rfl)) rfl
theorem gw_248 : Cond.methodLink "ChallengeAuthority" 297 y_CA_there ∈ GW := gw_t (tb_3 (List.mem_of_getElem? (i := 158) rfl)) rfl
theorem gw_249 : Cond.instanceMethod y_CA_there ∈ GW := gw_t (tb_2 (List.mem_of_getElem? (i := 66) rfl)) rfl
theorem gw_250 : Cond.selects "ChallengeAuthority" y_CA_there y_CA_there ∈ GW := gw_t (tb_2 (List.mem_of_getElem? (i := 67) rfl)) rfl
theorem gw_251 : Cond.code y_CA_requireThere prog_1_method_44_code 4 (Option.none : Option Jvm.ClassFile.FieldType) ∈ GW := gw_t (tb_3 (List.mem_of_getElem? (i := 157) rfl)) rfl
theorem gw_252 : Cond.methodLink "ChallengeAuthority" 235 y_CA_requireThere ∈ GW := gw_t (tb_3 (List.mem_of_getElem? (i := 154) rfl)) rfl
theorem gw_253 : Cond.instanceMethod y_CA_requireThere ∈ GW := gw_t (tb_3 (List.mem_of_getElem? (i := 156) rfl)) rfl
theorem gw_254 : Cond.selects "ChallengeAuthority" y_CA_requireThere y_CA_requireThere ∈ GW := gw_p (List.mem_of_getElem? (i := 24) rfl) rfl
theorem gw_255 : Cond.code y_CA_ordersOf prog_1_method_46_code 4 (Option.some Jvm.ClassFile.FieldType.int) ∈ GW := gw_t (tb_3 (List.mem_of_getElem? (i := 173) rfl)) rfl
theorem gw_256 : Cond.methodLink "ChallengeAuthority" 300 y_CA_ordersOf ∈ GW := gw_t (tb_3 (List.mem_of_getElem? (i := 170) rfl)) rfl
theorem gw_257 : Cond.instanceMethod y_CA_ordersOf ∈ GW := gw_t (tb_3 (List.mem_of_getElem? (i := 172) rfl)) rfl
theorem gw_258 : Cond.selects "ChallengeAuthority" y_CA_ordersOf y_CA_ordersOf ∈ GW := gw_p (List.mem_of_getElem? (i := 26) rfl) rfl
theorem gw_259 : Cond.code y_Ord_authorizationTold prog_7_method_6_code 2 (Option.some Jvm.ClassFile.FieldType.int) ∈ GW := gw_t (tb_3 (List.mem_of_getElem? (i := 181) rfl)) rfl
theorem gw_260 : Cond.methodLink "ChallengeAuthority$Order" 38 y_Ord_authorizationTold ∈ GW := gw_t (tb_3 (List.mem_of_getElem? (i := 178) rfl)) rfl
theorem gw_261 : Cond.instanceMethod y_Ord_authorizationTold ∈ GW := gw_t (tb_3 (List.mem_of_getElem? (i := 180) rfl)) rfl
theorem gw_262 : Cond.selects "ChallengeAuthority$Order" y_Ord_authorizationTold y_Ord_authorizationTold ∈ GW := gw_p (List.mem_of_getElem? (i := 27) rfl) rfl
theorem gw_263 : Cond.fieldLink "ChallengeAuthority$Order" 32 "ChallengeAuthority$Order" "owner" "I" ∈ GW := gw_t (tb_1 (List.mem_of_getElem? (i := 109) rfl)) rfl
theorem gw_264 : Cond.fieldLink "ChallengeAuthority$Order" 35 "ChallengeAuthority$Order" "names" "I" ∈ GW := gw_t (tb_1 (List.mem_of_getElem? (i := 111) rfl)) rfl
theorem gw_265 : Cond.fieldLink "ChallengeAuthority$Order" 9 "ChallengeAuthority$Order" "certificate" "I" ∈ GW := gw_t (tb_1 (List.mem_of_getElem? (i := 115) rfl)) rfl
theorem gw_266 : Cond.fieldLink "ChallengeAuthority$Authorization" 20 "ChallengeAuthority$Authorization" "owner" "I" ∈ GW := gw_t (tb_1 (List.mem_of_getElem? (i := 143) rfl)) rfl
theorem gw_267 : Cond.fieldLink "ChallengeAuthority$Authorization" 23 "ChallengeAuthority$Authorization" "name" "I" ∈ GW := gw_t (tb_1 (List.mem_of_getElem? (i := 145) rfl)) rfl
theorem gw_268 : Cond.fieldLink "ChallengeAuthority$Challenge" 7 "ChallengeAuthority$Challenge" "token" "I" ∈ GW := gw_t (tb_1 (List.mem_of_getElem? (i := 164) rfl)) rfl
theorem gw_269 : Cond.fieldLink "ChallengeAuthority$Challenge" 13 "ChallengeAuthority$Challenge" "wrong" "I" ∈ GW := gw_t (tb_1 (List.mem_of_getElem? (i := 166) rfl)) rfl
theorem gw_270 : Cond.fieldLink "ChallengeAuthority$Certificate" 15 "ChallengeAuthority$Certificate" "order" "I" ∈ GW := gw_t (tb_1 (List.mem_of_getElem? (i := 181) rfl)) rfl
theorem gw_271 : Cond.fieldLink "ChallengeAuthority$Certificate" 18 "ChallengeAuthority$Certificate" "names" "I" ∈ GW := gw_t (tb_1 (List.mem_of_getElem? (i := 183) rfl)) rfl
theorem gw_272 : Cond.fieldLink "ChallengeAuthority$Certificate" 21 "ChallengeAuthority$Certificate" "key" "I" ∈ GW := gw_t (tb_1 (List.mem_of_getElem? (i := 185) rfl)) rfl
theorem gw_273 : Cond.fieldLink "ChallengeAuthority$Certificate" 24 "ChallengeAuthority$Certificate" "issued" "I" ∈ GW := gw_t (tb_1 (List.mem_of_getElem? (i := 187) rfl)) rfl
theorem gw_274 : Cond.fieldLink "ChallengeAuthority$Certificate" 9 "ChallengeAuthority$Certificate" "reason" "I" ∈ GW := gw_t (tb_1 (List.mem_of_getElem? (i := 189) rfl)) rfl
theorem gw_275 : Cond.code y_Cer_told prog_4_method_2_code 2 (Option.some Jvm.ClassFile.FieldType.int) ∈ GW := gw_t (tb_3 (List.mem_of_getElem? (i := 193) rfl)) rfl
theorem gw_276 : Cond.methodLink "ChallengeAuthority" 247 y_Cer_told ∈ GW := gw_t (tb_3 (List.mem_of_getElem? (i := 190) rfl)) rfl
theorem gw_277 : Cond.instanceMethod y_Cer_told ∈ GW := gw_t (tb_3 (List.mem_of_getElem? (i := 191) rfl)) rfl
theorem gw_278 : Cond.selects "ChallengeAuthority$Certificate" y_Cer_told y_Cer_told ∈ GW := gw_t (tb_3 (List.mem_of_getElem? (i := 192) rfl)) rfl
theorem gw_279 : Cond.initialized "ChallengeAuthority$Certificate" ∈ GW := gw_t (tb_1 (List.mem_of_getElem? (i := 9) rfl)) rfl
theorem gw_280 : Cond.code y_CA_accountDetail prog_1_method_45_code 3 (Option.some Jvm.ClassFile.FieldType.int) ∈ GW := gw_t (tb_3 (List.mem_of_getElem? (i := 169) rfl)) rfl
theorem gw_281 : Cond.methodLink "ChallengeAuthority" 239 y_CA_accountDetail ∈ GW := gw_t (tb_3 (List.mem_of_getElem? (i := 166) rfl)) rfl
theorem gw_282 : Cond.instanceMethod y_CA_accountDetail ∈ GW := gw_t (tb_3 (List.mem_of_getElem? (i := 168) rfl)) rfl
theorem gw_283 : Cond.selects "ChallengeAuthority" y_CA_accountDetail y_CA_accountDetail ∈ GW := gw_p (List.mem_of_getElem? (i := 25) rfl) rfl
theorem gw_284 : Cond.code y_Ord_told prog_7_method_5_code 2 (Option.some Jvm.ClassFile.FieldType.int) ∈ GW := gw_t (tb_3 (List.mem_of_getElem? (i := 177) rfl)) rfl
theorem gw_285 : Cond.methodLink "ChallengeAuthority" 242 y_Ord_told ∈ GW := gw_t (tb_3 (List.mem_of_getElem? (i := 174) rfl)) rfl
theorem gw_286 : Cond.instanceMethod y_Ord_told ∈ GW := gw_t (tb_3 (List.mem_of_getElem? (i := 175) rfl)) rfl
theorem gw_287 : Cond.selects "ChallengeAuthority$Order" y_Ord_told y_Ord_told ∈ GW := gw_t (tb_3 (List.mem_of_getElem? (i := 176) rfl)) rfl
theorem gw_288 : Cond.code y_Aut_told prog_3_method_4_code 2 (Option.some Jvm.ClassFile.FieldType.int) ∈ GW := gw_t (tb_3 (List.mem_of_getElem? (i := 185) rfl)) rfl
theorem gw_289 : Cond.methodLink "ChallengeAuthority" 245 y_Aut_told ∈ GW := gw_t (tb_3 (List.mem_of_getElem? (i := 182) rfl)) rfl
theorem gw_290 : Cond.instanceMethod y_Aut_told ∈ GW := gw_t (tb_3 (List.mem_of_getElem? (i := 183) rfl)) rfl
theorem gw_291 : Cond.selects "ChallengeAuthority$Authorization" y_Aut_told y_Aut_told ∈ GW := gw_t (tb_3 (List.mem_of_getElem? (i := 184) rfl)) rfl
theorem gw_292 : Cond.code y_Cha_told prog_5_method_2_code 2 (Option.some Jvm.ClassFile.FieldType.int) ∈ GW := gw_t (tb_3 (List.mem_of_getElem? (i := 189) rfl)) rfl
theorem gw_293 : Cond.methodLink "ChallengeAuthority" 246 y_Cha_told ∈ GW := gw_t (tb_3 (List.mem_of_getElem? (i := 186) rfl)) rfl
theorem gw_294 : Cond.instanceMethod y_Cha_told ∈ GW := gw_t (tb_3 (List.mem_of_getElem? (i := 187) rfl)) rfl
theorem gw_295 : Cond.selects "ChallengeAuthority$Challenge" y_Cha_told y_Cha_told ∈ GW := gw_t (tb_3 (List.mem_of_getElem? (i := 188) rfl)) rfl
theorem gw_296 : Cond.initialized "ChallengeAuthority$Challenge" ∈ GW := gw_t (tb_1 (List.mem_of_getElem? (i := 8) rfl)) rfl
theorem gw_297 : Cond.fieldLink "ChallengeAuthorityModel" 81 "ChallengeAuthorityModel" "thrown" "I" ∈ GW := gw_t (tb_3 (List.mem_of_getElem? (i := 200) rfl)) rfl
theorem gw_298 : Cond.fieldLink "ChallengeAuthorityModel" 77 "ChallengeAuthorityModel" "seed" "I" ∈ GW := gw_t (tb_3 (List.mem_of_getElem? (i := 201) rfl)) rfl
theorem gw_299 : Cond.constant "ChallengeAuthorityModel" 84 1103515245 ∈ GW := gw_t (tb_4 (List.mem_of_getElem? (i := 82) rfl)) rfl
theorem gw_300 : Cond.fieldLink "ChallengeAuthorityModel" 85 "ChallengeAuthorityModel" "mixed" "J" ∈ GW := gw_t (tb_3 (List.mem_of_getElem? (i := 235) rfl)) rfl
theorem gw_301 : Cond.constantLong "ChallengeAuthorityModel" 89 (-7046029254386353131) ∈ GW := gw_t (tb_4 (List.mem_of_getElem? (i := 109) rfl)) rfl
theorem gw_302 : Cond.code y_MO_mix prog_11_method_5_code 4 (Option.none : Option Jvm.ClassFile.FieldType) ∈ GW := gw_t (tb_4 (List.mem_of_getElem? (i := 108) rfl)) rfl
theorem gw_303 : Cond.methodLink "ChallengeAuthorityModel" 91 y_MO_mix ∈ GW := gw_t (tb_4 (List.mem_of_getElem? (i := 105) rfl)) rfl
theorem gw_304 : Cond.instanceMethod y_MO_mix ∈ GW := gw_t (tb_4 (List.mem_of_getElem? (i := 107) rfl)) rfl
theorem gw_305 : Cond.selects "ChallengeAuthorityModel" y_MO_mix y_MO_mix ∈ GW := gw_p (List.mem_of_getElem? (i := 31) rfl) rfl
theorem gw_306 : Cond.initialized "ChallengeAuthorityModel" ∈ GW := gw_t (tb_1 (List.mem_of_getElem? (i := 10) rfl)) rfl
theorem gw_307 : Cond.code y_MO_mixedDigest prog_11_method_6_code 1 (Option.some Jvm.ClassFile.FieldType.int) ∈ GW := gw_t (tb_4 (List.mem_of_getElem? (i := 113) rfl)) rfl
theorem gw_308 : Cond.methodLink "ChallengeAuthorityModel" 95 y_MO_mixedDigest ∈ GW := gw_t (tb_4 (List.mem_of_getElem? (i := 110) rfl)) rfl
theorem gw_309 : Cond.instanceMethod y_MO_mixedDigest ∈ GW := gw_t (tb_4 (List.mem_of_getElem? (i := 112) rfl)) rfl
theorem gw_310 : Cond.selects "ChallengeAuthorityModel" y_MO_mixedDigest y_MO_mixedDigest ∈ GW := gw_p (List.mem_of_getElem? (i := 32) rfl) rfl
theorem gw_311 : Cond.code y_MO_raised prog_11_method_8_code 7 (Option.some Jvm.ClassFile.FieldType.long) ∈ GW := gw_t (tb_4 (List.mem_of_getElem? (i := 96) rfl)) rfl
theorem gw_312 : Cond.methodLink "ChallengeAuthorityModel" 99 y_MO_raised ∈ GW := gw_t (tb_4 (List.mem_of_getElem? (i := 94) rfl)) rfl
theorem gw_313 : Cond.static y_MO_raised ∈ GW := gw_t (tb_4 (List.mem_of_getElem? (i := 95) rfl)) rfl
theorem gw_314 : Cond.fieldLink "ChallengeAuthorityModel" 103 "ChallengeAuthorityModel" "out" "I" ∈ GW := gw_t (tb_3 (List.mem_of_getElem? (i := 227) rfl)) rfl
theorem gw_315 : Cond.fieldLink "ChallengeAuthorityModel" 71 "ChallengeAuthorityModel" "nonces" "[I" ∈ GW := gw_t (tb_3 (List.mem_of_getElem? (i := 228) rfl)) rfl
theorem gw_316 : Cond.code y_MO_draw prog_11_method_3_code 1 (Option.some Jvm.ClassFile.FieldType.int) ∈ GW := gw_t (tb_4 (List.mem_of_getElem? (i := 81) rfl)) rfl
theorem gw_317 : Cond.methodLink "ChallengeAuthorityModel" 106 y_MO_draw ∈ GW := gw_t (tb_4 (List.mem_of_getElem? (i := 78) rfl)) rfl
theorem gw_318 : Cond.instanceMethod y_MO_draw ∈ GW := gw_t (tb_4 (List.mem_of_getElem? (i := 80) rfl)) rfl
theorem gw_319 : Cond.selects "ChallengeAuthorityModel" y_MO_draw y_MO_draw ∈ GW := gw_p (List.mem_of_getElem? (i := 28) rfl) rfl
theorem gw_320 : Cond.code y_MO_take prog_11_method_11_code 3 (Option.none : Option Jvm.ClassFile.FieldType) ∈ GW := gw_t (tb_4 (List.mem_of_getElem? (i := 86) rfl)) rfl
theorem gw_321 : Cond.methodLink "ChallengeAuthorityModel" 109 y_MO_take ∈ GW := gw_t (tb_4 (List.mem_of_getElem? (i := 83) rfl)) rfl
theorem gw_322 : Cond.instanceMethod y_MO_take ∈ GW := gw_t (tb_4 (List.mem_of_getElem? (i := 85) rfl)) rfl
theorem gw_323 : Cond.selects "ChallengeAuthorityModel" y_MO_take y_MO_take ∈ GW := gw_p (List.mem_of_getElem? (i := 29) rfl) rfl
theorem gw_324 : Cond.code y_MO_isKey prog_11_method_4_code 1 (Option.some Jvm.ClassFile.FieldType.boolean) ∈ GW := gw_t (tb_4 (List.mem_of_getElem? (i := 93) rfl)) rfl
theorem gw_325 : Cond.methodLink "ChallengeAuthorityModel" 112 y_MO_isKey ∈ GW := gw_t (tb_4 (List.mem_of_getElem? (i := 91) rfl)) rfl
theorem gw_326 : Cond.static y_MO_isKey ∈ GW := gw_t (tb_4 (List.mem_of_getElem? (i := 92) rfl)) rfl
theorem gw_327 : Cond.code y_MO_five prog_11_method_7_code 6 (Option.some Jvm.ClassFile.FieldType.int) ∈ GW := gw_t (tb_4 (List.mem_of_getElem? (i := 104) rfl)) rfl
theorem gw_328 : Cond.methodLink "ChallengeAuthorityModel" 116 y_MO_five ∈ GW := gw_t (tb_4 (List.mem_of_getElem? (i := 101) rfl)) rfl
theorem gw_329 : Cond.instanceMethod y_MO_five ∈ GW := gw_t (tb_4 (List.mem_of_getElem? (i := 103) rfl)) rfl
theorem gw_330 : Cond.selects "ChallengeAuthorityModel" y_MO_five y_MO_five ∈ GW := gw_p (List.mem_of_getElem? (i := 30) rfl) rfl
theorem gw_331 : Cond.fieldLink "ChallengeAuthorityModel" 120 "ChallengeAuthorityModel" "accounts" "I" ∈ GW := gw_t (tb_3 (List.mem_of_getElem? (i := 203) rfl)) rfl
theorem gw_332 : Cond.fieldLink "ChallengeAuthorityModel" 13 "ChallengeAuthorityModel" "closed" "[Z" ∈ GW := gw_t (tb_3 (List.mem_of_getElem? (i := 205) rfl)) rfl
theorem gw_333 : Cond.fieldLink "ChallengeAuthorityModel" 7 "ChallengeAuthorityModel" "keys" "[I" ∈ GW := gw_t (tb_3 (List.mem_of_getElem? (i := 204) rfl)) rfl
theorem gw_334 : Cond.code y_MO_isRight prog_11_method_9_code 3 (Option.some Jvm.ClassFile.FieldType.boolean) ∈ GW := gw_t (tb_4 (List.mem_of_getElem? (i := 124) rfl)) rfl
theorem gw_335 : Cond.methodLink "ChallengeAuthorityModel" 123 y_MO_isRight ∈ GW := gw_t (tb_4 (List.mem_of_getElem? (i := 122) rfl)) rfl
theorem gw_336 : Cond.static y_MO_isRight ∈ GW := gw_t (tb_4 (List.mem_of_getElem? (i := 123) rfl)) rfl
theorem gw_337 : Cond.code y_MO_find prog_11_method_12_code 3 (Option.some Jvm.ClassFile.FieldType.int) ∈ GW := gw_t (tb_4 (List.mem_of_getElem? (i := 121) rfl)) rfl
theorem gw_338 : Cond.methodLink "ChallengeAuthorityModel" 127 y_MO_find ∈ GW := gw_t (tb_4 (List.mem_of_getElem? (i := 118) rfl)) rfl
theorem gw_339 : Cond.instanceMethod y_MO_find ∈ GW := gw_t (tb_4 (List.mem_of_getElem? (i := 120) rfl)) rfl
theorem gw_340 : Cond.selects "ChallengeAuthorityModel" y_MO_find y_MO_find ∈ GW := gw_p (List.mem_of_getElem? (i := 33) rfl) rfl
theorem gw_341 : Cond.code y_MO_holder prog_11_method_16_code 3 (Option.some Jvm.ClassFile.FieldType.int) ∈ GW := gw_t (tb_4 (List.mem_of_getElem? (i := 128) rfl)) rfl
theorem gw_342 : Cond.methodLink "ChallengeAuthorityModel" 131 y_MO_holder ∈ GW := gw_t (tb_4 (List.mem_of_getElem? (i := 125) rfl)) rfl
theorem gw_343 : Cond.instanceMethod y_MO_holder ∈ GW := gw_t (tb_4 (List.mem_of_getElem? (i := 127) rfl)) rfl
theorem gw_344 : Cond.selects "ChallengeAuthorityModel" y_MO_holder y_MO_holder ∈ GW := gw_p (List.mem_of_getElem? (i := 34) rfl) rfl
theorem gw_345 : Cond.fieldLink "ChallengeAuthorityModel" 26 "ChallengeAuthorityModel" "orderState" "[I" ∈ GW := gw_t (tb_3 (List.mem_of_getElem? (i := 210) rfl)) rfl
theorem gw_346 : Cond.fieldLink "ChallengeAuthorityModel" 32 "ChallengeAuthorityModel" "orderMany" "[I" ∈ GW := gw_t (tb_3 (List.mem_of_getElem? (i := 212) rfl)) rfl
theorem gw_347 : Cond.fieldLink "ChallengeAuthorityModel" 47 "ChallengeAuthorityModel" "authState" "[I" ∈ GW := gw_t (tb_3 (List.mem_of_getElem? (i := 218) rfl)) rfl
theorem gw_348 : Cond.fieldLink "ChallengeAuthorityModel" 35 "ChallengeAuthorityModel" "orderAuths" "[I" ∈ GW := gw_t (tb_3 (List.mem_of_getElem? (i := 213) rfl)) rfl
theorem gw_349 : Cond.fieldLink "ChallengeAuthorityModel" 134 "ChallengeAuthorityModel" "orders" "I" ∈ GW := gw_t (tb_3 (List.mem_of_getElem? (i := 206) rfl)) rfl
theorem gw_350 : Cond.fieldLink "ChallengeAuthorityModel" 137 "ChallengeAuthorityModel" "auths" "I" ∈ GW := gw_t (tb_3 (List.mem_of_getElem? (i := 214) rfl)) rfl
theorem gw_351 : Cond.fieldLink "ChallengeAuthorityModel" 38 "ChallengeAuthorityModel" "authAccount" "[I" ∈ GW := gw_t (tb_3 (List.mem_of_getElem? (i := 215) rfl)) rfl
theorem gw_352 : Cond.fieldLink "ChallengeAuthorityModel" 41 "ChallengeAuthorityModel" "authName" "[I" ∈ GW := gw_t (tb_3 (List.mem_of_getElem? (i := 216) rfl)) rfl
theorem gw_353 : Cond.code y_MO_has prog_11_method_20_code 2 (Option.some Jvm.ClassFile.FieldType.boolean) ∈ GW := gw_t (tb_4 (List.mem_of_getElem? (i := 143) rfl)) rfl
theorem gw_354 : Cond.methodLink "ChallengeAuthorityModel" 140 y_MO_has ∈ GW := gw_t (tb_4 (List.mem_of_getElem? (i := 141) rfl)) rfl
theorem gw_355 : Cond.static y_MO_has ∈ GW := gw_t (tb_4 (List.mem_of_getElem? (i := 142) rfl)) rfl
theorem gw_356 : Cond.fieldLink "ChallengeAuthorityModel" 50 "ChallengeAuthorityModel" "token" "[I" ∈ GW := gw_t (tb_3 (List.mem_of_getElem? (i := 219) rfl)) rfl
theorem gw_357 : Cond.fieldLink "ChallengeAuthorityModel" 53 "ChallengeAuthorityModel" "stage" "[I" ∈ GW := gw_t (tb_3 (List.mem_of_getElem? (i := 220) rfl)) rfl
theorem gw_358 : Cond.fieldLink "ChallengeAuthorityModel" 56 "ChallengeAuthorityModel" "wrong" "[I" ∈ GW := gw_t (tb_3 (List.mem_of_getElem? (i := 221) rfl)) rfl
theorem gw_359 : Cond.fieldLink "ChallengeAuthorityModel" 44 "ChallengeAuthorityModel" "authEnds" "[I" ∈ GW := gw_t (tb_3 (List.mem_of_getElem? (i := 217) rfl)) rfl
theorem gw_360 : Cond.fieldLink "ChallengeAuthorityModel" 144 "ChallengeAuthorityModel" "time" "I" ∈ GW := gw_t (tb_3 (List.mem_of_getElem? (i := 202) rfl)) rfl
theorem gw_361 : Cond.code y_MO_valid prog_11_method_19_code 5 (Option.some Jvm.ClassFile.FieldType.int) ∈ GW := gw_t (tb_4 (List.mem_of_getElem? (i := 151) rfl)) rfl
theorem gw_362 : Cond.methodLink "ChallengeAuthorityModel" 147 y_MO_valid ∈ GW := gw_t (tb_4 (List.mem_of_getElem? (i := 148) rfl)) rfl
theorem gw_363 : Cond.instanceMethod y_MO_valid ∈ GW := gw_t (tb_4 (List.mem_of_getElem? (i := 150) rfl)) rfl
theorem gw_364 : Cond.selects "ChallengeAuthorityModel" y_MO_valid y_MO_valid ∈ GW := gw_p (List.mem_of_getElem? (i := 37) rfl) rfl
theorem gw_365 : Cond.code y_MO_settle prog_11_method_18_code 6 (Option.none : Option Jvm.ClassFile.FieldType) ∈ GW := gw_t (tb_4 (List.mem_of_getElem? (i := 159) rfl)) rfl
theorem gw_366 : Cond.methodLink "ChallengeAuthorityModel" 166 y_MO_settle ∈ GW := gw_t (tb_4 (List.mem_of_getElem? (i := 156) rfl)) rfl
theorem gw_367 : Cond.instanceMethod y_MO_settle ∈ GW := gw_t (tb_4 (List.mem_of_getElem? (i := 158) rfl)) rfl
theorem gw_368 : Cond.selects "ChallengeAuthorityModel" y_MO_settle y_MO_settle ∈ GW := gw_p (List.mem_of_getElem? (i := 39) rfl) rfl
theorem gw_369 : Cond.code y_MO_authorize prog_11_method_22_code 6 (Option.some Jvm.ClassFile.FieldType.int) ∈ GW := gw_t (tb_4 (List.mem_of_getElem? (i := 155) rfl)) rfl
theorem gw_370 : Cond.methodLink "ChallengeAuthorityModel" 162 y_MO_authorize ∈ GW := gw_t (tb_4 (List.mem_of_getElem? (i := 152) rfl)) rfl
theorem gw_371 : Cond.instanceMethod y_MO_authorize ∈ GW := gw_t (tb_4 (List.mem_of_getElem? (i := 154) rfl)) rfl
theorem gw_372 : Cond.selects "ChallengeAuthorityModel" y_MO_authorize y_MO_authorize ∈ GW := gw_p (List.mem_of_getElem? (i := 38) rfl) rfl
theorem gw_373 : Cond.fieldLink "ChallengeAuthorityModel" 17 "ChallengeAuthorityModel" "orderAccount" "[I" ∈ GW := gw_t (tb_3 (List.mem_of_getElem? (i := 207) rfl)) rfl
theorem gw_374 : Cond.fieldLink "ChallengeAuthorityModel" 20 "ChallengeAuthorityModel" "orderNames" "[I" ∈ GW := gw_t (tb_3 (List.mem_of_getElem? (i := 208) rfl)) rfl
theorem gw_375 : Cond.fieldLink "ChallengeAuthorityModel" 23 "ChallengeAuthorityModel" "orderEnds" "[I" ∈ GW := gw_t (tb_3 (List.mem_of_getElem? (i := 209) rfl)) rfl
theorem gw_376 : Cond.fieldLink "ChallengeAuthorityModel" 29 "ChallengeAuthorityModel" "orderPaper" "[I" ∈ GW := gw_t (tb_3 (List.mem_of_getElem? (i := 211) rfl)) rfl
theorem gw_377 : Cond.code y_MO_fresh prog_11_method_23_code 5 (Option.some Jvm.ClassFile.FieldType.int) ∈ GW := gw_t (tb_4 (List.mem_of_getElem? (i := 147) rfl)) rfl
theorem gw_378 : Cond.methodLink "ChallengeAuthorityModel" 159 y_MO_fresh ∈ GW := gw_t (tb_4 (List.mem_of_getElem? (i := 144) rfl)) rfl
theorem gw_379 : Cond.instanceMethod y_MO_fresh ∈ GW := gw_t (tb_4 (List.mem_of_getElem? (i := 146) rfl)) rfl
theorem gw_380 : Cond.selects "ChallengeAuthorityModel" y_MO_fresh y_MO_fresh ∈ GW := gw_p (List.mem_of_getElem? (i := 36) rfl) rfl
theorem gw_381 : Cond.code y_MO_signed prog_11_method_15_code 6 (Option.some Jvm.ClassFile.FieldType.int) ∈ GW := gw_t (tb_4 (List.mem_of_getElem? (i := 136) rfl)) rfl
theorem gw_382 : Cond.methodLink "ChallengeAuthorityModel" 151 y_MO_signed ∈ GW := gw_t (tb_4 (List.mem_of_getElem? (i := 133) rfl)) rfl
theorem gw_383 : Cond.instanceMethod y_MO_signed ∈ GW := gw_t (tb_4 (List.mem_of_getElem? (i := 135) rfl)) rfl
theorem gw_384 : Cond.selects "ChallengeAuthorityModel" y_MO_signed y_MO_signed ∈ GW := gw_p (List.mem_of_getElem? (i := 35) rfl) rfl
theorem gw_385 : Cond.constant "ChallengeAuthorityModel" 155 65536 ∈ GW := gw_t (tb_4 (List.mem_of_getElem? (i := 137) rfl)) rfl
theorem gw_386 : Cond.code y_MO_many prog_11_method_21_code 3 (Option.some Jvm.ClassFile.FieldType.int) ∈ GW := gw_t (tb_4 (List.mem_of_getElem? (i := 140) rfl)) rfl
theorem gw_387 : Cond.methodLink "ChallengeAuthorityModel" 156 y_MO_many ∈ GW := gw_t (tb_4 (List.mem_of_getElem? (i := 138) rfl)) rfl
theorem gw_388 : Cond.static y_MO_many ∈ GW := gw_t (tb_4 (List.mem_of_getElem? (i := 139) rfl)) rfl
theorem gw_389 : Cond.code y_MO_isAuth prog_11_method_25_code 2 (Option.some Jvm.ClassFile.FieldType.boolean) ∈ GW := gw_t (tb_4 (List.mem_of_getElem? (i := 167) rfl)) rfl
theorem gw_390 : Cond.methodLink "ChallengeAuthorityModel" 169 y_MO_isAuth ∈ GW := gw_t (tb_4 (List.mem_of_getElem? (i := 164) rfl)) rfl
theorem gw_391 : Cond.instanceMethod y_MO_isAuth ∈ GW := gw_t (tb_4 (List.mem_of_getElem? (i := 166) rfl)) rfl
theorem gw_392 : Cond.selects "ChallengeAuthorityModel" y_MO_isAuth y_MO_isAuth ∈ GW := gw_p (List.mem_of_getElem? (i := 40) rfl) rfl
theorem gw_393 : Cond.code y_MO_isWhich prog_11_method_26_code 1 (Option.some Jvm.ClassFile.FieldType.boolean) ∈ GW := gw_t (tb_4 (List.mem_of_getElem? (i := 170) rfl)) rfl
theorem gw_394 : Cond.methodLink "ChallengeAuthorityModel" 172 y_MO_isWhich ∈ GW := gw_t (tb_4 (List.mem_of_getElem? (i := 168) rfl)) rfl
theorem gw_395 : Cond.static y_MO_isWhich ∈ GW := gw_t (tb_4 (List.mem_of_getElem? (i := 169) rfl)) rfl
theorem gw_396 : Cond.fieldLink "ChallengeAuthorityModel" 179 "ChallengeAuthorityModel" "at" "I" ∈ GW := gw_t (tb_3 (List.mem_of_getElem? (i := 231) rfl)) rfl
theorem gw_397 : Cond.fieldLink "ChallengeAuthorityModel" 175 "ChallengeAuthorityModel" "good" "Z" ∈ GW := gw_t (tb_3 (List.mem_of_getElem? (i := 232) rfl)) rfl
theorem gw_398 : Cond.fieldLink "ChallengeAuthorityModel" 74 "ChallengeAuthorityModel" "text" "[I" ∈ GW := gw_t (tb_3 (List.mem_of_getElem? (i := 229) rfl)) rfl
theorem gw_399 : Cond.fieldLink "ChallengeAuthorityModel" 182 "ChallengeAuthorityModel" "size" "I" ∈ GW := gw_t (tb_3 (List.mem_of_getElem? (i := 230) rfl)) rfl
theorem gw_400 : Cond.code y_MO_next prog_11_method_29_code 2 (Option.some Jvm.ClassFile.FieldType.int) ∈ GW := gw_t (tb_4 (List.mem_of_getElem? (i := 198) rfl)) rfl
theorem gw_401 : Cond.methodLink "ChallengeAuthorityModel" 185 y_MO_next ∈ GW := gw_t (tb_4 (List.mem_of_getElem? (i := 195) rfl)) rfl
theorem gw_402 : Cond.instanceMethod y_MO_next ∈ GW := gw_t (tb_4 (List.mem_of_getElem? (i := 197) rfl)) rfl
theorem gw_403 : Cond.selects "ChallengeAuthorityModel" y_MO_next y_MO_next ∈ GW := gw_p (List.mem_of_getElem? (i := 44) rfl) rfl
theorem gw_404 : Cond.code y_MO_must prog_11_method_30_code 3 (Option.none : Option Jvm.ClassFile.FieldType) ∈ GW := gw_t (tb_4 (List.mem_of_getElem? (i := 194) rfl)) rfl
theorem gw_405 : Cond.methodLink "ChallengeAuthorityModel" 188 y_MO_must ∈ GW := gw_t (tb_4 (List.mem_of_getElem? (i := 191) rfl)) rfl
theorem gw_406 : Cond.instanceMethod y_MO_must ∈ GW := gw_t (tb_4 (List.mem_of_getElem? (i := 193) rfl)) rfl
theorem gw_407 : Cond.selects "ChallengeAuthorityModel" y_MO_must y_MO_must ∈ GW := gw_p (List.mem_of_getElem? (i := 43) rfl) rfl
theorem gw_408 : Cond.code y_MO_takeLength prog_11_method_31_code 2 (Option.some Jvm.ClassFile.FieldType.int) ∈ GW := gw_t (tb_4 (List.mem_of_getElem? (i := 202) rfl)) rfl
theorem gw_409 : Cond.methodLink "ChallengeAuthorityModel" 191 y_MO_takeLength ∈ GW := gw_t (tb_4 (List.mem_of_getElem? (i := 199) rfl)) rfl
theorem gw_410 : Cond.instanceMethod y_MO_takeLength ∈ GW := gw_t (tb_4 (List.mem_of_getElem? (i := 201) rfl)) rfl
theorem gw_411 : Cond.selects "ChallengeAuthorityModel" y_MO_takeLength y_MO_takeLength ∈ GW := gw_p (List.mem_of_getElem? (i := 45) rfl) rfl
theorem gw_412 : Cond.code y_MO_takeNumber prog_11_method_32_code 6 (Option.some Jvm.ClassFile.FieldType.int) ∈ GW := gw_t (tb_4 (List.mem_of_getElem? (i := 206) rfl)) rfl
theorem gw_413 : Cond.methodLink "ChallengeAuthorityModel" 194 y_MO_takeNumber ∈ GW := gw_t (tb_4 (List.mem_of_getElem? (i := 203) rfl)) rfl
theorem gw_414 : Cond.instanceMethod y_MO_takeNumber ∈ GW := gw_t (tb_4 (List.mem_of_getElem? (i := 205) rfl)) rfl
theorem gw_415 : Cond.selects "ChallengeAuthorityModel" y_MO_takeNumber y_MO_takeNumber ∈ GW := gw_p (List.mem_of_getElem? (i := 46) rfl) rfl
theorem gw_416 : Cond.fieldLink "ChallengeAuthorityModel" 197 "ChallengeAuthorityModel" "wantedKey" "I" ∈ GW := gw_t (tb_3 (List.mem_of_getElem? (i := 233) rfl)) rfl
theorem gw_417 : Cond.fieldLink "ChallengeAuthorityModel" 200 "ChallengeAuthorityModel" "wantedNames" "I" ∈ GW := gw_t (tb_3 (List.mem_of_getElem? (i := 234) rfl)) rfl
theorem gw_418 : Cond.code y_MO_textDigest prog_11_method_34_code 2 (Option.some Jvm.ClassFile.FieldType.int) ∈ GW := gw_t (tb_4 (List.mem_of_getElem? (i := 182) rfl)) rfl
theorem gw_419 : Cond.methodLink "ChallengeAuthorityModel" 203 y_MO_textDigest ∈ GW := gw_t (tb_4 (List.mem_of_getElem? (i := 179) rfl)) rfl
theorem gw_420 : Cond.instanceMethod y_MO_textDigest ∈ GW := gw_t (tb_4 (List.mem_of_getElem? (i := 181) rfl)) rfl
theorem gw_421 : Cond.selects "ChallengeAuthorityModel" y_MO_textDigest y_MO_textDigest ∈ GW := gw_p (List.mem_of_getElem? (i := 41) rfl) rfl
theorem gw_422 : Cond.code y_MO_readRequest prog_11_method_33_code 5 (Option.none : Option Jvm.ClassFile.FieldType) ∈ GW := gw_t (tb_4 (List.mem_of_getElem? (i := 190) rfl)) rfl
theorem gw_423 : Cond.methodLink "ChallengeAuthorityModel" 209 y_MO_readRequest ∈ GW := gw_t (tb_4 (List.mem_of_getElem? (i := 187) rfl)) rfl
theorem gw_424 : Cond.instanceMethod y_MO_readRequest ∈ GW := gw_t (tb_4 (List.mem_of_getElem? (i := 189) rfl)) rfl
theorem gw_425 : Cond.selects "ChallengeAuthorityModel" y_MO_readRequest y_MO_readRequest ∈ GW := gw_p (List.mem_of_getElem? (i := 42) rfl) rfl
theorem gw_426 : Cond.fieldLink "ChallengeAuthorityModel" 206 "ChallengeAuthorityModel" "papers" "I" ∈ GW := gw_t (tb_3 (List.mem_of_getElem? (i := 222) rfl)) rfl
theorem gw_427 : Cond.fieldLink "ChallengeAuthorityModel" 59 "ChallengeAuthorityModel" "paperOrder" "[I" ∈ GW := gw_t (tb_3 (List.mem_of_getElem? (i := 223) rfl)) rfl
theorem gw_428 : Cond.fieldLink "ChallengeAuthorityModel" 62 "ChallengeAuthorityModel" "paperKey" "[I" ∈ GW := gw_t (tb_3 (List.mem_of_getElem? (i := 224) rfl)) rfl
theorem gw_429 : Cond.fieldLink "ChallengeAuthorityModel" 65 "ChallengeAuthorityModel" "paperTime" "[I" ∈ GW := gw_t (tb_3 (List.mem_of_getElem? (i := 225) rfl)) rfl
theorem gw_430 : Cond.fieldLink "ChallengeAuthorityModel" 68 "ChallengeAuthorityModel" "paperReason" "[I" ∈ GW := gw_t (tb_3 (List.mem_of_getElem? (i := 226) rfl)) rfl
theorem gw_431 : Cond.code y_MO_may prog_11_method_38_code 5 (Option.some Jvm.ClassFile.FieldType.boolean) ∈ GW := gw_t (tb_4 (List.mem_of_getElem? (i := 218) rfl)) rfl
theorem gw_432 : Cond.methodLink "ChallengeAuthorityModel" 212 y_MO_may ∈ GW := gw_t (tb_4 (List.mem_of_getElem? (i := 215) rfl)) rfl
theorem gw_433 : Cond.instanceMethod y_MO_may ∈ GW := gw_t (tb_4 (List.mem_of_getElem? (i := 217) rfl)) rfl
theorem gw_434 : Cond.selects "ChallengeAuthorityModel" y_MO_may y_MO_may ∈ GW := gw_p (List.mem_of_getElem? (i := 47) rfl) rfl
theorem gw_435 : Cond.code y_MO_give prog_11_method_40_code 3 (Option.some Jvm.ClassFile.FieldType.int) ∈ GW := gw_t (tb_4 (List.mem_of_getElem? (i := 226) rfl)) rfl
theorem gw_436 : Cond.methodLink "ChallengeAuthorityModel" 215 y_MO_give ∈ GW := gw_t (tb_4 (List.mem_of_getElem? (i := 223) rfl)) rfl
theorem gw_437 : Cond.instanceMethod y_MO_give ∈ GW := gw_t (tb_4 (List.mem_of_getElem? (i := 225) rfl)) rfl
theorem gw_438 : Cond.selects "ChallengeAuthorityModel" y_MO_give y_MO_give ∈ GW := gw_p (List.mem_of_getElem? (i := 48) rfl) rfl
theorem gw_439 : Cond.constantLong "ChallengeAuthorityModel" 218 255 ∈ GW := gw_t (tb_4 (List.mem_of_getElem? (i := 235) rfl)) rfl
theorem gw_440 : Cond.code y_MO_counted prog_11_method_46_code 2 (Option.some Jvm.ClassFile.FieldType.int) ∈ GW := gw_t (tb_5 (List.mem_of_getElem? (i := 11) rfl)) rfl
theorem gw_441 : Cond.methodLink "ChallengeAuthorityModel" 220 y_MO_counted ∈ GW := gw_t (tb_5 (List.mem_of_getElem? (i := 8) rfl)) rfl
theorem gw_442 : Cond.instanceMethod y_MO_counted ∈ GW := gw_t (tb_5 (List.mem_of_getElem? (i := 10) rfl)) rfl
theorem gw_443 : Cond.selects "ChallengeAuthorityModel" y_MO_counted y_MO_counted ∈ GW := gw_p (List.mem_of_getElem? (i := 49) rfl) rfl
theorem gw_444 : Cond.code y_MO_look prog_11_method_48_code 4 (Option.none : Option Jvm.ClassFile.FieldType) ∈ GW := gw_t (tb_5 (List.mem_of_getElem? (i := 19) rfl)) rfl
theorem gw_445 : Cond.methodLink "ChallengeAuthorityModel" 223 y_MO_look ∈ GW := gw_t (tb_5 (List.mem_of_getElem? (i := 16) rfl)) rfl
theorem gw_446 : Cond.instanceMethod y_MO_look ∈ GW := gw_t (tb_5 (List.mem_of_getElem? (i := 18) rfl)) rfl
theorem gw_447 : Cond.selects "ChallengeAuthorityModel" y_MO_look y_MO_look ∈ GW := gw_p (List.mem_of_getElem? (i := 50) rfl) rfl
theorem gw_448 : Cond.code y_MO_ofPaper prog_11_method_52_code 3 (Option.some Jvm.ClassFile.FieldType.int) ∈ GW := gw_t (tb_5 (List.mem_of_getElem? (i := 35) rfl)) rfl
theorem gw_449 : Cond.methodLink "ChallengeAuthorityModel" 233 y_MO_ofPaper ∈ GW := gw_t (tb_5 (List.mem_of_getElem? (i := 32) rfl)) rfl
theorem gw_450 : Cond.instanceMethod y_MO_ofPaper ∈ GW := gw_t (tb_5 (List.mem_of_getElem? (i := 34) rfl)) rfl
theorem gw_451 : Cond.selects "ChallengeAuthorityModel" y_MO_ofPaper y_MO_ofPaper ∈ GW := gw_p (List.mem_of_getElem? (i := 53) rfl) rfl
theorem gw_452 : Cond.code y_MO_ofAccount prog_11_method_50_code 5 (Option.some Jvm.ClassFile.FieldType.int) ∈ GW := gw_t (tb_5 (List.mem_of_getElem? (i := 27) rfl)) rfl
theorem gw_453 : Cond.methodLink "ChallengeAuthorityModel" 227 y_MO_ofAccount ∈ GW := gw_t (tb_5 (List.mem_of_getElem? (i := 24) rfl)) rfl
theorem gw_454 : Cond.instanceMethod y_MO_ofAccount ∈ GW := gw_t (tb_5 (List.mem_of_getElem? (i := 26) rfl)) rfl
theorem gw_455 : Cond.selects "ChallengeAuthorityModel" y_MO_ofAccount y_MO_ofAccount ∈ GW := gw_p (List.mem_of_getElem? (i := 51) rfl) rfl
theorem gw_456 : Cond.code y_MO_ofOrder prog_11_method_51_code 3 (Option.some Jvm.ClassFile.FieldType.int) ∈ GW := gw_t (tb_5 (List.mem_of_getElem? (i := 31) rfl)) rfl
theorem gw_457 : Cond.methodLink "ChallengeAuthorityModel" 230 y_MO_ofOrder ∈ GW := gw_t (tb_5 (List.mem_of_getElem? (i := 28) rfl)) rfl
theorem gw_458 : Cond.instanceMethod y_MO_ofOrder ∈ GW := gw_t (tb_5 (List.mem_of_getElem? (i := 30) rfl)) rfl
theorem gw_459 : Cond.selects "ChallengeAuthorityModel" y_MO_ofOrder y_MO_ofOrder ∈ GW := gw_p (List.mem_of_getElem? (i := 52) rfl) rfl
theorem gw_460 : Cond.lays "ChallengeAuthority" "ChallengeAuthority" "drawState" "I" ∈ GW := gw_t (tb_1 (List.mem_of_getElem? (i := 218) rfl)) rfl
theorem gw_461 : Cond.lays "ChallengeAuthority" "ChallengeAuthority" "time" "I" ∈ GW := gw_t (tb_1 (List.mem_of_getElem? (i := 220) rfl)) rfl
theorem gw_462 : Cond.lays "ChallengeAuthority" "ChallengeAuthority" "accountCount" "I" ∈ GW := gw_t (tb_1 (List.mem_of_getElem? (i := 222) rfl)) rfl
theorem gw_463 : Cond.lays "ChallengeAuthority" "ChallengeAuthority" "orderCount" "I" ∈ GW := gw_t (tb_1 (List.mem_of_getElem? (i := 224) rfl)) rfl
theorem gw_464 : Cond.lays "ChallengeAuthority" "ChallengeAuthority" "authorizationCount" "I" ∈ GW := gw_t (tb_1 (List.mem_of_getElem? (i := 226) rfl)) rfl
theorem gw_465 : Cond.lays "ChallengeAuthority" "ChallengeAuthority" "certificateCount" "I" ∈ GW := gw_t (tb_1 (List.mem_of_getElem? (i := 228) rfl)) rfl
theorem gw_466 : Cond.laysFinal "ChallengeAuthority" "ChallengeAuthority" "accounts" "[LChallengeAuthority$Account;" ∈ GW := gw_t (tb_1 (List.mem_of_getElem? (i := 230) rfl)) rfl
theorem gw_467 : Cond.laysFinal "ChallengeAuthority" "ChallengeAuthority" "orders" "[LChallengeAuthority$Order;" ∈ GW := gw_t (tb_1 (List.mem_of_getElem? (i := 232) rfl)) rfl
theorem gw_468 : Cond.laysFinal "ChallengeAuthority" "ChallengeAuthority" "authorizations" "[LChallengeAuthority$Authorization;" ∈ GW := gw_t (tb_1 (List.mem_of_getElem? (i := 234) rfl)) rfl
theorem gw_469 : Cond.laysFinal "ChallengeAuthority" "ChallengeAuthority" "challenges" "[LChallengeAuthority$Challenge;" ∈ GW := gw_t (tb_1 (List.mem_of_getElem? (i := 236) rfl)) rfl
theorem gw_470 : Cond.laysFinal "ChallengeAuthority" "ChallengeAuthority" "certificates" "[LChallengeAuthority$Certificate;" ∈ GW := gw_t (tb_1 (List.mem_of_getElem? (i := 238) rfl)) rfl
theorem gw_471 : Cond.laysFinal "ChallengeAuthority" "ChallengeAuthority" "nonces" "LChallengeAuthority$Nonces;" ∈ GW := gw_t (tb_2 (List.mem_of_getElem? (i := 0) rfl)) rfl
theorem gw_472 : Cond.laysFinal "ChallengeAuthority" "ChallengeAuthority" "text" "LChallengeAuthority$Text;" ∈ GW := gw_t (tb_2 (List.mem_of_getElem? (i := 2) rfl)) rfl
theorem gw_473 : Cond.laysFinal "ChallengeAuthority" "ChallengeAuthority" "request" "LChallengeAuthority$Request;" ∈ GW := gw_t (tb_2 (List.mem_of_getElem? (i := 4) rfl)) rfl
theorem gw_474 : Cond.lays "ChallengeAuthority$Nonces" "ChallengeAuthority$Nonces" "count" "I" ∈ GW := gw_t (tb_1 (List.mem_of_getElem? (i := 46) rfl)) rfl
theorem gw_475 : Cond.laysFinal "ChallengeAuthority$Nonces" "ChallengeAuthority$Nonces" "out" "[I" ∈ GW := gw_t (tb_1 (List.mem_of_getElem? (i := 48) rfl)) rfl
theorem gw_476 : Cond.lays "ChallengeAuthority$Text" "ChallengeAuthority$Text" "size" "I" ∈ GW := gw_t (tb_1 (List.mem_of_getElem? (i := 64) rfl)) rfl
theorem gw_477 : Cond.laysFinal "ChallengeAuthority$Text" "ChallengeAuthority$Text" "bytes" "[I" ∈ GW := gw_t (tb_1 (List.mem_of_getElem? (i := 66) rfl)) rfl
theorem gw_478 : Cond.lays "ChallengeAuthority$Request" "ChallengeAuthority$Request" "key" "I" ∈ GW := gw_t (tb_1 (List.mem_of_getElem? (i := 81) rfl)) rfl
theorem gw_479 : Cond.lays "ChallengeAuthority$Request" "ChallengeAuthority$Request" "names" "I" ∈ GW := gw_t (tb_1 (List.mem_of_getElem? (i := 83) rfl)) rfl
theorem gw_480 : Cond.lays "ChallengeAuthority$Request" "ChallengeAuthority$Request" "at" "I" ∈ GW := gw_t (tb_1 (List.mem_of_getElem? (i := 85) rfl)) rfl
theorem gw_481 : Cond.lays "ChallengeAuthority$Request" "ChallengeAuthority$Request" "sound" "Z" ∈ GW := gw_t (tb_1 (List.mem_of_getElem? (i := 87) rfl)) rfl
theorem gw_482 : Cond.lays "ChallengeAuthority$Account" "ChallengeAuthority$Account" "state" "I" ∈ GW := gw_t (tb_1 (List.mem_of_getElem? (i := 97) rfl)) rfl
theorem gw_483 : Cond.lays "ChallengeAuthority$Account" "ChallengeAuthority$Account" "key" "I" ∈ GW := gw_t (tb_1 (List.mem_of_getElem? (i := 99) rfl)) rfl
theorem gw_484 : Cond.lays "ChallengeAuthority$Order" "ChallengeAuthority$Order" "state" "I" ∈ GW := gw_t (tb_1 (List.mem_of_getElem? (i := 121) rfl)) rfl
theorem gw_485 : Cond.lays "ChallengeAuthority$Order" "ChallengeAuthority$Order" "owner" "I" ∈ GW := gw_t (tb_1 (List.mem_of_getElem? (i := 123) rfl)) rfl
theorem gw_486 : Cond.lays "ChallengeAuthority$Order" "ChallengeAuthority$Order" "names" "I" ∈ GW := gw_t (tb_1 (List.mem_of_getElem? (i := 125) rfl)) rfl
theorem gw_487 : Cond.lays "ChallengeAuthority$Order" "ChallengeAuthority$Order" "expires" "I" ∈ GW := gw_t (tb_1 (List.mem_of_getElem? (i := 127) rfl)) rfl
theorem gw_488 : Cond.lays "ChallengeAuthority$Order" "ChallengeAuthority$Order" "certificate" "I" ∈ GW := gw_t (tb_1 (List.mem_of_getElem? (i := 129) rfl)) rfl
theorem gw_489 : Cond.lays "ChallengeAuthority$Order" "ChallengeAuthority$Order" "attached" "I" ∈ GW := gw_t (tb_1 (List.mem_of_getElem? (i := 131) rfl)) rfl
theorem gw_490 : Cond.laysFinal "ChallengeAuthority$Order" "ChallengeAuthority$Order" "authorizations" "[I" ∈ GW := gw_t (tb_1 (List.mem_of_getElem? (i := 133) rfl)) rfl
theorem gw_491 : Cond.lays "ChallengeAuthority$Authorization" "ChallengeAuthority$Authorization" "state" "I" ∈ GW := gw_t (tb_1 (List.mem_of_getElem? (i := 149) rfl)) rfl
theorem gw_492 : Cond.lays "ChallengeAuthority$Authorization" "ChallengeAuthority$Authorization" "owner" "I" ∈ GW := gw_t (tb_1 (List.mem_of_getElem? (i := 151) rfl)) rfl
theorem gw_493 : Cond.lays "ChallengeAuthority$Authorization" "ChallengeAuthority$Authorization" "name" "I" ∈ GW := gw_t (tb_1 (List.mem_of_getElem? (i := 153) rfl)) rfl
theorem gw_494 : Cond.lays "ChallengeAuthority$Authorization" "ChallengeAuthority$Authorization" "expires" "I" ∈ GW := gw_t (tb_1 (List.mem_of_getElem? (i := 155) rfl)) rfl
theorem gw_495 : Cond.lays "ChallengeAuthority$Challenge" "ChallengeAuthority$Challenge" "state" "I" ∈ GW := gw_t (tb_1 (List.mem_of_getElem? (i := 168) rfl)) rfl
theorem gw_496 : Cond.lays "ChallengeAuthority$Challenge" "ChallengeAuthority$Challenge" "token" "I" ∈ GW := gw_t (tb_1 (List.mem_of_getElem? (i := 170) rfl)) rfl
theorem gw_497 : Cond.lays "ChallengeAuthority$Challenge" "ChallengeAuthority$Challenge" "wrong" "I" ∈ GW := gw_t (tb_1 (List.mem_of_getElem? (i := 172) rfl)) rfl
theorem gw_498 : Cond.lays "ChallengeAuthority$Certificate" "ChallengeAuthority$Certificate" "state" "I" ∈ GW := gw_t (tb_1 (List.mem_of_getElem? (i := 191) rfl)) rfl
theorem gw_499 : Cond.lays "ChallengeAuthority$Certificate" "ChallengeAuthority$Certificate" "order" "I" ∈ GW := gw_t (tb_1 (List.mem_of_getElem? (i := 193) rfl)) rfl
theorem gw_500 : Cond.lays "ChallengeAuthority$Certificate" "ChallengeAuthority$Certificate" "names" "I" ∈ GW := gw_t (tb_1 (List.mem_of_getElem? (i := 195) rfl)) rfl
theorem gw_501 : Cond.lays "ChallengeAuthority$Certificate" "ChallengeAuthority$Certificate" "key" "I" ∈ GW := gw_t (tb_1 (List.mem_of_getElem? (i := 197) rfl)) rfl
theorem gw_502 : Cond.lays "ChallengeAuthority$Certificate" "ChallengeAuthority$Certificate" "issued" "I" ∈ GW := gw_t (tb_1 (List.mem_of_getElem? (i := 199) rfl)) rfl
theorem gw_503 : Cond.lays "ChallengeAuthority$Certificate" "ChallengeAuthority$Certificate" "reason" "I" ∈ GW := gw_t (tb_1 (List.mem_of_getElem? (i := 201) rfl)) rfl
theorem gw_504 : Cond.lays "ChallengeAuthorityModel" "ChallengeAuthorityModel" "thrown" "I" ∈ GW := gw_t (tb_3 (List.mem_of_getElem? (i := 236) rfl)) rfl
theorem gw_505 : Cond.lays "ChallengeAuthorityModel" "ChallengeAuthorityModel" "seed" "I" ∈ GW := gw_t (tb_3 (List.mem_of_getElem? (i := 238) rfl)) rfl
theorem gw_506 : Cond.lays "ChallengeAuthorityModel" "ChallengeAuthorityModel" "time" "I" ∈ GW := gw_t (tb_4 (List.mem_of_getElem? (i := 0) rfl)) rfl
theorem gw_507 : Cond.lays "ChallengeAuthorityModel" "ChallengeAuthorityModel" "accounts" "I" ∈ GW := gw_t (tb_4 (List.mem_of_getElem? (i := 2) rfl)) rfl
theorem gw_508 : Cond.laysFinal "ChallengeAuthorityModel" "ChallengeAuthorityModel" "keys" "[I" ∈ GW := gw_t (tb_4 (List.mem_of_getElem? (i := 4) rfl)) rfl
theorem gw_509 : Cond.laysFinal "ChallengeAuthorityModel" "ChallengeAuthorityModel" "closed" "[Z" ∈ GW := gw_t (tb_4 (List.mem_of_getElem? (i := 6) rfl)) rfl
theorem gw_510 : Cond.lays "ChallengeAuthorityModel" "ChallengeAuthorityModel" "orders" "I" ∈ GW := gw_t (tb_4 (List.mem_of_getElem? (i := 8) rfl)) rfl
theorem gw_511 : Cond.laysFinal "ChallengeAuthorityModel" "ChallengeAuthorityModel" "orderAccount" "[I" ∈ GW := gw_t (tb_4 (List.mem_of_getElem? (i := 10) rfl)) rfl
theorem gw_512 : Cond.laysFinal "ChallengeAuthorityModel" "ChallengeAuthorityModel" "orderNames" "[I" ∈ GW := gw_t (tb_4 (List.mem_of_getElem? (i := 12) rfl)) rfl
theorem gw_513 : Cond.laysFinal "ChallengeAuthorityModel" "ChallengeAuthorityModel" "orderEnds" "[I" ∈ GW := gw_t (tb_4 (List.mem_of_getElem? (i := 14) rfl)) rfl
theorem gw_514 : Cond.laysFinal "ChallengeAuthorityModel" "ChallengeAuthorityModel" "orderState" "[I" ∈ GW := gw_t (tb_4 (List.mem_of_getElem? (i := 16) rfl)) rfl
theorem gw_515 : Cond.laysFinal "ChallengeAuthorityModel" "ChallengeAuthorityModel" "orderPaper" "[I" ∈ GW := gw_t (tb_4 (List.mem_of_getElem? (i := 18) rfl)) rfl
theorem gw_516 : Cond.laysFinal "ChallengeAuthorityModel" "ChallengeAuthorityModel" "orderMany" "[I" ∈ GW := gw_t (tb_4 (List.mem_of_getElem? (i := 20) rfl)) rfl
theorem gw_517 : Cond.laysFinal "ChallengeAuthorityModel" "ChallengeAuthorityModel" "orderAuths" "[I" ∈ GW := gw_t (tb_4 (List.mem_of_getElem? (i := 22) rfl)) rfl
theorem gw_518 : Cond.lays "ChallengeAuthorityModel" "ChallengeAuthorityModel" "auths" "I" ∈ GW := gw_t (tb_4 (List.mem_of_getElem? (i := 24) rfl)) rfl
theorem gw_519 : Cond.laysFinal "ChallengeAuthorityModel" "ChallengeAuthorityModel" "authAccount" "[I" ∈ GW := gw_t (tb_4 (List.mem_of_getElem? (i := 26) rfl)) rfl
theorem gw_520 : Cond.laysFinal "ChallengeAuthorityModel" "ChallengeAuthorityModel" "authName" "[I" ∈ GW := gw_t (tb_4 (List.mem_of_getElem? (i := 28) rfl)) rfl
theorem gw_521 : Cond.laysFinal "ChallengeAuthorityModel" "ChallengeAuthorityModel" "authEnds" "[I" ∈ GW := gw_t (tb_4 (List.mem_of_getElem? (i := 30) rfl)) rfl
theorem gw_522 : Cond.laysFinal "ChallengeAuthorityModel" "ChallengeAuthorityModel" "authState" "[I" ∈ GW := gw_t (tb_4 (List.mem_of_getElem? (i := 32) rfl)) rfl
theorem gw_523 : Cond.laysFinal "ChallengeAuthorityModel" "ChallengeAuthorityModel" "token" "[I" ∈ GW := gw_t (tb_4 (List.mem_of_getElem? (i := 34) rfl)) rfl
theorem gw_524 : Cond.laysFinal "ChallengeAuthorityModel" "ChallengeAuthorityModel" "stage" "[I" ∈ GW := gw_t (tb_4 (List.mem_of_getElem? (i := 36) rfl)) rfl
theorem gw_525 : Cond.laysFinal "ChallengeAuthorityModel" "ChallengeAuthorityModel" "wrong" "[I" ∈ GW := gw_t (tb_4 (List.mem_of_getElem? (i := 38) rfl)) rfl
theorem gw_526 : Cond.lays "ChallengeAuthorityModel" "ChallengeAuthorityModel" "papers" "I" ∈ GW := gw_t (tb_4 (List.mem_of_getElem? (i := 40) rfl)) rfl
theorem gw_527 : Cond.laysFinal "ChallengeAuthorityModel" "ChallengeAuthorityModel" "paperOrder" "[I" ∈ GW := gw_t (tb_4 (List.mem_of_getElem? (i := 42) rfl)) rfl
theorem gw_528 : Cond.laysFinal "ChallengeAuthorityModel" "ChallengeAuthorityModel" "paperKey" "[I" ∈ GW := gw_t (tb_4 (List.mem_of_getElem? (i := 44) rfl)) rfl
theorem gw_529 : Cond.laysFinal "ChallengeAuthorityModel" "ChallengeAuthorityModel" "paperTime" "[I" ∈ GW := gw_t (tb_4 (List.mem_of_getElem? (i := 46) rfl)) rfl
theorem gw_530 : Cond.laysFinal "ChallengeAuthorityModel" "ChallengeAuthorityModel" "paperReason" "[I" ∈ GW := gw_t (tb_4 (List.mem_of_getElem? (i := 48) rfl)) rfl
theorem gw_531 : Cond.lays "ChallengeAuthorityModel" "ChallengeAuthorityModel" "out" "I" ∈ GW := gw_t (tb_4 (List.mem_of_getElem? (i := 50) rfl)) rfl
theorem gw_532 : Cond.laysFinal "ChallengeAuthorityModel" "ChallengeAuthorityModel" "nonces" "[I" ∈ GW := gw_t (tb_4 (List.mem_of_getElem? (i := 52) rfl)) rfl
theorem gw_533 : Cond.laysFinal "ChallengeAuthorityModel" "ChallengeAuthorityModel" "text" "[I" ∈ GW := gw_t (tb_4 (List.mem_of_getElem? (i := 54) rfl)) rfl
theorem gw_534 : Cond.lays "ChallengeAuthorityModel" "ChallengeAuthorityModel" "size" "I" ∈ GW := gw_t (tb_4 (List.mem_of_getElem? (i := 56) rfl)) rfl
theorem gw_535 : Cond.lays "ChallengeAuthorityModel" "ChallengeAuthorityModel" "at" "I" ∈ GW := gw_t (tb_4 (List.mem_of_getElem? (i := 58) rfl)) rfl
theorem gw_536 : Cond.lays "ChallengeAuthorityModel" "ChallengeAuthorityModel" "good" "Z" ∈ GW := gw_t (tb_4 (List.mem_of_getElem? (i := 60) rfl)) rfl
theorem gw_537 : Cond.lays "ChallengeAuthorityModel" "ChallengeAuthorityModel" "wantedKey" "I" ∈ GW := gw_t (tb_4 (List.mem_of_getElem? (i := 62) rfl)) rfl
theorem gw_538 : Cond.lays "ChallengeAuthorityModel" "ChallengeAuthorityModel" "wantedNames" "I" ∈ GW := gw_t (tb_4 (List.mem_of_getElem? (i := 64) rfl)) rfl
theorem gw_539 : Cond.lays "ChallengeAuthorityModel" "ChallengeAuthorityModel" "mixed" "J" ∈ GW := gw_t (tb_4 (List.mem_of_getElem? (i := 66) rfl)) rfl
