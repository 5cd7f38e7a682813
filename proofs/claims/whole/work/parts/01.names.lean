abbrev c_CA_draw : ByteArray := prog_1_method_28_code
def y_CA_draw : MethodName := ⟨"ChallengeAuthority", "draw", "()I"⟩
abbrev c_Non_removeAt : ByteArray := prog_6_method_4_code
def y_Non_removeAt : MethodName := ⟨"ChallengeAuthority$Nonces", "removeAt", "(I)V"⟩
abbrev c_Non_putOut : ByteArray := prog_6_method_2_code
def y_Non_putOut : MethodName := ⟨"ChallengeAuthority$Nonces", "putOut", "(I)V"⟩
abbrev c_CA_nonce : ByteArray := prog_1_method_2_code
def y_CA_nonce : MethodName := ⟨"ChallengeAuthority", "nonce", "()I"⟩
abbrev c_CA_isKey : ByteArray := prog_1_method_21_code
def y_CA_isKey : MethodName := ⟨"ChallengeAuthority", "isKey", "(I)Z"⟩
abbrev c_CA_powerModulo : ByteArray := prog_1_method_22_code
def y_CA_powerModulo : MethodName := ⟨"ChallengeAuthority", "powerModulo", "(III)I"⟩
abbrev c_CA_power : ByteArray := prog_1_method_3_code
def y_CA_power : MethodName := ⟨"ChallengeAuthority", "power", "(III)I"⟩
abbrev c_CA_mix : ByteArray := prog_1_method_24_code
def y_CA_mix : MethodName := ⟨"ChallengeAuthority", "mix", "(JI)J"⟩
abbrev c_CA_digestEnd : ByteArray := prog_1_method_25_code
def y_CA_digestEnd : MethodName := ⟨"ChallengeAuthority", "digestEnd", "(J)I"⟩
abbrev c_CA_digest : ByteArray := prog_1_method_4_code
def y_CA_digest : MethodName := ⟨"ChallengeAuthority", "digest", "(IIIII)I"⟩
abbrev c_CA_isRight : ByteArray := prog_1_method_23_code
def y_CA_isRight : MethodName := ⟨"ChallengeAuthority", "isRight", "(III)Z"⟩
abbrev c_Non_takeBack : ByteArray := prog_6_method_3_code
def y_Non_takeBack : MethodName := ⟨"ChallengeAuthority$Nonces", "takeBack", "(I)Z"⟩
abbrev c_CA_accountWithKey : ByteArray := prog_1_method_30_code
def y_CA_accountWithKey : MethodName := ⟨"ChallengeAuthority", "accountWithKey", "(I)I"⟩
abbrev c_CA_makeAccount : ByteArray := prog_1_method_31_code
def y_CA_makeAccount : MethodName := ⟨"ChallengeAuthority", "makeAccount", "(I)I"⟩
abbrev c_CA_account : ByteArray := prog_1_method_5_code
def y_CA_account : MethodName := ⟨"ChallengeAuthority", "account", "(III)I"⟩
abbrev c_CA_acceptSigned : ByteArray := prog_1_method_29_code
def y_CA_acceptSigned : MethodName := ⟨"ChallengeAuthority", "acceptSigned", "(IIII)V"⟩
abbrev c_Int_bitCount : ByteArray := prog_15_method_49_code
def y_Int_bitCount : MethodName := ⟨"java/lang/Integer", "bitCount", "(I)I"⟩
abbrev c_CA_canBeOrdered : ByteArray := prog_1_method_27_code
def y_CA_canBeOrdered : MethodName := ⟨"ChallengeAuthority", "canBeOrdered", "(I)Z"⟩
abbrev c_CA_hasName : ByteArray := prog_1_method_26_code
def y_CA_hasName : MethodName := ⟨"ChallengeAuthority", "hasName", "(II)Z"⟩
abbrev c_CA_newestValid : ByteArray := prog_1_method_32_code
def y_CA_newestValid : MethodName := ⟨"ChallengeAuthority", "newestValid", "(II)I"⟩
abbrev c_CA_missingAuthorizations : ByteArray := prog_1_method_33_code
def y_CA_missingAuthorizations : MethodName := ⟨"ChallengeAuthority", "missingAuthorizations", "(II)I"⟩
abbrev c_CA_makeAuthorization : ByteArray := prog_1_method_35_code
def y_CA_makeAuthorization : MethodName := ⟨"ChallengeAuthority", "makeAuthorization", "(III)I"⟩
abbrev c_Ord_attach : ByteArray := prog_7_method_3_code
def y_Ord_attach : MethodName := ⟨"ChallengeAuthority$Order", "attach", "(I)V"⟩
abbrev c_CA_makeOrder : ByteArray := prog_1_method_34_code
def y_CA_makeOrder : MethodName := ⟨"ChallengeAuthority", "makeOrder", "(III)I"⟩
abbrev c_Ord_isOpen : ByteArray := prog_7_method_2_code
def y_Ord_isOpen : MethodName := ⟨"ChallengeAuthority$Order", "isOpen", "()Z"⟩
abbrev c_Aut_isLive : ByteArray := prog_3_method_2_code
def y_Aut_isLive : MethodName := ⟨"ChallengeAuthority$Authorization", "isLive", "()Z"⟩
abbrev c_CA_settle : ByteArray := prog_1_method_43_code
def y_CA_settle : MethodName := ⟨"ChallengeAuthority", "settle", "(LChallengeAuthority$Order;)V"⟩
abbrev c_CA_settleOrders : ByteArray := prog_1_method_42_code
def y_CA_settleOrders : MethodName := ⟨"ChallengeAuthority", "settleOrders", "()V"⟩
abbrev c_CA_order : ByteArray := prog_1_method_6_code
def y_CA_order : MethodName := ⟨"ChallengeAuthority", "order", "(IIIII)I"⟩
abbrev c_CA_challengeOf : ByteArray := prog_1_method_36_code
def y_CA_challengeOf : MethodName := ⟨"ChallengeAuthority", "challengeOf", "(II)LChallengeAuthority$Challenge;"⟩
abbrev c_CA_answer : ByteArray := prog_1_method_7_code
def y_CA_answer : MethodName := ⟨"ChallengeAuthority", "answer", "(IIIII)I"⟩
abbrev c_CA_countWrong : ByteArray := prog_1_method_37_code
def y_CA_countWrong : MethodName := ⟨"ChallengeAuthority", "countWrong", "(LChallengeAuthority$Challenge;LChallengeAuthority$Authorization;)V"⟩
abbrev c_CA_probe : ByteArray := prog_1_method_8_code
def y_CA_probe : MethodName := ⟨"ChallengeAuthority", "probe", "(III)I"⟩
abbrev c_CA_csr : ByteArray := prog_1_method_16_code
def y_CA_csr : MethodName := ⟨"ChallengeAuthority", "csr", "()I"⟩
abbrev c_Req_readByte : ByteArray := prog_8_method_9_code
def y_Req_readByte : MethodName := ⟨"ChallengeAuthority$Request", "readByte", "(LChallengeAuthority$Text;I)I"⟩
abbrev c_Req_skipTag : ByteArray := prog_8_method_7_code
def y_Req_skipTag : MethodName := ⟨"ChallengeAuthority$Request", "skipTag", "(LChallengeAuthority$Text;II)V"⟩
abbrev c_Req_readLength : ByteArray := prog_8_method_8_code
def y_Req_readLength : MethodName := ⟨"ChallengeAuthority$Request", "readLength", "(LChallengeAuthority$Text;I)I"⟩
abbrev c_Req_readRowEnd : ByteArray := prog_8_method_6_code
def y_Req_readRowEnd : MethodName := ⟨"ChallengeAuthority$Request", "readRowEnd", "(LChallengeAuthority$Text;I)I"⟩
abbrev c_Req_readNumber : ByteArray := prog_8_method_5_code
def y_Req_readNumber : MethodName := ⟨"ChallengeAuthority$Request", "readNumber", "(LChallengeAuthority$Text;I)I"⟩
abbrev c_Req_readNames : ByteArray := prog_8_method_4_code
def y_Req_readNames : MethodName := ⟨"ChallengeAuthority$Request", "readNames", "(LChallengeAuthority$Text;I)I"⟩
abbrev c_Req_signedDigest : ByteArray := prog_8_method_3_code
def y_Req_signedDigest : MethodName := ⟨"ChallengeAuthority$Request", "signedDigest", "()I"⟩
abbrev c_Req_readFrom : ByteArray := prog_8_method_2_code
def y_Req_readFrom : MethodName := ⟨"ChallengeAuthority$Request", "readFrom", "(LChallengeAuthority$Text;)Z"⟩
abbrev c_CA_makeCertificate : ByteArray := prog_1_method_38_code
def y_CA_makeCertificate : MethodName := ⟨"ChallengeAuthority", "makeCertificate", "(III)I"⟩
abbrev c_CA_finish : ByteArray := prog_1_method_9_code
def y_CA_finish : MethodName := ⟨"ChallengeAuthority", "finish", "(IIII)I"⟩
abbrev c_CA_publish : ByteArray := prog_1_method_10_code
def y_CA_publish : MethodName := ⟨"ChallengeAuthority", "publish", "()I"⟩
abbrev c_CA_goodCertificates : ByteArray := prog_1_method_39_code
def y_CA_goodCertificates : MethodName := ⟨"ChallengeAuthority", "goodCertificates", "()I"⟩
abbrev c_CA_revoke : ByteArray := prog_1_method_11_code
def y_CA_revoke : MethodName := ⟨"ChallengeAuthority", "revoke", "(IIIII)I"⟩
abbrev c_CA_closeAccount : ByteArray := prog_1_method_40_code
def y_CA_closeAccount : MethodName := ⟨"ChallengeAuthority", "closeAccount", "(I)I"⟩
abbrev c_CA_deactivateOne : ByteArray := prog_1_method_41_code
def y_CA_deactivateOne : MethodName := ⟨"ChallengeAuthority", "deactivateOne", "(II)I"⟩
abbrev c_CA_deactivate : ByteArray := prog_1_method_12_code
def y_CA_deactivate : MethodName := ⟨"ChallengeAuthority", "deactivate", "(IIII)I"⟩
abbrev c_CA_rollover : ByteArray := prog_1_method_13_code
def y_CA_rollover : MethodName := ⟨"ChallengeAuthority", "rollover", "(IIIII)I"⟩
abbrev c_Txt_append : ByteArray := prog_9_method_2_code
def y_Txt_append : MethodName := ⟨"ChallengeAuthority$Text", "append", "(JI)Z"⟩
abbrev c_CA_feed : ByteArray := prog_1_method_14_code
def y_CA_feed : MethodName := ⟨"ChallengeAuthority", "feed", "(JI)Z"⟩
abbrev c_CA_clear : ByteArray := prog_1_method_15_code
def y_CA_clear : MethodName := ⟨"ChallengeAuthority", "clear", "()I"⟩
abbrev c_Aut_expireAt : ByteArray := prog_3_method_3_code
def y_Aut_expireAt : MethodName := ⟨"ChallengeAuthority$Authorization", "expireAt", "(I)V"⟩
abbrev c_Ord_expireAt : ByteArray := prog_7_method_4_code
def y_Ord_expireAt : MethodName := ⟨"ChallengeAuthority$Order", "expireAt", "(I)V"⟩
abbrev c_CA_tick : ByteArray := prog_1_method_17_code
def y_CA_tick : MethodName := ⟨"ChallengeAuthority", "tick", "(I)I"⟩
abbrev c_CA_there : ByteArray := prog_1_method_18_code
def y_CA_there : MethodName := ⟨"ChallengeAuthority", "there", "(I)I"⟩
abbrev c_CA_requireThere : ByteArray := prog_1_method_44_code
def y_CA_requireThere : MethodName := ⟨"ChallengeAuthority", "requireThere", "(II)V"⟩
abbrev c_CA_state : ByteArray := prog_1_method_19_code
def y_CA_state : MethodName := ⟨"ChallengeAuthority", "state", "(II)I"⟩
abbrev c_CA_ordersOf : ByteArray := prog_1_method_46_code
def y_CA_ordersOf : MethodName := ⟨"ChallengeAuthority", "ordersOf", "(I)I"⟩
abbrev c_CA_accountDetail : ByteArray := prog_1_method_45_code
def y_CA_accountDetail : MethodName := ⟨"ChallengeAuthority", "accountDetail", "(II)I"⟩
abbrev c_Ord_authorizationTold : ByteArray := prog_7_method_6_code
def y_Ord_authorizationTold : MethodName := ⟨"ChallengeAuthority$Order", "authorizationTold", "(I)I"⟩
abbrev c_Ord_told : ByteArray := prog_7_method_5_code
def y_Ord_told : MethodName := ⟨"ChallengeAuthority$Order", "told", "(I)I"⟩
abbrev c_Aut_told : ByteArray := prog_3_method_4_code
def y_Aut_told : MethodName := ⟨"ChallengeAuthority$Authorization", "told", "(I)I"⟩
abbrev c_Cha_told : ByteArray := prog_5_method_2_code
def y_Cha_told : MethodName := ⟨"ChallengeAuthority$Challenge", "told", "(I)I"⟩
abbrev c_Cer_told : ByteArray := prog_4_method_2_code
def y_Cer_told : MethodName := ⟨"ChallengeAuthority$Certificate", "told", "(I)I"⟩
abbrev c_CA_detail : ByteArray := prog_1_method_20_code
def y_CA_detail : MethodName := ⟨"ChallengeAuthority", "detail", "(III)I"⟩
abbrev c_MO_thrown : ByteArray := prog_11_method_2_code
def y_MO_thrown : MethodName := ⟨"ChallengeAuthorityModel", "thrown", "()I"⟩
abbrev c_MO_draw : ByteArray := prog_11_method_3_code
def y_MO_draw : MethodName := ⟨"ChallengeAuthorityModel", "draw", "()I"⟩
abbrev c_MO_isKey : ByteArray := prog_11_method_4_code
def y_MO_isKey : MethodName := ⟨"ChallengeAuthorityModel", "isKey", "(I)Z"⟩
abbrev c_MO_mix : ByteArray := prog_11_method_5_code
def y_MO_mix : MethodName := ⟨"ChallengeAuthorityModel", "mix", "(I)V"⟩
abbrev c_MO_mixedDigest : ByteArray := prog_11_method_6_code
def y_MO_mixedDigest : MethodName := ⟨"ChallengeAuthorityModel", "mixedDigest", "()I"⟩
abbrev c_MO_five : ByteArray := prog_11_method_7_code
def y_MO_five : MethodName := ⟨"ChallengeAuthorityModel", "five", "(IIIII)I"⟩
abbrev c_MO_raised : ByteArray := prog_11_method_8_code
def y_MO_raised : MethodName := ⟨"ChallengeAuthorityModel", "raised", "(JII)J"⟩
abbrev c_MO_isRight : ByteArray := prog_11_method_9_code
def y_MO_isRight : MethodName := ⟨"ChallengeAuthorityModel", "isRight", "(III)Z"⟩
abbrev c_MO_take : ByteArray := prog_11_method_11_code
def y_MO_take : MethodName := ⟨"ChallengeAuthorityModel", "take", "(I)V"⟩
abbrev c_MO_nonce : ByteArray := prog_11_method_10_code
def y_MO_nonce : MethodName := ⟨"ChallengeAuthorityModel", "nonce", "()I"⟩
abbrev c_MO_find : ByteArray := prog_11_method_12_code
def y_MO_find : MethodName := ⟨"ChallengeAuthorityModel", "find", "(I)I"⟩
abbrev c_MO_power : ByteArray := prog_11_method_13_code
def y_MO_power : MethodName := ⟨"ChallengeAuthorityModel", "power", "(III)I"⟩
abbrev c_MO_digest : ByteArray := prog_11_method_14_code
def y_MO_digest : MethodName := ⟨"ChallengeAuthorityModel", "digest", "(IIIII)I"⟩
abbrev c_MO_signed : ByteArray := prog_11_method_15_code
def y_MO_signed : MethodName := ⟨"ChallengeAuthorityModel", "signed", "(IIII)I"⟩
abbrev c_MO_holder : ByteArray := prog_11_method_16_code
def y_MO_holder : MethodName := ⟨"ChallengeAuthorityModel", "holder", "(I)I"⟩
abbrev c_MO_account : ByteArray := prog_11_method_17_code
def y_MO_account : MethodName := ⟨"ChallengeAuthorityModel", "account", "(III)I"⟩
abbrev c_MO_settle : ByteArray := prog_11_method_18_code
def y_MO_settle : MethodName := ⟨"ChallengeAuthorityModel", "settle", "()V"⟩
abbrev c_MO_valid : ByteArray := prog_11_method_19_code
def y_MO_valid : MethodName := ⟨"ChallengeAuthorityModel", "valid", "(II)I"⟩
abbrev c_MO_has : ByteArray := prog_11_method_20_code
def y_MO_has : MethodName := ⟨"ChallengeAuthorityModel", "has", "(II)Z"⟩
abbrev c_MO_many : ByteArray := prog_11_method_21_code
def y_MO_many : MethodName := ⟨"ChallengeAuthorityModel", "many", "(I)I"⟩
abbrev c_MO_authorize : ByteArray := prog_11_method_22_code
def y_MO_authorize : MethodName := ⟨"ChallengeAuthorityModel", "authorize", "(III)I"⟩
abbrev c_MO_fresh : ByteArray := prog_11_method_23_code
def y_MO_fresh : MethodName := ⟨"ChallengeAuthorityModel", "fresh", "(II)I"⟩
abbrev c_MO_order : ByteArray := prog_11_method_24_code
def y_MO_order : MethodName := ⟨"ChallengeAuthorityModel", "order", "(IIIII)I"⟩
abbrev c_MO_isAuth : ByteArray := prog_11_method_25_code
def y_MO_isAuth : MethodName := ⟨"ChallengeAuthorityModel", "isAuth", "(I)Z"⟩
abbrev c_MO_isWhich : ByteArray := prog_11_method_26_code
def y_MO_isWhich : MethodName := ⟨"ChallengeAuthorityModel", "isWhich", "(I)Z"⟩
abbrev c_MO_answer : ByteArray := prog_11_method_27_code
def y_MO_answer : MethodName := ⟨"ChallengeAuthorityModel", "answer", "(IIIII)I"⟩
abbrev c_MO_probe : ByteArray := prog_11_method_28_code
def y_MO_probe : MethodName := ⟨"ChallengeAuthorityModel", "probe", "(III)I"⟩
abbrev c_MO_next : ByteArray := prog_11_method_29_code
def y_MO_next : MethodName := ⟨"ChallengeAuthorityModel", "next", "()I"⟩
abbrev c_MO_must : ByteArray := prog_11_method_30_code
def y_MO_must : MethodName := ⟨"ChallengeAuthorityModel", "must", "(I)V"⟩
abbrev c_MO_takeLength : ByteArray := prog_11_method_31_code
def y_MO_takeLength : MethodName := ⟨"ChallengeAuthorityModel", "takeLength", "()I"⟩
abbrev c_MO_takeNumber : ByteArray := prog_11_method_32_code
def y_MO_takeNumber : MethodName := ⟨"ChallengeAuthorityModel", "takeNumber", "()I"⟩
abbrev c_MO_readRequest : ByteArray := prog_11_method_33_code
def y_MO_readRequest : MethodName := ⟨"ChallengeAuthorityModel", "readRequest", "()V"⟩
abbrev c_MO_textDigest : ByteArray := prog_11_method_34_code
def y_MO_textDigest : MethodName := ⟨"ChallengeAuthorityModel", "textDigest", "()I"⟩
abbrev c_MO_csr : ByteArray := prog_11_method_35_code
def y_MO_csr : MethodName := ⟨"ChallengeAuthorityModel", "csr", "()I"⟩
abbrev c_MO_finish : ByteArray := prog_11_method_36_code
def y_MO_finish : MethodName := ⟨"ChallengeAuthorityModel", "finish", "(IIII)I"⟩
abbrev c_MO_publish : ByteArray := prog_11_method_37_code
def y_MO_publish : MethodName := ⟨"ChallengeAuthorityModel", "publish", "()I"⟩
abbrev c_MO_may : ByteArray := prog_11_method_38_code
def y_MO_may : MethodName := ⟨"ChallengeAuthorityModel", "may", "(II)Z"⟩
abbrev c_MO_revoke : ByteArray := prog_11_method_39_code
def y_MO_revoke : MethodName := ⟨"ChallengeAuthorityModel", "revoke", "(IIIII)I"⟩
abbrev c_MO_give : ByteArray := prog_11_method_40_code
def y_MO_give : MethodName := ⟨"ChallengeAuthorityModel", "give", "(I)I"⟩
abbrev c_MO_deactivate : ByteArray := prog_11_method_41_code
def y_MO_deactivate : MethodName := ⟨"ChallengeAuthorityModel", "deactivate", "(IIII)I"⟩
abbrev c_MO_rollover : ByteArray := prog_11_method_42_code
def y_MO_rollover : MethodName := ⟨"ChallengeAuthorityModel", "rollover", "(IIIII)I"⟩
abbrev c_MO_feed : ByteArray := prog_11_method_43_code
def y_MO_feed : MethodName := ⟨"ChallengeAuthorityModel", "feed", "(JI)Z"⟩
abbrev c_MO_clear : ByteArray := prog_11_method_44_code
def y_MO_clear : MethodName := ⟨"ChallengeAuthorityModel", "clear", "()I"⟩
abbrev c_MO_tick : ByteArray := prog_11_method_45_code
def y_MO_tick : MethodName := ⟨"ChallengeAuthorityModel", "tick", "(I)I"⟩
abbrev c_MO_counted : ByteArray := prog_11_method_46_code
def y_MO_counted : MethodName := ⟨"ChallengeAuthorityModel", "counted", "(I)I"⟩
abbrev c_MO_there : ByteArray := prog_11_method_47_code
def y_MO_there : MethodName := ⟨"ChallengeAuthorityModel", "there", "(I)I"⟩
abbrev c_MO_look : ByteArray := prog_11_method_48_code
def y_MO_look : MethodName := ⟨"ChallengeAuthorityModel", "look", "(II)V"⟩
abbrev c_MO_state : ByteArray := prog_11_method_49_code
def y_MO_state : MethodName := ⟨"ChallengeAuthorityModel", "state", "(II)I"⟩
abbrev c_MO_ofAccount : ByteArray := prog_11_method_50_code
def y_MO_ofAccount : MethodName := ⟨"ChallengeAuthorityModel", "ofAccount", "(II)I"⟩
abbrev c_MO_ofOrder : ByteArray := prog_11_method_51_code
def y_MO_ofOrder : MethodName := ⟨"ChallengeAuthorityModel", "ofOrder", "(II)I"⟩
abbrev c_MO_ofPaper : ByteArray := prog_11_method_52_code
def y_MO_ofPaper : MethodName := ⟨"ChallengeAuthorityModel", "ofPaper", "(II)I"⟩
abbrev c_MO_detail : ByteArray := prog_11_method_53_code
def y_MO_detail : MethodName := ⟨"ChallengeAuthorityModel", "detail", "(III)I"⟩
def y_Non_init : MethodName := ⟨"ChallengeAuthority$Nonces", "<init>", "()V"⟩
def y_Txt_init : MethodName := ⟨"ChallengeAuthority$Text", "<init>", "()V"⟩
def y_Req_init : MethodName := ⟨"ChallengeAuthority$Request", "<init>", "()V"⟩
def y_Acc_init : MethodName := ⟨"ChallengeAuthority$Account", "<init>", "()V"⟩
def y_Ord_init : MethodName := ⟨"ChallengeAuthority$Order", "<init>", "()V"⟩
def y_Aut_init : MethodName := ⟨"ChallengeAuthority$Authorization", "<init>", "()V"⟩
def y_Cha_init : MethodName := ⟨"ChallengeAuthority$Challenge", "<init>", "()V"⟩
def y_Cer_init : MethodName := ⟨"ChallengeAuthority$Certificate", "<init>", "()V"⟩
theorem tb_1 {w : Cond} (h : w ∈ tables_1_1) : w ∈ tables_1 := by
  unfold tables_1
  simp only [List.mem_append, h, true_or, or_true]
theorem tb_2 {w : Cond} (h : w ∈ tables_1_2) : w ∈ tables_1 := by
  unfold tables_1
  simp only [List.mem_append, h, true_or, or_true]
theorem tb_3 {w : Cond} (h : w ∈ tables_1_3) : w ∈ tables_1 := by
  unfold tables_1
  simp only [List.mem_append, h, true_or, or_true]
theorem tb_4 {w : Cond} (h : w ∈ tables_1_4) : w ∈ tables_1 := by
  unfold tables_1
  simp only [List.mem_append, h, true_or, or_true]
theorem tb_5 {w : Cond} (h : w ∈ tables_1_5) : w ∈ tables_1 := by
  unfold tables_1
  simp only [List.mem_append, h, true_or, or_true]
def GW : List Cond := lw_tbl.filter goodWord
theorem gw_t {w : Cond} (h : w ∈ tables_1) (g : goodWord w = true) : w ∈ GW := List.mem_filter.mpr ⟨List.mem_append_right _ h, g⟩
theorem gw_p {w : Cond} (h : w ∈ k2_sels lw_privs) (g : goodWord w = true) : w ∈ GW := List.mem_filter.mpr ⟨List.mem_append_left _ h, g⟩
theorem gw_ok {w : Cond} (h : w ∈ GW) : (w.onTables && w.keeps) = true ∨ ∃ ty, w = .arrayClass ty := good_of_word (List.mem_filter.mp h).2
theorem gN {y : MethodName} {b : ByteArray} {n : Nat} {r : Option FieldType} (h : Cond.code y b n r ∈ GW) : GoodIn GW (Cond.code y b n r :: GW) := fun w hw => by
  rcases List.mem_cons.mp hw with rfl | hw
  · exact ⟨h, gw_ok h⟩
  · exact ⟨hw, gw_ok hw⟩
theorem gS {own : String} {idx : Nat} {y : MethodName} {b : ByteArray} {n : Nat} {r : Option FieldType} (h1 : Cond.methodLink own idx y ∈ GW) (h2 : Cond.static y ∈ GW) (h3 : Cond.initialized y.cls ∈ GW) (h : Cond.code y b n r ∈ GW) : GoodIn GW (va_wsS own idx y (Cond.code y b n r :: GW)) := fun w hw => by
  rcases List.mem_append.mp hw with hw | hw
  · simp only [List.mem_cons, List.not_mem_nil, or_false] at hw
    rcases hw with rfl | rfl | rfl
    · exact ⟨h1, gw_ok h1⟩
    · exact ⟨h2, gw_ok h2⟩
    · exact ⟨h3, gw_ok h3⟩
  · exact gN h w hw
theorem gV {own C : String} {idx : Nat} {y : MethodName} {b : ByteArray} {n : Nat} {r : Option FieldType} (h1 : Cond.methodLink own idx y ∈ GW) (h2 : Cond.instanceMethod y ∈ GW) (h3 : Cond.selects C y y ∈ GW) (h4 : Cond.initialized C ∈ GW) (h : Cond.code y b n r ∈ GW) : GoodIn GW (wsV own idx C y (Cond.code y b n r :: GW)) := fun w hw => by
  rcases List.mem_append.mp hw with hw | hw
  · simp only [List.mem_cons, List.not_mem_nil, or_false] at hw
    rcases hw with rfl | rfl | rfl | rfl
    · exact ⟨h1, gw_ok h1⟩
    · exact ⟨h2, gw_ok h2⟩
    · exact ⟨h3, gw_ok h3⟩
    · exact ⟨h4, gw_ok h4⟩
  · exact gN h w hw
