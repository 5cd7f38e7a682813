theorem gw_635 : Cond.code y_CA_nonce prog_1_method_2_code 2 (Option.some Jvm.ClassFile.FieldType.int) ∈ GW := gw_t (tb_2 (List.mem_of_getElem? (i := 10) rfl)) rfl
theorem gw_636 : Cond.methodLink "ChallengeAuthorityLaw" 67 y_CA_nonce ∈ GW := gw_t (tb_2 (List.mem_of_getElem? (i := 7) rfl)) rfl
theorem gw_637 : Cond.instanceMethod y_CA_nonce ∈ GW := gw_t (tb_2 (List.mem_of_getElem? (i := 8) rfl)) rfl
theorem gw_638 : Cond.selects "ChallengeAuthority" y_CA_nonce y_CA_nonce ∈ GW := gw_t (tb_2 (List.mem_of_getElem? (i := 9) rfl)) rfl
theorem gw_639 : Cond.code y_MO_nonce prog_11_method_10_code 1 (Option.some Jvm.ClassFile.FieldType.int) ∈ GW := gw_t (tb_4 (List.mem_of_getElem? (i := 77) rfl)) rfl
theorem gw_640 : Cond.methodLink "ChallengeAuthorityLaw" 71 y_MO_nonce ∈ GW := gw_t (tb_4 (List.mem_of_getElem? (i := 74) rfl)) rfl
theorem gw_641 : Cond.instanceMethod y_MO_nonce ∈ GW := gw_t (tb_4 (List.mem_of_getElem? (i := 75) rfl)) rfl
theorem gw_642 : Cond.selects "ChallengeAuthorityModel" y_MO_nonce y_MO_nonce ∈ GW := gw_t (tb_4 (List.mem_of_getElem? (i := 76) rfl)) rfl
theorem gw_643 : Cond.code y_CA_power prog_1_method_3_code 4 (Option.some Jvm.ClassFile.FieldType.int) ∈ GW := gw_t (tb_2 (List.mem_of_getElem? (i := 27) rfl)) rfl
theorem gw_644 : Cond.methodLink "ChallengeAuthorityLaw" 72 y_CA_power ∈ GW := gw_t (tb_2 (List.mem_of_getElem? (i := 24) rfl)) rfl
theorem gw_645 : Cond.instanceMethod y_CA_power ∈ GW := gw_t (tb_2 (List.mem_of_getElem? (i := 25) rfl)) rfl
theorem gw_646 : Cond.selects "ChallengeAuthority" y_CA_power y_CA_power ∈ GW := gw_t (tb_2 (List.mem_of_getElem? (i := 26) rfl)) rfl
theorem gw_647 : Cond.code y_MO_power prog_11_method_13_code 4 (Option.some Jvm.ClassFile.FieldType.int) ∈ GW := gw_t (tb_4 (List.mem_of_getElem? (i := 90) rfl)) rfl
theorem gw_648 : Cond.methodLink "ChallengeAuthorityLaw" 75 y_MO_power ∈ GW := gw_t (tb_4 (List.mem_of_getElem? (i := 87) rfl)) rfl
theorem gw_649 : Cond.instanceMethod y_MO_power ∈ GW := gw_t (tb_4 (List.mem_of_getElem? (i := 88) rfl)) rfl
theorem gw_650 : Cond.selects "ChallengeAuthorityModel" y_MO_power y_MO_power ∈ GW := gw_t (tb_4 (List.mem_of_getElem? (i := 89) rfl)) rfl
theorem gw_651 : Cond.methodLink "ChallengeAuthorityLaw" 76 y_CA_digest ∈ GW := gw_t (tb_2 (List.mem_of_getElem? (i := 34) rfl)) rfl
theorem gw_652 : Cond.code y_MO_digest prog_11_method_14_code 6 (Option.some Jvm.ClassFile.FieldType.int) ∈ GW := gw_t (tb_4 (List.mem_of_getElem? (i := 100) rfl)) rfl
theorem gw_653 : Cond.methodLink "ChallengeAuthorityLaw" 79 y_MO_digest ∈ GW := gw_t (tb_4 (List.mem_of_getElem? (i := 97) rfl)) rfl
theorem gw_654 : Cond.instanceMethod y_MO_digest ∈ GW := gw_t (tb_4 (List.mem_of_getElem? (i := 98) rfl)) rfl
theorem gw_655 : Cond.selects "ChallengeAuthorityModel" y_MO_digest y_MO_digest ∈ GW := gw_t (tb_4 (List.mem_of_getElem? (i := 99) rfl)) rfl
theorem gw_656 : Cond.codeWith y_LW_account method_3_code 6 (Option.some Jvm.ClassFile.FieldType.int) [((0 : Nat), (12 : Nat), (15 : Nat), (13 : Nat)), ((0 : Nat), (12 : Nat), (19 : Nat), (15 : Nat)), ((0 : Nat), (12 : Nat), (23 : Nat), (17 : Nat))] ∈ GW := gw_t (tb_2 (List.mem_of_getElem? (i := 74) rfl)) rfl
theorem gw_657 : Cond.initialized "ChallengeAuthorityLaw" ∈ GW := gw_t (tb_1 (List.mem_of_getElem? (i := 0) rfl)) rfl
theorem gw_658 : Cond.static y_LW_account ∈ GW := gw_t (tb_2 (List.mem_of_getElem? (i := 73) rfl)) rfl
theorem gw_659 : Cond.methodLink "ChallengeAuthorityLaw" 80 y_LW_account ∈ GW := gw_t (tb_2 (List.mem_of_getElem? (i := 72) rfl)) rfl
theorem gw_660 : Cond.code y_MO_account prog_11_method_17_code 6 (Option.some Jvm.ClassFile.FieldType.int) ∈ GW := gw_t (tb_4 (List.mem_of_getElem? (i := 117) rfl)) rfl
theorem gw_661 : Cond.methodLink "ChallengeAuthorityLaw" 83 y_MO_account ∈ GW := gw_t (tb_4 (List.mem_of_getElem? (i := 114) rfl)) rfl
theorem gw_662 : Cond.instanceMethod y_MO_account ∈ GW := gw_t (tb_4 (List.mem_of_getElem? (i := 115) rfl)) rfl
theorem gw_663 : Cond.selects "ChallengeAuthorityModel" y_MO_account y_MO_account ∈ GW := gw_t (tb_4 (List.mem_of_getElem? (i := 116) rfl)) rfl
theorem gw_664 : Cond.code y_MO_thrown prog_11_method_2_code 1 (Option.some Jvm.ClassFile.FieldType.int) ∈ GW := gw_t (tb_4 (List.mem_of_getElem? (i := 73) rfl)) rfl
theorem gw_665 : Cond.methodLink "ChallengeAuthorityLaw" 84 y_MO_thrown ∈ GW := gw_t (tb_4 (List.mem_of_getElem? (i := 70) rfl)) rfl
theorem gw_666 : Cond.instanceMethod y_MO_thrown ∈ GW := gw_t (tb_4 (List.mem_of_getElem? (i := 71) rfl)) rfl
theorem gw_667 : Cond.selects "ChallengeAuthorityModel" y_MO_thrown y_MO_thrown ∈ GW := gw_t (tb_4 (List.mem_of_getElem? (i := 72) rfl)) rfl
theorem gw_668 : Cond.codeWith y_LW_order method_4_code 8 (Option.some Jvm.ClassFile.FieldType.int) [((0 : Nat), (16 : Nat), (19 : Nat), (23 : Nat)), ((0 : Nat), (16 : Nat), (23 : Nat), (13 : Nat)), ((0 : Nat), (16 : Nat), (27 : Nat), (15 : Nat)), ((0 : Nat), (16 : Nat), (31 : Nat), (17 : Nat))] ∈ GW := gw_t (tb_2 (List.mem_of_getElem? (i := 194) rfl)) rfl
theorem gw_669 : Cond.static y_LW_order ∈ GW := gw_t (tb_2 (List.mem_of_getElem? (i := 193) rfl)) rfl
theorem gw_670 : Cond.methodLink "ChallengeAuthorityLaw" 87 y_LW_order ∈ GW := gw_t (tb_2 (List.mem_of_getElem? (i := 192) rfl)) rfl
theorem gw_671 : Cond.code y_MO_order prog_11_method_24_code 10 (Option.some Jvm.ClassFile.FieldType.int) ∈ GW := gw_t (tb_4 (List.mem_of_getElem? (i := 132) rfl)) rfl
theorem gw_672 : Cond.methodLink "ChallengeAuthorityLaw" 90 y_MO_order ∈ GW := gw_t (tb_4 (List.mem_of_getElem? (i := 129) rfl)) rfl
theorem gw_673 : Cond.instanceMethod y_MO_order ∈ GW := gw_t (tb_4 (List.mem_of_getElem? (i := 130) rfl)) rfl
theorem gw_674 : Cond.selects "ChallengeAuthorityModel" y_MO_order y_MO_order ∈ GW := gw_t (tb_4 (List.mem_of_getElem? (i := 131) rfl)) rfl
theorem gw_675 : Cond.codeWith y_LW_answer method_5_code 8 (Option.some Jvm.ClassFile.FieldType.int) [((0 : Nat), (16 : Nat), (19 : Nat), (23 : Nat)), ((0 : Nat), (16 : Nat), (23 : Nat), (13 : Nat)), ((0 : Nat), (16 : Nat), (27 : Nat), (15 : Nat)), ((0 : Nat), (16 : Nat), (31 : Nat), (17 : Nat))] ∈ GW := gw_t (tb_3 (List.mem_of_getElem? (i := 30) rfl)) rfl
theorem gw_676 : Cond.static y_LW_answer ∈ GW := gw_t (tb_3 (List.mem_of_getElem? (i := 29) rfl)) rfl
theorem gw_677 : Cond.methodLink "ChallengeAuthorityLaw" 91 y_LW_answer ∈ GW := gw_t (tb_3 (List.mem_of_getElem? (i := 28) rfl)) rfl
theorem gw_678 : Cond.code y_MO_answer prog_11_method_27_code 6 (Option.some Jvm.ClassFile.FieldType.int) ∈ GW := gw_t (tb_4 (List.mem_of_getElem? (i := 163) rfl)) rfl
theorem gw_679 : Cond.methodLink "ChallengeAuthorityLaw" 93 y_MO_answer ∈ GW := gw_t (tb_4 (List.mem_of_getElem? (i := 160) rfl)) rfl
theorem gw_680 : Cond.instanceMethod y_MO_answer ∈ GW := gw_t (tb_4 (List.mem_of_getElem? (i := 161) rfl)) rfl
theorem gw_681 : Cond.selects "ChallengeAuthorityModel" y_MO_answer y_MO_answer ∈ GW := gw_t (tb_4 (List.mem_of_getElem? (i := 162) rfl)) rfl
theorem gw_682 : Cond.codeWith y_LW_probe method_6_code 6 (Option.some Jvm.ClassFile.FieldType.int) [((0 : Nat), (12 : Nat), (15 : Nat), (23 : Nat)), ((0 : Nat), (12 : Nat), (19 : Nat), (17 : Nat))] ∈ GW := gw_t (tb_3 (List.mem_of_getElem? (i := 41) rfl)) rfl
theorem gw_683 : Cond.static y_LW_probe ∈ GW := gw_t (tb_3 (List.mem_of_getElem? (i := 40) rfl)) rfl
theorem gw_684 : Cond.methodLink "ChallengeAuthorityLaw" 94 y_LW_probe ∈ GW := gw_t (tb_3 (List.mem_of_getElem? (i := 39) rfl)) rfl
theorem gw_685 : Cond.code y_MO_probe prog_11_method_28_code 5 (Option.some Jvm.ClassFile.FieldType.int) ∈ GW := gw_t (tb_4 (List.mem_of_getElem? (i := 174) rfl)) rfl
theorem gw_686 : Cond.methodLink "ChallengeAuthorityLaw" 96 y_MO_probe ∈ GW := gw_t (tb_4 (List.mem_of_getElem? (i := 171) rfl)) rfl
theorem gw_687 : Cond.instanceMethod y_MO_probe ∈ GW := gw_t (tb_4 (List.mem_of_getElem? (i := 172) rfl)) rfl
theorem gw_688 : Cond.selects "ChallengeAuthorityModel" y_MO_probe y_MO_probe ∈ GW := gw_t (tb_4 (List.mem_of_getElem? (i := 173) rfl)) rfl
theorem gw_689 : Cond.codeWith y_LW_finish method_7_code 7 (Option.some Jvm.ClassFile.FieldType.int) [((0 : Nat), (14 : Nat), (17 : Nat), (23 : Nat)), ((0 : Nat), (14 : Nat), (21 : Nat), (13 : Nat)), ((0 : Nat), (14 : Nat), (25 : Nat), (15 : Nat)), ((0 : Nat), (14 : Nat), (29 : Nat), (17 : Nat))] ∈ GW := gw_t (tb_3 (List.mem_of_getElem? (i := 51) rfl)) rfl
theorem gw_690 : Cond.static y_LW_finish ∈ GW := gw_t (tb_3 (List.mem_of_getElem? (i := 50) rfl)) rfl
theorem gw_691 : Cond.methodLink "ChallengeAuthorityLaw" 97 y_LW_finish ∈ GW := gw_t (tb_3 (List.mem_of_getElem? (i := 49) rfl)) rfl
theorem gw_692 : Cond.code y_MO_finish prog_11_method_36_code 8 (Option.some Jvm.ClassFile.FieldType.int) ∈ GW := gw_t (tb_4 (List.mem_of_getElem? (i := 186) rfl)) rfl
theorem gw_693 : Cond.methodLink "ChallengeAuthorityLaw" 100 y_MO_finish ∈ GW := gw_t (tb_4 (List.mem_of_getElem? (i := 183) rfl)) rfl
theorem gw_694 : Cond.instanceMethod y_MO_finish ∈ GW := gw_t (tb_4 (List.mem_of_getElem? (i := 184) rfl)) rfl
theorem gw_695 : Cond.selects "ChallengeAuthorityModel" y_MO_finish y_MO_finish ∈ GW := gw_t (tb_4 (List.mem_of_getElem? (i := 185) rfl)) rfl
theorem gw_696 : Cond.code y_CA_publish prog_1_method_10_code 3 (Option.some Jvm.ClassFile.FieldType.int) ∈ GW := gw_t (tb_2 (List.mem_of_getElem? (i := 48) rfl)) rfl
theorem gw_697 : Cond.methodLink "ChallengeAuthorityLaw" 101 y_CA_publish ∈ GW := gw_t (tb_2 (List.mem_of_getElem? (i := 45) rfl)) rfl
theorem gw_698 : Cond.instanceMethod y_CA_publish ∈ GW := gw_t (tb_2 (List.mem_of_getElem? (i := 46) rfl)) rfl
theorem gw_699 : Cond.selects "ChallengeAuthority" y_CA_publish y_CA_publish ∈ GW := gw_t (tb_2 (List.mem_of_getElem? (i := 47) rfl)) rfl
theorem gw_700 : Cond.code y_MO_publish prog_11_method_37_code 3 (Option.some Jvm.ClassFile.FieldType.int) ∈ GW := gw_t (tb_4 (List.mem_of_getElem? (i := 210) rfl)) rfl
theorem gw_701 : Cond.methodLink "ChallengeAuthorityLaw" 104 y_MO_publish ∈ GW := gw_t (tb_4 (List.mem_of_getElem? (i := 207) rfl)) rfl
theorem gw_702 : Cond.instanceMethod y_MO_publish ∈ GW := gw_t (tb_4 (List.mem_of_getElem? (i := 208) rfl)) rfl
theorem gw_703 : Cond.selects "ChallengeAuthorityModel" y_MO_publish y_MO_publish ∈ GW := gw_t (tb_4 (List.mem_of_getElem? (i := 209) rfl)) rfl
theorem gw_704 : Cond.codeWith y_LW_revoke method_8_code 8 (Option.some Jvm.ClassFile.FieldType.int) [((0 : Nat), (16 : Nat), (19 : Nat), (23 : Nat)), ((0 : Nat), (16 : Nat), (23 : Nat), (13 : Nat)), ((0 : Nat), (16 : Nat), (27 : Nat), (15 : Nat)), ((0 : Nat), (16 : Nat), (31 : Nat), (17 : Nat))] ∈ GW := gw_t (tb_3 (List.mem_of_getElem? (i := 99) rfl)) rfl
theorem gw_705 : Cond.static y_LW_revoke ∈ GW := gw_t (tb_3 (List.mem_of_getElem? (i := 98) rfl)) rfl
theorem gw_706 : Cond.methodLink "ChallengeAuthorityLaw" 105 y_LW_revoke ∈ GW := gw_t (tb_3 (List.mem_of_getElem? (i := 97) rfl)) rfl
theorem gw_707 : Cond.code y_MO_revoke prog_11_method_39_code 9 (Option.some Jvm.ClassFile.FieldType.int) ∈ GW := gw_t (tb_4 (List.mem_of_getElem? (i := 214) rfl)) rfl
theorem gw_708 : Cond.methodLink "ChallengeAuthorityLaw" 107 y_MO_revoke ∈ GW := gw_t (tb_4 (List.mem_of_getElem? (i := 211) rfl)) rfl
theorem gw_709 : Cond.instanceMethod y_MO_revoke ∈ GW := gw_t (tb_4 (List.mem_of_getElem? (i := 212) rfl)) rfl
theorem gw_710 : Cond.selects "ChallengeAuthorityModel" y_MO_revoke y_MO_revoke ∈ GW := gw_t (tb_4 (List.mem_of_getElem? (i := 213) rfl)) rfl
theorem gw_711 : Cond.codeWith y_LW_deactivate method_9_code 7 (Option.some Jvm.ClassFile.FieldType.int) [((0 : Nat), (14 : Nat), (17 : Nat), (23 : Nat)), ((0 : Nat), (14 : Nat), (21 : Nat), (13 : Nat)), ((0 : Nat), (14 : Nat), (25 : Nat), (15 : Nat)), ((0 : Nat), (14 : Nat), (29 : Nat), (17 : Nat))] ∈ GW := gw_t (tb_3 (List.mem_of_getElem? (i := 110) rfl)) rfl
theorem gw_712 : Cond.static y_LW_deactivate ∈ GW := gw_t (tb_3 (List.mem_of_getElem? (i := 109) rfl)) rfl
theorem gw_713 : Cond.methodLink "ChallengeAuthorityLaw" 108 y_LW_deactivate ∈ GW := gw_t (tb_3 (List.mem_of_getElem? (i := 108) rfl)) rfl
theorem gw_714 : Cond.code y_MO_deactivate prog_11_method_41_code 7 (Option.some Jvm.ClassFile.FieldType.int) ∈ GW := gw_t (tb_4 (List.mem_of_getElem? (i := 222) rfl)) rfl
theorem gw_715 : Cond.methodLink "ChallengeAuthorityLaw" 110 y_MO_deactivate ∈ GW := gw_t (tb_4 (List.mem_of_getElem? (i := 219) rfl)) rfl
theorem gw_716 : Cond.instanceMethod y_MO_deactivate ∈ GW := gw_t (tb_4 (List.mem_of_getElem? (i := 220) rfl)) rfl
theorem gw_717 : Cond.selects "ChallengeAuthorityModel" y_MO_deactivate y_MO_deactivate ∈ GW := gw_t (tb_4 (List.mem_of_getElem? (i := 221) rfl)) rfl
theorem gw_718 : Cond.codeWith y_LW_rollover method_10_code 8 (Option.some Jvm.ClassFile.FieldType.int) [((0 : Nat), (16 : Nat), (19 : Nat), (23 : Nat)), ((0 : Nat), (16 : Nat), (23 : Nat), (13 : Nat)), ((0 : Nat), (16 : Nat), (27 : Nat), (15 : Nat)), ((0 : Nat), (16 : Nat), (31 : Nat), (17 : Nat))] ∈ GW := gw_t (tb_3 (List.mem_of_getElem? (i := 125) rfl)) rfl
theorem gw_719 : Cond.static y_LW_rollover ∈ GW := gw_t (tb_3 (List.mem_of_getElem? (i := 124) rfl)) rfl
theorem gw_720 : Cond.methodLink "ChallengeAuthorityLaw" 111 y_LW_rollover ∈ GW := gw_t (tb_3 (List.mem_of_getElem? (i := 123) rfl)) rfl
theorem gw_721 : Cond.code y_MO_rollover prog_11_method_42_code 8 (Option.some Jvm.ClassFile.FieldType.int) ∈ GW := gw_t (tb_4 (List.mem_of_getElem? (i := 230) rfl)) rfl
theorem gw_722 : Cond.methodLink "ChallengeAuthorityLaw" 113 y_MO_rollover ∈ GW := gw_t (tb_4 (List.mem_of_getElem? (i := 227) rfl)) rfl
theorem gw_723 : Cond.instanceMethod y_MO_rollover ∈ GW := gw_t (tb_4 (List.mem_of_getElem? (i := 228) rfl)) rfl
theorem gw_724 : Cond.selects "ChallengeAuthorityModel" y_MO_rollover y_MO_rollover ∈ GW := gw_t (tb_4 (List.mem_of_getElem? (i := 229) rfl)) rfl
theorem gw_725 : Cond.constantLong "ChallengeAuthorityLaw" 114 4294967295 ∈ GW := gw_t (tb_5 (List.mem_of_getElem? (i := 36) rfl)) rfl
theorem gw_726 : Cond.code y_CA_feed prog_1_method_14_code 4 (Option.some Jvm.ClassFile.FieldType.boolean) ∈ GW := gw_t (tb_2 (List.mem_of_getElem? (i := 52) rfl)) rfl
theorem gw_727 : Cond.methodLink "ChallengeAuthorityLaw" 116 y_CA_feed ∈ GW := gw_t (tb_2 (List.mem_of_getElem? (i := 49) rfl)) rfl
theorem gw_728 : Cond.instanceMethod y_CA_feed ∈ GW := gw_t (tb_2 (List.mem_of_getElem? (i := 50) rfl)) rfl
theorem gw_729 : Cond.selects "ChallengeAuthority" y_CA_feed y_CA_feed ∈ GW := gw_t (tb_2 (List.mem_of_getElem? (i := 51) rfl)) rfl
theorem gw_730 : Cond.code y_MO_feed prog_11_method_43_code 5 (Option.some Jvm.ClassFile.FieldType.boolean) ∈ GW := gw_t (tb_4 (List.mem_of_getElem? (i := 234) rfl)) rfl
theorem gw_731 : Cond.methodLink "ChallengeAuthorityLaw" 120 y_MO_feed ∈ GW := gw_t (tb_4 (List.mem_of_getElem? (i := 231) rfl)) rfl
theorem gw_732 : Cond.instanceMethod y_MO_feed ∈ GW := gw_t (tb_4 (List.mem_of_getElem? (i := 232) rfl)) rfl
theorem gw_733 : Cond.selects "ChallengeAuthorityModel" y_MO_feed y_MO_feed ∈ GW := gw_t (tb_4 (List.mem_of_getElem? (i := 233) rfl)) rfl
theorem gw_734 : Cond.code y_CA_clear prog_1_method_15_code 2 (Option.some Jvm.ClassFile.FieldType.int) ∈ GW := gw_t (tb_2 (List.mem_of_getElem? (i := 60) rfl)) rfl
theorem gw_735 : Cond.methodLink "ChallengeAuthorityLaw" 121 y_CA_clear ∈ GW := gw_t (tb_2 (List.mem_of_getElem? (i := 57) rfl)) rfl
theorem gw_736 : Cond.instanceMethod y_CA_clear ∈ GW := gw_t (tb_2 (List.mem_of_getElem? (i := 58) rfl)) rfl
theorem gw_737 : Cond.selects "ChallengeAuthority" y_CA_clear y_CA_clear ∈ GW := gw_t (tb_2 (List.mem_of_getElem? (i := 59) rfl)) rfl
theorem gw_738 : Cond.code y_MO_clear prog_11_method_44_code 2 (Option.some Jvm.ClassFile.FieldType.int) ∈ GW := gw_t (tb_4 (List.mem_of_getElem? (i := 239) rfl)) rfl
theorem gw_739 : Cond.methodLink "ChallengeAuthorityLaw" 124 y_MO_clear ∈ GW := gw_t (tb_4 (List.mem_of_getElem? (i := 236) rfl)) rfl
theorem gw_740 : Cond.instanceMethod y_MO_clear ∈ GW := gw_t (tb_4 (List.mem_of_getElem? (i := 237) rfl)) rfl
theorem gw_741 : Cond.selects "ChallengeAuthorityModel" y_MO_clear y_MO_clear ∈ GW := gw_t (tb_4 (List.mem_of_getElem? (i := 238) rfl)) rfl
theorem gw_742 : Cond.methodLink "ChallengeAuthorityLaw" 125 y_CA_csr ∈ GW := gw_t (tb_2 (List.mem_of_getElem? (i := 61) rfl)) rfl
theorem gw_743 : Cond.code y_MO_csr prog_11_method_35_code 1 (Option.some Jvm.ClassFile.FieldType.int) ∈ GW := gw_t (tb_4 (List.mem_of_getElem? (i := 178) rfl)) rfl
theorem gw_744 : Cond.methodLink "ChallengeAuthorityLaw" 128 y_MO_csr ∈ GW := gw_t (tb_4 (List.mem_of_getElem? (i := 175) rfl)) rfl
theorem gw_745 : Cond.instanceMethod y_MO_csr ∈ GW := gw_t (tb_4 (List.mem_of_getElem? (i := 176) rfl)) rfl
theorem gw_746 : Cond.selects "ChallengeAuthorityModel" y_MO_csr y_MO_csr ∈ GW := gw_t (tb_4 (List.mem_of_getElem? (i := 177) rfl)) rfl
theorem gw_747 : Cond.codeWith y_LW_tick method_11_code 4 (Option.some Jvm.ClassFile.FieldType.int) [((0 : Nat), (9 : Nat), (12 : Nat), (15 : Nat))] ∈ GW := gw_t (tb_3 (List.mem_of_getElem? (i := 132) rfl)) rfl
theorem gw_748 : Cond.static y_LW_tick ∈ GW := gw_t (tb_3 (List.mem_of_getElem? (i := 131) rfl)) rfl
theorem gw_749 : Cond.methodLink "ChallengeAuthorityLaw" 129 y_LW_tick ∈ GW := gw_t (tb_3 (List.mem_of_getElem? (i := 130) rfl)) rfl
theorem gw_750 : Cond.code y_MO_tick prog_11_method_45_code 3 (Option.some Jvm.ClassFile.FieldType.int) ∈ GW := gw_t (tb_5 (List.mem_of_getElem? (i := 3) rfl)) rfl
theorem gw_751 : Cond.methodLink "ChallengeAuthorityLaw" 132 y_MO_tick ∈ GW := gw_t (tb_5 (List.mem_of_getElem? (i := 0) rfl)) rfl
theorem gw_752 : Cond.instanceMethod y_MO_tick ∈ GW := gw_t (tb_5 (List.mem_of_getElem? (i := 1) rfl)) rfl
theorem gw_753 : Cond.selects "ChallengeAuthorityModel" y_MO_tick y_MO_tick ∈ GW := gw_t (tb_5 (List.mem_of_getElem? (i := 2) rfl)) rfl
theorem gw_754 : Cond.methodLink "ChallengeAuthorityLaw" 133 y_CA_there ∈ GW := gw_t (tb_2 (List.mem_of_getElem? (i := 65) rfl)) rfl
theorem gw_755 : Cond.code y_MO_there prog_11_method_47_code 2 (Option.some Jvm.ClassFile.FieldType.int) ∈ GW := gw_t (tb_5 (List.mem_of_getElem? (i := 7) rfl)) rfl
theorem gw_756 : Cond.methodLink "ChallengeAuthorityLaw" 136 y_MO_there ∈ GW := gw_t (tb_5 (List.mem_of_getElem? (i := 4) rfl)) rfl
theorem gw_757 : Cond.instanceMethod y_MO_there ∈ GW := gw_t (tb_5 (List.mem_of_getElem? (i := 5) rfl)) rfl
theorem gw_758 : Cond.selects "ChallengeAuthorityModel" y_MO_there y_MO_there ∈ GW := gw_t (tb_5 (List.mem_of_getElem? (i := 6) rfl)) rfl
theorem gw_759 : Cond.codeWith y_LW_state method_12_code 5 (Option.some Jvm.ClassFile.FieldType.int) [((0 : Nat), (10 : Nat), (13 : Nat), (23 : Nat))] ∈ GW := gw_t (tb_3 (List.mem_of_getElem? (i := 149) rfl)) rfl
theorem gw_760 : Cond.static y_LW_state ∈ GW := gw_t (tb_3 (List.mem_of_getElem? (i := 148) rfl)) rfl
theorem gw_761 : Cond.methodLink "ChallengeAuthorityLaw" 137 y_LW_state ∈ GW := gw_t (tb_3 (List.mem_of_getElem? (i := 147) rfl)) rfl
theorem gw_762 : Cond.code y_MO_state prog_11_method_49_code 3 (Option.some Jvm.ClassFile.FieldType.int) ∈ GW := gw_t (tb_5 (List.mem_of_getElem? (i := 15) rfl)) rfl
theorem gw_763 : Cond.methodLink "ChallengeAuthorityLaw" 140 y_MO_state ∈ GW := gw_t (tb_5 (List.mem_of_getElem? (i := 12) rfl)) rfl
theorem gw_764 : Cond.instanceMethod y_MO_state ∈ GW := gw_t (tb_5 (List.mem_of_getElem? (i := 13) rfl)) rfl
theorem gw_765 : Cond.selects "ChallengeAuthorityModel" y_MO_state y_MO_state ∈ GW := gw_t (tb_5 (List.mem_of_getElem? (i := 14) rfl)) rfl
theorem gw_766 : Cond.codeWith y_LW_detail method_13_code 6 (Option.some Jvm.ClassFile.FieldType.int) [((0 : Nat), (12 : Nat), (15 : Nat), (23 : Nat))] ∈ GW := gw_t (tb_3 (List.mem_of_getElem? (i := 161) rfl)) rfl
theorem gw_767 : Cond.static y_LW_detail ∈ GW := gw_t (tb_3 (List.mem_of_getElem? (i := 160) rfl)) rfl
theorem gw_768 : Cond.methodLink "ChallengeAuthorityLaw" 141 y_LW_detail ∈ GW := gw_t (tb_3 (List.mem_of_getElem? (i := 159) rfl)) rfl
theorem gw_769 : Cond.code y_MO_detail prog_11_method_53_code 4 (Option.some Jvm.ClassFile.FieldType.int) ∈ GW := gw_t (tb_5 (List.mem_of_getElem? (i := 23) rfl)) rfl
theorem gw_770 : Cond.methodLink "ChallengeAuthorityLaw" 143 y_MO_detail ∈ GW := gw_t (tb_5 (List.mem_of_getElem? (i := 20) rfl)) rfl
theorem gw_771 : Cond.instanceMethod y_MO_detail ∈ GW := gw_t (tb_5 (List.mem_of_getElem? (i := 21) rfl)) rfl
theorem gw_772 : Cond.selects "ChallengeAuthorityModel" y_MO_detail y_MO_detail ∈ GW := gw_t (tb_5 (List.mem_of_getElem? (i := 22) rfl)) rfl
theorem gT {y : MethodName} {b : ByteArray} {n : Nat} {r : Option FieldType} {t : List (Nat × Nat × Nat × Nat)} (h : Cond.codeWith y b n r t ∈ GW) : GoodIn GW (Cond.codeWith y b n r t :: GW) := fun w hw => by
  rcases List.mem_cons.mp hw with rfl | hw
  · exact ⟨h, gw_ok h⟩
  · exact ⟨hw, gw_ok hw⟩
def AN (s : State) : Nat → Prop := fun q => s.heap.size ≤ q
def LC (p : Program) (l : Launch) (s : State) (m : MethodId) (meth : Method) (c : Code) (b L : Nat) (xs : Nat → Int32) (dC : Nat → ClassId) (dI : Nat → Nat → Nat) (cA : Nat → ClassId) (ad : Nat → Nat) (cL : ClassId) (ao : Nat) (cM : Nat → ClassId) (am : Nat → Nat) : Prop :=
  (p.tables.exec = Jvm.exec ∧ c.code = code ∧ c.maxLocals = 7 ∧ s.vm.findClass R_LW = some m.cls ∧ (∀ w ∈ GW, w.before #[Value.ref b] s = true) ∧ va_X b L xs s s.heap ∧ b < s.heap.size ∧ l.stackTraces = false) ∧
  (GL dC dI cA ad cL s ∧ GM dC dI cM s) ∧ (INJ ad 125 ∧ INJ am 23 ∧ (∀ k : Nat, k < 125 → ao ≠ ad k) ∧ (∀ k : Nat, k < 125 → ∀ j : Nat, j < 23 → ad k ≠ am j) ∧ (∀ j : Nat, j < 23 → ao ≠ am j)) ∧
  ((∀ k : Nat, k < 125 → s.heap.size ≤ ad k) ∧ (∀ j : Nat, j < 23 → s.heap.size ≤ am j) ∧ s.heap.size ≤ ao)
def LH (dC : Nat → ClassId) (dI : Nat → Nat → Nat) (cA : Nat → ClassId) (ad : Nat → Nat) (cL : ClassId) (ao : Nat) (cM : Nat → ClassId) (am : Nat → Nat) (s : State) (X : ST) (O : Nat → Int64) (Z : ST) (Y : Int64) (H : Heap) (locs : List Loc) : Prop :=
  va_P (dC, dI) vwCl (wdL cA ad cL ao X O) H ∧ va_P (dC, dI) vwCl (wdM cM am Z Y) H ∧ va_S (AN s) s.heap H locs
theorem wdM_fst {cM : Nat → ClassId} {am : Nat → Nat} {Z : ST} {Y : Int64} {k : Nat} {q : Nat × va_E} (h : (wdM cM am Z Y)[k]? = some q) : k < 23 ∧ q.1 = am k := by
  have hm : (wdM cM am Z Y).map (fun q => q.1) = (List.range 23).map am := rfl
  have h1 : ((wdM cM am Z Y).map (fun q => q.1))[k]? = some q.1 := by rw [List.getElem?_map, h]; rfl
  rw [hm, List.getElem?_map] at h1
  rcases Nat.lt_or_ge k 23 with h2 | h2
  · rw [List.getElem?_range h2] at h1
    exact ⟨h2, (Option.some.inj h1).symm⟩
  · rw [List.getElem?_eq_none (by rw [List.length_range]; exact h2)] at h1
    cases h1
theorem wdL_fst {cA : Nat → ClassId} {ad : Nat → Nat} {cL : ClassId} {ao : Nat} {X : ST} {O : Nat → Int64} {k : Nat} {q : Nat × va_E} (h : (wdL cA ad cL ao X O)[k]? = some q) : (∃ j : Nat, j < 125 ∧ q.1 = ad j) ∨ q.1 = ao := by
  rcases Nat.lt_or_ge k 125 with h2 | h2
  · rw [atL_C (zwC_at h2)] at h
    cases h
    exact Or.inl ⟨k, h2, rfl⟩
  · rcases Nat.lt_or_ge 125 k with h3 | h3
    · have h4 := (List.getElem?_eq_some_iff.mp h).1
      unfold wdL at h4
      rw [List.length_append, wdC_len] at h4
      simp at h4
      omega
    · have h5 : k = 125 := by omega
      subst h5
      rw [atL_o] at h
      cases h
      exact Or.inr rfl
section LAWS
variable {p : Program} {l : Launch} {s : State} {m : MethodId} {meth : Method} {c : Code} {b L : Nat} {xs : Nat → Int32} {dC : Nat → ClassId} {dI : Nat → Nat → Nat} {cA : Nat → ClassId} {ad : Nat → Nat} {cL : ClassId} {ao : Nat} {cM : Nat → ClassId} {am : Nat → Nat} {X X1 Z Z1 : ST} {O O1 : Nat → Int64} {Y Y1 : Int64} {H H1 : Heap} {locs locs1 : List Loc} {av : List Value}
theorem LH.callC (hC : LC p l s m meth c b L xs dC dI cA ad cL ao cM am) (h : LH dC dI cA ad cL ao cM am s X O Z Y H locs) (hP : va_P (dC, dI) vwCl (wdC cA ad X1) H1) (hk : ∀ q : Nat, q < H.size → ¬ CA ad 125 H.size q → H1[q]? = H[q]?) (hS : va_S (AN s) s.heap H1 locs1) : LH dC dI cA ad cL ao cM am s X1 O Z Y H1 locs1 := by
  refine ⟨zwL_join hP h.1 (hk ao ((h.1 125 _ atL_o).lt) (zwL_no hC.2.2.1.2.2.1 ((h.1 125 _ atL_o).lt))), fun k q hq => ?_, hS⟩
  obtain ⟨h1, h2⟩ := wdM_fst hq
  have h3 := (h.2.1 k q hq).lt
  refine (h.2.1 k q hq).kept (hk q.1 h3 ?_)
  rintro (⟨j, hj, e⟩ | e)
  · exact hC.2.2.1.2.2.2.1 j hj k h1 (by rw [← e, h2])
  · omega
theorem LH.callL (hC : LC p l s m meth c b L xs dC dI cA ad cL ao cM am) (h : LH dC dI cA ad cL ao cM am s X O Z Y H locs) (hP : va_P (dC, dI) vwCl (wdL cA ad cL ao X1 O1) H1) (hk : ∀ q : Nat, q < H.size → ¬ CL ad ao H.size q → H1[q]? = H[q]?) (hS : va_S (AN s) s.heap H1 locs1) : LH dC dI cA ad cL ao cM am s X1 O1 Z Y H1 locs1 := by
  refine ⟨hP, fun k q hq => ?_, hS⟩
  obtain ⟨h1, h2⟩ := wdM_fst hq
  have h3 := (h.2.1 k q hq).lt
  refine (h.2.1 k q hq).kept (hk q.1 h3 ?_)
  rintro ((⟨j, hj, e⟩ | e) | e)
  · exact hC.2.2.1.2.2.2.1 j hj k h1 (by rw [← e, h2])
  · omega
  · exact hC.2.2.1.2.2.2.2 k h1 (by rw [← e, h2])
theorem LH.callM (hC : LC p l s m meth c b L xs dC dI cA ad cL ao cM am) (h : LH dC dI cA ad cL ao cM am s X O Z Y H locs) (hP : va_P (dC, dI) vwCl (wdM cM am Z1 Y1) H1) (hk : ∀ q : Nat, q < H.size → ¬ CA am 23 H.size q → H1[q]? = H[q]?) (hS : va_S (AN s) s.heap H1 locs1) : LH dC dI cA ad cL ao cM am s X O Z1 Y1 H1 locs1 := by
  refine ⟨fun k q hq => ?_, hP, hS⟩
  have h3 := (h.1 k q hq).lt
  refine (h.1 k q hq).kept (hk q.1 h3 ?_)
  rintro (⟨j, hj, e⟩ | e)
  · rcases wdL_fst hq with ⟨i, hi, e2⟩ | e2
    · exact hC.2.2.1.2.2.2.1 i hi j hj (by rw [← e2, e])
    · exact hC.2.2.1.2.2.2.2 j hj (by rw [← e2, e])
  · omega
theorem LH.anC (hC : LC p l s m meth c b L xs dC dI cA ad cL ao cM am) (h : LH dC dI cA ad cL ao cM am s X O Z Y H locs) (q : Nat) (hq : CA ad 125 H.size q) : AN s q := by
  rcases hq with ⟨k, hk, e⟩ | e
  · rw [e]; exact hC.2.2.2.1 k hk
  · exact Nat.le_trans h.2.2.1 e
theorem LH.anL (hC : LC p l s m meth c b L xs dC dI cA ad cL ao cM am) (h : LH dC dI cA ad cL ao cM am s X O Z Y H locs) (q : Nat) (hq : CL ad ao H.size q) : AN s q := by
  rcases hq with hq | e
  · exact LH.anC hC h q hq
  · rw [e]; exact hC.2.2.2.2.2
theorem LH.anM (hC : LC p l s m meth c b L xs dC dI cA ad cL ao cM am) (h : LH dC dI cA ad cL ao cM am s X O Z Y H locs) (q : Nat) (hq : CA am 23 H.size q) : AN s q := by
  rcases hq with ⟨k, hk, e⟩ | e
  · rw [e]; exact hC.2.2.2.2.1 k hk
  · exact Nat.le_trans h.2.2.1 e
theorem LH.preL (hC : LC p l s m meth c b L xs dC dI cA ad cL ao cM am) (h : LH dC dI cA ad cL ao cM am s X O Z Y H locs) : ∀ U : State, U.heap = H → s.WarmedH U.vm → va_Pc av (fun U => PL dC dI cA ad cL ao H.size X O U) av.toArray U := by
  intro U hU hW
  refine ⟨rfl, by rw [hU], by rw [hU]; exact h.1, hC.2.1.1.moved hW (fun q h1 _ => ?_)⟩
  rw [hU]
  exact h.2.2.2.1 q h1 (fun h2 => absurd h1 (Nat.not_lt.mpr h2))
theorem LH.preC (hC : LC p l s m meth c b L xs dC dI cA ad cL ao cM am) (h : LH dC dI cA ad cL ao cM am s X O Z Y H locs) : ∀ U : State, U.heap = H → s.WarmedH U.vm → va_Pc av (fun U => PC dC dI cA ad H.size X U) av.toArray U := by
  intro U hU hW
  obtain ⟨-, h1, h2, h3⟩ := LH.preL (av := av) hC h U hU hW
  exact ⟨rfl, h1, zwL_C h2, h3.1⟩
theorem LH.preM (hC : LC p l s m meth c b L xs dC dI cA ad cL ao cM am) (h : LH dC dI cA ad cL ao cM am s X O Z Y H locs) : ∀ U : State, U.heap = H → s.WarmedH U.vm → va_Pc av (fun U => PM dC dI cM am H.size Z Y U) av.toArray U := by
  intro U hU hW
  exact ⟨rfl, by rw [hU], by rw [hU]; exact h.2.1, hC.2.1.2.moved hW⟩
end LAWS
def cs_0 (K : ST → (Nat → Int64) → ST → Int64 → Prop) (X : ST) (O : Nat → Int64) (Z : ST) (Y : Int64)  : Prop := wp_CA_nonce (fun (r : Int32) (X1 : ST) => wp_MO_nonce (fun (r2 : Int32) (Z1 : ST) (Y1 : Int64) => r = r2 ∧ K X1 O Z1 Y1) Z Y ) X 
def cs_1 (K : ST → (Nat → Int64) → ST → Int64 → Prop) (X : ST) (O : Nat → Int64) (Z : ST) (Y : Int64) (a1 : Int32) (a2 : Int32) (a3 : Int32) : Prop := wp_CA_power (fun (r : Int32) (X1 : ST) => wp_MO_power (fun (r2 : Int32) (Z1 : ST) (Y1 : Int64) => r = r2 ∧ K X1 O Z1 Y1) Z Y a1 a2 a3) X a1 a2 a3
def cs_2 (K : ST → (Nat → Int64) → ST → Int64 → Prop) (X : ST) (O : Nat → Int64) (Z : ST) (Y : Int64) (a1 : Int32) (a2 : Int32) (a3 : Int32) (a4 : Int32) (a5 : Int32) : Prop := wp_CA_digest (fun (r : Int32) (X1 : ST) => wp_MO_digest (fun (r2 : Int32) (Z1 : ST) (Y1 : Int64) => r = r2 ∧ K X1 O Z1 Y1) Z Y a1 a2 a3 a4 a5) X a1 a2 a3 a4 a5
def cs_3 (K : ST → (Nat → Int64) → ST → Int64 → Prop) (X : ST) (O : Nat → Int64) (Z : ST) (Y : Int64) (a1 : Int32) (a2 : Int32) (a3 : Int32) : Prop := wp_LW_account (fun (k : Int32) (X1 : ST) (O1 : Nat → Int64) => wp_MO_account (fun (r : Int32) (Z1 : ST) (Y1 : Int64) => wp_MO_thrown (fun (t : Int32) (Z2 : ST) (Y2 : Int64) => t = k ∧ (k = 0 → O1 0 = r.toInt64) ∧ K X1 O1 Z2 Y2) Z1 Y1) Z Y a1 a2 a3) X O a1 a2 a3
def cs_4 (K : ST → (Nat → Int64) → ST → Int64 → Prop) (X : ST) (O : Nat → Int64) (Z : ST) (Y : Int64) (a1 : Int32) (a2 : Int32) (a3 : Int32) (a4 : Int32) (a5 : Int32) : Prop := wp_LW_order (fun (k : Int32) (X1 : ST) (O1 : Nat → Int64) => wp_MO_order (fun (r : Int32) (Z1 : ST) (Y1 : Int64) => wp_MO_thrown (fun (t : Int32) (Z2 : ST) (Y2 : Int64) => t = k ∧ (k = 0 → O1 0 = r.toInt64) ∧ K X1 O1 Z2 Y2) Z1 Y1) Z Y a1 a2 a3 a4 a5) X O a1 a2 a3 a4 a5
def cs_5 (K : ST → (Nat → Int64) → ST → Int64 → Prop) (X : ST) (O : Nat → Int64) (Z : ST) (Y : Int64) (a1 : Int32) (a2 : Int32) (a3 : Int32) (a4 : Int32) (a5 : Int32) : Prop := wp_LW_answer (fun (k : Int32) (X1 : ST) (O1 : Nat → Int64) => wp_MO_answer (fun (r : Int32) (Z1 : ST) (Y1 : Int64) => wp_MO_thrown (fun (t : Int32) (Z2 : ST) (Y2 : Int64) => t = k ∧ (k = 0 → O1 0 = r.toInt64) ∧ K X1 O1 Z2 Y2) Z1 Y1) Z Y a1 a2 a3 a4 a5) X O a1 a2 a3 a4 a5
def cs_6 (K : ST → (Nat → Int64) → ST → Int64 → Prop) (X : ST) (O : Nat → Int64) (Z : ST) (Y : Int64) (a1 : Int32) (a2 : Int32) (a3 : Int32) : Prop := wp_LW_probe (fun (k : Int32) (X1 : ST) (O1 : Nat → Int64) => wp_MO_probe (fun (r : Int32) (Z1 : ST) (Y1 : Int64) => wp_MO_thrown (fun (t : Int32) (Z2 : ST) (Y2 : Int64) => t = k ∧ (k = 0 → O1 0 = r.toInt64) ∧ K X1 O1 Z2 Y2) Z1 Y1) Z Y a1 a2 a3) X O a1 a2 a3
def cs_7 (K : ST → (Nat → Int64) → ST → Int64 → Prop) (X : ST) (O : Nat → Int64) (Z : ST) (Y : Int64) (a1 : Int32) (a2 : Int32) (a3 : Int32) (a4 : Int32) : Prop := wp_LW_finish (fun (k : Int32) (X1 : ST) (O1 : Nat → Int64) => wp_MO_finish (fun (r : Int32) (Z1 : ST) (Y1 : Int64) => wp_MO_thrown (fun (t : Int32) (Z2 : ST) (Y2 : Int64) => t = k ∧ (k = 0 → O1 0 = r.toInt64) ∧ K X1 O1 Z2 Y2) Z1 Y1) Z Y a1 a2 a3 a4) X O a1 a2 a3 a4
def cs_8 (K : ST → (Nat → Int64) → ST → Int64 → Prop) (X : ST) (O : Nat → Int64) (Z : ST) (Y : Int64)  : Prop := wp_CA_publish (fun (r : Int32) (X1 : ST) => wp_MO_publish (fun (r2 : Int32) (Z1 : ST) (Y1 : Int64) => r = r2 ∧ K X1 O Z1 Y1) Z Y ) X 
def cs_9 (K : ST → (Nat → Int64) → ST → Int64 → Prop) (X : ST) (O : Nat → Int64) (Z : ST) (Y : Int64) (a1 : Int32) (a2 : Int32) (a3 : Int32) (a4 : Int32) (a5 : Int32) : Prop := wp_LW_revoke (fun (k : Int32) (X1 : ST) (O1 : Nat → Int64) => wp_MO_revoke (fun (r : Int32) (Z1 : ST) (Y1 : Int64) => wp_MO_thrown (fun (t : Int32) (Z2 : ST) (Y2 : Int64) => t = k ∧ (k = 0 → O1 0 = r.toInt64) ∧ K X1 O1 Z2 Y2) Z1 Y1) Z Y a1 a2 a3 a4 a5) X O a1 a2 a3 a4 a5
def cs_10 (K : ST → (Nat → Int64) → ST → Int64 → Prop) (X : ST) (O : Nat → Int64) (Z : ST) (Y : Int64) (a1 : Int32) (a2 : Int32) (a3 : Int32) (a4 : Int32) : Prop := wp_LW_deactivate (fun (k : Int32) (X1 : ST) (O1 : Nat → Int64) => wp_MO_deactivate (fun (r : Int32) (Z1 : ST) (Y1 : Int64) => wp_MO_thrown (fun (t : Int32) (Z2 : ST) (Y2 : Int64) => t = k ∧ (k = 0 → O1 0 = r.toInt64) ∧ K X1 O1 Z2 Y2) Z1 Y1) Z Y a1 a2 a3 a4) X O a1 a2 a3 a4
def cs_11 (K : ST → (Nat → Int64) → ST → Int64 → Prop) (X : ST) (O : Nat → Int64) (Z : ST) (Y : Int64) (a1 : Int32) (a2 : Int32) (a3 : Int32) (a4 : Int32) (a5 : Int32) : Prop := wp_LW_rollover (fun (k : Int32) (X1 : ST) (O1 : Nat → Int64) => wp_MO_rollover (fun (r : Int32) (Z1 : ST) (Y1 : Int64) => wp_MO_thrown (fun (t : Int32) (Z2 : ST) (Y2 : Int64) => t = k ∧ (k = 0 → O1 0 = r.toInt64) ∧ K X1 O1 Z2 Y2) Z1 Y1) Z Y a1 a2 a3 a4 a5) X O a1 a2 a3 a4 a5
def cs_12 (K : ST → (Nat → Int64) → ST → Int64 → Prop) (X : ST) (O : Nat → Int64) (Z : ST) (Y : Int64) (a1 : Int64) (a2 : Int32) : Prop := wp_CA_feed (fun (r : Int32) (X1 : ST) => wp_MO_feed (fun (r2 : Int32) (Z1 : ST) (Y1 : Int64) => r = r2 ∧ K X1 O Z1 Y1) Z Y a1 a2) X a1 a2
def cs_13 (K : ST → (Nat → Int64) → ST → Int64 → Prop) (X : ST) (O : Nat → Int64) (Z : ST) (Y : Int64)  : Prop := wp_CA_clear (fun (r : Int32) (X1 : ST) => wp_MO_clear (fun (r2 : Int32) (Z1 : ST) (Y1 : Int64) => r = r2 ∧ K X1 O Z1 Y1) Z Y ) X 
def cs_14 (K : ST → (Nat → Int64) → ST → Int64 → Prop) (X : ST) (O : Nat → Int64) (Z : ST) (Y : Int64)  : Prop := wp_CA_csr (fun (r : Int32) (X1 : ST) => wp_MO_csr (fun (r2 : Int32) (Z1 : ST) (Y1 : Int64) => r = r2 ∧ K X1 O Z1 Y1) Z Y ) X 
def cs_15 (K : ST → (Nat → Int64) → ST → Int64 → Prop) (X : ST) (O : Nat → Int64) (Z : ST) (Y : Int64) (a1 : Int32) : Prop := wp_LW_tick (fun (k : Int32) (X1 : ST) (O1 : Nat → Int64) => wp_MO_tick (fun (r : Int32) (Z1 : ST) (Y1 : Int64) => wp_MO_thrown (fun (t : Int32) (Z2 : ST) (Y2 : Int64) => t = k ∧ (k = 0 → O1 0 = r.toInt64) ∧ K X1 O1 Z2 Y2) Z1 Y1) Z Y a1) X O a1
def cs_16 (K : ST → (Nat → Int64) → ST → Int64 → Prop) (X : ST) (O : Nat → Int64) (Z : ST) (Y : Int64) (a1 : Int32) : Prop := wp_CA_there (fun (r : Int32) (X1 : ST) => wp_MO_there (fun (r2 : Int32) (Z1 : ST) (Y1 : Int64) => r = r2 ∧ K X1 O Z1 Y1) Z Y a1) X a1
def cs_17 (K : ST → (Nat → Int64) → ST → Int64 → Prop) (X : ST) (O : Nat → Int64) (Z : ST) (Y : Int64) (a1 : Int32) (a2 : Int32) : Prop := wp_LW_state (fun (k : Int32) (X1 : ST) (O1 : Nat → Int64) => wp_MO_state (fun (r : Int32) (Z1 : ST) (Y1 : Int64) => wp_MO_thrown (fun (t : Int32) (Z2 : ST) (Y2 : Int64) => t = k ∧ (k = 0 → O1 0 = r.toInt64) ∧ K X1 O1 Z2 Y2) Z1 Y1) Z Y a1 a2) X O a1 a2
def cs_18 (K : ST → (Nat → Int64) → ST → Int64 → Prop) (X : ST) (O : Nat → Int64) (Z : ST) (Y : Int64) (a1 : Int32) (a2 : Int32) (a3 : Int32) : Prop := wp_LW_detail (fun (k : Int32) (X1 : ST) (O1 : Nat → Int64) => wp_MO_detail (fun (r : Int32) (Z1 : ST) (Y1 : Int64) => wp_MO_thrown (fun (t : Int32) (Z2 : ST) (Y2 : Int64) => t = k ∧ (k = 0 → O1 0 = r.toInt64) ∧ K X1 O1 Z2 Y2) Z1 Y1) Z Y a1 a2 a3) X O a1 a2 a3
def LStep (K : ST → (Nat → Int64) → ST → Int64 → Prop) : Prop := (∀ (X : ST) (O : Nat → Int64) (Z : ST) (Y : Int64), K X O Z Y → cs_0 K X O Z Y) ∧ (∀ (X : ST) (O : Nat → Int64) (Z : ST) (Y : Int64), K X O Z Y → ∀ (a1 : Int32) (a2 : Int32) (a3 : Int32), cs_1 K X O Z Y a1 a2 a3) ∧ (∀ (X : ST) (O : Nat → Int64) (Z : ST) (Y : Int64), K X O Z Y → ∀ (a1 : Int32) (a2 : Int32) (a3 : Int32) (a4 : Int32) (a5 : Int32), cs_2 K X O Z Y a1 a2 a3 a4 a5) ∧ (∀ (X : ST) (O : Nat → Int64) (Z : ST) (Y : Int64), K X O Z Y → ∀ (a1 : Int32) (a2 : Int32) (a3 : Int32), cs_3 K X O Z Y a1 a2 a3) ∧ (∀ (X : ST) (O : Nat → Int64) (Z : ST) (Y : Int64), K X O Z Y → ∀ (a1 : Int32) (a2 : Int32) (a3 : Int32) (a4 : Int32) (a5 : Int32), cs_4 K X O Z Y a1 a2 a3 a4 a5) ∧ (∀ (X : ST) (O : Nat → Int64) (Z : ST) (Y : Int64), K X O Z Y → ∀ (a1 : Int32) (a2 : Int32) (a3 : Int32) (a4 : Int32) (a5 : Int32), cs_5 K X O Z Y a1 a2 a3 a4 a5) ∧ (∀ (X : ST) (O : Nat → Int64) (Z : ST) (Y : Int64), K X O Z Y → ∀ (a1 : Int32) (a2 : Int32) (a3 : Int32), cs_6 K X O Z Y a1 a2 a3) ∧ (∀ (X : ST) (O : Nat → Int64) (Z : ST) (Y : Int64), K X O Z Y → ∀ (a1 : Int32) (a2 : Int32) (a3 : Int32) (a4 : Int32), cs_7 K X O Z Y a1 a2 a3 a4) ∧ (∀ (X : ST) (O : Nat → Int64) (Z : ST) (Y : Int64), K X O Z Y → cs_8 K X O Z Y) ∧ (∀ (X : ST) (O : Nat → Int64) (Z : ST) (Y : Int64), K X O Z Y → ∀ (a1 : Int32) (a2 : Int32) (a3 : Int32) (a4 : Int32) (a5 : Int32), cs_9 K X O Z Y a1 a2 a3 a4 a5) ∧ (∀ (X : ST) (O : Nat → Int64) (Z : ST) (Y : Int64), K X O Z Y → ∀ (a1 : Int32) (a2 : Int32) (a3 : Int32) (a4 : Int32), cs_10 K X O Z Y a1 a2 a3 a4) ∧ (∀ (X : ST) (O : Nat → Int64) (Z : ST) (Y : Int64), K X O Z Y → ∀ (a1 : Int32) (a2 : Int32) (a3 : Int32) (a4 : Int32) (a5 : Int32), cs_11 K X O Z Y a1 a2 a3 a4 a5) ∧ (∀ (X : ST) (O : Nat → Int64) (Z : ST) (Y : Int64), K X O Z Y → ∀ (a1 : Int64) (a2 : Int32), cs_12 K X O Z Y a1 a2) ∧ (∀ (X : ST) (O : Nat → Int64) (Z : ST) (Y : Int64), K X O Z Y → cs_13 K X O Z Y) ∧ (∀ (X : ST) (O : Nat → Int64) (Z : ST) (Y : Int64), K X O Z Y → cs_14 K X O Z Y) ∧ (∀ (X : ST) (O : Nat → Int64) (Z : ST) (Y : Int64), K X O Z Y → ∀ (a1 : Int32), cs_15 K X O Z Y a1) ∧ (∀ (X : ST) (O : Nat → Int64) (Z : ST) (Y : Int64), K X O Z Y → ∀ (a1 : Int32), cs_16 K X O Z Y a1) ∧ (∀ (X : ST) (O : Nat → Int64) (Z : ST) (Y : Int64), K X O Z Y → ∀ (a1 : Int32) (a2 : Int32), cs_17 K X O Z Y a1 a2) ∧ (∀ (X : ST) (O : Nat → Int64) (Z : ST) (Y : Int64), K X O Z Y → ∀ (a1 : Int32) (a2 : Int32) (a3 : Int32), cs_18 K X O Z Y a1 a2 a3)
