theorem m_900 : Cond.methodLink RX4 5 objectInit ∈ lwc := nv_1 (List.mem_of_getElem? (i := 30) rfl) rfl
theorem m_901 : Cond.instanceMethod objectInit ∈ lwc := nv_1 (List.mem_of_getElem? (i := 23) rfl) rfl
theorem m_902 : Cond.code objectInit ⟨#[0xb1]⟩ 1 none ∈ lwc := nv_1 (List.mem_of_getElem? (i := 24) rfl) rfl
theorem m_903 : Cond.arrayClass .int ∈ lwc := nv_1 (List.mem_of_getElem? (i := 84) rfl) rfl
theorem m_904 : Cond.methodLink RX5 3 objectInit ∈ lwc := nv_1 (List.mem_of_getElem? (i := 90) rfl) rfl
theorem m_905 : Cond.methodLink RX7 3 objectInit ∈ lwc := nv_1 (List.mem_of_getElem? (i := 105) rfl) rfl
theorem m_906 : Cond.methodLink RX2 3 objectInit ∈ lwc := nv_1 (List.mem_of_getElem? (i := 127) rfl) rfl
theorem m_907 : Cond.methodLink RX0 3 objectInit ∈ lwc := nv_1 (List.mem_of_getElem? (i := 192) rfl) rfl
theorem m_908 : Cond.arrayClass .long ∈ lwc := nv_1 (List.mem_of_getElem? (i := 208) rfl) rfl
theorem m_909 : Cond.methodLink RX3 3 objectInit ∈ lwc := nv_1 (List.mem_of_getElem? (i := 214) rfl) rfl
theorem m_910 : Cond.arrayClass .boolean ∈ lwc := nv_2 (List.mem_of_getElem? (i := 24) rfl) rfl
theorem m_911 : Cond.methodLink RX6 3 objectInit ∈ lwc := nv_1 (List.mem_of_getElem? (i := 152) rfl) rfl
theorem m_912 : Cond.methodLink RX1 3 objectInit ∈ lwc := nv_1 (List.mem_of_getElem? (i := 145) rfl) rfl
theorem m_913 : Cond.classLink RX1 9 RX6 ∈ lwc := nv_1 (List.mem_of_getElem? (i := 146) rfl) rfl
theorem m_914 : Cond.instantiable RX6 6 ∈ lwc := nv_1 (List.mem_of_getElem? (i := 148) rfl) rfl
theorem m_915 : Cond.code yX6_init cX6_init 1 none ∈ lwc := nv_1 (List.mem_of_getElem? (i := 151) rfl) rfl
theorem m_916 : Cond.instanceMethod yX6_init ∈ lwc := nv_1 (List.mem_of_getElem? (i := 150) rfl) rfl
theorem m_917 : Cond.methodLink RX8 1 objectInit ∈ lwc := nv_1 (List.mem_of_getElem? (i := 22) rfl) rfl
theorem m_918 : Cond.classLink RX8 7 RX4 ∈ lwc := nv_1 (List.mem_of_getElem? (i := 25) rfl) rfl
theorem m_919 : Cond.instantiable RX4 13 ∈ lwc := nv_1 (List.mem_of_getElem? (i := 26) rfl) rfl
theorem m_920 : Cond.code yX4_init cX4_init 1 none ∈ lwc := nv_1 (List.mem_of_getElem? (i := 29) rfl) rfl
theorem m_921 : Cond.instanceMethod yX4_init ∈ lwc := nv_1 (List.mem_of_getElem? (i := 28) rfl) rfl
theorem m_922 : Cond.classLink RX8 19 RX5 ∈ lwc := nv_1 (List.mem_of_getElem? (i := 85) rfl) rfl
theorem m_923 : Cond.instantiable RX5 2 ∈ lwc := nv_1 (List.mem_of_getElem? (i := 86) rfl) rfl
theorem m_924 : Cond.code yX5_init cX5_init 1 none ∈ lwc := nv_1 (List.mem_of_getElem? (i := 89) rfl) rfl
theorem m_925 : Cond.instanceMethod yX5_init ∈ lwc := nv_1 (List.mem_of_getElem? (i := 88) rfl) rfl
theorem m_926 : Cond.classLink RX8 26 RX7 ∈ lwc := nv_1 (List.mem_of_getElem? (i := 100) rfl) rfl
theorem m_927 : Cond.instantiable RX7 5 ∈ lwc := nv_1 (List.mem_of_getElem? (i := 101) rfl) rfl
theorem m_928 : Cond.code yX7_init cX7_init 1 none ∈ lwc := nv_1 (List.mem_of_getElem? (i := 104) rfl) rfl
theorem m_929 : Cond.instanceMethod yX7_init ∈ lwc := nv_1 (List.mem_of_getElem? (i := 103) rfl) rfl
theorem m_930 : Cond.classLink RX8 33 RX2 ∈ lwc := nv_1 (List.mem_of_getElem? (i := 122) rfl) rfl
theorem m_931 : Cond.instantiable RX2 3 ∈ lwc := nv_1 (List.mem_of_getElem? (i := 123) rfl) rfl
theorem m_932 : Cond.code yX2_init cX2_init 1 none ∈ lwc := nv_1 (List.mem_of_getElem? (i := 126) rfl) rfl
theorem m_933 : Cond.instanceMethod yX2_init ∈ lwc := nv_1 (List.mem_of_getElem? (i := 125) rfl) rfl
theorem m_934 : Cond.classLink RX8 40 RX1 ∈ lwc := nv_1 (List.mem_of_getElem? (i := 140) rfl) rfl
theorem m_935 : Cond.instantiable RX1 4 ∈ lwc := nv_1 (List.mem_of_getElem? (i := 141) rfl) rfl
theorem m_936 : Cond.code yX1_init cX1_init 2 none ∈ lwc := nv_1 (List.mem_of_getElem? (i := 144) rfl) rfl
theorem m_937 : Cond.methodLink RX8 42 yX1_init ∈ lwc := nv_1 (List.mem_of_getElem? (i := 142) rfl) rfl
theorem m_938 : Cond.instanceMethod yX1_init ∈ lwc := nv_1 (List.mem_of_getElem? (i := 143) rfl) rfl
theorem m_939 : Cond.classLink RX8 47 RX0 ∈ lwc := nv_1 (List.mem_of_getElem? (i := 187) rfl) rfl
theorem m_940 : Cond.instantiable RX0 4 ∈ lwc := nv_1 (List.mem_of_getElem? (i := 188) rfl) rfl
theorem m_941 : Cond.code yX0_init cX0_init 1 none ∈ lwc := nv_1 (List.mem_of_getElem? (i := 191) rfl) rfl
theorem m_942 : Cond.instanceMethod yX0_init ∈ lwc := nv_1 (List.mem_of_getElem? (i := 190) rfl) rfl
theorem m_943 : Cond.classLink RX8 54 RX3 ∈ lwc := nv_1 (List.mem_of_getElem? (i := 209) rfl) rfl
theorem m_944 : Cond.instantiable RX3 16 ∈ lwc := nv_1 (List.mem_of_getElem? (i := 210) rfl) rfl
theorem m_945 : Cond.code yX3_init cX3_init 1 none ∈ lwc := nv_1 (List.mem_of_getElem? (i := 213) rfl) rfl
theorem m_946 : Cond.instanceMethod yX3_init ∈ lwc := nv_1 (List.mem_of_getElem? (i := 212) rfl) rfl
theorem m_947 : Cond.methodLink RX9 1 objectInit ∈ lwc := nv_4 (List.mem_of_getElem? (i := 164) rfl) rfl
theorem m_948 : Cond.arrayClass .byte ∈ lwc := nv_3 (List.mem_of_getElem? (i := 205) rfl) rfl
theorem m_949 : Cond.methodLink RL 13 yX8_market ∈ lwc := nv_2 (List.mem_of_getElem? (i := 50) rfl) rfl
theorem m_950 : Cond.instanceMethod yX8_market ∈ lwc := nv_2 (List.mem_of_getElem? (i := 51) rfl) rfl
theorem m_951 : Cond.selects RX8 yX8_market yX8_market ∈ lwc := nv_2 (List.mem_of_getElem? (i := 52) rfl) rfl
theorem m_952 : Cond.code yX8_market cX8_market 4 (some .int) ∈ lwc := nv_2 (List.mem_of_getElem? (i := 53) rfl) rfl
theorem m_953 : Cond.methodLink RL 17 yX9_market ∈ lwc := nv_5 (List.mem_of_getElem? (i := 89) rfl) rfl
theorem m_954 : Cond.instanceMethod yX9_market ∈ lwc := nv_5 (List.mem_of_getElem? (i := 90) rfl) rfl
theorem m_955 : Cond.selects RX9 yX9_market yX9_market ∈ lwc := nv_5 (List.mem_of_getElem? (i := 91) rfl) rfl
theorem m_956 : Cond.code yX9_market cX9_market 5 (some .int) ∈ lwc := nv_5 (List.mem_of_getElem? (i := 92) rfl) rfl
theorem m_957 : Cond.methodLink RL 18 yX8_goose ∈ lwc := nv_2 (List.mem_of_getElem? (i := 61) rfl) rfl
theorem m_958 : Cond.instanceMethod yX8_goose ∈ lwc := nv_2 (List.mem_of_getElem? (i := 62) rfl) rfl
theorem m_959 : Cond.selects RX8 yX8_goose yX8_goose ∈ lwc := nv_2 (List.mem_of_getElem? (i := 63) rfl) rfl
theorem m_960 : Cond.code yX8_goose cX8_goose 3 (some .int) ∈ lwc := nv_2 (List.mem_of_getElem? (i := 64) rfl) rfl
theorem m_961 : Cond.methodLink RL 22 yX9_goose ∈ lwc := nv_5 (List.mem_of_getElem? (i := 96) rfl) rfl
theorem m_962 : Cond.instanceMethod yX9_goose ∈ lwc := nv_5 (List.mem_of_getElem? (i := 97) rfl) rfl
theorem m_963 : Cond.selects RX9 yX9_goose yX9_goose ∈ lwc := nv_5 (List.mem_of_getElem? (i := 98) rfl) rfl
theorem m_964 : Cond.code yX9_goose cX9_goose 4 (some .int) ∈ lwc := nv_5 (List.mem_of_getElem? (i := 99) rfl) rfl
theorem m_965 : Cond.methodLink RL 23 yX8_store ∈ lwc := nv_2 (List.mem_of_getElem? (i := 77) rfl) rfl
theorem m_966 : Cond.instanceMethod yX8_store ∈ lwc := nv_2 (List.mem_of_getElem? (i := 78) rfl) rfl
theorem m_967 : Cond.selects RX8 yX8_store yX8_store ∈ lwc := nv_2 (List.mem_of_getElem? (i := 79) rfl) rfl
theorem m_968 : Cond.code yX8_store cX8_store 3 (some .boolean) ∈ lwc := nv_2 (List.mem_of_getElem? (i := 80) rfl) rfl
theorem m_969 : Cond.methodLink RL 27 yX9_store ∈ lwc := nv_5 (List.mem_of_getElem? (i := 104) rfl) rfl
theorem m_970 : Cond.instanceMethod yX9_store ∈ lwc := nv_5 (List.mem_of_getElem? (i := 105) rfl) rfl
theorem m_971 : Cond.selects RX9 yX9_store yX9_store ∈ lwc := nv_5 (List.mem_of_getElem? (i := 106) rfl) rfl
theorem m_972 : Cond.code yX9_store cX9_store 3 (some .boolean) ∈ lwc := nv_5 (List.mem_of_getElem? (i := 107) rfl) rfl
theorem m_973 : Cond.methodLink RL 28 yX8_seed ∈ lwc := nv_2 (List.mem_of_getElem? (i := 81) rfl) rfl
theorem m_974 : Cond.instanceMethod yX8_seed ∈ lwc := nv_2 (List.mem_of_getElem? (i := 82) rfl) rfl
theorem m_975 : Cond.selects RX8 yX8_seed yX8_seed ∈ lwc := nv_2 (List.mem_of_getElem? (i := 83) rfl) rfl
theorem m_976 : Cond.code yX8_seed cX8_seed 2 (some .boolean) ∈ lwc := nv_2 (List.mem_of_getElem? (i := 84) rfl) rfl
theorem m_977 : Cond.methodLink RL 32 yX9_seed ∈ lwc := nv_5 (List.mem_of_getElem? (i := 108) rfl) rfl
theorem m_978 : Cond.instanceMethod yX9_seed ∈ lwc := nv_5 (List.mem_of_getElem? (i := 109) rfl) rfl
theorem m_979 : Cond.selects RX9 yX9_seed yX9_seed ∈ lwc := nv_5 (List.mem_of_getElem? (i := 110) rfl) rfl
theorem m_980 : Cond.code yX9_seed cX9_seed 2 (some .boolean) ∈ lwc := nv_5 (List.mem_of_getElem? (i := 111) rfl) rfl
theorem m_981 : Cond.methodLink RL 33 yX8_fill ∈ lwc := nv_2 (List.mem_of_getElem? (i := 85) rfl) rfl
theorem m_982 : Cond.methodLink RL 36 yX9_fill ∈ lwc := nv_5 (List.mem_of_getElem? (i := 116) rfl) rfl
theorem m_983 : Cond.methodLink RL 37 yX8_send ∈ lwc := nv_2 (List.mem_of_getElem? (i := 178) rfl) rfl
theorem m_984 : Cond.methodLink RL 40 yX9_send ∈ lwc := nv_5 (List.mem_of_getElem? (i := 170) rfl) rfl
theorem m_985 : Cond.methodLink RL 41 yX8_fatten ∈ lwc := nv_2 (List.mem_of_getElem? (i := 195) rfl) rfl
theorem m_986 : Cond.methodLink RL 45 yX9_fatten ∈ lwc := nv_5 (List.mem_of_getElem? (i := 178) rfl) rfl
theorem m_987 : Cond.methodLink RL 46 yX8_pluck ∈ lwc := nv_2 (List.mem_of_getElem? (i := 199) rfl) rfl
theorem m_988 : Cond.instanceMethod yX8_pluck ∈ lwc := nv_2 (List.mem_of_getElem? (i := 200) rfl) rfl
theorem m_989 : Cond.selects RX8 yX8_pluck yX8_pluck ∈ lwc := nv_2 (List.mem_of_getElem? (i := 201) rfl) rfl
theorem m_990 : Cond.code yX8_pluck cX8_pluck 2 (some .int) ∈ lwc := nv_2 (List.mem_of_getElem? (i := 202) rfl) rfl
theorem m_991 : Cond.methodLink RL 49 yX9_pluck ∈ lwc := nv_5 (List.mem_of_getElem? (i := 182) rfl) rfl
theorem m_992 : Cond.instanceMethod yX9_pluck ∈ lwc := nv_5 (List.mem_of_getElem? (i := 183) rfl) rfl
theorem m_993 : Cond.selects RX9 yX9_pluck yX9_pluck ∈ lwc := nv_5 (List.mem_of_getElem? (i := 184) rfl) rfl
theorem m_994 : Cond.code yX9_pluck cX9_pluck 2 (some .int) ∈ lwc := nv_5 (List.mem_of_getElem? (i := 185) rfl) rfl
theorem m_995 : Cond.methodLink RL 50 yX8_name ∈ lwc := nv_2 (List.mem_of_getElem? (i := 203) rfl) rfl
theorem m_996 : Cond.instanceMethod yX8_name ∈ lwc := nv_2 (List.mem_of_getElem? (i := 204) rfl) rfl
theorem m_997 : Cond.selects RX8 yX8_name yX8_name ∈ lwc := nv_2 (List.mem_of_getElem? (i := 205) rfl) rfl
theorem m_998 : Cond.code yX8_name cX8_name 2 (some .boolean) ∈ lwc := nv_2 (List.mem_of_getElem? (i := 206) rfl) rfl
theorem m_999 : Cond.methodLink RL 53 yX9_name ∈ lwc := nv_5 (List.mem_of_getElem? (i := 186) rfl) rfl
theorem m_1000 : Cond.instanceMethod yX9_name ∈ lwc := nv_5 (List.mem_of_getElem? (i := 187) rfl) rfl
theorem m_1001 : Cond.selects RX9 yX9_name yX9_name ∈ lwc := nv_5 (List.mem_of_getElem? (i := 188) rfl) rfl
theorem m_1002 : Cond.code yX9_name cX9_name 2 (some .boolean) ∈ lwc := nv_5 (List.mem_of_getElem? (i := 189) rfl) rfl
theorem m_1003 : Cond.methodLink RL 54 yX8_pass ∈ lwc := nv_2 (List.mem_of_getElem? (i := 207) rfl) rfl
theorem m_1004 : Cond.methodLink RL 57 yX9_pass ∈ lwc := nv_6 (List.mem_of_getElem? (i := 98) rfl) rfl
theorem m_1005 : Cond.methodLink RL 58 yX8_feed ∈ lwc := nv_3 (List.mem_of_getElem? (i := 11) rfl) rfl
theorem m_1006 : Cond.instanceMethod yX8_feed ∈ lwc := nv_3 (List.mem_of_getElem? (i := 12) rfl) rfl
theorem m_1007 : Cond.selects RX8 yX8_feed yX8_feed ∈ lwc := nv_3 (List.mem_of_getElem? (i := 13) rfl) rfl
theorem m_1008 : Cond.code yX8_feed cX8_feed 6 (some .int) ∈ lwc := nv_3 (List.mem_of_getElem? (i := 14) rfl) rfl
theorem m_1009 : Cond.methodLink RL 62 yX9_feed ∈ lwc := nv_5 (List.mem_of_getElem? (i := 190) rfl) rfl
theorem m_1010 : Cond.instanceMethod yX9_feed ∈ lwc := nv_5 (List.mem_of_getElem? (i := 191) rfl) rfl
theorem m_1011 : Cond.selects RX9 yX9_feed yX9_feed ∈ lwc := nv_5 (List.mem_of_getElem? (i := 192) rfl) rfl
theorem m_1012 : Cond.code yX9_feed cX9_feed 6 (some .int) ∈ lwc := nv_5 (List.mem_of_getElem? (i := 193) rfl) rfl
theorem m_1013 : Cond.methodLink RL 63 yX8_end ∈ lwc := nv_3 (List.mem_of_getElem? (i := 19) rfl) rfl
theorem m_1014 : Cond.instanceMethod yX8_end ∈ lwc := nv_3 (List.mem_of_getElem? (i := 20) rfl) rfl
theorem m_1015 : Cond.selects RX8 yX8_end yX8_end ∈ lwc := nv_3 (List.mem_of_getElem? (i := 21) rfl) rfl
theorem m_1016 : Cond.code yX8_end cX8_end 2 (some .int) ∈ lwc := nv_3 (List.mem_of_getElem? (i := 22) rfl) rfl
theorem m_1017 : Cond.methodLink RL 66 yX9_end ∈ lwc := nv_5 (List.mem_of_getElem? (i := 198) rfl) rfl
theorem m_1018 : Cond.instanceMethod yX9_end ∈ lwc := nv_5 (List.mem_of_getElem? (i := 199) rfl) rfl
theorem m_1019 : Cond.selects RX9 yX9_end yX9_end ∈ lwc := nv_5 (List.mem_of_getElem? (i := 200) rfl) rfl
theorem m_1020 : Cond.code yX9_end cX9_end 2 (some .int) ∈ lwc := nv_5 (List.mem_of_getElem? (i := 201) rfl) rfl
theorem m_1021 : Cond.methodLink RL 67 yX8_text ∈ lwc := nv_3 (List.mem_of_getElem? (i := 23) rfl) rfl
theorem m_1022 : Cond.instanceMethod yX8_text ∈ lwc := nv_3 (List.mem_of_getElem? (i := 24) rfl) rfl
theorem m_1023 : Cond.selects RX8 yX8_text yX8_text ∈ lwc := nv_3 (List.mem_of_getElem? (i := 25) rfl) rfl
theorem m_1024 : Cond.code yX8_text cX8_text 2 (some .int) ∈ lwc := nv_3 (List.mem_of_getElem? (i := 26) rfl) rfl
theorem m_1025 : Cond.methodLink RL 71 yX9_text ∈ lwc := nv_5 (List.mem_of_getElem? (i := 202) rfl) rfl
theorem m_1026 : Cond.instanceMethod yX9_text ∈ lwc := nv_5 (List.mem_of_getElem? (i := 203) rfl) rfl
theorem m_1027 : Cond.selects RX9 yX9_text yX9_text ∈ lwc := nv_5 (List.mem_of_getElem? (i := 204) rfl) rfl
theorem m_1028 : Cond.code yX9_text cX9_text 3 (some .int) ∈ lwc := nv_5 (List.mem_of_getElem? (i := 205) rfl) rfl
theorem m_1029 : Cond.methodLink RL 72 yX8_fault ∈ lwc := nv_3 (List.mem_of_getElem? (i := 206) rfl) rfl
theorem m_1030 : Cond.instanceMethod yX8_fault ∈ lwc := nv_3 (List.mem_of_getElem? (i := 207) rfl) rfl
theorem m_1031 : Cond.selects RX8 yX8_fault yX8_fault ∈ lwc := nv_3 (List.mem_of_getElem? (i := 208) rfl) rfl
theorem m_1032 : Cond.code yX8_fault cX8_fault 2 (some .int) ∈ lwc := nv_3 (List.mem_of_getElem? (i := 209) rfl) rfl
theorem m_1033 : Cond.methodLink RL 75 yX9_fault ∈ lwc := nv_6 (List.mem_of_getElem? (i := 86) rfl) rfl
theorem m_1034 : Cond.instanceMethod yX9_fault ∈ lwc := nv_6 (List.mem_of_getElem? (i := 87) rfl) rfl
theorem m_1035 : Cond.selects RX9 yX9_fault yX9_fault ∈ lwc := nv_6 (List.mem_of_getElem? (i := 88) rfl) rfl
theorem m_1036 : Cond.code yX9_fault cX9_fault 2 (some .int) ∈ lwc := nv_6 (List.mem_of_getElem? (i := 89) rfl) rfl
theorem m_1037 : Cond.methodLink RL 76 yX8_by ∈ lwc := nv_3 (List.mem_of_getElem? (i := 210) rfl) rfl
theorem m_1038 : Cond.instanceMethod yX8_by ∈ lwc := nv_3 (List.mem_of_getElem? (i := 211) rfl) rfl
theorem m_1039 : Cond.selects RX8 yX8_by yX8_by ∈ lwc := nv_3 (List.mem_of_getElem? (i := 212) rfl) rfl
theorem m_1040 : Cond.code yX8_by cX8_by 2 (some .boolean) ∈ lwc := nv_3 (List.mem_of_getElem? (i := 213) rfl) rfl
theorem m_1041 : Cond.methodLink RL 79 yX9_by ∈ lwc := nv_6 (List.mem_of_getElem? (i := 90) rfl) rfl
theorem m_1042 : Cond.instanceMethod yX9_by ∈ lwc := nv_6 (List.mem_of_getElem? (i := 91) rfl) rfl
theorem m_1043 : Cond.selects RX9 yX9_by yX9_by ∈ lwc := nv_6 (List.mem_of_getElem? (i := 92) rfl) rfl
theorem m_1044 : Cond.code yX9_by cX9_by 2 (some .boolean) ∈ lwc := nv_6 (List.mem_of_getElem? (i := 93) rfl) rfl
theorem m_1045 : Cond.methodLink RL 80 yX8_played ∈ lwc := nv_3 (List.mem_of_getElem? (i := 214) rfl) rfl
theorem m_1046 : Cond.instanceMethod yX8_played ∈ lwc := nv_3 (List.mem_of_getElem? (i := 215) rfl) rfl
theorem m_1047 : Cond.selects RX8 yX8_played yX8_played ∈ lwc := nv_3 (List.mem_of_getElem? (i := 216) rfl) rfl
theorem m_1048 : Cond.code yX8_played cX8_played 7 (some .int) ∈ lwc := nv_3 (List.mem_of_getElem? (i := 217) rfl) rfl
theorem m_1049 : Cond.methodLink RL 83 yX9_played ∈ lwc := nv_6 (List.mem_of_getElem? (i := 126) rfl) rfl
theorem m_1050 : Cond.instanceMethod yX9_played ∈ lwc := nv_6 (List.mem_of_getElem? (i := 127) rfl) rfl
theorem m_1051 : Cond.selects RX9 yX9_played yX9_played ∈ lwc := nv_6 (List.mem_of_getElem? (i := 128) rfl) rfl
theorem m_1052 : Cond.code yX9_played cX9_played 5 (some .int) ∈ lwc := nv_6 (List.mem_of_getElem? (i := 129) rfl) rfl
theorem m_1053 : Cond.methodLink RL 84 yX8_undo ∈ lwc := nv_3 (List.mem_of_getElem? (i := 226) rfl) rfl
theorem m_1054 : Cond.instanceMethod yX8_undo ∈ lwc := nv_3 (List.mem_of_getElem? (i := 227) rfl) rfl
theorem m_1055 : Cond.selects RX8 yX8_undo yX8_undo ∈ lwc := nv_3 (List.mem_of_getElem? (i := 228) rfl) rfl
theorem m_1056 : Cond.code yX8_undo cX8_undo 1 (some .int) ∈ lwc := nv_3 (List.mem_of_getElem? (i := 229) rfl) rfl
theorem m_1057 : Cond.methodLink RL 87 yX9_undo ∈ lwc := nv_5 (List.mem_of_getElem? (i := 112) rfl) rfl
theorem m_1058 : Cond.instanceMethod yX9_undo ∈ lwc := nv_5 (List.mem_of_getElem? (i := 113) rfl) rfl
theorem m_1059 : Cond.selects RX9 yX9_undo yX9_undo ∈ lwc := nv_5 (List.mem_of_getElem? (i := 114) rfl) rfl
theorem m_1060 : Cond.code yX9_undo cX9_undo 2 (some .int) ∈ lwc := nv_5 (List.mem_of_getElem? (i := 115) rfl) rfl
theorem m_1061 : Cond.methodLink RL 88 yX8_of ∈ lwc := nv_3 (List.mem_of_getElem? (i := 236) rfl) rfl
theorem m_1062 : Cond.instanceMethod yX8_of ∈ lwc := nv_3 (List.mem_of_getElem? (i := 237) rfl) rfl
theorem m_1063 : Cond.selects RX8 yX8_of yX8_of ∈ lwc := nv_3 (List.mem_of_getElem? (i := 238) rfl) rfl
theorem m_1064 : Cond.code yX8_of cX8_of 3 (some .int) ∈ lwc := nv_3 (List.mem_of_getElem? (i := 239) rfl) rfl
theorem m_1065 : Cond.methodLink RL 91 yX9_of ∈ lwc := nv_6 (List.mem_of_getElem? (i := 134) rfl) rfl
theorem m_1066 : Cond.instanceMethod yX9_of ∈ lwc := nv_6 (List.mem_of_getElem? (i := 135) rfl) rfl
theorem m_1067 : Cond.selects RX9 yX9_of yX9_of ∈ lwc := nv_6 (List.mem_of_getElem? (i := 136) rfl) rfl
theorem m_1068 : Cond.code yX9_of cX9_of 3 (some .int) ∈ lwc := nv_6 (List.mem_of_getElem? (i := 137) rfl) rfl
theorem m_1069 : Cond.methodLink RL 92 yX8_ink ∈ lwc := nv_4 (List.mem_of_getElem? (i := 5) rfl) rfl
theorem m_1070 : Cond.instanceMethod yX8_ink ∈ lwc := nv_4 (List.mem_of_getElem? (i := 6) rfl) rfl
theorem m_1071 : Cond.selects RX8 yX8_ink yX8_ink ∈ lwc := nv_4 (List.mem_of_getElem? (i := 7) rfl) rfl
theorem m_1072 : Cond.code yX8_ink cX8_ink 4 (some .int) ∈ lwc := nv_4 (List.mem_of_getElem? (i := 8) rfl) rfl
theorem m_1073 : Cond.methodLink RL 95 yX9_ink ∈ lwc := nv_6 (List.mem_of_getElem? (i := 94) rfl) rfl
theorem m_1074 : Cond.instanceMethod yX9_ink ∈ lwc := nv_6 (List.mem_of_getElem? (i := 95) rfl) rfl
theorem m_1075 : Cond.selects RX9 yX9_ink yX9_ink ∈ lwc := nv_6 (List.mem_of_getElem? (i := 96) rfl) rfl
theorem m_1076 : Cond.code yX9_ink cX9_ink 4 (some .int) ∈ lwc := nv_6 (List.mem_of_getElem? (i := 97) rfl) rfl
theorem m_1077 : Cond.methodLink RL 96 yX8_known ∈ lwc := nv_4 (List.mem_of_getElem? (i := 9) rfl) rfl
theorem m_1078 : Cond.instanceMethod yX8_known ∈ lwc := nv_4 (List.mem_of_getElem? (i := 10) rfl) rfl
theorem m_1079 : Cond.selects RX8 yX8_known yX8_known ∈ lwc := nv_4 (List.mem_of_getElem? (i := 11) rfl) rfl
theorem m_1080 : Cond.code yX8_known cX8_known 5 (some .int) ∈ lwc := nv_4 (List.mem_of_getElem? (i := 12) rfl) rfl
theorem m_1081 : Cond.methodLink RL 99 yX9_known ∈ lwc := nv_6 (List.mem_of_getElem? (i := 146) rfl) rfl
theorem m_1082 : Cond.instanceMethod yX9_known ∈ lwc := nv_6 (List.mem_of_getElem? (i := 147) rfl) rfl
theorem m_1083 : Cond.selects RX9 yX9_known yX9_known ∈ lwc := nv_6 (List.mem_of_getElem? (i := 148) rfl) rfl
theorem m_1084 : Cond.code yX9_known cX9_known 3 (some .int) ∈ lwc := nv_6 (List.mem_of_getElem? (i := 149) rfl) rfl
theorem m_1085 : Cond.methodLink RL 100 yX8_led ∈ lwc := nv_4 (List.mem_of_getElem? (i := 24) rfl) rfl
theorem m_1086 : Cond.methodLink RL 104 yX9_led ∈ lwc := nv_6 (List.mem_of_getElem? (i := 164) rfl) rfl
theorem m_1087 : Cond.methodLink RL 105 yX8_answer ∈ lwc := nv_4 (List.mem_of_getElem? (i := 28) rfl) rfl
theorem m_1088 : Cond.instanceMethod yX8_answer ∈ lwc := nv_4 (List.mem_of_getElem? (i := 29) rfl) rfl
theorem m_1089 : Cond.selects RX8 yX8_answer yX8_answer ∈ lwc := nv_4 (List.mem_of_getElem? (i := 30) rfl) rfl
theorem m_1090 : Cond.code yX8_answer cX8_answer 3 (some .int) ∈ lwc := nv_4 (List.mem_of_getElem? (i := 31) rfl) rfl
theorem m_1091 : Cond.methodLink RL 108 yX9_answer ∈ lwc := nv_6 (List.mem_of_getElem? (i := 168) rfl) rfl
theorem m_1092 : Cond.instanceMethod yX9_answer ∈ lwc := nv_6 (List.mem_of_getElem? (i := 169) rfl) rfl
theorem m_1093 : Cond.selects RX9 yX9_answer yX9_answer ∈ lwc := nv_6 (List.mem_of_getElem? (i := 170) rfl) rfl
theorem m_1094 : Cond.code yX9_answer cX9_answer 3 (some .int) ∈ lwc := nv_6 (List.mem_of_getElem? (i := 171) rfl) rfl
theorem m_1095 : Cond.methodLink RL 109 yX8_plucks ∈ lwc := nv_4 (List.mem_of_getElem? (i := 33) rfl) rfl
theorem m_1096 : Cond.instanceMethod yX8_plucks ∈ lwc := nv_4 (List.mem_of_getElem? (i := 34) rfl) rfl
theorem m_1097 : Cond.selects RX8 yX8_plucks yX8_plucks ∈ lwc := nv_4 (List.mem_of_getElem? (i := 35) rfl) rfl
theorem m_1098 : Cond.code yX8_plucks cX8_plucks 4 (some .int) ∈ lwc := nv_4 (List.mem_of_getElem? (i := 36) rfl) rfl
theorem m_1099 : Cond.methodLink RL 112 yX9_plucks ∈ lwc := nv_6 (List.mem_of_getElem? (i := 173) rfl) rfl
theorem m_1100 : Cond.instanceMethod yX9_plucks ∈ lwc := nv_6 (List.mem_of_getElem? (i := 174) rfl) rfl
theorem m_1101 : Cond.selects RX9 yX9_plucks yX9_plucks ∈ lwc := nv_6 (List.mem_of_getElem? (i := 175) rfl) rfl
theorem m_1102 : Cond.code yX9_plucks cX9_plucks 3 (some .int) ∈ lwc := nv_6 (List.mem_of_getElem? (i := 176) rfl) rfl
theorem m_1103 : Cond.methodLink RL 113 yX8_odds ∈ lwc := nv_4 (List.mem_of_getElem? (i := 41) rfl) rfl
theorem m_1104 : Cond.instanceMethod yX8_odds ∈ lwc := nv_4 (List.mem_of_getElem? (i := 42) rfl) rfl
theorem m_1105 : Cond.selects RX8 yX8_odds yX8_odds ∈ lwc := nv_4 (List.mem_of_getElem? (i := 43) rfl) rfl
theorem m_1106 : Cond.code yX8_odds cX8_odds 8 (some .long) ∈ lwc := nv_4 (List.mem_of_getElem? (i := 44) rfl) rfl
theorem m_1107 : Cond.methodLink RL 117 yX9_odds ∈ lwc := nv_6 (List.mem_of_getElem? (i := 177) rfl) rfl
theorem m_1108 : Cond.instanceMethod yX9_odds ∈ lwc := nv_6 (List.mem_of_getElem? (i := 178) rfl) rfl
theorem m_1109 : Cond.selects RX9 yX9_odds yX9_odds ∈ lwc := nv_6 (List.mem_of_getElem? (i := 179) rfl) rfl
theorem m_1110 : Cond.code yX9_odds cX9_odds 15 (some .long) ∈ lwc := nv_6 (List.mem_of_getElem? (i := 180) rfl) rfl
theorem m_1111 : Cond.methodLink RL 118 yX8_plan ∈ lwc := nv_4 (List.mem_of_getElem? (i := 68) rfl) rfl
theorem m_1112 : Cond.instanceMethod yX8_plan ∈ lwc := nv_4 (List.mem_of_getElem? (i := 69) rfl) rfl
theorem m_1113 : Cond.selects RX8 yX8_plan yX8_plan ∈ lwc := nv_4 (List.mem_of_getElem? (i := 70) rfl) rfl
theorem m_1114 : Cond.code yX8_plan cX8_plan 5 (some .int) ∈ lwc := nv_4 (List.mem_of_getElem? (i := 71) rfl) rfl
theorem m_1115 : Cond.methodLink RL 121 yX9_plan ∈ lwc := nv_6 (List.mem_of_getElem? (i := 196) rfl) rfl
theorem m_1116 : Cond.instanceMethod yX9_plan ∈ lwc := nv_6 (List.mem_of_getElem? (i := 197) rfl) rfl
theorem m_1117 : Cond.selects RX9 yX9_plan yX9_plan ∈ lwc := nv_6 (List.mem_of_getElem? (i := 198) rfl) rfl
theorem m_1118 : Cond.code yX9_plan cX9_plan 7 (some .int) ∈ lwc := nv_6 (List.mem_of_getElem? (i := 199) rfl) rfl
theorem m_1119 : Cond.methodLink RL 122 yX8_holds ∈ lwc := nv_4 (List.mem_of_getElem? (i := 132) rfl) rfl
theorem m_1120 : Cond.instanceMethod yX8_holds ∈ lwc := nv_4 (List.mem_of_getElem? (i := 133) rfl) rfl
theorem m_1121 : Cond.selects RX8 yX8_holds yX8_holds ∈ lwc := nv_4 (List.mem_of_getElem? (i := 134) rfl) rfl
theorem m_1122 : Cond.code yX8_holds cX8_holds 2 (some .int) ∈ lwc := nv_4 (List.mem_of_getElem? (i := 135) rfl) rfl
theorem m_1123 : Cond.methodLink RL 125 yX9_holds ∈ lwc := nv_6 (List.mem_of_getElem? (i := 216) rfl) rfl
theorem m_1124 : Cond.instanceMethod yX9_holds ∈ lwc := nv_6 (List.mem_of_getElem? (i := 217) rfl) rfl
theorem m_1125 : Cond.selects RX9 yX9_holds yX9_holds ∈ lwc := nv_6 (List.mem_of_getElem? (i := 218) rfl) rfl
theorem m_1126 : Cond.code yX9_holds cX9_holds 3 (some .int) ∈ lwc := nv_6 (List.mem_of_getElem? (i := 219) rfl) rfl
theorem m_1127 : Cond.methodLink RL 126 yX8_image ∈ lwc := nv_4 (List.mem_of_getElem? (i := 138) rfl) rfl
theorem m_1128 : Cond.instanceMethod yX8_image ∈ lwc := nv_4 (List.mem_of_getElem? (i := 139) rfl) rfl
theorem m_1129 : Cond.selects RX8 yX8_image yX8_image ∈ lwc := nv_4 (List.mem_of_getElem? (i := 140) rfl) rfl
theorem m_1130 : Cond.code yX8_image cX8_image 1 (some .int) ∈ lwc := nv_4 (List.mem_of_getElem? (i := 141) rfl) rfl
theorem m_1131 : Cond.methodLink RL 129 yX9_image ∈ lwc := nv_6 (List.mem_of_getElem? (i := 220) rfl) rfl
theorem m_1132 : Cond.instanceMethod yX9_image ∈ lwc := nv_6 (List.mem_of_getElem? (i := 221) rfl) rfl
theorem m_1133 : Cond.selects RX9 yX9_image yX9_image ∈ lwc := nv_6 (List.mem_of_getElem? (i := 222) rfl) rfl
theorem m_1134 : Cond.code yX9_image cX9_image 1 (some .int) ∈ lwc := nv_6 (List.mem_of_getElem? (i := 223) rfl) rfl
theorem m_1135 : Cond.methodLink RL 130 yX8_back ∈ lwc := nv_4 (List.mem_of_getElem? (i := 146) rfl) rfl
theorem m_1136 : Cond.instanceMethod yX8_back ∈ lwc := nv_4 (List.mem_of_getElem? (i := 147) rfl) rfl
theorem m_1137 : Cond.selects RX8 yX8_back yX8_back ∈ lwc := nv_4 (List.mem_of_getElem? (i := 148) rfl) rfl
theorem m_1138 : Cond.code yX8_back cX8_back 1 (some .int) ∈ lwc := nv_4 (List.mem_of_getElem? (i := 149) rfl) rfl
theorem m_1139 : Cond.methodLink RL 133 yX9_back ∈ lwc := nv_6 (List.mem_of_getElem? (i := 224) rfl) rfl
theorem m_1140 : Cond.instanceMethod yX9_back ∈ lwc := nv_6 (List.mem_of_getElem? (i := 225) rfl) rfl
theorem m_1141 : Cond.selects RX9 yX9_back yX9_back ∈ lwc := nv_6 (List.mem_of_getElem? (i := 226) rfl) rfl
theorem m_1142 : Cond.code yX9_back cX9_back 1 (some .int) ∈ lwc := nv_6 (List.mem_of_getElem? (i := 227) rfl) rfl
theorem m_1143 : Cond.methodLink RL 134 yX8_about ∈ lwc := nv_4 (List.mem_of_getElem? (i := 150) rfl) rfl
theorem m_1144 : Cond.instanceMethod yX8_about ∈ lwc := nv_4 (List.mem_of_getElem? (i := 151) rfl) rfl
theorem m_1145 : Cond.selects RX8 yX8_about yX8_about ∈ lwc := nv_4 (List.mem_of_getElem? (i := 152) rfl) rfl
theorem m_1146 : Cond.code yX8_about cX8_about 2 (some .int) ∈ lwc := nv_4 (List.mem_of_getElem? (i := 153) rfl) rfl
theorem m_1147 : Cond.methodLink RL 137 yX9_about ∈ lwc := nv_6 (List.mem_of_getElem? (i := 228) rfl) rfl
theorem m_1148 : Cond.instanceMethod yX9_about ∈ lwc := nv_6 (List.mem_of_getElem? (i := 229) rfl) rfl
theorem m_1149 : Cond.selects RX9 yX9_about yX9_about ∈ lwc := nv_6 (List.mem_of_getElem? (i := 230) rfl) rfl
theorem m_1150 : Cond.code yX9_about cX9_about 3 (some .int) ∈ lwc := nv_6 (List.mem_of_getElem? (i := 231) rfl) rfl
/-! two worlds side by side: a call over the first leaves the second as it was -/
section G2
variable {p : Program} {l : Launch} {e : Env} {R : Room} {s : State} {m : MethodId} {args : Array Value} {below : List Frame} {meth : Method} {c : Code} {H : Heap} {locs : List Loc} {cells slots : Nat} {Q : State → Prop} {pc : Nat} {ls : Array Slot} {rest st0 : List Value} {G : va_G} {wa wb : va_W} {A : Nat → Prop} {H0 : Heap}
abbrev gApart (wa wb : va_W) : Prop := ∀ (i j : Nat) (p q : Nat × va_E), wa[i]? = some p → wb[j]? = some q → p.1 ≠ q.1
theorem gApart.swap {wa wb : va_W} (h : gApart wa wb) : gApart wb wa := fun i j p q hi hj e => h j i q p hj hi e.symm
theorem gx2_calli {S : Type} {post : Int32 → S → Prop} {w1 : S → va_W} {a : Array Value} (run : va_Run p l e R s m args below meth c H locs cells slots 0 0 (F0 m pc ls st0) rest (va_Qi post (gB G w1 (va_A wa H.size)) (va_A wa H.size) a) (va_A wa H.size)) (hPa : va_P G vwCl wa H) (hDa : va_D A wa) (hPb : va_P G vwCl wb H) (hab : gApart wa wb) (hS : va_S A H0 H locs) (hA : ∀ q, H0.size ≤ q → A q)
    (kk : ∀ (r : Int32) (u : S) (H1 : Heap) (locs1 : List Loc), post r u → va_P G vwCl (w1 u) H1 → va_D A (w1 u) → va_P G vwCl wb H1 → gApart (w1 u) wb → va_S A H0 H1 locs1 → W p l e R s m args below meth c H1 locs1 cells slots Q (F0 m (pc + 3) ls (.int r :: rest))) : W p l e R s m args below meth c H locs cells slots Q (F0 m pc ls st0) := by
  have hF := gx_free hDa hS hA
  refine va_calli run hS (fun q _ h => hF q h) hF (fun r u t H1 locs1 ht hvm hw hB hz hk hS1 => ?_)
  obtain ⟨hP1, hD1⟩ := hB
  rw [ht] at hP1
  have hne : ∀ (k : Nat) (x : Nat × va_E), wb[k]? = some x → ¬ va_A wa H.size x.1 := fun k x hx h => h.elim (fun ⟨i, e, hi⟩ => hab i k _ _ hi hx rfl) (fun h => absurd ((hPb k x hx).lt) (Nat.not_lt.mpr h))
  exact kk r u H1 locs1 hw hP1 (hD1.weaken (fun _ _ _ h => hF _ h)) (hPb.kept (fun k x hx => hk x.1 ((hPb k x hx).lt) (hne k x hx))) (fun i j p q hi hj e => hne j q hj (e ▸ hD1.2 i p hi)) hS1
theorem gx2_calll {S : Type} {post : Int64 → S → Prop} {w1 : S → va_W} {a : Array Value} (run : va_Run p l e R s m args below meth c H locs cells slots 0 0 (F0 m pc ls st0) rest (va_Ql post (gB G w1 (va_A wa H.size)) (va_A wa H.size) a) (va_A wa H.size)) (hPa : va_P G vwCl wa H) (hDa : va_D A wa) (hPb : va_P G vwCl wb H) (hab : gApart wa wb) (hS : va_S A H0 H locs) (hA : ∀ q, H0.size ≤ q → A q)
    (kk : ∀ (r : Int64) (u : S) (H1 : Heap) (locs1 : List Loc), post r u → va_P G vwCl (w1 u) H1 → va_D A (w1 u) → va_P G vwCl wb H1 → gApart (w1 u) wb → va_S A H0 H1 locs1 → W p l e R s m args below meth c H1 locs1 cells slots Q (F0 m (pc + 3) ls (.long r :: rest))) : W p l e R s m args below meth c H locs cells slots Q (F0 m pc ls st0) := by
  have hF := gx_free hDa hS hA
  refine va_calll run hS (fun q _ h => hF q h) hF (fun r u t H1 locs1 ht hvm hw hB hz hk hS1 => ?_)
  obtain ⟨hP1, hD1⟩ := hB
  rw [ht] at hP1
  have hne : ∀ (k : Nat) (x : Nat × va_E), wb[k]? = some x → ¬ va_A wa H.size x.1 := fun k x hx h => h.elim (fun ⟨i, e, hi⟩ => hab i k _ _ hi hx rfl) (fun h => absurd ((hPb k x hx).lt) (Nat.not_lt.mpr h))
  exact kk r u H1 locs1 hw hP1 (hD1.weaken (fun _ _ _ h => hF _ h)) (hPb.kept (fun k x hx => hk x.1 ((hPb k x hx).lt) (hne k x hx))) (fun i j p q hi hj e => hne j q hj (e ▸ hD1.2 i p hi)) hS1
theorem gx2_callv {S : Type} {post : S → Prop} {w1 : S → va_W} {a : Array Value} (run : va_Run p l e R s m args below meth c H locs cells slots 0 0 (F0 m pc ls st0) rest (va_Qv post (gB G w1 (va_A wa H.size)) (va_A wa H.size) a) (va_A wa H.size)) (hPa : va_P G vwCl wa H) (hDa : va_D A wa) (hPb : va_P G vwCl wb H) (hab : gApart wa wb) (hS : va_S A H0 H locs) (hA : ∀ q, H0.size ≤ q → A q)
    (kk : ∀ (u : S) (H1 : Heap) (locs1 : List Loc), post u → va_P G vwCl (w1 u) H1 → va_D A (w1 u) → va_P G vwCl wb H1 → gApart (w1 u) wb → va_S A H0 H1 locs1 → W p l e R s m args below meth c H1 locs1 cells slots Q (F0 m (pc + 3) ls (rest))) : W p l e R s m args below meth c H locs cells slots Q (F0 m pc ls st0) := by
  have hF := gx_free hDa hS hA
  refine va_callv run hS (fun q _ h => hF q h) hF (fun u t H1 locs1 ht hvm hw hB hz hk hS1 => ?_)
  obtain ⟨hP1, hD1⟩ := hB
  rw [ht] at hP1
  have hne : ∀ (k : Nat) (x : Nat × va_E), wb[k]? = some x → ¬ va_A wa H.size x.1 := fun k x hx h => h.elim (fun ⟨i, e, hi⟩ => hab i k _ _ hi hx rfl) (fun h => absurd ((hPb k x hx).lt) (Nat.not_lt.mpr h))
  exact kk u H1 locs1 hw hP1 (hD1.weaken (fun _ _ _ h => hF _ h)) (hPb.kept (fun k x hx => hk x.1 ((hPb k x hx).lt) (hne k x hx))) (fun i j p q hi hj e => hne j q hj (e ▸ hD1.2 i p hi)) hS1
end G2
