/-! the premises of the start, by their places -/
def NF : List Cond := flatC (Jvm.Cond.and given_1 narrow_1)
def wNm : List String := ["THE", "OF", "ON", "UPON", "OLD", "NEW", "UPPER", "LOWER", "GREAT", "LITTLE", "SAINT", "KING", "MILL", "OAK", "ELM", "BRIDGE", "MARKET", "CHURCH", "STATION", "STREET", "LANE", "ROAD", "ROW", "HILL"]
def wStr : List Nat := [100, 106, 109, 112, 115, 118, 121, 124, 127, 130, 133, 136, 139, 142, 145, 148, 151, 154, 157, 160, 163, 166, 169, 172]
def tW (j : Nat) : Term := .static "StreetIndex$Word" (wNm.getD j "") "LStreetIndex$Word;"
def tS (i : Nat) : Term := if i < 24 then .string "StreetIndex$Word" (wStr.getD i 0) else .string "StreetIndex" 242
def tALL : Term := .static "StreetIndex$Word" "ALL" "[LStreetIndex$Word;"
def tVal (i : Nat) : Term := .field (tS i) "java/lang/String" "value" "[B"
def ixA : List Nat := [11, 12, 13, 14, 15, 16, 17, 18, 19, 20, 21, 22, 23, 24, 25, 26, 27, 28, 29, 30, 31, 32, 33, 34]
def ixB : List Nat := [246, 249, 253, 258, 264, 271, 279, 288, 298, 309, 321, 334, 348, 363, 379, 396, 414, 433, 453, 474, 496, 519, 543, 568]
def ixC : List Nat := [248, 251, 255, 260, 266, 273, 281, 290, 300, 311, 323, 336, 350, 365, 381, 398, 416, 435, 455, 476, 498, 521, 545, 570]
def ixD : List Nat := [892, 899, 905, 911, 919, 926, 933, 942, 951, 960, 970, 979, 987, 995, 1002, 1009, 1019, 1029, 1039, 1050, 1060, 1068, 1076, 1083, 865]
def ixE : List Nat := [893, 900, 906, 912, 920, 927, 934, 943, 952, 961, 971, 980, 988, 996, 1003, 1010, 1020, 1030, 1040, 1051, 1061, 1069, 1077, 1084, 866]
def ixF : List Nat := [894, 901, 907, 913, 921, 928, 935, 944, 953, 962, 972, 981, 989, 997, 1004, 1011, 1021, 1031, 1041, 1052, 1062, 1070, 1078, 1085, 867]
def ixG : List Nat := [895, 902, 908, 914, 922, 929, 936, 945, 954, 963, 973, 982, 990, 998, 1005, 1012, 1022, 1032, 1042, 1053, 1063, 1071, 1079, 1086, 868]
def ixH : List (List Nat) := [[896, 897, 898], [903, 904], [909, 910], [915, 916, 917, 918], [923, 924, 925], [930, 931, 932], [937, 938, 939, 940, 941], [946, 947, 948, 949, 950], [955, 956, 957, 958, 959], [964, 965, 966, 967, 968, 969], [974, 975, 976, 977, 978], [983, 984, 985, 986], [991, 992, 993, 994], [999, 1000, 1001], [1006, 1007, 1008], [1013, 1014, 1015, 1016, 1017, 1018], [1023, 1024, 1025, 1026, 1027, 1028], [1033, 1034, 1035, 1036, 1037, 1038], [1043, 1044, 1045, 1046, 1047, 1048, 1049], [1054, 1055, 1056, 1057, 1058, 1059], [1064, 1065, 1066, 1067], [1072, 1073, 1074, 1075], [1080, 1081, 1082], [1087, 1088, 1089, 1090], [869, 870]]
def ixI : List Nat := [43, 44, 45, 46, 47, 48, 49, 50, 51, 52, 53, 54, 55, 56, 57, 58, 59, 60, 61, 62, 63, 64, 65, 66, 67, 68, 69, 70, 71, 72, 73, 74, 75, 76, 77, 78, 79, 80, 81, 82, 83, 84, 85, 86, 87, 88, 89, 90, 91, 92, 93, 94, 95, 96, 97, 98, 99, 100, 101, 102, 103, 104, 105, 106, 107, 108, 109, 110, 111, 112, 113, 114, 115, 116, 117, 118, 119, 120, 121, 122, 123, 124, 125, 126, 127, 128, 129, 130, 131, 132, 133, 134, 135, 136, 137, 138, 139, 140, 141, 142]
def ixJ : List Nat := [146, 147, 148, 149, 150, 151, 152, 153, 154, 155, 156, 157, 158, 159, 160, 161, 162, 163, 164, 165, 166, 167, 168, 169, 170, 171, 172, 173, 174, 175, 176, 177, 178, 179, 180, 181, 182, 183, 184, 185, 186, 187, 188, 189, 190, 191, 192, 193, 194, 195, 196, 197, 198, 199, 200, 201, 202, 203, 204, 205, 206, 207, 208, 209, 210, 211, 212, 213, 214, 215, 216, 217, 218, 219, 220, 221, 222, 223, 224, 225, 226, 227, 228, 229, 230, 231, 232, 233, 234, 235, 236, 237, 238, 239, 240, 241, 242, 243, 244, 245]
def ixK : List Nat := [618, 645, 661, 685, 746, 764, 814, 719, 703, 842, 871]
theorem nf_in {k : Nat} {c : Cond} (h : NF[k]? = some c) : c ∈ NF := List.mem_of_getElem? h
set_option maxRecDepth 100000 in
theorem nfA : ∀ j < 24, NF[ixA.getD j 0]? = some (.eq (.elem tALL (.int (Int32.ofNat j))) (tW j)) := by decide +kernel
set_option maxRecDepth 100000 in
theorem nfB : ∀ j < 24, NF[ixB.getD j 0]? = some (.exactly (tW j) "StreetIndex$Word") := by decide +kernel
set_option maxRecDepth 100000 in
theorem nfC : ∀ j < 24, NF[ixC.getD j 0]? = some (.eq (.field (tW j) "StreetIndex$Word" "letters" "Ljava/lang/String;") (tS j)) := by decide +kernel
set_option maxRecDepth 100000 in
theorem nfD : ∀ j < 25, NF[ixD.getD j 0]? = some (.exactly (tS j) "java/lang/String") := by decide +kernel
set_option maxRecDepth 100000 in
theorem nfE : ∀ j < 25, NF[ixE.getD j 0]? = some (.eq (.field (tS j) "java/lang/String" "coder" "B") (.int 0)) := by decide +kernel
set_option maxRecDepth 100000 in
theorem nfF : ∀ j < 25, NF[ixF.getD j 0]? = some (.arrayOf (tVal j) .byte) := by decide +kernel
set_option maxRecDepth 100000 in
theorem nfG : ∀ j < 25, NF[ixG.getD j 0]? = some (.eq (.length (tVal j)) (.int (Int32.ofNat (wLen.getD j 0)))) := by decide +kernel
set_option maxRecDepth 100000 in
theorem nfH : ∀ i < 25, ∀ j < wLen.getD i 0, NF[(ixH.getD i []).getD j 0]? = some (.eq (.elem (tVal i) (.int (Int32.ofNat j))) (.int ((wByt.getD i []).getD j 0))) := by decide +kernel
def tOnes : Term := .static "java/lang/Integer" "DigitOnes" "[B"
def tTens : Term := .static "java/lang/Integer" "DigitTens" "[B"
set_option maxRecDepth 100000 in
theorem nfI : ∀ j < 100, NF[ixI.getD j 0]? = some (.eq (.elem tOnes (.int (Int32.ofNat j))) (.int (nI (48 + j % 10)))) := by decide +kernel
set_option maxRecDepth 100000 in
theorem nfJ : ∀ j < 100, NF[ixJ.getD j 0]? = some (.eq (.elem tTens (.int (Int32.ofNat j))) (.int (nI (48 + j / 10)))) := by decide +kernel
set_option maxRecDepth 100000 in
theorem nfK : ∀ j < 11, NF[ixK.getD j 0]? = some (.exactly (.string RX4 ((thTx.getD j (0, "")).1)) "java/lang/String") := by decide +kernel
theorem wdiff : ∀ i < 25, ∀ j < 25, i ≠ j → wLen.getD i 0 = wLen.getD j 0 → ∃ k, k < wLen.getD i 0 ∧ (wByt.getD i []).getD k 0 ≠ (wByt.getD j []).getD k 0 := by decide +kernel
set_option maxRecDepth 100000 in
theorem nf_allx : Cond.exactly tALL "[LStreetIndex$Word;" ∈ NF := nf_in (k := 7) (by decide +kernel)
set_option maxRecDepth 100000 in
theorem nf_alla : Cond.arrayOf tALL (.object "StreetIndex$Word") ∈ NF := nf_in (k := 8) (by decide +kernel)
set_option maxRecDepth 100000 in
theorem nf_alll : Cond.eq (.length tALL) (.int 24) ∈ NF := nf_in (k := 9) (by decide +kernel)
set_option maxRecDepth 100000 in
theorem nf_ona : Cond.arrayOf tOnes .byte ∈ NF := nf_in (k := 41) (by decide +kernel)
set_option maxRecDepth 100000 in
theorem nf_onl : Cond.eq (.length tOnes) (.int 100) ∈ NF := nf_in (k := 42) (by decide +kernel)
set_option maxRecDepth 100000 in
theorem nf_tea : Cond.arrayOf tTens .byte ∈ NF := nf_in (k := 144) (by decide +kernel)
set_option maxRecDepth 100000 in
theorem nf_tel : Cond.eq (.length tTens) (.int 100) ∈ NF := nf_in (k := 145) (by decide +kernel)
set_option maxRecDepth 100000 in
theorem nf_us : Cond.isRef (.static Bundle.tN "UNASSIGNED_STACK" Bundle.steD) ∈ NF := nf_in (k := 4) (by decide +kernel)
set_option maxRecDepth 100000 in
theorem nf_ss : Cond.isRef (.static Bundle.tN "SUPPRESSED_SENTINEL" Bundle.listD) ∈ NF := nf_in (k := 5) (by decide +kernel)
set_option maxRecDepth 100000 in
theorem nf_fo : Cond.isRef (.static RJ3 "SIOOBE_FORMATTER" "Ljava/util/function/BiFunction;") ∈ NF := nf_in (k := 36) (by decide +kernel)
set_option maxRecDepth 100000 in
theorem nf_cs : Cond.eq (.static RJ0 "COMPACT_STRINGS" "Z") (.int 1) ∈ NF := nf_in (k := 35) (by decide +kernel)
