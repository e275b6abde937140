set_option maxRecDepth 20000 in
theorem lw_out {X : XT} {G : GT} {b Ls : Nat} {xs : Nat → Int32} (C : CX X G RL cL_law 4 13 486) (S : CS X G b Ls xs) {n i : Nat} {g : Mem} (hi : i + 6 ≤ Ls) (hL : Ls ≤ 3072) (hn : n ≤ 511) (hR : REL n g) (k : ∀ g', REL (n + 1) g' → J X G 4 g' 1533 [some (.ref b), some (.ref (xo G)), some (.ref (mo G)), some (.int (nI i))] []) : J X G 4 g 929 [some (.ref b), some (.ref (xo G)), some (.ref (mo G)), some (.int (nI i))] [] := by
  obtain ⟨hS, T, hT, hT1⟩ := hR.2.1
  have hH := hR.2.2.2.2.2.1
  have h31 : T ≤ 31000 := by omega
  refine j_al1 929 C dL_law_929 ?_
  refine j_al0 930 C dL_law_930 ?_
  refine j_il3 931 C dL_law_931 ?_
  refine j_iconst 932 C dL_law_932 ic_1 ?_
  refine j_iadd 933 C dL_law_933 ?_
  refine j_top (nI (i + 1)) (nI_add i 1) ?_
  refine jl_scr 934 S (by omega) (by omega) C dL_law_934 ?_
  refine j_al0 935 C dL_law_935 ?_
  refine j_il3 936 C dL_law_936 ?_
  refine j_iconst 937 C dL_law_937 ic_2 ?_
  refine j_iadd 938 C dL_law_938 ?_
  refine j_top (nI (i + 2)) (nI_add i 2) ?_
  refine jl_scr 939 S (by omega) (by omega) C dL_law_939 ?_
  refine j_vi 940 C dL_law_940 mv_X4_out lk_L_101 (c_X4_out hS hT1 h31) rc_x rfl rfl ⟨(Nat.le_of_ble_eq_true rfl), (Nat.le_of_ble_eq_true rfl)⟩ (Nat.le_of_ble_eq_true rfl) (fun r1 g1 hp1 => ?_)
  have hM : MP g1 g := MP_X hp1
  have e12 : g1 12 = g 0 := (hM.1 12 (by decide)).trans hR.1
  refine j_al2 943 C dL_law_943 ?_
  refine j_al0 944 C dL_law_944 ?_
  refine j_il3 945 C dL_law_945 ?_
  refine j_iconst 946 C dL_law_946 ic_1 ?_
  refine j_iadd 947 C dL_law_947 ?_
  refine j_top (nI (i + 1)) (nI_add i 1) ?_
  refine jl_scr 948 S (by omega) (by omega) C dL_law_948 ?_
  refine j_al0 949 C dL_law_949 ?_
  refine j_il3 950 C dL_law_950 ?_
  refine j_iconst 951 C dL_law_951 ic_2 ?_
  refine j_iadd 952 C dL_law_952 ?_
  refine j_top (nI (i + 2)) (nI_add i 2) ?_
  refine jl_scr 953 S (by omega) (by omega) C dL_law_953 ?_
  refine j_vi 954 C dL_law_954 mv_X5_out lk_L_104 (c_X5_out (by rw [e12]; exact hS) (T := T) (by rw [e12]; exact hT1) h31) rc_m rfl rfl ⟨(Nat.le_of_ble_eq_true rfl), (Nat.le_of_ble_eq_true rfl)⟩ (Nat.le_of_ble_eq_true rfl) (fun r2 g2 hp2 => ?_)
  rw [e12] at hp2
  obtain ⟨e, hR2⟩ := pr_row hR (gs_out hR.2.1) hp1 hp2
  exact j_iceq 957 1533 C dL_law_957 (by decide) (fun _ => k g2 hR2) (fun q => absurd e q)
set_option maxRecDepth 20000 in
theorem lw_fits {X : XT} {G : GT} {b Ls : Nat} {xs : Nat → Int32} (C : CX X G RL cL_law 4 13 486) (S : CS X G b Ls xs) {n i : Nat} {g : Mem} (hi : i + 6 ≤ Ls) (hL : Ls ≤ 3072) (hn : n ≤ 511) (hR : REL n g) (k : ∀ g', REL (n + 1) g' → J X G 4 g' 1533 [some (.ref b), some (.ref (xo G)), some (.ref (mo G)), some (.int (nI i))] []) : J X G 4 g 962 [some (.ref b), some (.ref (xo G)), some (.ref (mo G)), some (.int (nI i))] [] := by
  obtain ⟨hS, T, hT, hT1⟩ := hR.2.1
  have hH := hR.2.2.2.2.2.1
  have h31 : T ≤ 31000 := by omega
  refine j_al1 962 C dL_law_962 ?_
  refine j_al0 963 C dL_law_963 ?_
  refine j_il3 964 C dL_law_964 ?_
  refine j_iconst 965 C dL_law_965 ic_1 ?_
  refine j_iadd 966 C dL_law_966 ?_
  refine j_top (nI (i + 1)) (nI_add i 1) ?_
  refine jl_scr 967 S (by omega) (by omega) C dL_law_967 ?_
  refine j_al0 968 C dL_law_968 ?_
  refine j_il3 969 C dL_law_969 ?_
  refine j_iconst 970 C dL_law_970 ic_2 ?_
  refine j_iadd 971 C dL_law_971 ?_
  refine j_top (nI (i + 2)) (nI_add i 2) ?_
  refine jl_scr 972 S (by omega) (by omega) C dL_law_972 ?_
  refine j_al0 973 C dL_law_973 ?_
  refine j_il3 974 C dL_law_974 ?_
  refine j_iconst 975 C dL_law_975 ic_3 ?_
  refine j_iadd 976 C dL_law_976 ?_
  refine j_top (nI (i + 3)) (nI_add i 3) ?_
  refine jl_scr 977 S (by omega) (by omega) C dL_law_977 ?_
  refine j_al0 978 C dL_law_978 ?_
  refine j_il3 979 C dL_law_979 ?_
  refine j_iconst 980 C dL_law_980 ic_4 ?_
  refine j_iadd 981 C dL_law_981 ?_
  refine j_top (nI (i + 4)) (nI_add i 4) ?_
  refine jl_scr 982 S (by omega) (by omega) C dL_law_982 ?_
  refine j_vi 983 C dL_law_983 mv_X4_fits lk_L_105 (c_X4_fits hS hT1 h31 hH) rc_x rfl rfl ⟨(Nat.le_of_ble_eq_true rfl), (Nat.le_of_ble_eq_true rfl)⟩ (Nat.le_of_ble_eq_true rfl) (fun r1 g1 hp1 => ?_)
  have hM : MP g1 g := MP_G gx_fits hp1
  have e12 : g1 12 = g 0 := (hM.1 12 (by decide)).trans hR.1
  refine j_al2 986 C dL_law_986 ?_
  refine j_al0 987 C dL_law_987 ?_
  refine j_il3 988 C dL_law_988 ?_
  refine j_iconst 989 C dL_law_989 ic_1 ?_
  refine j_iadd 990 C dL_law_990 ?_
  refine j_top (nI (i + 1)) (nI_add i 1) ?_
  refine jl_scr 991 S (by omega) (by omega) C dL_law_991 ?_
  refine j_al0 992 C dL_law_992 ?_
  refine j_il3 993 C dL_law_993 ?_
  refine j_iconst 994 C dL_law_994 ic_2 ?_
  refine j_iadd 995 C dL_law_995 ?_
  refine j_top (nI (i + 2)) (nI_add i 2) ?_
  refine jl_scr 996 S (by omega) (by omega) C dL_law_996 ?_
  refine j_al0 997 C dL_law_997 ?_
  refine j_il3 998 C dL_law_998 ?_
  refine j_iconst 999 C dL_law_999 ic_3 ?_
  refine j_iadd 1000 C dL_law_1000 ?_
  refine j_top (nI (i + 3)) (nI_add i 3) ?_
  refine jl_scr 1001 S (by omega) (by omega) C dL_law_1001 ?_
  refine j_al0 1002 C dL_law_1002 ?_
  refine j_il3 1003 C dL_law_1003 ?_
  refine j_iconst 1004 C dL_law_1004 ic_4 ?_
  refine j_iadd 1005 C dL_law_1005 ?_
  refine j_top (nI (i + 4)) (nI_add i 4) ?_
  refine jl_scr 1006 S (by omega) (by omega) C dL_law_1006 ?_
  refine j_vi 1007 C dL_law_1007 mv_X5_fits lk_L_109 (c_X5_fits (by rw [e12]; exact hS) (HZ_MP hM hR.2.2.2.2.2)) rc_m rfl rfl ⟨(Nat.le_of_ble_eq_true rfl), (Nat.le_of_ble_eq_true rfl)⟩ (Nat.le_of_ble_eq_true rfl) (fun r2 g2 hp2 => ?_)
  obtain ⟨e, hR2⟩ := pr_fits hR hp1 hp2
  exact j_iceq 1010 1533 C dL_law_1010 (by decide) (fun _ => k g2 hR2) (fun q => absurd e q)
set_option maxRecDepth 20000 in
theorem lw_kinds {X : XT} {G : GT} {b Ls : Nat} {xs : Nat → Int32} (C : CX X G RL cL_law 4 13 486) (S : CS X G b Ls xs) {n i : Nat} {g : Mem} (hi : i + 6 ≤ Ls) (hL : Ls ≤ 3072) (hn : n ≤ 511) (hR : REL n g) (k : ∀ g', REL (n + 1) g' → J X G 4 g' 1533 [some (.ref b), some (.ref (xo G)), some (.ref (mo G)), some (.int (nI i))] []) : J X G 4 g 1015 [some (.ref b), some (.ref (xo G)), some (.ref (mo G)), some (.int (nI i))] [] := by
  obtain ⟨hS, T, hT, hT1⟩ := hR.2.1
  have hH := hR.2.2.2.2.2.1
  have h31 : T ≤ 31000 := by omega
  refine j_al1 1015 C dL_law_1015 ?_
  refine j_al0 1016 C dL_law_1016 ?_
  refine j_il3 1017 C dL_law_1017 ?_
  refine j_iconst 1018 C dL_law_1018 ic_1 ?_
  refine j_iadd 1019 C dL_law_1019 ?_
  refine j_top (nI (i + 1)) (nI_add i 1) ?_
  refine jl_scr 1020 S (by omega) (by omega) C dL_law_1020 ?_
  refine j_al0 1021 C dL_law_1021 ?_
  refine j_il3 1022 C dL_law_1022 ?_
  refine j_iconst 1023 C dL_law_1023 ic_2 ?_
  refine j_iadd 1024 C dL_law_1024 ?_
  refine j_top (nI (i + 2)) (nI_add i 2) ?_
  refine jl_scr 1025 S (by omega) (by omega) C dL_law_1025 ?_
  refine j_vi 1026 C dL_law_1026 mv_X4_kinds lk_L_110 (c_X4_kinds hS hT1 h31 hH) rc_x rfl rfl ⟨(Nat.le_of_ble_eq_true rfl), (Nat.le_of_ble_eq_true rfl)⟩ (Nat.le_of_ble_eq_true rfl) (fun r1 g1 hp1 => ?_)
  have hM : MP g1 g := MP_G gx_kinds hp1
  have e12 : g1 12 = g 0 := (hM.1 12 (by decide)).trans hR.1
  refine j_al2 1029 C dL_law_1029 ?_
  refine j_al0 1030 C dL_law_1030 ?_
  refine j_il3 1031 C dL_law_1031 ?_
  refine j_iconst 1032 C dL_law_1032 ic_1 ?_
  refine j_iadd 1033 C dL_law_1033 ?_
  refine j_top (nI (i + 1)) (nI_add i 1) ?_
  refine jl_scr 1034 S (by omega) (by omega) C dL_law_1034 ?_
  refine j_al0 1035 C dL_law_1035 ?_
  refine j_il3 1036 C dL_law_1036 ?_
  refine j_iconst 1037 C dL_law_1037 ic_2 ?_
  refine j_iadd 1038 C dL_law_1038 ?_
  refine j_top (nI (i + 2)) (nI_add i 2) ?_
  refine jl_scr 1039 S (by omega) (by omega) C dL_law_1039 ?_
  refine j_vi 1040 C dL_law_1040 mv_X5_kinds lk_L_113 (c_X5_kinds (by rw [e12]; exact hS) (HZ_MP hM hR.2.2.2.2.2)) rc_m rfl rfl ⟨(Nat.le_of_ble_eq_true rfl), (Nat.le_of_ble_eq_true rfl)⟩ (Nat.le_of_ble_eq_true rfl) (fun r2 g2 hp2 => ?_)
  obtain ⟨e, hR2⟩ := pr_kinds hR hp1 hp2
  exact j_iceq 1043 1533 C dL_law_1043 (by decide) (fun _ => k g2 hR2) (fun q => absurd e q)
set_option maxRecDepth 20000 in
theorem lw_lights {X : XT} {G : GT} {b Ls : Nat} {xs : Nat → Int32} (C : CX X G RL cL_law 4 13 486) (S : CS X G b Ls xs) {n i : Nat} {g : Mem} (hi : i + 6 ≤ Ls) (hL : Ls ≤ 3072) (hn : n ≤ 511) (hR : REL n g) (k : ∀ g', REL (n + 1) g' → J X G 4 g' 1533 [some (.ref b), some (.ref (xo G)), some (.ref (mo G)), some (.int (nI i))] []) : J X G 4 g 1048 [some (.ref b), some (.ref (xo G)), some (.ref (mo G)), some (.int (nI i))] [] := by
  obtain ⟨hS, T, hT, hT1⟩ := hR.2.1
  have hH := hR.2.2.2.2.2.1
  have h31 : T ≤ 31000 := by omega
  refine j_al1 1048 C dL_law_1048 ?_
  refine j_al0 1049 C dL_law_1049 ?_
  refine j_il3 1050 C dL_law_1050 ?_
  refine j_iconst 1051 C dL_law_1051 ic_1 ?_
  refine j_iadd 1052 C dL_law_1052 ?_
  refine j_top (nI (i + 1)) (nI_add i 1) ?_
  refine jl_scr 1053 S (by omega) (by omega) C dL_law_1053 ?_
  refine j_vi 1054 C dL_law_1054 mv_X4_lights lk_L_114 (c_X4_lights hS hT1 h31) rc_x rfl rfl ⟨(Nat.le_of_ble_eq_true rfl), (Nat.le_of_ble_eq_true rfl)⟩ (Nat.le_of_ble_eq_true rfl) (fun r1 g1 hp1 => ?_)
  have hM : MP g1 g := MP_X hp1
  have e12 : g1 12 = g 0 := (hM.1 12 (by decide)).trans hR.1
  refine j_al2 1057 C dL_law_1057 ?_
  refine j_al0 1058 C dL_law_1058 ?_
  refine j_il3 1059 C dL_law_1059 ?_
  refine j_iconst 1060 C dL_law_1060 ic_1 ?_
  refine j_iadd 1061 C dL_law_1061 ?_
  refine j_top (nI (i + 1)) (nI_add i 1) ?_
  refine jl_scr 1062 S (by omega) (by omega) C dL_law_1062 ?_
  refine j_vi 1063 C dL_law_1063 mv_X5_lights lk_L_117 (c_X5_lights (by rw [e12]; exact hS) (T := T) (by rw [e12]; exact hT1) h31) rc_m rfl rfl ⟨(Nat.le_of_ble_eq_true rfl), (Nat.le_of_ble_eq_true rfl)⟩ (Nat.le_of_ble_eq_true rfl) (fun r2 g2 hp2 => ?_)
  rw [e12] at hp2
  obtain ⟨e, hR2⟩ := pr_row hR (gs_lights hR.2.1) hp1 hp2
  exact j_iceq 1066 1533 C dL_law_1066 (by decide) (fun _ => k g2 hR2) (fun q => absurd e q)
set_option maxRecDepth 20000 in
theorem lw_odds {X : XT} {G : GT} {b Ls : Nat} {xs : Nat → Int32} (C : CX X G RL cL_law 4 13 486) (S : CS X G b Ls xs) {n i : Nat} {g : Mem} (hi : i + 6 ≤ Ls) (hL : Ls ≤ 3072) (hn : n ≤ 511) (hR : REL n g) (k : ∀ g', REL (n + 1) g' → J X G 4 g' 1533 [some (.ref b), some (.ref (xo G)), some (.ref (mo G)), some (.int (nI i))] []) : J X G 4 g 1071 [some (.ref b), some (.ref (xo G)), some (.ref (mo G)), some (.int (nI i))] [] := by
  obtain ⟨hS, T, hT, hT1⟩ := hR.2.1
  have hH := hR.2.2.2.2.2.1
  have h31 : T ≤ 31000 := by omega
  refine j_al1 1071 C dL_law_1071 ?_
  refine j_al0 1072 C dL_law_1072 ?_
  refine j_il3 1073 C dL_law_1073 ?_
  refine j_iconst 1074 C dL_law_1074 ic_1 ?_
  refine j_iadd 1075 C dL_law_1075 ?_
  refine j_top (nI (i + 1)) (nI_add i 1) ?_
  refine jl_scr 1076 S (by omega) (by omega) C dL_law_1076 ?_
  refine j_al0 1077 C dL_law_1077 ?_
  refine j_il3 1078 C dL_law_1078 ?_
  refine j_iconst 1079 C dL_law_1079 ic_2 ?_
  refine j_iadd 1080 C dL_law_1080 ?_
  refine j_top (nI (i + 2)) (nI_add i 2) ?_
  refine jl_scr 1081 S (by omega) (by omega) C dL_law_1081 ?_
  refine j_vl 1082 C dL_law_1082 mv_X4_odds lk_L_118 (c_X4_odds) rc_x rfl rfl ⟨(Nat.le_of_ble_eq_true rfl), (Nat.le_of_ble_eq_true rfl)⟩ (Nat.le_of_ble_eq_true rfl) (fun r1 g1 hp1 => ?_)
  have hM : MP g1 g := MP_L hp1
  have e12 : g1 12 = g 0 := (hM.1 12 (by decide)).trans hR.1
  refine j_al2 1085 C dL_law_1085 ?_
  refine j_al0 1086 C dL_law_1086 ?_
  refine j_il3 1087 C dL_law_1087 ?_
  refine j_iconst 1088 C dL_law_1088 ic_1 ?_
  refine j_iadd 1089 C dL_law_1089 ?_
  refine j_top (nI (i + 1)) (nI_add i 1) ?_
  refine jl_scr 1090 S (by omega) (by omega) C dL_law_1090 ?_
  refine j_al0 1091 C dL_law_1091 ?_
  refine j_il3 1092 C dL_law_1092 ?_
  refine j_iconst 1093 C dL_law_1093 ic_2 ?_
  refine j_iadd 1094 C dL_law_1094 ?_
  refine j_top (nI (i + 2)) (nI_add i 2) ?_
  refine jl_scr 1095 S (by omega) (by omega) C dL_law_1095 ?_
  refine j_vl 1096 C dL_law_1096 mv_X5_odds lk_L_122 (c_X5_odds (by rw [e12]; exact hS)) rc_m rfl rfl ⟨(Nat.le_of_ble_eq_true rfl), (Nat.le_of_ble_eq_true rfl)⟩ (Nat.le_of_ble_eq_true rfl) (fun r2 g2 hp2 => ?_)
  obtain ⟨e, hR2⟩ := pr_odds hR hp1 hp2
  refine j_lcmp 1099 C dL_law_1099 ?_
  exact j_ifeq 1100 1533 C dL_law_1100 (by decide) (fun _ => k g2 hR2) (fun q => absurd ((lg_cmp_eq r1 r2).mpr e) q)
set_option maxRecDepth 20000 in
theorem lw_seed {X : XT} {G : GT} {b Ls : Nat} {xs : Nat → Int32} (C : CX X G RL cL_law 4 13 486) (S : CS X G b Ls xs) {n i : Nat} {g : Mem} (hi : i + 6 ≤ Ls) (hL : Ls ≤ 3072) (hn : n ≤ 511) (hR : REL n g) (k : ∀ g', REL (n + 1) g' → J X G 4 g' 1533 [some (.ref b), some (.ref (xo G)), some (.ref (mo G)), some (.int (nI i))] []) : J X G 4 g 1105 [some (.ref b), some (.ref (xo G)), some (.ref (mo G)), some (.int (nI i))] [] := by
  obtain ⟨hS, T, hT, hT1⟩ := hR.2.1
  have hH := hR.2.2.2.2.2.1
  have h31 : T ≤ 31000 := by omega
  refine j_al1 1105 C dL_law_1105 ?_
  refine j_al0 1106 C dL_law_1106 ?_
  refine j_il3 1107 C dL_law_1107 ?_
  refine j_iconst 1108 C dL_law_1108 ic_1 ?_
  refine j_iadd 1109 C dL_law_1109 ?_
  refine j_top (nI (i + 1)) (nI_add i 1) ?_
  refine jl_scr 1110 S (by omega) (by omega) C dL_law_1110 ?_
  refine j_vi 1111 C dL_law_1111 mv_X4_seed lk_L_123 (c_X4_seed hS hT1 h31) rc_x rfl rfl ⟨(Nat.le_of_ble_eq_true rfl), (Nat.le_of_ble_eq_true rfl)⟩ (Nat.le_of_ble_eq_true rfl) (fun r1 g1 hp1 => ?_)
  have hM : MP g1 g := MP_X hp1
  have e12 : g1 12 = g 0 := (hM.1 12 (by decide)).trans hR.1
  refine j_al2 1114 C dL_law_1114 ?_
  refine j_al0 1115 C dL_law_1115 ?_
  refine j_il3 1116 C dL_law_1116 ?_
  refine j_iconst 1117 C dL_law_1117 ic_1 ?_
  refine j_iadd 1118 C dL_law_1118 ?_
  refine j_top (nI (i + 1)) (nI_add i 1) ?_
  refine jl_scr 1119 S (by omega) (by omega) C dL_law_1119 ?_
  refine j_vi 1120 C dL_law_1120 mv_X5_seed lk_L_126 (c_X5_seed (by rw [e12]; exact hS) (T := T) (by rw [e12]; exact hT1) h31) rc_m rfl rfl ⟨(Nat.le_of_ble_eq_true rfl), (Nat.le_of_ble_eq_true rfl)⟩ (Nat.le_of_ble_eq_true rfl) (fun r2 g2 hp2 => ?_)
  rw [e12] at hp2
  obtain ⟨e, hR2⟩ := pr_row hR (gs_seed hR.2.1) hp1 hp2
  exact j_iceq 1123 1533 C dL_law_1123 (by decide) (fun _ => k g2 hR2) (fun q => absurd e q)
set_option maxRecDepth 20000 in
theorem lw_feed {X : XT} {G : GT} {b Ls : Nat} {xs : Nat → Int32} (C : CX X G RL cL_law 4 13 486) (S : CS X G b Ls xs) {n i : Nat} {g : Mem} (hi : i + 6 ≤ Ls) (hL : Ls ≤ 3072) (hn : n ≤ 511) (hR : REL n g) (k : ∀ g', REL (n + 1) g' → J X G 4 g' 1533 [some (.ref b), some (.ref (xo G)), some (.ref (mo G)), some (.int (nI i))] []) : J X G 4 g 1128 [some (.ref b), some (.ref (xo G)), some (.ref (mo G)), some (.int (nI i))] [] := by
  obtain ⟨hS, T, hT, hT1⟩ := hR.2.1
  have hH := hR.2.2.2.2.2.1
  have h31 : T ≤ 31000 := by omega
  refine j_al1 1128 C dL_law_1128 ?_
  refine j_al0 1129 C dL_law_1129 ?_
  refine j_il3 1130 C dL_law_1130 ?_
  refine j_iconst 1131 C dL_law_1131 ic_1 ?_
  refine j_iadd 1132 C dL_law_1132 ?_
  refine j_top (nI (i + 1)) (nI_add i 1) ?_
  refine jl_scr 1133 S (by omega) (by omega) C dL_law_1133 ?_
  refine j_al0 1134 C dL_law_1134 ?_
  refine j_il3 1135 C dL_law_1135 ?_
  refine j_iconst 1136 C dL_law_1136 ic_2 ?_
  refine j_iadd 1137 C dL_law_1137 ?_
  refine j_top (nI (i + 2)) (nI_add i 2) ?_
  refine jl_scr 1138 S (by omega) (by omega) C dL_law_1138 ?_
  obtain ⟨m, B, t1, t2, t3, t4⟩ := hR.2.2.2.2.1
  refine j_vi 1139 C dL_law_1139 mv_X4_feed lk_L_127 (c_X4_feed t3.1 t1) rc_x rfl rfl ⟨(Nat.le_of_ble_eq_true rfl), (Nat.le_of_ble_eq_true rfl)⟩ (Nat.le_of_ble_eq_true rfl) (fun r1 g1 hp1 => ?_)
  have hM : MP g1 g := MP_G gx_feed hp1
  have e12 : g1 12 = g 0 := (hM.1 12 (by decide)).trans hR.1
  refine j_al2 1142 C dL_law_1142 ?_
  refine j_al0 1143 C dL_law_1143 ?_
  refine j_il3 1144 C dL_law_1144 ?_
  refine j_iconst 1145 C dL_law_1145 ic_1 ?_
  refine j_iadd 1146 C dL_law_1146 ?_
  refine j_top (nI (i + 1)) (nI_add i 1) ?_
  refine jl_scr 1147 S (by omega) (by omega) C dL_law_1147 ?_
  refine j_al0 1148 C dL_law_1148 ?_
  refine j_il3 1149 C dL_law_1149 ?_
  refine j_iconst 1150 C dL_law_1150 ic_2 ?_
  refine j_iadd 1151 C dL_law_1151 ?_
  refine j_top (nI (i + 2)) (nI_add i 2) ?_
  refine jl_scr 1152 S (by omega) (by omega) C dL_law_1152 ?_
  refine j_vi 1153 C dL_law_1153 mv_X5_feed lk_L_130 (c_X5_feed (hM.2.2.trans t2) t3.1) rc_m rfl rfl ⟨(Nat.le_of_ble_eq_true rfl), (Nat.le_of_ble_eq_true rfl)⟩ (Nat.le_of_ble_eq_true rfl) (fun r2 g2 hp2 => ?_)
  obtain ⟨e, hR2⟩ := pr_feed hR hp1 hp2
  exact j_iceq 1156 1533 C dL_law_1156 (by decide) (fun _ => k g2 hR2) (fun q => absurd e q)
set_option maxRecDepth 20000 in
theorem lw_wipe {X : XT} {G : GT} {b Ls : Nat} {xs : Nat → Int32} (C : CX X G RL cL_law 4 13 486) (S : CS X G b Ls xs) {n i : Nat} {g : Mem} (hi : i + 6 ≤ Ls) (hL : Ls ≤ 3072) (hn : n ≤ 511) (hR : REL n g) (k : ∀ g', REL (n + 1) g' → J X G 4 g' 1533 [some (.ref b), some (.ref (xo G)), some (.ref (mo G)), some (.int (nI i))] []) : J X G 4 g 1161 [some (.ref b), some (.ref (xo G)), some (.ref (mo G)), some (.int (nI i))] [] := by
  obtain ⟨hS, T, hT, hT1⟩ := hR.2.1
  have hH := hR.2.2.2.2.2.1
  have h31 : T ≤ 31000 := by omega
  refine j_al1 1161 C dL_law_1161 ?_
  refine j_vi 1162 C dL_law_1162 mv_X4_wipe lk_L_131 (c_X4_wipe hS hT1 h31 hH) rc_x rfl rfl ⟨(Nat.le_of_ble_eq_true rfl), (Nat.le_of_ble_eq_true rfl)⟩ (Nat.le_of_ble_eq_true rfl) (fun r1 g1 hp1 => ?_)
  have hM : MP g1 g := MP_G gx_wipe hp1
  have e12 : g1 12 = g 0 := (hM.1 12 (by decide)).trans hR.1
  refine j_al2 1165 C dL_law_1165 ?_
  refine j_vi 1166 C dL_law_1166 mv_X5_wipe lk_L_134 (c_X5_wipe) rc_m rfl rfl ⟨(Nat.le_of_ble_eq_true rfl), (Nat.le_of_ble_eq_true rfl)⟩ (Nat.le_of_ble_eq_true rfl) (fun r2 g2 hp2 => ?_)
  obtain ⟨e, hR2⟩ := pr_wipe hR hp1 hp2
  exact j_iceq 1169 1533 C dL_law_1169 (by decide) (fun _ => k g2 hR2) (fun q => absurd e q)
set_option maxRecDepth 20000 in
theorem lw_text {X : XT} {G : GT} {b Ls : Nat} {xs : Nat → Int32} (C : CX X G RL cL_law 4 13 486) (S : CS X G b Ls xs) {n i : Nat} {g : Mem} (hi : i + 6 ≤ Ls) (hL : Ls ≤ 3072) (hn : n ≤ 511) (hR : REL n g) (k : ∀ g', REL (n + 1) g' → J X G 4 g' 1533 [some (.ref b), some (.ref (xo G)), some (.ref (mo G)), some (.int (nI i))] []) : J X G 4 g 1174 [some (.ref b), some (.ref (xo G)), some (.ref (mo G)), some (.int (nI i))] [] := by
  obtain ⟨hS, T, hT, hT1⟩ := hR.2.1
  have hH := hR.2.2.2.2.2.1
  have h31 : T ≤ 31000 := by omega
  refine j_al1 1174 C dL_law_1174 ?_
  obtain ⟨m, B, t1, t2, t3, t4⟩ := hR.2.2.2.2.1
  refine j_vi 1175 C dL_law_1175 mv_X4_text lk_L_135 (c_X4_text hS t3 t1) rc_x rfl rfl ⟨(Nat.le_of_ble_eq_true rfl), (Nat.le_of_ble_eq_true rfl)⟩ (Nat.le_of_ble_eq_true rfl) (fun r1 g1 hp1 => ?_)
  have hM : MP g1 g := MP_G gx_text hp1
  have e12 : g1 12 = g 0 := (hM.1 12 (by decide)).trans hR.1
  refine j_al2 1178 C dL_law_1178 ?_
  refine j_vi 1179 C dL_law_1179 mv_X5_text lk_L_138 (c_X5_text (by rw [hM.1 17 (by decide)]; exact t4) (hM.2.2.trans t2) (by rw [e12]; exact hS)) rc_m rfl rfl ⟨(Nat.le_of_ble_eq_true rfl), (Nat.le_of_ble_eq_true rfl)⟩ (Nat.le_of_ble_eq_true rfl) (fun r2 g2 hp2 => ?_)
  obtain ⟨e, hR2⟩ := pr_text hR hp1 hp2
  exact j_iceq 1182 1533 C dL_law_1182 (by decide) (fun _ => k g2 hR2) (fun q => absurd e q)
set_option maxRecDepth 20000 in
theorem lw_hold {X : XT} {G : GT} {b Ls : Nat} {xs : Nat → Int32} (C : CX X G RL cL_law 4 13 486) (S : CS X G b Ls xs) {n i : Nat} {g : Mem} (hi : i + 6 ≤ Ls) (hL : Ls ≤ 3072) (hn : n ≤ 511) (hR : REL n g) (k : ∀ g', REL (n + 1) g' → J X G 4 g' 1533 [some (.ref b), some (.ref (xo G)), some (.ref (mo G)), some (.int (nI i))] []) : J X G 4 g 1187 [some (.ref b), some (.ref (xo G)), some (.ref (mo G)), some (.int (nI i))] [] := by
  obtain ⟨hS, T, hT, hT1⟩ := hR.2.1
  have hH := hR.2.2.2.2.2.1
  have h31 : T ≤ 31000 := by omega
  refine j_al1 1187 C dL_law_1187 ?_
  refine j_al0 1188 C dL_law_1188 ?_
  refine j_il3 1189 C dL_law_1189 ?_
  refine j_iconst 1190 C dL_law_1190 ic_1 ?_
  refine j_iadd 1191 C dL_law_1191 ?_
  refine j_top (nI (i + 1)) (nI_add i 1) ?_
  refine jl_scr 1192 S (by omega) (by omega) C dL_law_1192 ?_
  refine j_al0 1193 C dL_law_1193 ?_
  refine j_il3 1194 C dL_law_1194 ?_
  refine j_iconst 1195 C dL_law_1195 ic_2 ?_
  refine j_iadd 1196 C dL_law_1196 ?_
  refine j_top (nI (i + 2)) (nI_add i 2) ?_
  refine jl_scr 1197 S (by omega) (by omega) C dL_law_1197 ?_
  refine j_vi 1198 C dL_law_1198 mv_X4_hold lk_L_139 (c_X4_hold hS hT1 h31) rc_x rfl rfl ⟨(Nat.le_of_ble_eq_true rfl), (Nat.le_of_ble_eq_true rfl)⟩ (Nat.le_of_ble_eq_true rfl) (fun r1 g1 hp1 => ?_)
  have hM : MP g1 g := MP_X hp1
  have e12 : g1 12 = g 0 := (hM.1 12 (by decide)).trans hR.1
  refine j_al2 1201 C dL_law_1201 ?_
  refine j_al0 1202 C dL_law_1202 ?_
  refine j_il3 1203 C dL_law_1203 ?_
  refine j_iconst 1204 C dL_law_1204 ic_1 ?_
  refine j_iadd 1205 C dL_law_1205 ?_
  refine j_top (nI (i + 1)) (nI_add i 1) ?_
  refine jl_scr 1206 S (by omega) (by omega) C dL_law_1206 ?_
  refine j_al0 1207 C dL_law_1207 ?_
  refine j_il3 1208 C dL_law_1208 ?_
  refine j_iconst 1209 C dL_law_1209 ic_2 ?_
  refine j_iadd 1210 C dL_law_1210 ?_
  refine j_top (nI (i + 2)) (nI_add i 2) ?_
  refine jl_scr 1211 S (by omega) (by omega) C dL_law_1211 ?_
  refine j_vi 1212 C dL_law_1212 mv_X5_hold lk_L_142 (c_X5_hold (by rw [e12]; exact hS) (T := T) (by rw [e12]; exact hT1) h31) rc_m rfl rfl ⟨(Nat.le_of_ble_eq_true rfl), (Nat.le_of_ble_eq_true rfl)⟩ (Nat.le_of_ble_eq_true rfl) (fun r2 g2 hp2 => ?_)
  rw [e12] at hp2
  obtain ⟨e, hR2⟩ := pr_row hR (gs_hold hR.2.1) hp1 hp2
  exact j_iceq 1215 1533 C dL_law_1215 (by decide) (fun _ => k g2 hR2) (fun q => absurd e q)
set_option maxRecDepth 20000 in
theorem lw_as {X : XT} {G : GT} {b Ls : Nat} {xs : Nat → Int32} (C : CX X G RL cL_law 4 13 486) (S : CS X G b Ls xs) {n i : Nat} {g : Mem} (hi : i + 6 ≤ Ls) (hL : Ls ≤ 3072) (hn : n ≤ 511) (hR : REL n g) (k : ∀ g', REL (n + 1) g' → J X G 4 g' 1533 [some (.ref b), some (.ref (xo G)), some (.ref (mo G)), some (.int (nI i))] []) : J X G 4 g 1220 [some (.ref b), some (.ref (xo G)), some (.ref (mo G)), some (.int (nI i))] [] := by
  obtain ⟨hS, T, hT, hT1⟩ := hR.2.1
  have hH := hR.2.2.2.2.2.1
  have h31 : T ≤ 31000 := by omega
  refine j_al1 1220 C dL_law_1220 ?_
  refine j_al0 1221 C dL_law_1221 ?_
  refine j_il3 1222 C dL_law_1222 ?_
  refine j_iconst 1223 C dL_law_1223 ic_1 ?_
  refine j_iadd 1224 C dL_law_1224 ?_
  refine j_top (nI (i + 1)) (nI_add i 1) ?_
  refine jl_scr 1225 S (by omega) (by omega) C dL_law_1225 ?_
  refine j_al0 1226 C dL_law_1226 ?_
  refine j_il3 1227 C dL_law_1227 ?_
  refine j_iconst 1228 C dL_law_1228 ic_2 ?_
  refine j_iadd 1229 C dL_law_1229 ?_
  refine j_top (nI (i + 2)) (nI_add i 2) ?_
  refine jl_scr 1230 S (by omega) (by omega) C dL_law_1230 ?_
  refine j_vi 1231 C dL_law_1231 mv_X4_as lk_L_143 (c_X4_as hS hT1 h31) rc_x rfl rfl ⟨(Nat.le_of_ble_eq_true rfl), (Nat.le_of_ble_eq_true rfl)⟩ (Nat.le_of_ble_eq_true rfl) (fun r1 g1 hp1 => ?_)
  have hM : MP g1 g := MP_X hp1
  have e12 : g1 12 = g 0 := (hM.1 12 (by decide)).trans hR.1
  refine j_al2 1234 C dL_law_1234 ?_
  refine j_al0 1235 C dL_law_1235 ?_
  refine j_il3 1236 C dL_law_1236 ?_
  refine j_iconst 1237 C dL_law_1237 ic_1 ?_
  refine j_iadd 1238 C dL_law_1238 ?_
  refine j_top (nI (i + 1)) (nI_add i 1) ?_
  refine jl_scr 1239 S (by omega) (by omega) C dL_law_1239 ?_
  refine j_al0 1240 C dL_law_1240 ?_
  refine j_il3 1241 C dL_law_1241 ?_
  refine j_iconst 1242 C dL_law_1242 ic_2 ?_
  refine j_iadd 1243 C dL_law_1243 ?_
  refine j_top (nI (i + 2)) (nI_add i 2) ?_
  refine jl_scr 1244 S (by omega) (by omega) C dL_law_1244 ?_
  refine j_vi 1245 C dL_law_1245 mv_X5_as lk_L_146 (c_X5_as (by rw [e12]; exact hS) (T := T) (by rw [e12]; exact hT1) h31) rc_m rfl rfl ⟨(Nat.le_of_ble_eq_true rfl), (Nat.le_of_ble_eq_true rfl)⟩ (Nat.le_of_ble_eq_true rfl) (fun r2 g2 hp2 => ?_)
  rw [e12] at hp2
  obtain ⟨e, hR2⟩ := pr_row hR (gs_as hR.2.1) hp1 hp2
  exact j_iceq 1248 1533 C dL_law_1248 (by decide) (fun _ => k g2 hR2) (fun q => absurd e q)
set_option maxRecDepth 20000 in
theorem lw_sheet {X : XT} {G : GT} {b Ls : Nat} {xs : Nat → Int32} (C : CX X G RL cL_law 4 13 486) (S : CS X G b Ls xs) {n i : Nat} {g : Mem} (hi : i + 6 ≤ Ls) (hL : Ls ≤ 3072) (hn : n ≤ 511) (hR : REL n g) (k : ∀ g', REL (n + 1) g' → J X G 4 g' 1533 [some (.ref b), some (.ref (xo G)), some (.ref (mo G)), some (.int (nI i))] []) : J X G 4 g 1253 [some (.ref b), some (.ref (xo G)), some (.ref (mo G)), some (.int (nI i))] [] := by
  obtain ⟨hS, T, hT, hT1⟩ := hR.2.1
  have hH := hR.2.2.2.2.2.1
  have h31 : T ≤ 31000 := by omega
  refine j_al1 1253 C dL_law_1253 ?_
  refine j_al0 1254 C dL_law_1254 ?_
  refine j_il3 1255 C dL_law_1255 ?_
  refine j_iconst 1256 C dL_law_1256 ic_1 ?_
  refine j_iadd 1257 C dL_law_1257 ?_
  refine j_top (nI (i + 1)) (nI_add i 1) ?_
  refine jl_scr 1258 S (by omega) (by omega) C dL_law_1258 ?_
  refine j_al0 1259 C dL_law_1259 ?_
  refine j_il3 1260 C dL_law_1260 ?_
  refine j_iconst 1261 C dL_law_1261 ic_2 ?_
  refine j_iadd 1262 C dL_law_1262 ?_
  refine j_top (nI (i + 2)) (nI_add i 2) ?_
  refine jl_scr 1263 S (by omega) (by omega) C dL_law_1263 ?_
  refine j_al0 1264 C dL_law_1264 ?_
  refine j_il3 1265 C dL_law_1265 ?_
  refine j_iconst 1266 C dL_law_1266 ic_3 ?_
  refine j_iadd 1267 C dL_law_1267 ?_
  refine j_top (nI (i + 3)) (nI_add i 3) ?_
  refine jl_scr 1268 S (by omega) (by omega) C dL_law_1268 ?_
  refine j_vi 1269 C dL_law_1269 mv_X4_sheet lk_L_147 (c_X4_sheet hS hT1 h31 hH) rc_x rfl rfl ⟨(Nat.le_of_ble_eq_true rfl), (Nat.le_of_ble_eq_true rfl)⟩ (Nat.le_of_ble_eq_true rfl) (fun r1 g1 hp1 => ?_)
  have hM : MP g1 g := MP_G gx_sheet hp1
  have e12 : g1 12 = g 0 := (hM.1 12 (by decide)).trans hR.1
  refine j_al2 1272 C dL_law_1272 ?_
  refine j_al0 1273 C dL_law_1273 ?_
  refine j_il3 1274 C dL_law_1274 ?_
  refine j_iconst 1275 C dL_law_1275 ic_1 ?_
  refine j_iadd 1276 C dL_law_1276 ?_
  refine j_top (nI (i + 1)) (nI_add i 1) ?_
  refine jl_scr 1277 S (by omega) (by omega) C dL_law_1277 ?_
  refine j_al0 1278 C dL_law_1278 ?_
  refine j_il3 1279 C dL_law_1279 ?_
  refine j_iconst 1280 C dL_law_1280 ic_2 ?_
  refine j_iadd 1281 C dL_law_1281 ?_
  refine j_top (nI (i + 2)) (nI_add i 2) ?_
  refine jl_scr 1282 S (by omega) (by omega) C dL_law_1282 ?_
  refine j_al0 1283 C dL_law_1283 ?_
  refine j_il3 1284 C dL_law_1284 ?_
  refine j_iconst 1285 C dL_law_1285 ic_3 ?_
  refine j_iadd 1286 C dL_law_1286 ?_
  refine j_top (nI (i + 3)) (nI_add i 3) ?_
  refine jl_scr 1287 S (by omega) (by omega) C dL_law_1287 ?_
  refine j_vi 1288 C dL_law_1288 mv_X5_sheet lk_L_150 (c_X5_sheet (by rw [e12]; exact hS) (HZ_MP hM hR.2.2.2.2.2)) rc_m rfl rfl ⟨(Nat.le_of_ble_eq_true rfl), (Nat.le_of_ble_eq_true rfl)⟩ (Nat.le_of_ble_eq_true rfl) (fun r2 g2 hp2 => ?_)
  obtain ⟨e, hR2⟩ := pr_sheet hR hp1 hp2
  exact j_iceq 1291 1533 C dL_law_1291 (by decide) (fun _ => k g2 hR2) (fun q => absurd e q)
set_option maxRecDepth 20000 in
theorem lw_write {X : XT} {G : GT} {b Ls : Nat} {xs : Nat → Int32} (C : CX X G RL cL_law 4 13 486) (S : CS X G b Ls xs) {n i : Nat} {g : Mem} (hi : i + 6 ≤ Ls) (hL : Ls ≤ 3072) (hn : n ≤ 511) (hR : REL n g) (k : ∀ g', REL (n + 1) g' → J X G 4 g' 1533 [some (.ref b), some (.ref (xo G)), some (.ref (mo G)), some (.int (nI i))] []) : J X G 4 g 1296 [some (.ref b), some (.ref (xo G)), some (.ref (mo G)), some (.int (nI i))] [] := by
  obtain ⟨hS, T, hT, hT1⟩ := hR.2.1
  have hH := hR.2.2.2.2.2.1
  have h31 : T ≤ 31000 := by omega
  refine j_al1 1296 C dL_law_1296 ?_
  refine j_al0 1297 C dL_law_1297 ?_
  refine j_il3 1298 C dL_law_1298 ?_
  refine j_iconst 1299 C dL_law_1299 ic_1 ?_
  refine j_iadd 1300 C dL_law_1300 ?_
  refine j_top (nI (i + 1)) (nI_add i 1) ?_
  refine jl_scr 1301 S (by omega) (by omega) C dL_law_1301 ?_
  refine j_al0 1302 C dL_law_1302 ?_
  refine j_il3 1303 C dL_law_1303 ?_
  refine j_iconst 1304 C dL_law_1304 ic_2 ?_
  refine j_iadd 1305 C dL_law_1305 ?_
  refine j_top (nI (i + 2)) (nI_add i 2) ?_
  refine jl_scr 1306 S (by omega) (by omega) C dL_law_1306 ?_
  refine j_al0 1307 C dL_law_1307 ?_
  refine j_il3 1308 C dL_law_1308 ?_
  refine j_iconst 1309 C dL_law_1309 ic_3 ?_
  refine j_iadd 1310 C dL_law_1310 ?_
  refine j_top (nI (i + 3)) (nI_add i 3) ?_
  refine jl_scr 1311 S (by omega) (by omega) C dL_law_1311 ?_
  refine j_vi 1312 C dL_law_1312 mv_X4_write lk_L_151 (c_X4_write hS hT1 h31 hH) rc_x rfl rfl ⟨(Nat.le_of_ble_eq_true rfl), (Nat.le_of_ble_eq_true rfl)⟩ (Nat.le_of_ble_eq_true rfl) (fun r1 g1 hp1 => ?_)
  have hM : MP g1 g := MP_G gx_write hp1
  have e12 : g1 12 = g 0 := (hM.1 12 (by decide)).trans hR.1
  refine j_al2 1315 C dL_law_1315 ?_
  refine j_al0 1316 C dL_law_1316 ?_
  refine j_il3 1317 C dL_law_1317 ?_
  refine j_iconst 1318 C dL_law_1318 ic_1 ?_
  refine j_iadd 1319 C dL_law_1319 ?_
  refine j_top (nI (i + 1)) (nI_add i 1) ?_
  refine jl_scr 1320 S (by omega) (by omega) C dL_law_1320 ?_
  refine j_al0 1321 C dL_law_1321 ?_
  refine j_il3 1322 C dL_law_1322 ?_
  refine j_iconst 1323 C dL_law_1323 ic_2 ?_
  refine j_iadd 1324 C dL_law_1324 ?_
  refine j_top (nI (i + 2)) (nI_add i 2) ?_
  refine jl_scr 1325 S (by omega) (by omega) C dL_law_1325 ?_
  refine j_al0 1326 C dL_law_1326 ?_
  refine j_il3 1327 C dL_law_1327 ?_
  refine j_iconst 1328 C dL_law_1328 ic_3 ?_
  refine j_iadd 1329 C dL_law_1329 ?_
  refine j_top (nI (i + 3)) (nI_add i 3) ?_
  refine jl_scr 1330 S (by omega) (by omega) C dL_law_1330 ?_
  refine j_vi 1331 C dL_law_1331 mv_X5_write lk_L_154 (c_X5_write (by rw [e12]; exact hS) (HZ_MP hM hR.2.2.2.2.2)) rc_m rfl rfl ⟨(Nat.le_of_ble_eq_true rfl), (Nat.le_of_ble_eq_true rfl)⟩ (Nat.le_of_ble_eq_true rfl) (fun r2 g2 hp2 => ?_)
  obtain ⟨e, hR2⟩ := pr_write hR hp1 hp2
  exact j_iceq 1334 1533 C dL_law_1334 (by decide) (fun _ => k g2 hR2) (fun q => absurd e q)
set_option maxRecDepth 20000 in
theorem lw_copy {X : XT} {G : GT} {b Ls : Nat} {xs : Nat → Int32} (C : CX X G RL cL_law 4 13 486) (S : CS X G b Ls xs) {n i : Nat} {g : Mem} (hi : i + 6 ≤ Ls) (hL : Ls ≤ 3072) (hn : n ≤ 511) (hR : REL n g) (k : ∀ g', REL (n + 1) g' → J X G 4 g' 1533 [some (.ref b), some (.ref (xo G)), some (.ref (mo G)), some (.int (nI i))] []) : J X G 4 g 1339 [some (.ref b), some (.ref (xo G)), some (.ref (mo G)), some (.int (nI i))] [] := by
  obtain ⟨hS, T, hT, hT1⟩ := hR.2.1
  have hH := hR.2.2.2.2.2.1
  have h31 : T ≤ 31000 := by omega
  refine j_al1 1339 C dL_law_1339 ?_
  refine j_al0 1340 C dL_law_1340 ?_
  refine j_il3 1341 C dL_law_1341 ?_
  refine j_iconst 1342 C dL_law_1342 ic_1 ?_
  refine j_iadd 1343 C dL_law_1343 ?_
  refine j_top (nI (i + 1)) (nI_add i 1) ?_
  refine jl_scr 1344 S (by omega) (by omega) C dL_law_1344 ?_
  refine j_al0 1345 C dL_law_1345 ?_
  refine j_il3 1346 C dL_law_1346 ?_
  refine j_iconst 1347 C dL_law_1347 ic_2 ?_
  refine j_iadd 1348 C dL_law_1348 ?_
  refine j_top (nI (i + 2)) (nI_add i 2) ?_
  refine jl_scr 1349 S (by omega) (by omega) C dL_law_1349 ?_
  refine j_al0 1350 C dL_law_1350 ?_
  refine j_il3 1351 C dL_law_1351 ?_
  refine j_iconst 1352 C dL_law_1352 ic_3 ?_
  refine j_iadd 1353 C dL_law_1353 ?_
  refine j_top (nI (i + 3)) (nI_add i 3) ?_
  refine jl_scr 1354 S (by omega) (by omega) C dL_law_1354 ?_
  refine j_al0 1355 C dL_law_1355 ?_
  refine j_il3 1356 C dL_law_1356 ?_
  refine j_iconst 1357 C dL_law_1357 ic_4 ?_
  refine j_iadd 1358 C dL_law_1358 ?_
  refine j_top (nI (i + 4)) (nI_add i 4) ?_
  refine jl_scr 1359 S (by omega) (by omega) C dL_law_1359 ?_
  refine j_al0 1360 C dL_law_1360 ?_
  refine j_il3 1361 C dL_law_1361 ?_
  refine j_iconst 1362 C dL_law_1362 ic_5 ?_
  refine j_iadd 1363 C dL_law_1363 ?_
  refine j_top (nI (i + 5)) (nI_add i 5) ?_
  refine jl_scr 1364 S (by omega) (by omega) C dL_law_1364 ?_
  refine j_vi 1365 C dL_law_1365 mv_X4_copy lk_L_155 (c_X4_copy hS hT1 h31 hH) rc_x rfl rfl ⟨(Nat.le_of_ble_eq_true rfl), (Nat.le_of_ble_eq_true rfl)⟩ (Nat.le_of_ble_eq_true rfl) (fun r1 g1 hp1 => ?_)
  have hM : MP g1 g := MP_G gx_copy hp1
  have e12 : g1 12 = g 0 := (hM.1 12 (by decide)).trans hR.1
  refine j_al2 1368 C dL_law_1368 ?_
  refine j_al0 1369 C dL_law_1369 ?_
  refine j_il3 1370 C dL_law_1370 ?_
  refine j_iconst 1371 C dL_law_1371 ic_1 ?_
  refine j_iadd 1372 C dL_law_1372 ?_
  refine j_top (nI (i + 1)) (nI_add i 1) ?_
  refine jl_scr 1373 S (by omega) (by omega) C dL_law_1373 ?_
  refine j_al0 1374 C dL_law_1374 ?_
  refine j_il3 1375 C dL_law_1375 ?_
  refine j_iconst 1376 C dL_law_1376 ic_2 ?_
  refine j_iadd 1377 C dL_law_1377 ?_
  refine j_top (nI (i + 2)) (nI_add i 2) ?_
  refine jl_scr 1378 S (by omega) (by omega) C dL_law_1378 ?_
  refine j_al0 1379 C dL_law_1379 ?_
  refine j_il3 1380 C dL_law_1380 ?_
  refine j_iconst 1381 C dL_law_1381 ic_3 ?_
  refine j_iadd 1382 C dL_law_1382 ?_
  refine j_top (nI (i + 3)) (nI_add i 3) ?_
  refine jl_scr 1383 S (by omega) (by omega) C dL_law_1383 ?_
  refine j_al0 1384 C dL_law_1384 ?_
  refine j_il3 1385 C dL_law_1385 ?_
  refine j_iconst 1386 C dL_law_1386 ic_4 ?_
  refine j_iadd 1387 C dL_law_1387 ?_
  refine j_top (nI (i + 4)) (nI_add i 4) ?_
  refine jl_scr 1388 S (by omega) (by omega) C dL_law_1388 ?_
  refine j_al0 1389 C dL_law_1389 ?_
  refine j_il3 1390 C dL_law_1390 ?_
  refine j_iconst 1391 C dL_law_1391 ic_5 ?_
  refine j_iadd 1392 C dL_law_1392 ?_
  refine j_top (nI (i + 5)) (nI_add i 5) ?_
  refine jl_scr 1393 S (by omega) (by omega) C dL_law_1393 ?_
  refine j_vi 1394 C dL_law_1394 mv_X5_copy lk_L_159 (c_X5_copy (by rw [e12]; exact hS) (HZ_MP hM hR.2.2.2.2.2)) rc_m rfl rfl ⟨(Nat.le_of_ble_eq_true rfl), (Nat.le_of_ble_eq_true rfl)⟩ (Nat.le_of_ble_eq_true rfl) (fun r2 g2 hp2 => ?_)
  obtain ⟨e, hR2⟩ := pr_copy hR hp1 hp2
  exact j_iceq 1397 1533 C dL_law_1397 (by decide) (fun _ => k g2 hR2) (fun q => absurd e q)
set_option maxRecDepth 20000 in
theorem lw_load {X : XT} {G : GT} {b Ls : Nat} {xs : Nat → Int32} (C : CX X G RL cL_law 4 13 486) (S : CS X G b Ls xs) {n i : Nat} {g : Mem} (hi : i + 6 ≤ Ls) (hL : Ls ≤ 3072) (hn : n ≤ 511) (hR : REL n g) (k : ∀ g', REL (n + 1) g' → J X G 4 g' 1533 [some (.ref b), some (.ref (xo G)), some (.ref (mo G)), some (.int (nI i))] []) : J X G 4 g 1402 [some (.ref b), some (.ref (xo G)), some (.ref (mo G)), some (.int (nI i))] [] := by
  obtain ⟨hS, T, hT, hT1⟩ := hR.2.1
  have hH := hR.2.2.2.2.2.1
  have h31 : T ≤ 31000 := by omega
  refine j_al1 1402 C dL_law_1402 ?_
  refine j_al0 1403 C dL_law_1403 ?_
  refine j_il3 1404 C dL_law_1404 ?_
  refine j_iconst 1405 C dL_law_1405 ic_1 ?_
  refine j_iadd 1406 C dL_law_1406 ?_
  refine j_top (nI (i + 1)) (nI_add i 1) ?_
  refine jl_scr 1407 S (by omega) (by omega) C dL_law_1407 ?_
  refine j_vi 1408 C dL_law_1408 mv_X4_load lk_L_160 (c_X4_load hS hT1 h31 hH) rc_x rfl rfl ⟨(Nat.le_of_ble_eq_true rfl), (Nat.le_of_ble_eq_true rfl)⟩ (Nat.le_of_ble_eq_true rfl) (fun r1 g1 hp1 => ?_)
  have hM : MP g1 g := MP_G gx_load hp1
  have e12 : g1 12 = g 0 := (hM.1 12 (by decide)).trans hR.1
  refine j_al2 1411 C dL_law_1411 ?_
  refine j_al0 1412 C dL_law_1412 ?_
  refine j_il3 1413 C dL_law_1413 ?_
  refine j_iconst 1414 C dL_law_1414 ic_1 ?_
  refine j_iadd 1415 C dL_law_1415 ?_
  refine j_top (nI (i + 1)) (nI_add i 1) ?_
  refine jl_scr 1416 S (by omega) (by omega) C dL_law_1416 ?_
  refine j_vi 1417 C dL_law_1417 mv_X5_load lk_L_163 (c_X5_load (by rw [e12]; exact hS) (HZ_MP hM hR.2.2.2.2.2)) rc_m rfl rfl ⟨(Nat.le_of_ble_eq_true rfl), (Nat.le_of_ble_eq_true rfl)⟩ (Nat.le_of_ble_eq_true rfl) (fun r2 g2 hp2 => ?_)
  obtain ⟨e, hR2⟩ := pr_load hR hp1 hp2
  exact j_iceq 1420 1533 C dL_law_1420 (by decide) (fun _ => k g2 hR2) (fun q => absurd e q)
set_option maxRecDepth 20000 in
theorem lw_judge {X : XT} {G : GT} {b Ls : Nat} {xs : Nat → Int32} (C : CX X G RL cL_law 4 13 486) (S : CS X G b Ls xs) {n i : Nat} {g : Mem} (hi : i + 6 ≤ Ls) (hL : Ls ≤ 3072) (hn : n ≤ 511) (hR : REL n g) (k : ∀ g', REL (n + 1) g' → J X G 4 g' 1533 [some (.ref b), some (.ref (xo G)), some (.ref (mo G)), some (.int (nI i))] []) : J X G 4 g 1425 [some (.ref b), some (.ref (xo G)), some (.ref (mo G)), some (.int (nI i))] [] := by
  obtain ⟨hS, T, hT, hT1⟩ := hR.2.1
  have hH := hR.2.2.2.2.2.1
  have h31 : T ≤ 31000 := by omega
  refine j_al1 1425 C dL_law_1425 ?_
  refine j_al0 1426 C dL_law_1426 ?_
  refine j_il3 1427 C dL_law_1427 ?_
  refine j_iconst 1428 C dL_law_1428 ic_1 ?_
  refine j_iadd 1429 C dL_law_1429 ?_
  refine j_top (nI (i + 1)) (nI_add i 1) ?_
  refine jl_scr 1430 S (by omega) (by omega) C dL_law_1430 ?_
  refine j_vi 1431 C dL_law_1431 mv_X4_judge lk_L_164 (c_X4_judge hS hT1 h31 hH) rc_x rfl rfl ⟨(Nat.le_of_ble_eq_true rfl), (Nat.le_of_ble_eq_true rfl)⟩ (Nat.le_of_ble_eq_true rfl) (fun r1 g1 hp1 => ?_)
  have hM : MP g1 g := MP_G gx_judge hp1
  have e12 : g1 12 = g 0 := (hM.1 12 (by decide)).trans hR.1
  refine j_al2 1434 C dL_law_1434 ?_
  refine j_al0 1435 C dL_law_1435 ?_
  refine j_il3 1436 C dL_law_1436 ?_
  refine j_iconst 1437 C dL_law_1437 ic_1 ?_
  refine j_iadd 1438 C dL_law_1438 ?_
  refine j_top (nI (i + 1)) (nI_add i 1) ?_
  refine jl_scr 1439 S (by omega) (by omega) C dL_law_1439 ?_
  refine j_vi 1440 C dL_law_1440 mv_X5_judge lk_L_167 (c_X5_judge (by rw [e12]; exact hS) (HZ_MP hM hR.2.2.2.2.2)) rc_m rfl rfl ⟨(Nat.le_of_ble_eq_true rfl), (Nat.le_of_ble_eq_true rfl)⟩ (Nat.le_of_ble_eq_true rfl) (fun r2 g2 hp2 => ?_)
  obtain ⟨e, hR2⟩ := pr_judge hR hp1 hp2
  exact j_iceq 1443 1533 C dL_law_1443 (by decide) (fun _ => k g2 hR2) (fun q => absurd e q)
set_option maxRecDepth 20000 in
theorem lw_image {X : XT} {G : GT} {b Ls : Nat} {xs : Nat → Int32} (C : CX X G RL cL_law 4 13 486) (S : CS X G b Ls xs) {n i : Nat} {g : Mem} (hi : i + 6 ≤ Ls) (hL : Ls ≤ 3072) (hn : n ≤ 511) (hR : REL n g) (k : ∀ g', REL (n + 1) g' → J X G 4 g' 1533 [some (.ref b), some (.ref (xo G)), some (.ref (mo G)), some (.int (nI i))] []) : J X G 4 g 1448 [some (.ref b), some (.ref (xo G)), some (.ref (mo G)), some (.int (nI i))] [] := by
  obtain ⟨hS, T, hT, hT1⟩ := hR.2.1
  have hH := hR.2.2.2.2.2.1
  have h31 : T ≤ 31000 := by omega
  refine j_al1 1448 C dL_law_1448 ?_
  refine j_vi 1449 C dL_law_1449 mv_X4_image lk_L_168 (c_X4_image hS hT1 h31 hH) rc_x rfl rfl ⟨(Nat.le_of_ble_eq_true rfl), (Nat.le_of_ble_eq_true rfl)⟩ (Nat.le_of_ble_eq_true rfl) (fun r1 g1 hp1 => ?_)
  have hM : MP g1 g := MP_G gx_image hp1
  have e12 : g1 12 = g 0 := (hM.1 12 (by decide)).trans hR.1
  refine j_al2 1452 C dL_law_1452 ?_
  refine j_vi 1453 C dL_law_1453 mv_X5_image lk_L_171 (c_X5_image) rc_m rfl rfl ⟨(Nat.le_of_ble_eq_true rfl), (Nat.le_of_ble_eq_true rfl)⟩ (Nat.le_of_ble_eq_true rfl) (fun r2 g2 hp2 => ?_)
  obtain ⟨e, hR2⟩ := pr_image hR hp1 hp2
  exact j_iceq 1456 1533 C dL_law_1456 (by decide) (fun _ => k g2 hR2) (fun q => absurd e q)
set_option maxRecDepth 20000 in
theorem lw_undo {X : XT} {G : GT} {b Ls : Nat} {xs : Nat → Int32} (C : CX X G RL cL_law 4 13 486) (S : CS X G b Ls xs) {n i : Nat} {g : Mem} (hi : i + 6 ≤ Ls) (hL : Ls ≤ 3072) (hn : n ≤ 511) (hR : REL n g) (k : ∀ g', REL (n + 1) g' → J X G 4 g' 1533 [some (.ref b), some (.ref (xo G)), some (.ref (mo G)), some (.int (nI i))] []) : J X G 4 g 1461 [some (.ref b), some (.ref (xo G)), some (.ref (mo G)), some (.int (nI i))] [] := by
  obtain ⟨hS, T, hT, hT1⟩ := hR.2.1
  have hH := hR.2.2.2.2.2.1
  have h31 : T ≤ 31000 := by omega
  refine j_al1 1461 C dL_law_1461 ?_
  refine j_vi 1462 C dL_law_1462 mv_X4_undo lk_L_172 (c_X4_undo hS hT1 h31 hH) rc_x rfl rfl ⟨(Nat.le_of_ble_eq_true rfl), (Nat.le_of_ble_eq_true rfl)⟩ (Nat.le_of_ble_eq_true rfl) (fun r1 g1 hp1 => ?_)
  have hM : MP g1 g := MP_G gx_undo hp1
  have e12 : g1 12 = g 0 := (hM.1 12 (by decide)).trans hR.1
  refine j_al2 1465 C dL_law_1465 ?_
  refine j_vi 1466 C dL_law_1466 mv_X5_undo lk_L_175 (c_X5_undo) rc_m rfl rfl ⟨(Nat.le_of_ble_eq_true rfl), (Nat.le_of_ble_eq_true rfl)⟩ (Nat.le_of_ble_eq_true rfl) (fun r2 g2 hp2 => ?_)
  obtain ⟨e, hR2⟩ := pr_undo hR hp1 hp2
  exact j_iceq 1469 1533 C dL_law_1469 (by decide) (fun _ => k g2 hR2) (fun q => absurd e q)
set_option maxRecDepth 20000 in
theorem lw_tear {X : XT} {G : GT} {b Ls : Nat} {xs : Nat → Int32} (C : CX X G RL cL_law 4 13 486) (S : CS X G b Ls xs) {n i : Nat} {g : Mem} (hi : i + 6 ≤ Ls) (hL : Ls ≤ 3072) (hn : n ≤ 511) (hR : REL n g) (k : ∀ g', REL (n + 1) g' → J X G 4 g' 1533 [some (.ref b), some (.ref (xo G)), some (.ref (mo G)), some (.int (nI i))] []) : J X G 4 g 1474 [some (.ref b), some (.ref (xo G)), some (.ref (mo G)), some (.int (nI i))] [] := by
  obtain ⟨hS, T, hT, hT1⟩ := hR.2.1
  have hH := hR.2.2.2.2.2.1
  have h31 : T ≤ 31000 := by omega
  refine j_al1 1474 C dL_law_1474 ?_
  refine j_vi 1475 C dL_law_1475 mv_X4_tear lk_L_176 (c_X4_tear hS hT1 h31 hH) rc_x rfl rfl ⟨(Nat.le_of_ble_eq_true rfl), (Nat.le_of_ble_eq_true rfl)⟩ (Nat.le_of_ble_eq_true rfl) (fun r1 g1 hp1 => ?_)
  have hM : MP g1 g := MP_G gx_tear hp1
  have e12 : g1 12 = g 0 := (hM.1 12 (by decide)).trans hR.1
  refine j_al2 1478 C dL_law_1478 ?_
  refine j_vi 1479 C dL_law_1479 mv_X5_tear lk_L_179 (c_X5_tear) rc_m rfl rfl ⟨(Nat.le_of_ble_eq_true rfl), (Nat.le_of_ble_eq_true rfl)⟩ (Nat.le_of_ble_eq_true rfl) (fun r2 g2 hp2 => ?_)
  obtain ⟨e, hR2⟩ := pr_tear hR hp1 hp2
  exact j_iceq 1482 1533 C dL_law_1482 (by decide) (fun _ => k g2 hR2) (fun q => absurd e q)
set_option maxRecDepth 20000 in
theorem lw_count {X : XT} {G : GT} {b Ls : Nat} {xs : Nat → Int32} (C : CX X G RL cL_law 4 13 486) (S : CS X G b Ls xs) {n i : Nat} {g : Mem} (hi : i + 6 ≤ Ls) (hL : Ls ≤ 3072) (hn : n ≤ 511) (hR : REL n g) (k : ∀ g', REL (n + 1) g' → J X G 4 g' 1533 [some (.ref b), some (.ref (xo G)), some (.ref (mo G)), some (.int (nI i))] []) : J X G 4 g 1487 [some (.ref b), some (.ref (xo G)), some (.ref (mo G)), some (.int (nI i))] [] := by
  obtain ⟨hS, T, hT, hT1⟩ := hR.2.1
  have hH := hR.2.2.2.2.2.1
  have h31 : T ≤ 31000 := by omega
  refine j_al1 1487 C dL_law_1487 ?_
  refine j_al0 1488 C dL_law_1488 ?_
  refine j_il3 1489 C dL_law_1489 ?_
  refine j_iconst 1490 C dL_law_1490 ic_1 ?_
  refine j_iadd 1491 C dL_law_1491 ?_
  refine j_top (nI (i + 1)) (nI_add i 1) ?_
  refine jl_scr 1492 S (by omega) (by omega) C dL_law_1492 ?_
  refine j_vi 1493 C dL_law_1493 mv_X4_count lk_L_180 (c_X4_count hS hT1 h31 hH) rc_x rfl rfl ⟨(Nat.le_of_ble_eq_true rfl), (Nat.le_of_ble_eq_true rfl)⟩ (Nat.le_of_ble_eq_true rfl) (fun r1 g1 hp1 => ?_)
  have hM : MP g1 g := MP_G gx_count hp1
  have e12 : g1 12 = g 0 := (hM.1 12 (by decide)).trans hR.1
  refine j_al2 1496 C dL_law_1496 ?_
  refine j_al0 1497 C dL_law_1497 ?_
  refine j_il3 1498 C dL_law_1498 ?_
  refine j_iconst 1499 C dL_law_1499 ic_1 ?_
  refine j_iadd 1500 C dL_law_1500 ?_
  refine j_top (nI (i + 1)) (nI_add i 1) ?_
  refine jl_scr 1501 S (by omega) (by omega) C dL_law_1501 ?_
  refine j_vi 1502 C dL_law_1502 mv_X5_count lk_L_183 (c_X5_count (by rw [e12]; exact hS)) rc_m rfl rfl ⟨(Nat.le_of_ble_eq_true rfl), (Nat.le_of_ble_eq_true rfl)⟩ (Nat.le_of_ble_eq_true rfl) (fun r2 g2 hp2 => ?_)
  obtain ⟨e, hR2⟩ := pr_count hR hp1 hp2
  exact j_iceq 1505 1533 C dL_law_1505 (by decide) (fun _ => k g2 hR2) (fun q => absurd e q)
set_option maxRecDepth 20000 in
theorem lw_status {X : XT} {G : GT} {b Ls : Nat} {xs : Nat → Int32} (C : CX X G RL cL_law 4 13 486) (S : CS X G b Ls xs) {n i : Nat} {g : Mem} (hi : i + 6 ≤ Ls) (hL : Ls ≤ 3072) (hn : n ≤ 511) (hR : REL n g) (k : ∀ g', REL (n + 1) g' → J X G 4 g' 1533 [some (.ref b), some (.ref (xo G)), some (.ref (mo G)), some (.int (nI i))] []) : J X G 4 g 1510 [some (.ref b), some (.ref (xo G)), some (.ref (mo G)), some (.int (nI i))] [] := by
  obtain ⟨hS, T, hT, hT1⟩ := hR.2.1
  have hH := hR.2.2.2.2.2.1
  have h31 : T ≤ 31000 := by omega
  refine j_al1 1510 C dL_law_1510 ?_
  refine j_al0 1511 C dL_law_1511 ?_
  refine j_il3 1512 C dL_law_1512 ?_
  refine j_iconst 1513 C dL_law_1513 ic_1 ?_
  refine j_iadd 1514 C dL_law_1514 ?_
  refine j_top (nI (i + 1)) (nI_add i 1) ?_
  refine jl_scr 1515 S (by omega) (by omega) C dL_law_1515 ?_
  refine j_vi 1516 C dL_law_1516 mv_X4_status lk_L_184 (c_X4_status hS hT1 h31 hH) rc_x rfl rfl ⟨(Nat.le_of_ble_eq_true rfl), (Nat.le_of_ble_eq_true rfl)⟩ (Nat.le_of_ble_eq_true rfl) (fun r1 g1 hp1 => ?_)
  have hM : MP g1 g := MP_G gx_status hp1
  have e12 : g1 12 = g 0 := (hM.1 12 (by decide)).trans hR.1
  refine j_al2 1519 C dL_law_1519 ?_
  refine j_al0 1520 C dL_law_1520 ?_
  refine j_il3 1521 C dL_law_1521 ?_
  refine j_iconst 1522 C dL_law_1522 ic_1 ?_
  refine j_iadd 1523 C dL_law_1523 ?_
  refine j_top (nI (i + 1)) (nI_add i 1) ?_
  refine jl_scr 1524 S (by omega) (by omega) C dL_law_1524 ?_
  refine j_vi 1525 C dL_law_1525 mv_X5_status lk_L_187 (c_X5_status) rc_m rfl rfl ⟨(Nat.le_of_ble_eq_true rfl), (Nat.le_of_ble_eq_true rfl)⟩ (Nat.le_of_ble_eq_true rfl) (fun r2 g2 hp2 => ?_)
  obtain ⟨e, hR2⟩ := pr_status hR hp1 hp2
  exact j_iceq 1528 1533 C dL_law_1528 (by decide) (fun _ => k g2 hR2) (fun q => absurd e q)
