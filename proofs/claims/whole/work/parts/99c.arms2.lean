theorem arm_20 {nm : String} {X : Nat × Nat × (Nat → Int32)} (hL : X.2.1 ≤ 3072) {i : Nat} (hi : i + 6 ≤ X.2.1) {s : Nat → Int} {m : Nat → Nat → Int} (h : LRL s m) (k : ∀ s2 m2, LRL s2 m2 → GX X (M_LN nm) 14 0 0 1457 [vV (.ref X.1), rV 0, rV 64, iV (i : Int)] [] (WC ++ (WM ++ []), m2) QL) : GX X (M_LN nm) 14 0 0 912 [vV (.ref X.1), rV 0, rV 64, iV (i : Int)] [] (WC ++ (WM ++ []), m) QL := by
  refine GX_aload_n d_L_law_912 rfl ?_
  refine GX_arg1 (i := i) 1 rfl rfl rfl d_L_law_913 d_L_law_914 d_L_law_915 d_L_law_916 d_L_law_917 (by omega) hL ?_
  refine GX_arg1 (i := i) 2 rfl rfl rfl d_L_law_918 d_L_law_919 d_L_law_920 d_L_law_921 d_L_law_922 (by omega) hL ?_
  refine GX_cv (X := X) [iV ((X.2.2 (i + 1)).toInt), iV ((X.2.2 (i + 2)).toInt)] cl_L_103 rfl d_L_law_923 (wk_0 _) rfl (Nat.le_of_ble_eq_true rfl) (by decide) (sp_Cresidue s h.1 h.2.2.1 ((X.2.2 (i + 1)).toInt) (oi_rng _) ((X.2.2 (i + 2)).toInt) (oi_rng _)) ?_
  rintro _ _ ⟨rfl, m1, rfl, hc, hf⟩
  refine GX_aload_n d_L_law_926 rfl ?_
  refine GX_arg1 (i := i) 1 rfl rfl rfl d_L_law_927 d_L_law_928 d_L_law_929 d_L_law_930 d_L_law_931 (by omega) hL ?_
  refine GX_arg1 (i := i) 2 rfl rfl rfl d_L_law_932 d_L_law_933 d_L_law_934 d_L_law_935 d_L_law_936 (by omega) hL ?_
  refine GX_cv (X := X) [iV ((X.2.2 (i + 1)).toInt), iV ((X.2.2 (i + 2)).toInt)] cl_L_106 rfl d_L_law_937 (wk_64 _) rfl (Nat.le_of_ble_eq_true rfl) (by decide) (sp_Mresidue s h.1 (h.mi hf) ((X.2.2 (i + 1)).toInt) (oi_rng _) ((X.2.2 (i + 2)).toInt) (oi_rng _)) ?_
  rintro _ _ ⟨rfl, m2, rfl, hk⟩
  refine GX_same 1457 d_L_law_940 (by decide) ?_
  exact k _ _ (h.both (h.1) hc hf hk)
theorem arm_21 {nm : String} {X : Nat × Nat × (Nat → Int32)} (hL : X.2.1 ≤ 3072) {i : Nat} (hi : i + 6 ≤ X.2.1) {s : Nat → Int} {m : Nat → Nat → Int} (h : LRL s m) (k : ∀ s2 m2, LRL s2 m2 → GX X (M_LN nm) 14 0 0 1457 [vV (.ref X.1), rV 0, rV 64, iV (i : Int)] [] (WC ++ (WM ++ []), m2) QL) : GX X (M_LN nm) 14 0 0 945 [vV (.ref X.1), rV 0, rV 64, iV (i : Int)] [] (WC ++ (WM ++ []), m) QL := by
  refine GX_aload_n d_L_law_945 rfl ?_
  refine GX_arg1 (i := i) 1 rfl rfl rfl d_L_law_946 d_L_law_947 d_L_law_948 d_L_law_949 d_L_law_950 (by omega) hL ?_
  refine GX_arg1 (i := i) 2 rfl rfl rfl d_L_law_951 d_L_law_952 d_L_law_953 d_L_law_954 d_L_law_955 (by omega) hL ?_
  refine GX_cv (X := X) [iV ((X.2.2 (i + 1)).toInt), iV ((X.2.2 (i + 2)).toInt)] cl_L_107 rfl d_L_law_956 (wk_0 _) rfl (Nat.le_of_ble_eq_true rfl) (by decide) (sp_Cmany s h.1 h.2.2.1 ((X.2.2 (i + 1)).toInt) (oi_rng _) ((X.2.2 (i + 2)).toInt) (oi_rng _)) ?_
  rintro _ _ ⟨rfl, m1, rfl, hc, hf⟩
  refine GX_aload_n d_L_law_959 rfl ?_
  refine GX_arg1 (i := i) 1 rfl rfl rfl d_L_law_960 d_L_law_961 d_L_law_962 d_L_law_963 d_L_law_964 (by omega) hL ?_
  refine GX_arg1 (i := i) 2 rfl rfl rfl d_L_law_965 d_L_law_966 d_L_law_967 d_L_law_968 d_L_law_969 (by omega) hL ?_
  refine GX_cv (X := X) [iV ((X.2.2 (i + 1)).toInt), iV ((X.2.2 (i + 2)).toInt)] cl_L_110 rfl d_L_law_970 (wk_64 _) rfl (Nat.le_of_ble_eq_true rfl) (by decide) (sp_Mmany s h.1 (h.mi hf) ((X.2.2 (i + 1)).toInt) (oi_rng _) ((X.2.2 (i + 2)).toInt) (oi_rng _)) ?_
  rintro _ _ ⟨rfl, m2, rfl, hk⟩
  refine GX_same 1457 d_L_law_973 (by decide) ?_
  exact k _ _ (h.both (h.1) hc hf hk)
theorem arm_22 {nm : String} {X : Nat × Nat × (Nat → Int32)} (hL : X.2.1 ≤ 3072) {i : Nat} (hi : i + 6 ≤ X.2.1) {s : Nat → Int} {m : Nat → Nat → Int} (h : LRL s m) (k : ∀ s2 m2, LRL s2 m2 → GX X (M_LN nm) 14 0 0 1457 [vV (.ref X.1), rV 0, rV 64, iV (i : Int)] [] (WC ++ (WM ++ []), m2) QL) : GX X (M_LN nm) 14 0 0 978 [vV (.ref X.1), rV 0, rV 64, iV (i : Int)] [] (WC ++ (WM ++ []), m) QL := by
  refine GX_aload_n d_L_law_978 rfl ?_
  refine GX_arg1 (i := i) 1 rfl rfl rfl d_L_law_979 d_L_law_980 d_L_law_981 d_L_law_982 d_L_law_983 (by omega) hL ?_
  refine GX_arg1 (i := i) 2 rfl rfl rfl d_L_law_984 d_L_law_985 d_L_law_986 d_L_law_987 d_L_law_988 (by omega) hL ?_
  refine GX_cv (X := X) [iV ((X.2.2 (i + 1)).toInt), iV ((X.2.2 (i + 2)).toInt)] cl_L_111 rfl d_L_law_989 (wk_0 _) rfl (Nat.le_of_ble_eq_true rfl) (by decide) (sp_Cpath s h.1 h.2.2.1 ((X.2.2 (i + 1)).toInt) (oi_rng _) ((X.2.2 (i + 2)).toInt) (oi_rng _)) ?_
  rintro _ _ ⟨rfl, m1, rfl, hc, hf⟩
  refine GX_aload_n d_L_law_992 rfl ?_
  refine GX_arg1 (i := i) 1 rfl rfl rfl d_L_law_993 d_L_law_994 d_L_law_995 d_L_law_996 d_L_law_997 (by omega) hL ?_
  refine GX_arg1 (i := i) 2 rfl rfl rfl d_L_law_998 d_L_law_999 d_L_law_1000 d_L_law_1001 d_L_law_1002 (by omega) hL ?_
  refine GX_cv (X := X) [iV ((X.2.2 (i + 1)).toInt), iV ((X.2.2 (i + 2)).toInt)] cl_L_114 rfl d_L_law_1003 (wk_64 _) rfl (Nat.le_of_ble_eq_true rfl) (by decide) (sp_Mpath s h.1 (h.mi hf) ((X.2.2 (i + 1)).toInt) (oi_rng _) ((X.2.2 (i + 2)).toInt) (oi_rng _)) ?_
  rintro _ _ ⟨rfl, m2, rfl, hk⟩
  refine GX_same 1457 d_L_law_1006 (by decide) ?_
  exact k _ _ (h.both (h.1) hc hf hk)
theorem arm_23 {nm : String} {X : Nat × Nat × (Nat → Int32)} (hL : X.2.1 ≤ 3072) {i : Nat} (hi : i + 6 ≤ X.2.1) {s : Nat → Int} {m : Nat → Nat → Int} (h : LRL s m) (k : ∀ s2 m2, LRL s2 m2 → GX X (M_LN nm) 14 0 0 1457 [vV (.ref X.1), rV 0, rV 64, iV (i : Int)] [] (WC ++ (WM ++ []), m2) QL) : GX X (M_LN nm) 14 0 0 1011 [vV (.ref X.1), rV 0, rV 64, iV (i : Int)] [] (WC ++ (WM ++ []), m) QL := by
  refine GX_aload_n d_L_law_1011 rfl ?_
  refine GX_arg1 (i := i) 1 rfl rfl rfl d_L_law_1012 d_L_law_1013 d_L_law_1014 d_L_law_1015 d_L_law_1016 (by omega) hL ?_
  refine GX_cv (X := X) [iV ((X.2.2 (i + 1)).toInt)] cl_L_115 rfl d_L_law_1017 (wk_0 _) rfl (Nat.le_of_ble_eq_true rfl) (by decide) (sp_Cleak s h.1 h.2.2.1 ((X.2.2 (i + 1)).toInt) (oi_rng _)) ?_
  rintro _ _ ⟨rfl, m1, rfl, hc, hf⟩
  refine GX_aload_n d_L_law_1020 rfl ?_
  refine GX_arg1 (i := i) 1 rfl rfl rfl d_L_law_1021 d_L_law_1022 d_L_law_1023 d_L_law_1024 d_L_law_1025 (by omega) hL ?_
  refine GX_cv (X := X) [iV ((X.2.2 (i + 1)).toInt)] cl_L_118 rfl d_L_law_1026 (wk_64 _) rfl (Nat.le_of_ble_eq_true rfl) (by decide) (sp_Mleak s h.1 (h.mi hf) ((X.2.2 (i + 1)).toInt) (oi_rng _)) ?_
  rintro _ _ ⟨rfl, m2, rfl, hk⟩
  refine GX_same 1457 d_L_law_1029 (by decide) ?_
  exact k _ _ (h.both (h.1) hc hf hk)
theorem arm_24 {nm : String} {X : Nat × Nat × (Nat → Int32)} (hL : X.2.1 ≤ 3072) {i : Nat} (hi : i + 6 ≤ X.2.1) {s : Nat → Int} {m : Nat → Nat → Int} (h : LRL s m) (k : ∀ s2 m2, LRL s2 m2 → GX X (M_LN nm) 14 0 0 1457 [vV (.ref X.1), rV 0, rV 64, iV (i : Int)] [] (WC ++ (WM ++ []), m2) QL) : GX X (M_LN nm) 14 0 0 1034 [vV (.ref X.1), rV 0, rV 64, iV (i : Int)] [] (WC ++ (WM ++ []), m) QL := by
  refine GX_aload_n d_L_law_1034 rfl ?_
  refine GX_arg1 (i := i) 1 rfl rfl rfl d_L_law_1035 d_L_law_1036 d_L_law_1037 d_L_law_1038 d_L_law_1039 (by omega) hL ?_
  refine GX_arg1 (i := i) 2 rfl rfl rfl d_L_law_1040 d_L_law_1041 d_L_law_1042 d_L_law_1043 d_L_law_1044 (by omega) hL ?_
  refine GX_cv (X := X) [iV ((X.2.2 (i + 1)).toInt), iV ((X.2.2 (i + 2)).toInt)] cl_L_119 rfl d_L_law_1045 (wk_0 _) rfl (Nat.le_of_ble_eq_true rfl) (by decide) (sp_Cworst s h.1 h.2.2.1 ((X.2.2 (i + 1)).toInt) (oi_rng _) ((X.2.2 (i + 2)).toInt) (oi_rng _)) ?_
  rintro _ _ ⟨rfl, m1, rfl, hc, hf⟩
  refine GX_aload_n d_L_law_1048 rfl ?_
  refine GX_arg1 (i := i) 1 rfl rfl rfl d_L_law_1049 d_L_law_1050 d_L_law_1051 d_L_law_1052 d_L_law_1053 (by omega) hL ?_
  refine GX_arg1 (i := i) 2 rfl rfl rfl d_L_law_1054 d_L_law_1055 d_L_law_1056 d_L_law_1057 d_L_law_1058 (by omega) hL ?_
  refine GX_cv (X := X) [iV ((X.2.2 (i + 1)).toInt), iV ((X.2.2 (i + 2)).toInt)] cl_L_122 rfl d_L_law_1059 (wk_64 _) rfl (Nat.le_of_ble_eq_true rfl) (by decide) (sp_Mworst s h.1 (h.mi hf) ((X.2.2 (i + 1)).toInt) (oi_rng _) ((X.2.2 (i + 2)).toInt) (oi_rng _)) ?_
  rintro _ _ ⟨rfl, m2, rfl, hk⟩
  refine GX_same 1457 d_L_law_1062 (by decide) ?_
  exact k _ _ (h.both (h.1) hc hf hk)
theorem arm_25 {nm : String} {X : Nat × Nat × (Nat → Int32)} (hL : X.2.1 ≤ 3072) {i : Nat} (hi : i + 6 ≤ X.2.1) {s : Nat → Int} {m : Nat → Nat → Int} (h : LRL s m) (k : ∀ s2 m2, LRL s2 m2 → GX X (M_LN nm) 14 0 0 1457 [vV (.ref X.1), rV 0, rV 64, iV (i : Int)] [] (WC ++ (WM ++ []), m2) QL) : GX X (M_LN nm) 14 0 0 1067 [vV (.ref X.1), rV 0, rV 64, iV (i : Int)] [] (WC ++ (WM ++ []), m) QL := by
  refine GX_aload_n d_L_law_1067 rfl ?_
  refine GX_arg1 (i := i) 1 rfl rfl rfl d_L_law_1068 d_L_law_1069 d_L_law_1070 d_L_law_1071 d_L_law_1072 (by omega) hL ?_
  refine GX_cv (X := X) [iV ((X.2.2 (i + 1)).toInt)] cl_L_123 rfl d_L_law_1073 (wk_0 _) rfl (Nat.le_of_ble_eq_true rfl) (by decide) (sp_Cstopped s h.1 h.2.2.1 ((X.2.2 (i + 1)).toInt) (oi_rng _)) ?_
  rintro _ _ ⟨rfl, m1, rfl, hc, hf⟩
  refine GX_aload_n d_L_law_1076 rfl ?_
  refine GX_arg1 (i := i) 1 rfl rfl rfl d_L_law_1077 d_L_law_1078 d_L_law_1079 d_L_law_1080 d_L_law_1081 (by omega) hL ?_
  refine GX_cv (X := X) [iV ((X.2.2 (i + 1)).toInt)] cl_L_126 rfl d_L_law_1082 (wk_64 _) rfl (Nat.le_of_ble_eq_true rfl) (by decide) (sp_Mstopped s h.1 (h.mi hf) ((X.2.2 (i + 1)).toInt) (oi_rng _)) ?_
  rintro _ _ ⟨rfl, m2, rfl, hk⟩
  refine GX_same 1457 d_L_law_1085 (by decide) ?_
  exact k _ _ (h.both (h.1) hc hf hk)
theorem arm_26 {nm : String} {X : Nat × Nat × (Nat → Int32)} (hL : X.2.1 ≤ 3072) {i : Nat} (hi : i + 6 ≤ X.2.1) {s : Nat → Int} {m : Nat → Nat → Int} (h : LRL s m) (k : ∀ s2 m2, LRL s2 m2 → GX X (M_LN nm) 14 0 0 1457 [vV (.ref X.1), rV 0, rV 64, iV (i : Int)] [] (WC ++ (WM ++ []), m2) QL) : GX X (M_LN nm) 14 0 0 1090 [vV (.ref X.1), rV 0, rV 64, iV (i : Int)] [] (WC ++ (WM ++ []), m) QL := by
  refine GX_aload_n d_L_law_1090 rfl ?_
  refine GX_arg1 (i := i) 1 rfl rfl rfl d_L_law_1091 d_L_law_1092 d_L_law_1093 d_L_law_1094 d_L_law_1095 (by omega) hL ?_
  refine GX_cv (X := X) [iV ((X.2.2 (i + 1)).toInt)] cl_L_127 rfl d_L_law_1096 (wk_0 _) rfl (Nat.le_of_ble_eq_true rfl) (by decide) (sp_Cspare s h.1 h.2.2.1 ((X.2.2 (i + 1)).toInt) (oi_rng _)) ?_
  rintro _ _ ⟨rfl, m1, rfl, hc, hf⟩
  refine GX_aload_n d_L_law_1099 rfl ?_
  refine GX_arg1 (i := i) 1 rfl rfl rfl d_L_law_1100 d_L_law_1101 d_L_law_1102 d_L_law_1103 d_L_law_1104 (by omega) hL ?_
  refine GX_cv (X := X) [iV ((X.2.2 (i + 1)).toInt)] cl_L_130 rfl d_L_law_1105 (wk_64 _) rfl (Nat.le_of_ble_eq_true rfl) (by decide) (sp_Mspare s h.1 (h.mi hf) ((X.2.2 (i + 1)).toInt) (oi_rng _)) ?_
  rintro _ _ ⟨rfl, m2, rfl, hk⟩
  refine GX_same 1457 d_L_law_1108 (by decide) ?_
  exact k _ _ (h.both (h.1) hc hf hk)
theorem arm_27 {nm : String} {X : Nat × Nat × (Nat → Int32)} (hL : X.2.1 ≤ 3072) {i : Nat} (hi : i + 6 ≤ X.2.1) {s : Nat → Int} {m : Nat → Nat → Int} (h : LRL s m) (k : ∀ s2 m2, LRL s2 m2 → GX X (M_LN nm) 14 0 0 1457 [vV (.ref X.1), rV 0, rV 64, iV (i : Int)] [] (WC ++ (WM ++ []), m2) QL) : GX X (M_LN nm) 14 0 0 1113 [vV (.ref X.1), rV 0, rV 64, iV (i : Int)] [] (WC ++ (WM ++ []), m) QL := by
  refine GX_aload_n d_L_law_1113 rfl ?_
  refine GX_cv (X := X) [] cl_L_131 rfl d_L_law_1114 (wk_0 _) rfl (Nat.le_of_ble_eq_true rfl) (by decide) (sp_Csoonest s h.1 h.2.2.1) ?_
  rintro _ _ ⟨rfl, m1, rfl, hc, hf⟩
  refine GX_aload_n d_L_law_1117 rfl ?_
  refine GX_cv (X := X) [] cl_L_134 rfl d_L_law_1118 (wk_64 _) rfl (Nat.le_of_ble_eq_true rfl) (by decide) (sp_Msoonest s h.1 (h.mi hf)) ?_
  rintro _ _ ⟨rfl, m2, rfl, hk⟩
  refine GX_same 1457 d_L_law_1121 (by decide) ?_
  exact k _ _ (h.both (h.1) hc hf hk)
theorem arm_28 {nm : String} {X : Nat × Nat × (Nat → Int32)} (hL : X.2.1 ≤ 3072) {i : Nat} (hi : i + 6 ≤ X.2.1) {s : Nat → Int} {m : Nat → Nat → Int} (h : LRL s m) (k : ∀ s2 m2, LRL s2 m2 → GX X (M_LN nm) 14 0 0 1457 [vV (.ref X.1), rV 0, rV 64, iV (i : Int)] [] (WC ++ (WM ++ []), m2) QL) : GX X (M_LN nm) 14 0 0 1126 [vV (.ref X.1), rV 0, rV 64, iV (i : Int)] [] (WC ++ (WM ++ []), m) QL := by
  refine GX_aload_n d_L_law_1126 rfl ?_
  refine GX_arg1 (i := i) 1 rfl rfl rfl d_L_law_1127 d_L_law_1128 d_L_law_1129 d_L_law_1130 d_L_law_1131 (by omega) hL ?_
  refine GX_cv (X := X) [iV ((X.2.2 (i + 1)).toInt)] cl_L_135 rfl d_L_law_1132 (wk_0 _) rfl (Nat.le_of_ble_eq_true rfl) (by decide) (sp_Clost s h.1 h.2.2.1 ((X.2.2 (i + 1)).toInt) (oi_rng _)) ?_
  rintro _ _ ⟨rfl, m1, rfl, hc, hf⟩
  refine GX_aload_n d_L_law_1135 rfl ?_
  refine GX_arg1 (i := i) 1 rfl rfl rfl d_L_law_1136 d_L_law_1137 d_L_law_1138 d_L_law_1139 d_L_law_1140 (by omega) hL ?_
  refine GX_cv (X := X) [iV ((X.2.2 (i + 1)).toInt)] cl_L_138 rfl d_L_law_1141 (wk_64 _) rfl (Nat.le_of_ble_eq_true rfl) (by decide) (sp_Mlost s h.1 (h.mi hf) ((X.2.2 (i + 1)).toInt) (oi_rng _)) ?_
  rintro _ _ ⟨rfl, m2, rfl, hk⟩
  refine GX_same 1457 d_L_law_1144 (by decide) ?_
  exact k _ _ (h.both (h.1) hc hf hk)
theorem arm_29 {nm : String} {X : Nat × Nat × (Nat → Int32)} (hL : X.2.1 ≤ 3072) {i : Nat} (hi : i + 6 ≤ X.2.1) {s : Nat → Int} {m : Nat → Nat → Int} (h : LRL s m) (k : ∀ s2 m2, LRL s2 m2 → GX X (M_LN nm) 14 0 0 1457 [vV (.ref X.1), rV 0, rV 64, iV (i : Int)] [] (WC ++ (WM ++ []), m2) QL) : GX X (M_LN nm) 14 0 0 1149 [vV (.ref X.1), rV 0, rV 64, iV (i : Int)] [] (WC ++ (WM ++ []), m) QL := by
  refine GX_aload_n d_L_law_1149 rfl ?_
  refine GX_arg1 (i := i) 1 rfl rfl rfl d_L_law_1150 d_L_law_1151 d_L_law_1152 d_L_law_1153 d_L_law_1154 (by omega) hL ?_
  refine GX_arg1 (i := i) 2 rfl rfl rfl d_L_law_1155 d_L_law_1156 d_L_law_1157 d_L_law_1158 d_L_law_1159 (by omega) hL ?_
  refine GX_cv (X := X) [iV ((X.2.2 (i + 1)).toInt), iV ((X.2.2 (i + 2)).toInt)] cl_L_139 rfl d_L_law_1160 (wk_0 _) rfl (Nat.le_of_ble_eq_true rfl) (by decide) (sp_Cearly s h.1 h.2.2.1 ((X.2.2 (i + 1)).toInt) (oi_rng _) ((X.2.2 (i + 2)).toInt) (oi_rng _)) ?_
  rintro _ _ ⟨rfl, m1, rfl, hc, hf⟩
  refine GX_aload_n d_L_law_1163 rfl ?_
  refine GX_arg1 (i := i) 1 rfl rfl rfl d_L_law_1164 d_L_law_1165 d_L_law_1166 d_L_law_1167 d_L_law_1168 (by omega) hL ?_
  refine GX_arg1 (i := i) 2 rfl rfl rfl d_L_law_1169 d_L_law_1170 d_L_law_1171 d_L_law_1172 d_L_law_1173 (by omega) hL ?_
  refine GX_cv (X := X) [iV ((X.2.2 (i + 1)).toInt), iV ((X.2.2 (i + 2)).toInt)] cl_L_142 rfl d_L_law_1174 (wk_64 _) rfl (Nat.le_of_ble_eq_true rfl) (by decide) (sp_Mearly s h.1 (h.mi hf) ((X.2.2 (i + 1)).toInt) (oi_rng _) ((X.2.2 (i + 2)).toInt) (oi_rng _)) ?_
  rintro _ _ ⟨rfl, m2, rfl, hk⟩
  refine GX_same 1457 d_L_law_1177 (by decide) ?_
  exact k _ _ (h.both (h.1) hc hf hk)
theorem arm_30 {nm : String} {X : Nat × Nat × (Nat → Int32)} (hL : X.2.1 ≤ 3072) {i : Nat} (hi : i + 6 ≤ X.2.1) {s : Nat → Int} {m : Nat → Nat → Int} (h : LRL s m) (k : ∀ s2 m2, LRL s2 m2 → GX X (M_LN nm) 14 0 0 1457 [vV (.ref X.1), rV 0, rV 64, iV (i : Int)] [] (WC ++ (WM ++ []), m2) QL) : GX X (M_LN nm) 14 0 0 1182 [vV (.ref X.1), rV 0, rV 64, iV (i : Int)] [] (WC ++ (WM ++ []), m) QL := by
  refine GX_aload_n d_L_law_1182 rfl ?_
  refine GX_arg1 (i := i) 1 rfl rfl rfl d_L_law_1183 d_L_law_1184 d_L_law_1185 d_L_law_1186 d_L_law_1187 (by omega) hL ?_
  refine GX_arg1 (i := i) 2 rfl rfl rfl d_L_law_1188 d_L_law_1189 d_L_law_1190 d_L_law_1191 d_L_law_1192 (by omega) hL ?_
  refine GX_cv (X := X) [iV ((X.2.2 (i + 1)).toInt), iV ((X.2.2 (i + 2)).toInt)] cl_L_143 rfl d_L_law_1193 (wk_0 _) rfl (Nat.le_of_ble_eq_true rfl) (by decide) (sp_Cuntil s h.1 h.2.2.1 ((X.2.2 (i + 1)).toInt) (oi_rng _) ((X.2.2 (i + 2)).toInt) (oi_rng _)) ?_
  rintro _ _ ⟨rfl, m1, rfl, hc, hf⟩
  refine GX_aload_n d_L_law_1196 rfl ?_
  refine GX_arg1 (i := i) 1 rfl rfl rfl d_L_law_1197 d_L_law_1198 d_L_law_1199 d_L_law_1200 d_L_law_1201 (by omega) hL ?_
  refine GX_arg1 (i := i) 2 rfl rfl rfl d_L_law_1202 d_L_law_1203 d_L_law_1204 d_L_law_1205 d_L_law_1206 (by omega) hL ?_
  refine GX_cv (X := X) [iV ((X.2.2 (i + 1)).toInt), iV ((X.2.2 (i + 2)).toInt)] cl_L_146 rfl d_L_law_1207 (wk_64 _) rfl (Nat.le_of_ble_eq_true rfl) (by decide) (sp_Muntil s h.1 (h.mi hf) ((X.2.2 (i + 1)).toInt) (oi_rng _) ((X.2.2 (i + 2)).toInt) (oi_rng _)) ?_
  rintro _ _ ⟨rfl, m2, rfl, hk⟩
  refine GX_same 1457 d_L_law_1210 (by decide) ?_
  exact k _ _ (h.both (h.1) hc hf hk)
theorem arm_31 {nm : String} {X : Nat × Nat × (Nat → Int32)} (hL : X.2.1 ≤ 3072) {i : Nat} (hi : i + 6 ≤ X.2.1) {s : Nat → Int} {m : Nat → Nat → Int} (h : LRL s m) (k : ∀ s2 m2, LRL s2 m2 → GX X (M_LN nm) 14 0 0 1457 [vV (.ref X.1), rV 0, rV 64, iV (i : Int)] [] (WC ++ (WM ++ []), m2) QL) : GX X (M_LN nm) 14 0 0 1215 [vV (.ref X.1), rV 0, rV 64, iV (i : Int)] [] (WC ++ (WM ++ []), m) QL := by
  refine GX_aload_n d_L_law_1215 rfl ?_
  refine GX_arg1 (i := i) 1 rfl rfl rfl d_L_law_1216 d_L_law_1217 d_L_law_1218 d_L_law_1219 d_L_law_1220 (by omega) hL ?_
  refine GX_cv (X := X) [iV ((X.2.2 (i + 1)).toInt)] cl_L_147 rfl d_L_law_1221 (wk_0 _) rfl (Nat.le_of_ble_eq_true rfl) (by decide) (sp_Cfewest s h.1 h.2.2.1 ((X.2.2 (i + 1)).toInt) (oi_rng _)) ?_
  rintro _ _ ⟨rfl, m1, rfl, hc, hf⟩
  refine GX_aload_n d_L_law_1224 rfl ?_
  refine GX_arg1 (i := i) 1 rfl rfl rfl d_L_law_1225 d_L_law_1226 d_L_law_1227 d_L_law_1228 d_L_law_1229 (by omega) hL ?_
  refine GX_cv (X := X) [iV ((X.2.2 (i + 1)).toInt)] cl_L_150 rfl d_L_law_1230 (wk_64 _) rfl (Nat.le_of_ble_eq_true rfl) (by decide) (sp_Mfewest s h.1 (h.mi hf) ((X.2.2 (i + 1)).toInt) (oi_rng _)) ?_
  rintro _ _ ⟨rfl, m2, rfl, hk⟩
  refine GX_same 1457 d_L_law_1233 (by decide) ?_
  exact k _ _ (h.both (h.1) hc hf hk)
theorem arm_32 {nm : String} {X : Nat × Nat × (Nat → Int32)} (hL : X.2.1 ≤ 3072) {i : Nat} (hi : i + 6 ≤ X.2.1) {s : Nat → Int} {m : Nat → Nat → Int} (h : LRL s m) (k : ∀ s2 m2, LRL s2 m2 → GX X (M_LN nm) 14 0 0 1457 [vV (.ref X.1), rV 0, rV 64, iV (i : Int)] [] (WC ++ (WM ++ []), m2) QL) : GX X (M_LN nm) 14 0 0 1238 [vV (.ref X.1), rV 0, rV 64, iV (i : Int)] [] (WC ++ (WM ++ []), m) QL := by
  refine GX_aload_n d_L_law_1238 rfl ?_
  refine GX_arg1 (i := i) 1 rfl rfl rfl d_L_law_1239 d_L_law_1240 d_L_law_1241 d_L_law_1242 d_L_law_1243 (by omega) hL ?_
  refine GX_cv (X := X) [iV ((X.2.2 (i + 1)).toInt)] cl_L_151 rfl d_L_law_1244 (wk_0 _) rfl (Nat.le_of_ble_eq_true rfl) (by decide) (sp_Ccogs s h.1 h.2.2.1 ((X.2.2 (i + 1)).toInt) (oi_rng _)) ?_
  rintro _ _ ⟨rfl, m1, rfl, hc, hf⟩
  refine GX_aload_n d_L_law_1247 rfl ?_
  refine GX_arg1 (i := i) 1 rfl rfl rfl d_L_law_1248 d_L_law_1249 d_L_law_1250 d_L_law_1251 d_L_law_1252 (by omega) hL ?_
  refine GX_cv (X := X) [iV ((X.2.2 (i + 1)).toInt)] cl_L_154 rfl d_L_law_1253 (wk_64 _) rfl (Nat.le_of_ble_eq_true rfl) (by decide) (sp_Mcogs s h.1 (h.mi hf) ((X.2.2 (i + 1)).toInt) (oi_rng _)) ?_
  rintro _ _ ⟨rfl, m2, rfl, hk⟩
  refine GX_same 1457 d_L_law_1256 (by decide) ?_
  exact k _ _ (h.both (h.1) hc hf hk)
theorem arm_33 {nm : String} {X : Nat × Nat × (Nat → Int32)} (hL : X.2.1 ≤ 3072) {i : Nat} (hi : i + 6 ≤ X.2.1) {s : Nat → Int} {m : Nat → Nat → Int} (h : LRL s m) (k : ∀ s2 m2, LRL s2 m2 → GX X (M_LN nm) 14 0 0 1457 [vV (.ref X.1), rV 0, rV 64, iV (i : Int)] [] (WC ++ (WM ++ []), m2) QL) : GX X (M_LN nm) 14 0 0 1261 [vV (.ref X.1), rV 0, rV 64, iV (i : Int)] [] (WC ++ (WM ++ []), m) QL := by
  refine GX_aload_n d_L_law_1261 rfl ?_
  refine GX_arg1 (i := i) 1 rfl rfl rfl d_L_law_1262 d_L_law_1263 d_L_law_1264 d_L_law_1265 d_L_law_1266 (by omega) hL ?_
  refine GX_cv (X := X) [iV ((X.2.2 (i + 1)).toInt)] cl_L_155 rfl d_L_law_1267 (wk_0 _) rfl (Nat.le_of_ble_eq_true rfl) (by decide) (sp_Cpower s h.1 h.2.2.1 ((X.2.2 (i + 1)).toInt) (oi_rng _)) ?_
  rintro _ _ ⟨rfl, m1, rfl, hc, hf⟩
  refine GX_aload_n d_L_law_1270 rfl ?_
  refine GX_arg1 (i := i) 1 rfl rfl rfl d_L_law_1271 d_L_law_1272 d_L_law_1273 d_L_law_1274 d_L_law_1275 (by omega) hL ?_
  refine GX_cv (X := X) [iV ((X.2.2 (i + 1)).toInt)] cl_L_159 rfl d_L_law_1276 (wk_64 _) rfl (Nat.le_of_ble_eq_true rfl) (by decide) (sp_Mpower s h.1 (h.mi hf) ((X.2.2 (i + 1)).toInt) (oi_rng _)) ?_
  rintro _ _ ⟨rfl, m2, rfl, hk⟩
  refine GX_lsame 1457 d_L_law_1279 d_L_law_1280 (by decide) ?_
  exact k _ _ (h.both (h.1) hc hf hk)
theorem arm_34 {nm : String} {X : Nat × Nat × (Nat → Int32)} (hL : X.2.1 ≤ 3072) {i : Nat} (hi : i + 6 ≤ X.2.1) {s : Nat → Int} {m : Nat → Nat → Int} (h : LRL s m) (k : ∀ s2 m2, LRL s2 m2 → GX X (M_LN nm) 14 0 0 1457 [vV (.ref X.1), rV 0, rV 64, iV (i : Int)] [] (WC ++ (WM ++ []), m2) QL) : GX X (M_LN nm) 14 0 0 1285 [vV (.ref X.1), rV 0, rV 64, iV (i : Int)] [] (WC ++ (WM ++ []), m) QL := by
  refine GX_aload_n d_L_law_1285 rfl ?_
  refine GX_arg1 (i := i) 1 rfl rfl rfl d_L_law_1286 d_L_law_1287 d_L_law_1288 d_L_law_1289 d_L_law_1290 (by omega) hL ?_
  refine GX_arg1 (i := i) 2 rfl rfl rfl d_L_law_1291 d_L_law_1292 d_L_law_1293 d_L_law_1294 d_L_law_1295 (by omega) hL ?_
  refine GX_arg1 (i := i) 3 rfl rfl rfl d_L_law_1296 d_L_law_1297 d_L_law_1298 d_L_law_1299 d_L_law_1300 (by omega) hL ?_
  refine GX_arg1 (i := i) 4 rfl rfl rfl d_L_law_1301 d_L_law_1302 d_L_law_1303 d_L_law_1304 d_L_law_1305 (by omega) hL ?_
  refine GX_arg1 (i := i) 5 rfl rfl rfl d_L_law_1306 d_L_law_1307 d_L_law_1308 d_L_law_1309 d_L_law_1310 (by omega) hL ?_
  refine GX_cv (X := X) [iV ((X.2.2 (i + 1)).toInt), iV ((X.2.2 (i + 2)).toInt), iV ((X.2.2 (i + 3)).toInt), iV ((X.2.2 (i + 4)).toInt), iV ((X.2.2 (i + 5)).toInt)] cl_L_160 rfl d_L_law_1311 (wk_0 _) rfl (Nat.le_of_ble_eq_true rfl) (by decide) (sp_Cwould s h.1 h.2.2.1 ((X.2.2 (i + 1)).toInt) (oi_rng _) ((X.2.2 (i + 2)).toInt) (oi_rng _) ((X.2.2 (i + 3)).toInt) (oi_rng _) ((X.2.2 (i + 4)).toInt) (oi_rng _) ((X.2.2 (i + 5)).toInt) (oi_rng _)) ?_
  rintro _ _ ⟨rfl, m1, rfl, hc, hf⟩
  refine GX_aload_n d_L_law_1314 rfl ?_
  refine GX_arg1 (i := i) 1 rfl rfl rfl d_L_law_1315 d_L_law_1316 d_L_law_1317 d_L_law_1318 d_L_law_1319 (by omega) hL ?_
  refine GX_arg1 (i := i) 2 rfl rfl rfl d_L_law_1320 d_L_law_1321 d_L_law_1322 d_L_law_1323 d_L_law_1324 (by omega) hL ?_
  refine GX_arg1 (i := i) 3 rfl rfl rfl d_L_law_1325 d_L_law_1326 d_L_law_1327 d_L_law_1328 d_L_law_1329 (by omega) hL ?_
  refine GX_arg1 (i := i) 4 rfl rfl rfl d_L_law_1330 d_L_law_1331 d_L_law_1332 d_L_law_1333 d_L_law_1334 (by omega) hL ?_
  refine GX_arg1 (i := i) 5 rfl rfl rfl d_L_law_1335 d_L_law_1336 d_L_law_1337 d_L_law_1338 d_L_law_1339 (by omega) hL ?_
  refine GX_cv (X := X) [iV ((X.2.2 (i + 1)).toInt), iV ((X.2.2 (i + 2)).toInt), iV ((X.2.2 (i + 3)).toInt), iV ((X.2.2 (i + 4)).toInt), iV ((X.2.2 (i + 5)).toInt)] cl_L_163 rfl d_L_law_1340 (wk_64 _) rfl (Nat.le_of_ble_eq_true rfl) (by decide) (sp_Mwould s h.1 (h.mi hf) ((X.2.2 (i + 1)).toInt) (oi_rng _) ((X.2.2 (i + 2)).toInt) (oi_rng _) ((X.2.2 (i + 3)).toInt) (oi_rng _) ((X.2.2 (i + 4)).toInt) (oi_rng _) ((X.2.2 (i + 5)).toInt) (oi_rng _)) ?_
  rintro _ _ ⟨rfl, m2, rfl, hk⟩
  refine GX_same 1457 d_L_law_1343 (by decide) ?_
  exact k _ _ (h.both (h.1) hc hf hk)
theorem arm_35 {nm : String} {X : Nat × Nat × (Nat → Int32)} (hL : X.2.1 ≤ 3072) {i : Nat} (hi : i + 6 ≤ X.2.1) {s : Nat → Int} {m : Nat → Nat → Int} (h : LRL s m) (k : ∀ s2 m2, LRL s2 m2 → GX X (M_LN nm) 14 0 0 1457 [vV (.ref X.1), rV 0, rV 64, iV (i : Int)] [] (WC ++ (WM ++ []), m2) QL) : GX X (M_LN nm) 14 0 0 1348 [vV (.ref X.1), rV 0, rV 64, iV (i : Int)] [] (WC ++ (WM ++ []), m) QL := by
  refine GX_aload_n d_L_law_1348 rfl ?_
  refine GX_arg1 (i := i) 1 rfl rfl rfl d_L_law_1349 d_L_law_1350 d_L_law_1351 d_L_law_1352 d_L_law_1353 (by omega) hL ?_
  refine GX_cv (X := X) [iV ((X.2.2 (i + 1)).toInt)] cl_L_164 rfl d_L_law_1354 (wk_0 _) rfl (Nat.le_of_ble_eq_true rfl) (by decide) (sp_Cshare s h.1 h.2.2.1 ((X.2.2 (i + 1)).toInt) (oi_rng _)) ?_
  rintro _ _ ⟨rfl, m1, rfl, hc, hf⟩
  refine GX_aload_n d_L_law_1357 rfl ?_
  refine GX_arg1 (i := i) 1 rfl rfl rfl d_L_law_1358 d_L_law_1359 d_L_law_1360 d_L_law_1361 d_L_law_1362 (by omega) hL ?_
  refine GX_cv (X := X) [iV ((X.2.2 (i + 1)).toInt)] cl_L_167 rfl d_L_law_1363 (wk_64 _) rfl (Nat.le_of_ble_eq_true rfl) (by decide) (sp_Mshare s h.1 (h.mi hf) ((X.2.2 (i + 1)).toInt) (oi_rng _)) ?_
  rintro _ _ ⟨rfl, m2, rfl, hk⟩
  refine GX_same 1457 d_L_law_1366 (by decide) ?_
  exact k _ _ (h.both (h.1) hc hf hk)
theorem arm_36 {nm : String} {X : Nat × Nat × (Nat → Int32)} (hL : X.2.1 ≤ 3072) {i : Nat} (hi : i + 6 ≤ X.2.1) {s : Nat → Int} {m : Nat → Nat → Int} (h : LRL s m) (k : ∀ s2 m2, LRL s2 m2 → GX X (M_LN nm) 14 0 0 1457 [vV (.ref X.1), rV 0, rV 64, iV (i : Int)] [] (WC ++ (WM ++ []), m2) QL) : GX X (M_LN nm) 14 0 0 1371 [vV (.ref X.1), rV 0, rV 64, iV (i : Int)] [] (WC ++ (WM ++ []), m) QL := by
  refine GX_aload_n d_L_law_1371 rfl ?_
  refine GX_arg1 (i := i) 1 rfl rfl rfl d_L_law_1372 d_L_law_1373 d_L_law_1374 d_L_law_1375 d_L_law_1376 (by omega) hL ?_
  refine GX_cv (X := X) [iV ((X.2.2 (i + 1)).toInt)] cl_L_168 rfl d_L_law_1377 (wk_0 _) rfl (Nat.le_of_ble_eq_true rfl) (by decide) (sp_Cpart s h.1 h.2.2.1 ((X.2.2 (i + 1)).toInt) (oi_rng _)) ?_
  rintro _ _ ⟨rfl, m1, rfl, hc, hf⟩
  refine GX_aload_n d_L_law_1380 rfl ?_
  refine GX_arg1 (i := i) 1 rfl rfl rfl d_L_law_1381 d_L_law_1382 d_L_law_1383 d_L_law_1384 d_L_law_1385 (by omega) hL ?_
  refine GX_cv (X := X) [iV ((X.2.2 (i + 1)).toInt)] cl_L_171 rfl d_L_law_1386 (wk_64 _) rfl (Nat.le_of_ble_eq_true rfl) (by decide) (sp_Mpart s h.1 (h.mi hf) ((X.2.2 (i + 1)).toInt) (oi_rng _)) ?_
  rintro _ _ ⟨rfl, m2, rfl, hk⟩
  refine GX_lsame 1457 d_L_law_1389 d_L_law_1390 (by decide) ?_
  exact k _ _ (h.both (h.1) hc hf hk)
