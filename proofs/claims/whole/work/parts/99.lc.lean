/-! the law: its cases -/
/-- 17: scene -/
theorem cs_17 {p : Program} {l : Launch} {e : Env} {s : State} {m : MethodId} {below : List Frame} {meth : Method} {c : Code} {b L : Nat} {xs : Nat → Int32} {D : va_G} {cA : Nat → ClassId} (C : LC p s m meth c b L xs D cA) {n : Nat} {h : JH} (hn : n + 7 ≤ L) (I : Inv h) (kk : ∀ h', Inv h' → LAt p l e s m below meth c b D cA n 1709 [] h') : LAt p l e s m below meth c b D cA n 891 [] h := by
  refine l_x1 C (q := 892) dL_law_891 rfl ?_
  refine l_arg C (k := 1) (q := 897) hn (by decide) rfl dL_law_892 dL_law_893 dL_law_894 dL_law_895 dL_law_896 rfl ?_
  refine l_arg C (k := 2) (q := 902) hn (by decide) rfl dL_law_897 dL_law_898 dL_law_899 dL_law_900 dL_law_901 rfl ?_
  refine l_call C (q := 905) (a := 0) dL_law_902 rfl ml_L_87 mv_X11_scene rfl rfl (Nat.le_of_ble_eq_true rfl) (Or.inl ⟨rfl, rfl⟩) (pr_scene (d := 20) I) (fun r h1 z1 => ?_)
  obtain ⟨v1, rfl, R1⟩ := z1
  refine l_x2 C (q := 906) dL_law_905 rfl ?_
  refine l_arg C (k := 1) (q := 911) hn (by decide) rfl dL_law_906 dL_law_907 dL_law_908 dL_law_909 dL_law_910 rfl ?_
  refine l_arg C (k := 2) (q := 916) hn (by decide) rfl dL_law_911 dL_law_912 dL_law_913 dL_law_914 dL_law_915 rfl ?_
  refine l_call C (q := 919) (a := 117) dL_law_916 rfl ml_L_90 mv_X12_scene rfl rfl (Nat.le_of_ble_eq_true rfl) (Or.inr ⟨rfl, rfl⟩) R1 (fun r h2 z2 => ?_)
  obtain ⟨v2, rfl, e2, I2⟩ := z2
  exact l_eq C dL_law_919 (by decide) e2 (kk _ I2)

/-- 18: hands -/
theorem cs_18 {p : Program} {l : Launch} {e : Env} {s : State} {m : MethodId} {below : List Frame} {meth : Method} {c : Code} {b L : Nat} {xs : Nat → Int32} {D : va_G} {cA : Nat → ClassId} (C : LC p s m meth c b L xs D cA) {n : Nat} {h : JH} (hn : n + 7 ≤ L) (I : Inv h) (kk : ∀ h', Inv h' → LAt p l e s m below meth c b D cA n 1709 [] h') : LAt p l e s m below meth c b D cA n 924 [] h := by
  refine l_x1 C (q := 925) dL_law_924 rfl ?_
  refine l_call C (q := 928) (a := 0) dL_law_925 rfl ml_L_91 mv_X11_hands rfl rfl (Nat.le_of_ble_eq_true rfl) (Or.inl ⟨rfl, rfl⟩) (pr_hands (d := 20) I) (fun r h1 z1 => ?_)
  obtain ⟨v1, rfl, R1⟩ := z1
  refine l_x2 C (q := 929) dL_law_928 rfl ?_
  refine l_call C (q := 932) (a := 117) dL_law_929 rfl ml_L_95 mv_X12_hands rfl rfl (Nat.le_of_ble_eq_true rfl) (Or.inr ⟨rfl, rfl⟩) R1 (fun r h2 z2 => ?_)
  obtain ⟨v2, rfl, e2, I2⟩ := z2
  exact l_eq C dL_law_932 (by decide) e2 (kk _ I2)

/-- 19: third -/
theorem cs_19 {p : Program} {l : Launch} {e : Env} {s : State} {m : MethodId} {below : List Frame} {meth : Method} {c : Code} {b L : Nat} {xs : Nat → Int32} {D : va_G} {cA : Nat → ClassId} (C : LC p s m meth c b L xs D cA) {n : Nat} {h : JH} (hn : n + 7 ≤ L) (I : Inv h) (kk : ∀ h', Inv h' → LAt p l e s m below meth c b D cA n 1709 [] h') : LAt p l e s m below meth c b D cA n 937 [] h := by
  refine l_x1 C (q := 938) dL_law_937 rfl ?_
  refine l_call C (q := 941) (a := 0) dL_law_938 rfl ml_L_96 mv_X11_third rfl rfl (Nat.le_of_ble_eq_true rfl) (Or.inl ⟨rfl, rfl⟩) (pr_third (d := 20) I) (fun r h1 z1 => ?_)
  obtain ⟨v1, rfl, R1⟩ := z1
  refine l_x2 C (q := 942) dL_law_941 rfl ?_
  refine l_call C (q := 945) (a := 117) dL_law_942 rfl ml_L_99 mv_X12_third rfl rfl (Nat.le_of_ble_eq_true rfl) (Or.inr ⟨rfl, rfl⟩) R1 (fun r h2 z2 => ?_)
  obtain ⟨v2, rfl, e2, I2⟩ := z2
  exact l_eq C dL_law_945 (by decide) e2 (kk _ I2)

/-- 20: takings -/
theorem cs_20 {p : Program} {l : Launch} {e : Env} {s : State} {m : MethodId} {below : List Frame} {meth : Method} {c : Code} {b L : Nat} {xs : Nat → Int32} {D : va_G} {cA : Nat → ClassId} (C : LC p s m meth c b L xs D cA) {n : Nat} {h : JH} (hn : n + 7 ≤ L) (I : Inv h) (kk : ∀ h', Inv h' → LAt p l e s m below meth c b D cA n 1709 [] h') : LAt p l e s m below meth c b D cA n 950 [] h := by
  refine l_x1 C (q := 951) dL_law_950 rfl ?_
  refine l_call C (q := 954) (a := 0) dL_law_951 rfl ml_L_100 mv_X11_takings rfl rfl (Nat.le_of_ble_eq_true rfl) (Or.inl ⟨rfl, rfl⟩) (pr_takings (d := 20) I) (fun r h1 z1 => ?_)
  obtain ⟨v1, rfl, R1⟩ := z1
  refine l_x2 C (q := 955) dL_law_954 rfl ?_
  refine l_call C (q := 958) (a := 117) dL_law_955 rfl ml_L_103 mv_X12_takings rfl rfl (Nat.le_of_ble_eq_true rfl) (Or.inr ⟨rfl, rfl⟩) R1 (fun r h2 z2 => ?_)
  obtain ⟨v2, rfl, e2, I2⟩ := z2
  exact l_eq C dL_law_958 (by decide) e2 (kk _ I2)

/-- 21: reaching -/
theorem cs_21 {p : Program} {l : Launch} {e : Env} {s : State} {m : MethodId} {below : List Frame} {meth : Method} {c : Code} {b L : Nat} {xs : Nat → Int32} {D : va_G} {cA : Nat → ClassId} (C : LC p s m meth c b L xs D cA) {n : Nat} {h : JH} (hn : n + 7 ≤ L) (I : Inv h) (kk : ∀ h', Inv h' → LAt p l e s m below meth c b D cA n 1709 [] h') : LAt p l e s m below meth c b D cA n 963 [] h := by
  refine l_x1 C (q := 964) dL_law_963 rfl ?_
  refine l_arg C (k := 1) (q := 969) hn (by decide) rfl dL_law_964 dL_law_965 dL_law_966 dL_law_967 dL_law_968 rfl ?_
  refine l_call C (q := 972) (a := 0) dL_law_969 rfl ml_L_104 mv_X11_reaching rfl rfl (Nat.le_of_ble_eq_true rfl) (Or.inl ⟨rfl, rfl⟩) (pr_reaching (d := 20) I) (fun r h1 z1 => ?_)
  obtain ⟨v1, rfl, R1⟩ := z1
  refine l_x2 C (q := 973) dL_law_972 rfl ?_
  refine l_arg C (k := 1) (q := 978) hn (by decide) rfl dL_law_973 dL_law_974 dL_law_975 dL_law_976 dL_law_977 rfl ?_
  refine l_call C (q := 981) (a := 117) dL_law_978 rfl ml_L_107 mv_X12_reaching rfl rfl (Nat.le_of_ble_eq_true rfl) (Or.inr ⟨rfl, rfl⟩) R1 (fun r h2 z2 => ?_)
  obtain ⟨v2, rfl, e2, I2⟩ := z2
  exact l_eq C dL_law_981 (by decide) e2 (kk _ I2)

/-- 22: trunk -/
theorem cs_22 {p : Program} {l : Launch} {e : Env} {s : State} {m : MethodId} {below : List Frame} {meth : Method} {c : Code} {b L : Nat} {xs : Nat → Int32} {D : va_G} {cA : Nat → ClassId} (C : LC p s m meth c b L xs D cA) {n : Nat} {h : JH} (hn : n + 7 ≤ L) (I : Inv h) (kk : ∀ h', Inv h' → LAt p l e s m below meth c b D cA n 1709 [] h') : LAt p l e s m below meth c b D cA n 986 [] h := by
  refine l_x1 C (q := 987) dL_law_986 rfl ?_
  refine l_arg C (k := 1) (q := 992) hn (by decide) rfl dL_law_987 dL_law_988 dL_law_989 dL_law_990 dL_law_991 rfl ?_
  refine l_call C (q := 995) (a := 0) dL_law_992 rfl ml_L_108 mv_X11_trunk rfl rfl (Nat.le_of_ble_eq_true rfl) (Or.inl ⟨rfl, rfl⟩) (pr_trunk (d := 20) I) (fun r h1 z1 => ?_)
  obtain ⟨v1, rfl, R1⟩ := z1
  refine l_x2 C (q := 996) dL_law_995 rfl ?_
  refine l_arg C (k := 1) (q := 1001) hn (by decide) rfl dL_law_996 dL_law_997 dL_law_998 dL_law_999 dL_law_1000 rfl ?_
  refine l_call C (q := 1004) (a := 117) dL_law_1001 rfl ml_L_111 mv_X12_trunk rfl rfl (Nat.le_of_ble_eq_true rfl) (Or.inr ⟨rfl, rfl⟩) R1 (fun r h2 z2 => ?_)
  obtain ⟨v2, rfl, e2, I2⟩ := z2
  exact l_eq C dL_law_1004 (by decide) e2 (kk _ I2)

/-- 23: markScene -/
theorem cs_23 {p : Program} {l : Launch} {e : Env} {s : State} {m : MethodId} {below : List Frame} {meth : Method} {c : Code} {b L : Nat} {xs : Nat → Int32} {D : va_G} {cA : Nat → ClassId} (C : LC p s m meth c b L xs D cA) {n : Nat} {h : JH} (hn : n + 7 ≤ L) (I : Inv h) (kk : ∀ h', Inv h' → LAt p l e s m below meth c b D cA n 1709 [] h') : LAt p l e s m below meth c b D cA n 1009 [] h := by
  refine l_x1 C (q := 1010) dL_law_1009 rfl ?_
  refine l_arg C (k := 1) (q := 1015) hn (by decide) rfl dL_law_1010 dL_law_1011 dL_law_1012 dL_law_1013 dL_law_1014 rfl ?_
  refine l_arg C (k := 2) (q := 1020) hn (by decide) rfl dL_law_1015 dL_law_1016 dL_law_1017 dL_law_1018 dL_law_1019 rfl ?_
  refine l_arg C (k := 3) (q := 1025) hn (by decide) rfl dL_law_1020 dL_law_1021 dL_law_1022 dL_law_1023 dL_law_1024 rfl ?_
  refine l_call C (q := 1028) (a := 0) dL_law_1025 rfl ml_L_112 mv_X11_markScene rfl rfl (Nat.le_of_ble_eq_true rfl) (Or.inl ⟨rfl, rfl⟩) (pr_markScene (d := 20) I) (fun r h1 z1 => ?_)
  obtain ⟨v1, rfl, R1⟩ := z1
  refine l_x2 C (q := 1029) dL_law_1028 rfl ?_
  refine l_arg C (k := 1) (q := 1034) hn (by decide) rfl dL_law_1029 dL_law_1030 dL_law_1031 dL_law_1032 dL_law_1033 rfl ?_
  refine l_arg C (k := 2) (q := 1039) hn (by decide) rfl dL_law_1034 dL_law_1035 dL_law_1036 dL_law_1037 dL_law_1038 rfl ?_
  refine l_arg C (k := 3) (q := 1044) hn (by decide) rfl dL_law_1039 dL_law_1040 dL_law_1041 dL_law_1042 dL_law_1043 rfl ?_
  refine l_call C (q := 1047) (a := 117) dL_law_1044 rfl ml_L_115 mv_X12_markScene rfl rfl (Nat.le_of_ble_eq_true rfl) (Or.inr ⟨rfl, rfl⟩) R1 (fun r h2 z2 => ?_)
  obtain ⟨v2, rfl, e2, I2⟩ := z2
  exact l_eq C dL_law_1047 (by decide) e2 (kk _ I2)

/-- 24: need -/
theorem cs_24 {p : Program} {l : Launch} {e : Env} {s : State} {m : MethodId} {below : List Frame} {meth : Method} {c : Code} {b L : Nat} {xs : Nat → Int32} {D : va_G} {cA : Nat → ClassId} (C : LC p s m meth c b L xs D cA) {n : Nat} {h : JH} (hn : n + 7 ≤ L) (I : Inv h) (kk : ∀ h', Inv h' → LAt p l e s m below meth c b D cA n 1709 [] h') : LAt p l e s m below meth c b D cA n 1052 [] h := by
  refine l_x1 C (q := 1053) dL_law_1052 rfl ?_
  refine l_arg C (k := 1) (q := 1058) hn (by decide) rfl dL_law_1053 dL_law_1054 dL_law_1055 dL_law_1056 dL_law_1057 rfl ?_
  refine l_arg C (k := 2) (q := 1063) hn (by decide) rfl dL_law_1058 dL_law_1059 dL_law_1060 dL_law_1061 dL_law_1062 rfl ?_
  refine l_call C (q := 1066) (a := 0) dL_law_1063 rfl ml_L_116 mv_X11_need rfl rfl (Nat.le_of_ble_eq_true rfl) (Or.inl ⟨rfl, rfl⟩) (pr_need (d := 20) I) (fun r h1 z1 => ?_)
  obtain ⟨v1, rfl, R1⟩ := z1
  refine l_x2 C (q := 1067) dL_law_1066 rfl ?_
  refine l_arg C (k := 1) (q := 1072) hn (by decide) rfl dL_law_1067 dL_law_1068 dL_law_1069 dL_law_1070 dL_law_1071 rfl ?_
  refine l_arg C (k := 2) (q := 1077) hn (by decide) rfl dL_law_1072 dL_law_1073 dL_law_1074 dL_law_1075 dL_law_1076 rfl ?_
  refine l_call C (q := 1080) (a := 117) dL_law_1077 rfl ml_L_119 mv_X12_need rfl rfl (Nat.le_of_ble_eq_true rfl) (Or.inr ⟨rfl, rfl⟩) R1 (fun r h2 z2 => ?_)
  obtain ⟨v2, rfl, e2, I2⟩ := z2
  exact l_eq C dL_law_1080 (by decide) e2 (kk _ I2)

/-- 25: good -/
theorem cs_25 {p : Program} {l : Launch} {e : Env} {s : State} {m : MethodId} {below : List Frame} {meth : Method} {c : Code} {b L : Nat} {xs : Nat → Int32} {D : va_G} {cA : Nat → ClassId} (C : LC p s m meth c b L xs D cA) {n : Nat} {h : JH} (hn : n + 7 ≤ L) (I : Inv h) (kk : ∀ h', Inv h' → LAt p l e s m below meth c b D cA n 1709 [] h') : LAt p l e s m below meth c b D cA n 1085 [] h := by
  refine l_x1 C (q := 1086) dL_law_1085 rfl ?_
  refine l_arg C (k := 1) (q := 1091) hn (by decide) rfl dL_law_1086 dL_law_1087 dL_law_1088 dL_law_1089 dL_law_1090 rfl ?_
  refine l_call C (q := 1094) (a := 0) dL_law_1091 rfl ml_L_120 mv_X11_good rfl rfl (Nat.le_of_ble_eq_true rfl) (Or.inl ⟨rfl, rfl⟩) (pr_good (d := 20) I) (fun r h1 z1 => ?_)
  obtain ⟨v1, rfl, R1⟩ := z1
  refine l_x2 C (q := 1095) dL_law_1094 rfl ?_
  refine l_arg C (k := 1) (q := 1100) hn (by decide) rfl dL_law_1095 dL_law_1096 dL_law_1097 dL_law_1098 dL_law_1099 rfl ?_
  refine l_call C (q := 1103) (a := 117) dL_law_1100 rfl ml_L_123 mv_X12_good rfl rfl (Nat.le_of_ble_eq_true rfl) (Or.inr ⟨rfl, rfl⟩) R1 (fun r h2 z2 => ?_)
  obtain ⟨v2, rfl, e2, I2⟩ := z2
  exact l_eq C dL_law_1103 (by decide) e2 (kk _ I2)

/-- 26: best -/
theorem cs_26 {p : Program} {l : Launch} {e : Env} {s : State} {m : MethodId} {below : List Frame} {meth : Method} {c : Code} {b L : Nat} {xs : Nat → Int32} {D : va_G} {cA : Nat → ClassId} (C : LC p s m meth c b L xs D cA) {n : Nat} {h : JH} (hn : n + 7 ≤ L) (I : Inv h) (kk : ∀ h', Inv h' → LAt p l e s m below meth c b D cA n 1709 [] h') : LAt p l e s m below meth c b D cA n 1108 [] h := by
  refine l_x1 C (q := 1109) dL_law_1108 rfl ?_
  refine l_call C (q := 1112) (a := 0) dL_law_1109 rfl ml_L_124 mv_X11_best rfl rfl (Nat.le_of_ble_eq_true rfl) (Or.inl ⟨rfl, rfl⟩) (pr_best (d := 4) I) (fun r h1 z1 => ?_)
  obtain ⟨v1, rfl, R1⟩ := z1
  refine l_x2 C (q := 1113) dL_law_1112 rfl ?_
  refine l_call C (q := 1116) (a := 117) dL_law_1113 rfl ml_L_127 mv_X12_best rfl rfl (Nat.le_of_ble_eq_true rfl) (Or.inr ⟨rfl, rfl⟩) R1 (fun r h2 z2 => ?_)
  obtain ⟨v2, rfl, e2, I2⟩ := z2
  exact l_eq C dL_law_1116 (by decide) e2 (kk _ I2)

/-- 27: begins -/
theorem cs_27 {p : Program} {l : Launch} {e : Env} {s : State} {m : MethodId} {below : List Frame} {meth : Method} {c : Code} {b L : Nat} {xs : Nat → Int32} {D : va_G} {cA : Nat → ClassId} (C : LC p s m meth c b L xs D cA) {n : Nat} {h : JH} (hn : n + 7 ≤ L) (I : Inv h) (kk : ∀ h', Inv h' → LAt p l e s m below meth c b D cA n 1709 [] h') : LAt p l e s m below meth c b D cA n 1121 [] h := by
  refine l_x1 C (q := 1122) dL_law_1121 rfl ?_
  refine l_arg C (k := 1) (q := 1127) hn (by decide) rfl dL_law_1122 dL_law_1123 dL_law_1124 dL_law_1125 dL_law_1126 rfl ?_
  refine l_arg C (k := 2) (q := 1132) hn (by decide) rfl dL_law_1127 dL_law_1128 dL_law_1129 dL_law_1130 dL_law_1131 rfl ?_
  refine l_call C (q := 1135) (a := 0) dL_law_1132 rfl ml_L_128 mv_X11_begins rfl rfl (Nat.le_of_ble_eq_true rfl) (Or.inl ⟨rfl, rfl⟩) (pr_begins (d := 20) I) (fun r h1 z1 => ?_)
  obtain ⟨v1, rfl, R1⟩ := z1
  refine l_x2 C (q := 1136) dL_law_1135 rfl ?_
  refine l_arg C (k := 1) (q := 1141) hn (by decide) rfl dL_law_1136 dL_law_1137 dL_law_1138 dL_law_1139 dL_law_1140 rfl ?_
  refine l_arg C (k := 2) (q := 1146) hn (by decide) rfl dL_law_1141 dL_law_1142 dL_law_1143 dL_law_1144 dL_law_1145 rfl ?_
  refine l_call C (q := 1149) (a := 117) dL_law_1146 rfl ml_L_131 mv_X12_begins rfl rfl (Nat.le_of_ble_eq_true rfl) (Or.inr ⟨rfl, rfl⟩) R1 (fun r h2 z2 => ?_)
  obtain ⟨v2, rfl, e2, I2⟩ := z2
  exact l_eq C dL_law_1149 (by decide) e2 (kk _ I2)

/-- 28: laughter -/
theorem cs_28 {p : Program} {l : Launch} {e : Env} {s : State} {m : MethodId} {below : List Frame} {meth : Method} {c : Code} {b L : Nat} {xs : Nat → Int32} {D : va_G} {cA : Nat → ClassId} (C : LC p s m meth c b L xs D cA) {n : Nat} {h : JH} (hn : n + 7 ≤ L) (I : Inv h) (kk : ∀ h', Inv h' → LAt p l e s m below meth c b D cA n 1709 [] h') : LAt p l e s m below meth c b D cA n 1154 [] h := by
  refine l_x1 C (q := 1155) dL_law_1154 rfl ?_
  refine l_arg C (k := 1) (q := 1160) hn (by decide) rfl dL_law_1155 dL_law_1156 dL_law_1157 dL_law_1158 dL_law_1159 rfl ?_
  refine l_arg C (k := 2) (q := 1165) hn (by decide) rfl dL_law_1160 dL_law_1161 dL_law_1162 dL_law_1163 dL_law_1164 rfl ?_
  refine l_call C (q := 1168) (a := 0) dL_law_1165 rfl ml_L_132 mv_X11_laughter rfl rfl (Nat.le_of_ble_eq_true rfl) (Or.inl ⟨rfl, rfl⟩) (pr_laughter (d := 20) I) (fun r h1 z1 => ?_)
  obtain ⟨v1, rfl, R1⟩ := z1
  refine l_x2 C (q := 1169) dL_law_1168 rfl ?_
  refine l_arg C (k := 1) (q := 1174) hn (by decide) rfl dL_law_1169 dL_law_1170 dL_law_1171 dL_law_1172 dL_law_1173 rfl ?_
  refine l_arg C (k := 2) (q := 1179) hn (by decide) rfl dL_law_1174 dL_law_1175 dL_law_1176 dL_law_1177 dL_law_1178 rfl ?_
  refine l_call C (q := 1182) (a := 117) dL_law_1179 rfl ml_L_135 mv_X12_laughter rfl rfl (Nat.le_of_ble_eq_true rfl) (Or.inr ⟨rfl, rfl⟩) R1 (fun r h2 z2 => ?_)
  obtain ⟨v2, rfl, e2, I2⟩ := z2
  exact l_eq C dL_law_1182 (by decide) e2 (kk _ I2)

/-- 29: tale -/
theorem cs_29 {p : Program} {l : Launch} {e : Env} {s : State} {m : MethodId} {below : List Frame} {meth : Method} {c : Code} {b L : Nat} {xs : Nat → Int32} {D : va_G} {cA : Nat → ClassId} (C : LC p s m meth c b L xs D cA) {n : Nat} {h : JH} (hn : n + 7 ≤ L) (I : Inv h) (kk : ∀ h', Inv h' → LAt p l e s m below meth c b D cA n 1709 [] h') : LAt p l e s m below meth c b D cA n 1187 [] h := by
  refine l_x1 C (q := 1188) dL_law_1187 rfl ?_
  refine l_arg C (k := 1) (q := 1193) hn (by decide) rfl dL_law_1188 dL_law_1189 dL_law_1190 dL_law_1191 dL_law_1192 rfl ?_
  refine l_call C (q := 1196) (a := 0) dL_law_1193 rfl ml_L_136 mv_X11_tale rfl rfl (Nat.le_of_ble_eq_true rfl) (Or.inl ⟨rfl, rfl⟩) (pr_tale (d := 4) I) (fun r h1 z1 => ?_)
  obtain ⟨v1, rfl, R1⟩ := z1
  refine l_x2 C (q := 1197) dL_law_1196 rfl ?_
  refine l_arg C (k := 1) (q := 1202) hn (by decide) rfl dL_law_1197 dL_law_1198 dL_law_1199 dL_law_1200 dL_law_1201 rfl ?_
  refine l_call C (q := 1205) (a := 117) dL_law_1202 rfl ml_L_139 mv_X12_tale rfl rfl (Nat.le_of_ble_eq_true rfl) (Or.inr ⟨rfl, rfl⟩) R1 (fun r h2 z2 => ?_)
  obtain ⟨v2, rfl, e2, I2⟩ := z2
  exact l_eq C dL_law_1205 (by decide) e2 (kk _ I2)

/-- 30: knock -/
theorem cs_30 {p : Program} {l : Launch} {e : Env} {s : State} {m : MethodId} {below : List Frame} {meth : Method} {c : Code} {b L : Nat} {xs : Nat → Int32} {D : va_G} {cA : Nat → ClassId} (C : LC p s m meth c b L xs D cA) {n : Nat} {h : JH} (hn : n + 7 ≤ L) (I : Inv h) (kk : ∀ h', Inv h' → LAt p l e s m below meth c b D cA n 1709 [] h') : LAt p l e s m below meth c b D cA n 1210 [] h := by
  refine l_x1 C (q := 1211) dL_law_1210 rfl ?_
  refine l_arg C (k := 1) (q := 1216) hn (by decide) rfl dL_law_1211 dL_law_1212 dL_law_1213 dL_law_1214 dL_law_1215 rfl ?_
  refine l_arg C (k := 2) (q := 1221) hn (by decide) rfl dL_law_1216 dL_law_1217 dL_law_1218 dL_law_1219 dL_law_1220 rfl ?_
  refine l_call C (q := 1224) (a := 0) dL_law_1221 rfl ml_L_140 mv_X11_knock rfl rfl (Nat.le_of_ble_eq_true rfl) (Or.inl ⟨rfl, rfl⟩) (pr_knock (d := 20) I) (fun r h1 z1 => ?_)
  obtain ⟨v1, rfl, R1⟩ := z1
  refine l_x2 C (q := 1225) dL_law_1224 rfl ?_
  refine l_arg C (k := 1) (q := 1230) hn (by decide) rfl dL_law_1225 dL_law_1226 dL_law_1227 dL_law_1228 dL_law_1229 rfl ?_
  refine l_arg C (k := 2) (q := 1235) hn (by decide) rfl dL_law_1230 dL_law_1231 dL_law_1232 dL_law_1233 dL_law_1234 rfl ?_
  refine l_call C (q := 1238) (a := 117) dL_law_1235 rfl ml_L_143 mv_X12_knock rfl rfl (Nat.le_of_ble_eq_true rfl) (Or.inr ⟨rfl, rfl⟩) R1 (fun r h2 z2 => ?_)
  obtain ⟨v2, rfl, e2, I2⟩ := z2
  exact l_eq C dL_law_1238 (by decide) e2 (kk _ I2)

/-- 31: clear -/
theorem cs_31 {p : Program} {l : Launch} {e : Env} {s : State} {m : MethodId} {below : List Frame} {meth : Method} {c : Code} {b L : Nat} {xs : Nat → Int32} {D : va_G} {cA : Nat → ClassId} (C : LC p s m meth c b L xs D cA) {n : Nat} {h : JH} (hn : n + 7 ≤ L) (I : Inv h) (kk : ∀ h', Inv h' → LAt p l e s m below meth c b D cA n 1709 [] h') : LAt p l e s m below meth c b D cA n 1243 [] h := by
  refine l_x1 C (q := 1244) dL_law_1243 rfl ?_
  refine l_call C (q := 1247) (a := 0) dL_law_1244 rfl ml_L_144 mv_X11_clear rfl rfl (Nat.le_of_ble_eq_true rfl) (Or.inl ⟨rfl, rfl⟩) (pr_clear (d := 20) I) (fun r h1 z1 => ?_)
  obtain ⟨v1, rfl, R1⟩ := z1
  refine l_x2 C (q := 1248) dL_law_1247 rfl ?_
  refine l_call C (q := 1251) (a := 117) dL_law_1248 rfl ml_L_147 mv_X12_clear rfl rfl (Nat.le_of_ble_eq_true rfl) (Or.inr ⟨rfl, rfl⟩) R1 (fun r h2 z2 => ?_)
  obtain ⟨v2, rfl, e2, I2⟩ := z2
  exact l_eq C dL_law_1251 (by decide) e2 (kk _ I2)

/-- 32: sure -/
theorem cs_32 {p : Program} {l : Launch} {e : Env} {s : State} {m : MethodId} {below : List Frame} {meth : Method} {c : Code} {b L : Nat} {xs : Nat → Int32} {D : va_G} {cA : Nat → ClassId} (C : LC p s m meth c b L xs D cA) {n : Nat} {h : JH} (hn : n + 7 ≤ L) (I : Inv h) (kk : ∀ h', Inv h' → LAt p l e s m below meth c b D cA n 1709 [] h') : LAt p l e s m below meth c b D cA n 1256 [] h := by
  refine l_x1 C (q := 1257) dL_law_1256 rfl ?_
  refine l_call C (q := 1260) (a := 0) dL_law_1257 rfl ml_L_148 mv_X11_sure rfl rfl (Nat.le_of_ble_eq_true rfl) (Or.inl ⟨rfl, rfl⟩) (pr_sure (d := 20) I) (fun r h1 z1 => ?_)
  obtain ⟨v1, rfl, R1⟩ := z1
  refine l_x2 C (q := 1261) dL_law_1260 rfl ?_
  refine l_call C (q := 1264) (a := 117) dL_law_1261 rfl ml_L_151 mv_X12_sure rfl rfl (Nat.le_of_ble_eq_true rfl) (Or.inr ⟨rfl, rfl⟩) R1 (fun r h2 z2 => ?_)
  obtain ⟨v2, rfl, e2, I2⟩ := z2
  exact l_eq C dL_law_1264 (by decide) e2 (kk _ I2)

/-- 33: shortest -/
theorem cs_33 {p : Program} {l : Launch} {e : Env} {s : State} {m : MethodId} {below : List Frame} {meth : Method} {c : Code} {b L : Nat} {xs : Nat → Int32} {D : va_G} {cA : Nat → ClassId} (C : LC p s m meth c b L xs D cA) {n : Nat} {h : JH} (hn : n + 7 ≤ L) (I : Inv h) (kk : ∀ h', Inv h' → LAt p l e s m below meth c b D cA n 1709 [] h') : LAt p l e s m below meth c b D cA n 1269 [] h := by
  refine l_x1 C (q := 1270) dL_law_1269 rfl ?_
  refine l_arg C (k := 1) (q := 1275) hn (by decide) rfl dL_law_1270 dL_law_1271 dL_law_1272 dL_law_1273 dL_law_1274 rfl ?_
  refine l_call C (q := 1278) (a := 0) dL_law_1275 rfl ml_L_152 mv_X11_shortest rfl rfl (Nat.le_of_ble_eq_true rfl) (Or.inl ⟨rfl, rfl⟩) (pr_shortest (d := 20) I) (fun r h1 z1 => ?_)
  obtain ⟨v1, rfl, R1⟩ := z1
  refine l_x2 C (q := 1279) dL_law_1278 rfl ?_
  refine l_arg C (k := 1) (q := 1284) hn (by decide) rfl dL_law_1279 dL_law_1280 dL_law_1281 dL_law_1282 dL_law_1283 rfl ?_
  refine l_call C (q := 1287) (a := 117) dL_law_1284 rfl ml_L_155 mv_X12_shortest rfl rfl (Nat.le_of_ble_eq_true rfl) (Or.inr ⟨rfl, rfl⟩) R1 (fun r h2 z2 => ?_)
  obtain ⟨v2, rfl, e2, I2⟩ := z2
  exact l_eq C dL_law_1287 (by decide) e2 (kk _ I2)
