section LGC
variable {p : Program} {l : Launch} {e : Env} {s : State} {m : MethodId} {below : List Frame} {meth : Method} {c : Code} {H : Heap} {locs : List Loc} {Q : State → Prop} {ls : Array Slot}
variable {D : va_G} {cy : Nat → ClassId} {σ0 : SG} {eda ca : Nat} {ia : Nat → Nat} {ad τ : List Nat} {q0 x0 av qv sa L a0 oa od t c0 n0 k N : Nat} {fd : Nat → Option Nat} {xs : Nat → Int32} {i : Int32}
theorem dL_law_930 : decode cL_law 930 = .ok (.aload_n 1, 1) := by decide +kernel
theorem dL_law_931 : decode cL_law 931 = .ok (.invokevirtual 229, 3) := by decide +kernel
theorem dL_law_934 : decode cL_law 934 = .ok (.pop, 1) := by decide +kernel
theorem dL_law_935 : decode cL_law 935 = .ok (.aload_n 2, 1) := by decide +kernel
theorem dL_law_936 : decode cL_law 936 = .ok (.invokevirtual 232, 3) := by decide +kernel
theorem dL_law_939 : decode cL_law 939 = .ok (.pop, 1) := by decide +kernel
theorem dL_law_940 : decode cL_law 940 = .ok (.goto 924, 3) := by decide +kernel
theorem dL_law_943 : decode cL_law 943 = .ok (.aload_n 1, 1) := by decide +kernel
theorem dL_law_944 : decode cL_law 944 = .ok (.invokevirtual 233, 3) := by decide +kernel
theorem dL_law_947 : decode cL_law 947 = .ok (.pop, 1) := by decide +kernel
theorem dL_law_948 : decode cL_law 948 = .ok (.aload_n 2, 1) := by decide +kernel
theorem dL_law_949 : decode cL_law 949 = .ok (.invokevirtual 236, 3) := by decide +kernel
theorem dL_law_952 : decode cL_law 952 = .ok (.pop, 1) := by decide +kernel
theorem dL_law_953 : decode cL_law 953 = .ok (.goto 911, 3) := by decide +kernel
theorem dL_law_956 : decode cL_law 956 = .ok (.aload_n 1, 1) := by decide +kernel
theorem dL_law_957 : decode cL_law 957 = .ok (.invokevirtual 237, 3) := by decide +kernel
theorem dL_law_960 : decode cL_law 960 = .ok (.pop, 1) := by decide +kernel
theorem dL_law_961 : decode cL_law 961 = .ok (.aload_n 2, 1) := by decide +kernel
theorem dL_law_962 : decode cL_law 962 = .ok (.invokevirtual 240, 3) := by decide +kernel
theorem dL_law_965 : decode cL_law 965 = .ok (.pop, 1) := by decide +kernel
theorem dL_law_966 : decode cL_law 966 = .ok (.goto 898, 3) := by decide +kernel
theorem dL_law_969 : decode cL_law 969 = .ok (.aload_n 1, 1) := by decide +kernel
theorem dL_law_970 : decode cL_law 970 = .ok (.aload_n 0, 1) := by decide +kernel
theorem dL_law_971 : decode cL_law 971 = .ok (.iload 5, 2) := by decide +kernel
theorem dL_law_973 : decode cL_law 973 = .ok (.iconst 1, 1) := by decide +kernel
theorem dL_law_974 : decode cL_law 974 = .ok (.iadd, 1) := by decide +kernel
theorem dL_law_975 : decode cL_law 975 = .ok (.iaload, 1) := by decide +kernel
theorem dL_law_976 : decode cL_law 976 = .ok (.aload_n 0, 1) := by decide +kernel
theorem dL_law_977 : decode cL_law 977 = .ok (.iload 5, 2) := by decide +kernel
theorem dL_law_979 : decode cL_law 979 = .ok (.iconst 2, 1) := by decide +kernel
theorem dL_law_980 : decode cL_law 980 = .ok (.iadd, 1) := by decide +kernel
theorem dL_law_981 : decode cL_law 981 = .ok (.iaload, 1) := by decide +kernel
theorem dL_law_982 : decode cL_law 982 = .ok (.aload_n 0, 1) := by decide +kernel
theorem dL_law_983 : decode cL_law 983 = .ok (.iload 5, 2) := by decide +kernel
theorem dL_law_985 : decode cL_law 985 = .ok (.iconst 3, 1) := by decide +kernel
theorem dL_law_986 : decode cL_law 986 = .ok (.iadd, 1) := by decide +kernel
theorem dL_law_987 : decode cL_law 987 = .ok (.iaload, 1) := by decide +kernel
theorem dL_law_988 : decode cL_law 988 = .ok (.i2c, 1) := by decide +kernel
theorem dL_law_989 : decode cL_law 989 = .ok (.aload_n 0, 1) := by decide +kernel
theorem dL_law_990 : decode cL_law 990 = .ok (.iload 5, 2) := by decide +kernel
theorem dL_law_992 : decode cL_law 992 = .ok (.iconst 4, 1) := by decide +kernel
theorem dL_law_993 : decode cL_law 993 = .ok (.iadd, 1) := by decide +kernel
theorem dL_law_994 : decode cL_law 994 = .ok (.iaload, 1) := by decide +kernel
theorem dL_law_995 : decode cL_law 995 = .ok (.aload_n 3, 1) := by decide +kernel
theorem dL_law_996 : decode cL_law 996 = .ok (.invokestatic 241, 3) := by decide +kernel
theorem dL_law_999 : decode cL_law 999 = .ok (.istore 6, 2) := by decide +kernel
theorem dL_law_1001 : decode cL_law 1001 = .ok (.aload_n 2, 1) := by decide +kernel
theorem dL_law_1002 : decode cL_law 1002 = .ok (.aload_n 0, 1) := by decide +kernel
theorem dL_law_1003 : decode cL_law 1003 = .ok (.iload 5, 2) := by decide +kernel
theorem dL_law_1005 : decode cL_law 1005 = .ok (.iconst 1, 1) := by decide +kernel
theorem dL_law_1006 : decode cL_law 1006 = .ok (.iadd, 1) := by decide +kernel
theorem dL_law_1007 : decode cL_law 1007 = .ok (.iaload, 1) := by decide +kernel
theorem dL_law_1008 : decode cL_law 1008 = .ok (.aload_n 0, 1) := by decide +kernel
theorem dL_law_1009 : decode cL_law 1009 = .ok (.iload 5, 2) := by decide +kernel
theorem dL_law_1011 : decode cL_law 1011 = .ok (.iconst 2, 1) := by decide +kernel
theorem dL_law_1012 : decode cL_law 1012 = .ok (.iadd, 1) := by decide +kernel
theorem dL_law_1013 : decode cL_law 1013 = .ok (.iaload, 1) := by decide +kernel
theorem dL_law_1014 : decode cL_law 1014 = .ok (.aload_n 0, 1) := by decide +kernel
theorem dL_law_1015 : decode cL_law 1015 = .ok (.iload 5, 2) := by decide +kernel
theorem dL_law_1017 : decode cL_law 1017 = .ok (.iconst 3, 1) := by decide +kernel
theorem dL_law_1018 : decode cL_law 1018 = .ok (.iadd, 1) := by decide +kernel
theorem dL_law_1019 : decode cL_law 1019 = .ok (.iaload, 1) := by decide +kernel
theorem dL_law_1020 : decode cL_law 1020 = .ok (.i2c, 1) := by decide +kernel
theorem dL_law_1021 : decode cL_law 1021 = .ok (.aload_n 0, 1) := by decide +kernel
theorem dL_law_1022 : decode cL_law 1022 = .ok (.iload 5, 2) := by decide +kernel
theorem dL_law_1024 : decode cL_law 1024 = .ok (.iconst 4, 1) := by decide +kernel
theorem dL_law_1025 : decode cL_law 1025 = .ok (.iadd, 1) := by decide +kernel
theorem dL_law_1026 : decode cL_law 1026 = .ok (.iaload, 1) := by decide +kernel
theorem dL_law_1027 : decode cL_law 1027 = .ok (.invokevirtual 244, 3) := by decide +kernel
theorem dL_law_1030 : decode cL_law 1030 = .ok (.istore 7, 2) := by decide +kernel
theorem dL_law_1032 : decode cL_law 1032 = .ok (.goto 832, 3) := by decide +kernel
theorem dL_law_1035 : decode cL_law 1035 = .ok (.aload_n 1, 1) := by decide +kernel
theorem dL_law_1036 : decode cL_law 1036 = .ok (.aload_n 0, 1) := by decide +kernel
theorem dL_law_1037 : decode cL_law 1037 = .ok (.iload 5, 2) := by decide +kernel
theorem dL_law_1039 : decode cL_law 1039 = .ok (.iconst 1, 1) := by decide +kernel
theorem dL_law_1040 : decode cL_law 1040 = .ok (.iadd, 1) := by decide +kernel
theorem dL_law_1041 : decode cL_law 1041 = .ok (.iaload, 1) := by decide +kernel
theorem dL_law_1042 : decode cL_law 1042 = .ok (.aload_n 3, 1) := by decide +kernel
theorem dL_law_1043 : decode cL_law 1043 = .ok (.invokestatic 245, 3) := by decide +kernel
theorem dL_law_1046 : decode cL_law 1046 = .ok (.istore 6, 2) := by decide +kernel
theorem dL_law_1048 : decode cL_law 1048 = .ok (.aload_n 2, 1) := by decide +kernel
theorem dL_law_1049 : decode cL_law 1049 = .ok (.aload_n 0, 1) := by decide +kernel
theorem dL_law_1050 : decode cL_law 1050 = .ok (.iload 5, 2) := by decide +kernel
theorem dL_law_1052 : decode cL_law 1052 = .ok (.iconst 1, 1) := by decide +kernel
theorem dL_law_1053 : decode cL_law 1053 = .ok (.iadd, 1) := by decide +kernel
theorem dL_law_1054 : decode cL_law 1054 = .ok (.iaload, 1) := by decide +kernel
theorem dL_law_1055 : decode cL_law 1055 = .ok (.invokevirtual 247, 3) := by decide +kernel
theorem dL_law_1058 : decode cL_law 1058 = .ok (.istore 7, 2) := by decide +kernel
theorem dL_law_1060 : decode cL_law 1060 = .ok (.goto 804, 3) := by decide +kernel
theorem dL_law_1063 : decode cL_law 1063 = .ok (.aload_n 1, 1) := by decide +kernel
theorem dL_law_1064 : decode cL_law 1064 = .ok (.aload_n 0, 1) := by decide +kernel
theorem dL_law_1065 : decode cL_law 1065 = .ok (.iload 5, 2) := by decide +kernel
theorem dL_law_1067 : decode cL_law 1067 = .ok (.iconst 1, 1) := by decide +kernel
theorem dL_law_1068 : decode cL_law 1068 = .ok (.iadd, 1) := by decide +kernel
theorem dL_law_1069 : decode cL_law 1069 = .ok (.iaload, 1) := by decide +kernel
theorem dL_law_1070 : decode cL_law 1070 = .ok (.aload_n 3, 1) := by decide +kernel
theorem dL_law_1071 : decode cL_law 1071 = .ok (.invokestatic 248, 3) := by decide +kernel
theorem dL_law_1074 : decode cL_law 1074 = .ok (.istore 6, 2) := by decide +kernel
theorem dL_law_1076 : decode cL_law 1076 = .ok (.aload_n 2, 1) := by decide +kernel
theorem dL_law_1077 : decode cL_law 1077 = .ok (.aload_n 0, 1) := by decide +kernel
theorem dL_law_1078 : decode cL_law 1078 = .ok (.iload 5, 2) := by decide +kernel
theorem dL_law_1080 : decode cL_law 1080 = .ok (.iconst 1, 1) := by decide +kernel
theorem dL_law_1081 : decode cL_law 1081 = .ok (.iadd, 1) := by decide +kernel
theorem dL_law_1082 : decode cL_law 1082 = .ok (.iaload, 1) := by decide +kernel
theorem dL_law_1083 : decode cL_law 1083 = .ok (.invokevirtual 250, 3) := by decide +kernel
theorem dL_law_1086 : decode cL_law 1086 = .ok (.istore 7, 2) := by decide +kernel
theorem dL_law_1088 : decode cL_law 1088 = .ok (.goto 776, 3) := by decide +kernel
theorem dL_law_1091 : decode cL_law 1091 = .ok (.aload_n 1, 1) := by decide +kernel
theorem dL_law_1092 : decode cL_law 1092 = .ok (.aload_n 0, 1) := by decide +kernel
theorem dL_law_1093 : decode cL_law 1093 = .ok (.iload 5, 2) := by decide +kernel
theorem dL_law_1095 : decode cL_law 1095 = .ok (.iconst 1, 1) := by decide +kernel
theorem dL_law_1096 : decode cL_law 1096 = .ok (.iadd, 1) := by decide +kernel
theorem dL_law_1097 : decode cL_law 1097 = .ok (.iaload, 1) := by decide +kernel
theorem dL_law_1098 : decode cL_law 1098 = .ok (.aload_n 0, 1) := by decide +kernel
theorem dL_law_1099 : decode cL_law 1099 = .ok (.iload 5, 2) := by decide +kernel
theorem dL_law_1101 : decode cL_law 1101 = .ok (.iconst 2, 1) := by decide +kernel
theorem dL_law_1102 : decode cL_law 1102 = .ok (.iadd, 1) := by decide +kernel
theorem dL_law_1103 : decode cL_law 1103 = .ok (.iaload, 1) := by decide +kernel
theorem dL_law_1104 : decode cL_law 1104 = .ok (.aload_n 3, 1) := by decide +kernel
theorem dL_law_1105 : decode cL_law 1105 = .ok (.invokestatic 251, 3) := by decide +kernel
theorem dL_law_1108 : decode cL_law 1108 = .ok (.istore 6, 2) := by decide +kernel
theorem dL_law_1110 : decode cL_law 1110 = .ok (.aload_n 2, 1) := by decide +kernel
theorem dL_law_1111 : decode cL_law 1111 = .ok (.aload_n 0, 1) := by decide +kernel
theorem dL_law_1112 : decode cL_law 1112 = .ok (.iload 5, 2) := by decide +kernel
theorem dL_law_1114 : decode cL_law 1114 = .ok (.iconst 1, 1) := by decide +kernel
theorem dL_law_1115 : decode cL_law 1115 = .ok (.iadd, 1) := by decide +kernel
theorem dL_law_1116 : decode cL_law 1116 = .ok (.iaload, 1) := by decide +kernel
theorem dL_law_1117 : decode cL_law 1117 = .ok (.aload_n 0, 1) := by decide +kernel
theorem dL_law_1118 : decode cL_law 1118 = .ok (.iload 5, 2) := by decide +kernel
theorem dL_law_1120 : decode cL_law 1120 = .ok (.iconst 2, 1) := by decide +kernel
theorem dL_law_1121 : decode cL_law 1121 = .ok (.iadd, 1) := by decide +kernel
theorem dL_law_1122 : decode cL_law 1122 = .ok (.iaload, 1) := by decide +kernel
theorem dL_law_1123 : decode cL_law 1123 = .ok (.invokevirtual 253, 3) := by decide +kernel
theorem dL_law_1126 : decode cL_law 1126 = .ok (.istore 7, 2) := by decide +kernel
theorem dL_law_1128 : decode cL_law 1128 = .ok (.goto 736, 3) := by decide +kernel
theorem dL_law_1131 : decode cL_law 1131 = .ok (.aload_n 1, 1) := by decide +kernel
theorem dL_law_1132 : decode cL_law 1132 = .ok (.aload_n 0, 1) := by decide +kernel
theorem dL_law_1133 : decode cL_law 1133 = .ok (.iload 5, 2) := by decide +kernel
theorem dL_law_1135 : decode cL_law 1135 = .ok (.iconst 1, 1) := by decide +kernel
theorem dL_law_1136 : decode cL_law 1136 = .ok (.iadd, 1) := by decide +kernel
theorem dL_law_1137 : decode cL_law 1137 = .ok (.iaload, 1) := by decide +kernel
theorem dL_law_1138 : decode cL_law 1138 = .ok (.aload_n 3, 1) := by decide +kernel
theorem dL_law_1139 : decode cL_law 1139 = .ok (.invokestatic 254, 3) := by decide +kernel
theorem dL_law_1142 : decode cL_law 1142 = .ok (.istore 6, 2) := by decide +kernel
theorem dL_law_1144 : decode cL_law 1144 = .ok (.aload_n 2, 1) := by decide +kernel
theorem dL_law_1145 : decode cL_law 1145 = .ok (.aload_n 0, 1) := by decide +kernel
theorem dL_law_1146 : decode cL_law 1146 = .ok (.iload 5, 2) := by decide +kernel
theorem dL_law_1148 : decode cL_law 1148 = .ok (.iconst 1, 1) := by decide +kernel
theorem dL_law_1149 : decode cL_law 1149 = .ok (.iadd, 1) := by decide +kernel
theorem dL_law_1150 : decode cL_law 1150 = .ok (.iaload, 1) := by decide +kernel
theorem dL_law_1151 : decode cL_law 1151 = .ok (.invokevirtual 256, 3) := by decide +kernel
theorem dL_law_1154 : decode cL_law 1154 = .ok (.istore 7, 2) := by decide +kernel
theorem dL_law_1156 : decode cL_law 1156 = .ok (.goto 708, 3) := by decide +kernel
theorem dL_law_1159 : decode cL_law 1159 = .ok (.aload_n 1, 1) := by decide +kernel
theorem dL_law_1160 : decode cL_law 1160 = .ok (.aload_n 0, 1) := by decide +kernel
theorem dL_law_1161 : decode cL_law 1161 = .ok (.iload 5, 2) := by decide +kernel
theorem dL_law_1163 : decode cL_law 1163 = .ok (.iconst 1, 1) := by decide +kernel
theorem dL_law_1164 : decode cL_law 1164 = .ok (.iadd, 1) := by decide +kernel
theorem dL_law_1165 : decode cL_law 1165 = .ok (.iaload, 1) := by decide +kernel
theorem dL_law_1166 : decode cL_law 1166 = .ok (.aload_n 0, 1) := by decide +kernel
theorem dL_law_1167 : decode cL_law 1167 = .ok (.iload 5, 2) := by decide +kernel
theorem dL_law_1169 : decode cL_law 1169 = .ok (.iconst 2, 1) := by decide +kernel
theorem dL_law_1170 : decode cL_law 1170 = .ok (.iadd, 1) := by decide +kernel
theorem dL_law_1171 : decode cL_law 1171 = .ok (.iaload, 1) := by decide +kernel
theorem dL_law_1172 : decode cL_law 1172 = .ok (.aload_n 3, 1) := by decide +kernel
theorem dL_law_1173 : decode cL_law 1173 = .ok (.invokestatic 257, 3) := by decide +kernel
theorem dL_law_1176 : decode cL_law 1176 = .ok (.istore 6, 2) := by decide +kernel
theorem dL_law_1178 : decode cL_law 1178 = .ok (.aload_n 2, 1) := by decide +kernel
theorem dL_law_1179 : decode cL_law 1179 = .ok (.aload_n 0, 1) := by decide +kernel
theorem dL_law_1180 : decode cL_law 1180 = .ok (.iload 5, 2) := by decide +kernel
theorem dL_law_1182 : decode cL_law 1182 = .ok (.iconst 1, 1) := by decide +kernel
theorem dL_law_1183 : decode cL_law 1183 = .ok (.iadd, 1) := by decide +kernel
theorem dL_law_1184 : decode cL_law 1184 = .ok (.iaload, 1) := by decide +kernel
theorem dL_law_1185 : decode cL_law 1185 = .ok (.aload_n 0, 1) := by decide +kernel
theorem dL_law_1186 : decode cL_law 1186 = .ok (.iload 5, 2) := by decide +kernel
theorem dL_law_1188 : decode cL_law 1188 = .ok (.iconst 2, 1) := by decide +kernel
theorem dL_law_1189 : decode cL_law 1189 = .ok (.iadd, 1) := by decide +kernel
theorem dL_law_1190 : decode cL_law 1190 = .ok (.iaload, 1) := by decide +kernel
theorem dL_law_1191 : decode cL_law 1191 = .ok (.invokevirtual 259, 3) := by decide +kernel
theorem dL_law_1194 : decode cL_law 1194 = .ok (.istore 7, 2) := by decide +kernel
theorem dL_law_1196 : decode cL_law 1196 = .ok (.goto 668, 3) := by decide +kernel
set_option maxRecDepth 100000 in
set_option maxHeartbeats 4000000 in
theorem lg_18 (X : LX p l s m meth c D cy σ0 eda ca ia ad τ q0 x0 sa L xs) (ht : t < 512) (hc0 : c0 ≤ 40000) (hn0 : n0 ≤ 400000) (hI : LI D cy s σ0 eda ia ad τ q0 x0 av qv fd a0 oa od t c0 n0 H locs k N) (hi : i.toInt = 6 * (t : Int)) (hL : 6 * t + 6 ≤ L) (hl : lv_has ls 9 [(5, .int i), (4, .ref od), (3, .ref oa), (2, .ref a0), (1, .ref x0), (0, .ref sa)]) (hE : ∀ (H : Heap) (locs : List Loc) (k N : Nat) (ls : Array Slot), LI D cy s σ0 eda ia ad τ q0 x0 av qv fd a0 oa od (t + 1) c0 n0 H locs k N → lv_has ls 9 [(5, .int i), (4, .ref od), (3, .ref oa), (2, .ref a0), (1, .ref x0), (0, .ref sa)] → W p l e room_1 s m #[Value.ref sa] below meth c H locs k N Q (F0 m 1864 ls [])) : W p l e room_1 s m #[Value.ref sa] below meth c H locs k N Q (F0 m 930 ls []) := by
  obtain ⟨F, hst, hs, hr0, hr1, hTT, hXs, hbl, hbA, hp0, hL9⟩ := X
  obtain ⟨hx, hb, hml, hown, hts⟩ := id F.1
  obtain ⟨σ, K, g, n, S, hw, nn, w, f, fD, hB, hnn, hk, hSS, hV, hKa, hY, hH, hO, hD, ht9, hC⟩ := hI
  subst hKa
  refine lv_aload_n hx hb dL_law_930 rfl (lv_at hl 4 rfl) ?_
  obtain ⟨vs, fr0, c1, c4, hf0, hf1⟩ := CS_f hC hr1
  have hOw : va_P D vwCl _ H := (show va_P D vwCl ([(oa, .inl (cy 2, 1, .inr (.inl f)))] ++ w) H from hO.1.right).right
  have hDw : va_D _ _ := (show va_D (sgA σ0 s.heap.size) ([(oa, .inl (cy 2, 1, .inr (.inl f)))] ++ w) from hD.right).right
  refine lw_wc (nc := 0) (wr := [(od, .inl (cy 3, 1, .inr (.inr (.inr (.inl fD))))), (oa, .inl (cy 2, 1, .inr (.inl f)))]) (rest := []) (lw_mono (Qb := vw_QC D vK cy ad τ w q_Hubcascade_wipe_0.2.2.2.1 (va_A _ H.size) (fun v _ => ∃ y : Int32, v = some (.int y))) (va_runV (g := F0 m 931 ls _) (b := x0) (As := []) (rest := []) F.1 ((m_Hubcascade_wipe_0 l D cy hst).2 ad τ _ _ [.ref x0] hs ht9 rfl (vi_tys_ok (ad := ad) (τ := τ) (as := q_Hubcascade_wipe_0.1) ⟨Or.inr ⟨q0, x0, hr0, hr1, rfl⟩, True.intro⟩) (fun f hf => by cases hf)) (cwV 0 hts (lwV lxv_ (lx_ _ (List.mem_of_getElem? (i := 303) rfl)) (lx_ _ (List.mem_of_getElem? (i := 304) rfl)) (lx_ _ (List.mem_of_getElem? (i := 305) rfl)) (lx_ _ (List.mem_of_getElem? (i := 3) rfl)) (lx_ _ (List.mem_of_getElem? (i := 306) rfl))) rfl rfl rfl ⟨rfl, by decide, by decide, by decide +kernel⟩ ⟨Nat.le_of_ble_eq_true rfl, Nat.le_of_ble_eq_true rfl⟩) ⟨pme_blind, va_recv F.2.1 hOw (ci := 14) rfl c1, vi_pv hOw hDw F.2.1 F.2.2.1⟩ rfl rfl hl.1 rfl (lv_room (Nat.le_of_ble_eq_true rfl)) dL_law_931 ⟨rm_c (show _ + 0 ≤ 606000 by omega), rm_s (show _ + 0 ≤ 7100000 by have := hB.2.2; omega)⟩) (fun st oc t h => ⟨by obtain ⟨⟨v, w1, alt, halt, e1, e2, e3, e4, e5⟩, -⟩ := h; exact ⟨v, w1, e1, e2, e3, e4, vw_int (by decide +kernel) halt e5⟩, h.2⟩)) hB hO hD ht9 (fun H locs v w1 hB hO hD ht1 hk9 h8 => ?_)
  obtain ⟨y2, rfl⟩ := h8
  have hO : lwO D σ ([(od, .inl (cy 3, 1, .inr (.inr (.inr (.inl fD)))))] ++ (oa, .inl (cy 2, 1, .inr (.inl f))) :: w1) H := hO
  have hD : va_D (sgA σ0 s.heap.size) ([(od, .inl (cy 3, 1, .inr (.inr (.inr (.inl fD)))))] ++ (oa, .inl (cy 2, 1, .inr (.inl f))) :: w1) := hD
  obtain ⟨w3, hC, hO, hD, ht9⟩ := CS_kept (a := (od, .inl (cy 3, 1, .inr (.inr (.inr (.inl fD)))))) hC ht1 hk9 (by decide +kernel) (by decide +kernel) hO hD
  have hO : lwO D σ ([(od, .inl (cy 3, 1, .inr (.inr (.inr (.inl fD)))))] ++ (oa, .inl (cy 2, 1, .inr (.inl f))) :: w3) H := hO
  have hD : va_D (sgA σ0 s.heap.size) ([(od, .inl (cy 3, 1, .inr (.inr (.inr (.inl fD)))))] ++ (oa, .inl (cy 2, 1, .inr (.inl f))) :: w3) := hD
  refine lv_pop hx hb dL_law_934 rfl ?_
  refine lv_aload_n hx hb dL_law_935 rfl (lv_at hl 3 rfl) ?_
  refine lw_callV (ci := 19) (b := kA K) (As := []) (rest := []) F hB hO (m_wipe l D cy hV _) (cwV 0 hts (lwV lxm_ (lx_ _ (List.mem_of_getElem? (i := 307) rfl)) (lx_ _ (List.mem_of_getElem? (i := 308) rfl)) (lx_ _ (List.mem_of_getElem? (i := 309) rfl)) (lx_ _ (List.mem_of_getElem? (i := 182) rfl)) (lx_ _ (List.mem_of_getElem? (i := 310) rfl))) rfl rfl rfl ⟨rfl, by decide, by decide, by decide +kernel⟩ ⟨Nat.le_of_ble_eq_true rfl, Nat.le_of_ble_eq_true rfl⟩) rfl rfl (by decide) rfl hl.1 rfl (Nat.le_of_ble_eq_true rfl) dL_law_936 (rm_c (show _ + 0 ≤ 606000 by omega)) (rm_s (show _ + 0 + sgPot σ0 ≤ 7100000 by omega)) (inv_Mr hV).1 (fun H locs v σ N hB hX hP hO => ?_)
  obtain ⟨⟨y5, rfl⟩, hV⟩ := hP
  refine lv_pop hx hb dL_law_939 rfl ?_
  refine lv_goto (tgt := 1864) hx hb dL_law_940 (by decide) ?_
  exact hE _ _ _ _ _ ⟨σ, K, g, n, S, hw, _, w3, f, fD, hB, by omega, by omega, by omega, hV, rfl, hY, hH, hO, hD, ht9, CS_up hC (by omega)⟩ (lv_sub hl [0, 1, 2, 3, 4, 5] rfl)

set_option maxRecDepth 100000 in
set_option maxHeartbeats 4000000 in
theorem lg_19 (X : LX p l s m meth c D cy σ0 eda ca ia ad τ q0 x0 sa L xs) (ht : t < 512) (hc0 : c0 ≤ 40000) (hn0 : n0 ≤ 400000) (hI : LI D cy s σ0 eda ia ad τ q0 x0 av qv fd a0 oa od t c0 n0 H locs k N) (hi : i.toInt = 6 * (t : Int)) (hL : 6 * t + 6 ≤ L) (hl : lv_has ls 9 [(5, .int i), (4, .ref od), (3, .ref oa), (2, .ref a0), (1, .ref x0), (0, .ref sa)]) (hE : ∀ (H : Heap) (locs : List Loc) (k N : Nat) (ls : Array Slot), LI D cy s σ0 eda ia ad τ q0 x0 av qv fd a0 oa od (t + 1) c0 n0 H locs k N → lv_has ls 9 [(5, .int i), (4, .ref od), (3, .ref oa), (2, .ref a0), (1, .ref x0), (0, .ref sa)] → W p l e room_1 s m #[Value.ref sa] below meth c H locs k N Q (F0 m 1864 ls [])) : W p l e room_1 s m #[Value.ref sa] below meth c H locs k N Q (F0 m 943 ls []) := by
  obtain ⟨F, hst, hs, hr0, hr1, hTT, hXs, hbl, hbA, hp0, hL9⟩ := X
  obtain ⟨hx, hb, hml, hown, hts⟩ := id F.1
  obtain ⟨σ, K, g, n, S, hw, nn, w, f, fD, hB, hnn, hk, hSS, hV, hKa, hY, hH, hO, hD, ht9, hC⟩ := hI
  subst hKa
  refine lv_aload_n hx hb dL_law_943 rfl (lv_at hl 4 rfl) ?_
  obtain ⟨vs, fr0, c1, c4, hf0, hf1⟩ := CS_f hC hr1
  have hOw : va_P D vwCl _ H := (show va_P D vwCl ([(oa, .inl (cy 2, 1, .inr (.inl f)))] ++ w) H from hO.1.right).right
  have hDw : va_D _ _ := (show va_D (sgA σ0 s.heap.size) ([(oa, .inl (cy 2, 1, .inr (.inl f)))] ++ w) from hD.right).right
  refine lw_wc (nc := 0) (wr := [(od, .inl (cy 3, 1, .inr (.inr (.inr (.inl fD))))), (oa, .inl (cy 2, 1, .inr (.inl f)))]) (rest := []) (lw_mono (Qb := vw_QC D vK cy ad τ w q_Hubcascade_sixteen_0.2.2.2.1 (va_A _ H.size) (fun v _ => ∃ y : Int32, v = some (.int y))) (va_runV (g := F0 m 944 ls _) (b := x0) (As := []) (rest := []) F.1 ((m_Hubcascade_sixteen_0 l D cy hst).2 ad τ _ _ [.ref x0] hs ht9 rfl (vi_tys_ok (ad := ad) (τ := τ) (as := q_Hubcascade_sixteen_0.1) ⟨Or.inr ⟨q0, x0, hr0, hr1, rfl⟩, True.intro⟩) (fun f hf => by cases hf)) (cwV 0 hts (lwV lxv_ (lx_ _ (List.mem_of_getElem? (i := 311) rfl)) (lx_ _ (List.mem_of_getElem? (i := 312) rfl)) (lx_ _ (List.mem_of_getElem? (i := 313) rfl)) (lx_ _ (List.mem_of_getElem? (i := 3) rfl)) (lx_ _ (List.mem_of_getElem? (i := 314) rfl))) rfl rfl rfl ⟨rfl, by decide, by decide, by decide +kernel⟩ ⟨Nat.le_of_ble_eq_true rfl, Nat.le_of_ble_eq_true rfl⟩) ⟨pme_blind, va_recv F.2.1 hOw (ci := 14) rfl c1, vi_pv hOw hDw F.2.1 F.2.2.1⟩ rfl rfl hl.1 rfl (lv_room (Nat.le_of_ble_eq_true rfl)) dL_law_944 ⟨rm_c (show _ + 0 ≤ 606000 by omega), rm_s (show _ + 0 ≤ 7100000 by have := hB.2.2; omega)⟩) (fun st oc t h => ⟨by obtain ⟨⟨v, w1, alt, halt, e1, e2, e3, e4, e5⟩, -⟩ := h; exact ⟨v, w1, e1, e2, e3, e4, vw_int (by decide +kernel) halt e5⟩, h.2⟩)) hB hO hD ht9 (fun H locs v w1 hB hO hD ht1 hk9 h8 => ?_)
  obtain ⟨y2, rfl⟩ := h8
  have hO : lwO D σ ([(od, .inl (cy 3, 1, .inr (.inr (.inr (.inl fD)))))] ++ (oa, .inl (cy 2, 1, .inr (.inl f))) :: w1) H := hO
  have hD : va_D (sgA σ0 s.heap.size) ([(od, .inl (cy 3, 1, .inr (.inr (.inr (.inl fD)))))] ++ (oa, .inl (cy 2, 1, .inr (.inl f))) :: w1) := hD
  obtain ⟨w3, hC, hO, hD, ht9⟩ := CS_kept (a := (od, .inl (cy 3, 1, .inr (.inr (.inr (.inl fD)))))) hC ht1 hk9 (by decide +kernel) (by decide +kernel) hO hD
  have hO : lwO D σ ([(od, .inl (cy 3, 1, .inr (.inr (.inr (.inl fD)))))] ++ (oa, .inl (cy 2, 1, .inr (.inl f))) :: w3) H := hO
  have hD : va_D (sgA σ0 s.heap.size) ([(od, .inl (cy 3, 1, .inr (.inr (.inr (.inl fD)))))] ++ (oa, .inl (cy 2, 1, .inr (.inl f))) :: w3) := hD
  refine lv_pop hx hb dL_law_947 rfl ?_
  refine lv_aload_n hx hb dL_law_948 rfl (lv_at hl 3 rfl) ?_
  refine lw_callV (ci := 19) (b := kA K) (As := []) (rest := []) F hB hO (m_sixteen l D cy hV _) (cwV 0 hts (lwV lxm_ (lx_ _ (List.mem_of_getElem? (i := 315) rfl)) (lx_ _ (List.mem_of_getElem? (i := 316) rfl)) (lx_ _ (List.mem_of_getElem? (i := 317) rfl)) (lx_ _ (List.mem_of_getElem? (i := 182) rfl)) (lx_ _ (List.mem_of_getElem? (i := 318) rfl))) rfl rfl rfl ⟨rfl, by decide, by decide, by decide +kernel⟩ ⟨Nat.le_of_ble_eq_true rfl, Nat.le_of_ble_eq_true rfl⟩) rfl rfl (by decide) rfl hl.1 rfl (Nat.le_of_ble_eq_true rfl) dL_law_949 (rm_c (show _ + 1 ≤ 606000 by omega)) (rm_s (show _ + 4 + sgPot σ0 ≤ 7100000 by omega)) (inv_Mr hV).1 (fun H locs v σ N hB hX hP hO => ?_)
  obtain ⟨⟨y5, rfl⟩, hV⟩ := hP
  refine lv_pop hx hb dL_law_952 rfl ?_
  refine lv_goto (tgt := 1864) hx hb dL_law_953 (by decide) ?_
  exact hE _ _ _ _ _ ⟨σ, K, g, n, S, hw, _, w3, f, fD, hB, by omega, by omega, by omega, hV, rfl, hY, hH, hO, hD, ht9, CS_up hC (by omega)⟩ (lv_sub hl [0, 1, 2, 3, 4, 5] rfl)

set_option maxRecDepth 100000 in
set_option maxHeartbeats 4000000 in
theorem lg_20 (X : LX p l s m meth c D cy σ0 eda ca ia ad τ q0 x0 sa L xs) (ht : t < 512) (hc0 : c0 ≤ 40000) (hn0 : n0 ≤ 400000) (hI : LI D cy s σ0 eda ia ad τ q0 x0 av qv fd a0 oa od t c0 n0 H locs k N) (hi : i.toInt = 6 * (t : Int)) (hL : 6 * t + 6 ≤ L) (hl : lv_has ls 9 [(5, .int i), (4, .ref od), (3, .ref oa), (2, .ref a0), (1, .ref x0), (0, .ref sa)]) (hE : ∀ (H : Heap) (locs : List Loc) (k N : Nat) (ls : Array Slot), LI D cy s σ0 eda ia ad τ q0 x0 av qv fd a0 oa od (t + 1) c0 n0 H locs k N → lv_has ls 9 [(5, .int i), (4, .ref od), (3, .ref oa), (2, .ref a0), (1, .ref x0), (0, .ref sa)] → W p l e room_1 s m #[Value.ref sa] below meth c H locs k N Q (F0 m 1864 ls [])) : W p l e room_1 s m #[Value.ref sa] below meth c H locs k N Q (F0 m 956 ls []) := by
  obtain ⟨F, hst, hs, hr0, hr1, hTT, hXs, hbl, hbA, hp0, hL9⟩ := X
  obtain ⟨hx, hb, hml, hown, hts⟩ := id F.1
  obtain ⟨σ, K, g, n, S, hw, nn, w, f, fD, hB, hnn, hk, hSS, hV, hKa, hY, hH, hO, hD, ht9, hC⟩ := hI
  subst hKa
  refine lv_aload_n hx hb dL_law_956 rfl (lv_at hl 4 rfl) ?_
  obtain ⟨vs, fr0, c1, c4, hf0, hf1⟩ := CS_f hC hr1
  have hOw : va_P D vwCl _ H := (show va_P D vwCl ([(oa, .inl (cy 2, 1, .inr (.inl f)))] ++ w) H from hO.1.right).right
  have hDw : va_D _ _ := (show va_D (sgA σ0 s.heap.size) ([(oa, .inl (cy 2, 1, .inr (.inl f)))] ++ w) from hD.right).right
  refine lw_wc (nc := 0) (wr := [(od, .inl (cy 3, 1, .inr (.inr (.inr (.inl fD))))), (oa, .inl (cy 2, 1, .inr (.inl f)))]) (rest := []) (lw_mono (Qb := vw_QC D vK cy ad τ w q_Hubcascade_stuffed_0.2.2.2.1 (va_A _ H.size) (fun v _ => ∃ y : Int32, v = some (.int y))) (va_runV (g := F0 m 957 ls _) (b := x0) (As := []) (rest := []) F.1 ((m_Hubcascade_stuffed_0 l D cy hst).2 ad τ _ _ [.ref x0] hs ht9 rfl (vi_tys_ok (ad := ad) (τ := τ) (as := q_Hubcascade_stuffed_0.1) ⟨Or.inr ⟨q0, x0, hr0, hr1, rfl⟩, True.intro⟩) (fun f hf => by cases hf)) (cwV 0 hts (lwV lxv_ (lx_ _ (List.mem_of_getElem? (i := 319) rfl)) (lx_ _ (List.mem_of_getElem? (i := 320) rfl)) (lx_ _ (List.mem_of_getElem? (i := 321) rfl)) (lx_ _ (List.mem_of_getElem? (i := 3) rfl)) (lx_ _ (List.mem_of_getElem? (i := 322) rfl))) rfl rfl rfl ⟨rfl, by decide, by decide, by decide +kernel⟩ ⟨Nat.le_of_ble_eq_true rfl, Nat.le_of_ble_eq_true rfl⟩) ⟨pme_blind, va_recv F.2.1 hOw (ci := 14) rfl c1, vi_pv hOw hDw F.2.1 F.2.2.1⟩ rfl rfl hl.1 rfl (lv_room (Nat.le_of_ble_eq_true rfl)) dL_law_957 ⟨rm_c (show _ + 0 ≤ 606000 by omega), rm_s (show _ + 0 ≤ 7100000 by have := hB.2.2; omega)⟩) (fun st oc t h => ⟨by obtain ⟨⟨v, w1, alt, halt, e1, e2, e3, e4, e5⟩, -⟩ := h; exact ⟨v, w1, e1, e2, e3, e4, vw_int (by decide +kernel) halt e5⟩, h.2⟩)) hB hO hD ht9 (fun H locs v w1 hB hO hD ht1 hk9 h8 => ?_)
  obtain ⟨y2, rfl⟩ := h8
  have hO : lwO D σ ([(od, .inl (cy 3, 1, .inr (.inr (.inr (.inl fD)))))] ++ (oa, .inl (cy 2, 1, .inr (.inl f))) :: w1) H := hO
  have hD : va_D (sgA σ0 s.heap.size) ([(od, .inl (cy 3, 1, .inr (.inr (.inr (.inl fD)))))] ++ (oa, .inl (cy 2, 1, .inr (.inl f))) :: w1) := hD
  obtain ⟨w3, hC, hO, hD, ht9⟩ := CS_kept (a := (od, .inl (cy 3, 1, .inr (.inr (.inr (.inl fD)))))) hC ht1 hk9 (by decide +kernel) (by decide +kernel) hO hD
  have hO : lwO D σ ([(od, .inl (cy 3, 1, .inr (.inr (.inr (.inl fD)))))] ++ (oa, .inl (cy 2, 1, .inr (.inl f))) :: w3) H := hO
  have hD : va_D (sgA σ0 s.heap.size) ([(od, .inl (cy 3, 1, .inr (.inr (.inr (.inl fD)))))] ++ (oa, .inl (cy 2, 1, .inr (.inl f))) :: w3) := hD
  refine lv_pop hx hb dL_law_960 rfl ?_
  refine lv_aload_n hx hb dL_law_961 rfl (lv_at hl 3 rfl) ?_
  refine lw_callV (ci := 19) (b := kA K) (As := []) (rest := []) F hB hO (m_stuffed l D cy hV _) (cwV 0 hts (lwV lxm_ (lx_ _ (List.mem_of_getElem? (i := 323) rfl)) (lx_ _ (List.mem_of_getElem? (i := 324) rfl)) (lx_ _ (List.mem_of_getElem? (i := 325) rfl)) (lx_ _ (List.mem_of_getElem? (i := 182) rfl)) (lx_ _ (List.mem_of_getElem? (i := 326) rfl))) rfl rfl rfl ⟨rfl, by decide, by decide, by decide +kernel⟩ ⟨Nat.le_of_ble_eq_true rfl, Nat.le_of_ble_eq_true rfl⟩) rfl rfl (by decide) rfl hl.1 rfl (Nat.le_of_ble_eq_true rfl) dL_law_962 (rm_c (show _ + 1 ≤ 606000 by omega)) (rm_s (show _ + 4 + sgPot σ0 ≤ 7100000 by omega)) (inv_Mr hV).1 (fun H locs v σ N hB hX hP hO => ?_)
  obtain ⟨⟨y5, rfl⟩, hV⟩ := hP
  refine lv_pop hx hb dL_law_965 rfl ?_
  refine lv_goto (tgt := 1864) hx hb dL_law_966 (by decide) ?_
  exact hE _ _ _ _ _ ⟨σ, K, g, n, S, hw, _, w3, f, fD, hB, by omega, by omega, by omega, hV, rfl, hY, hH, hO, hD, ht9, CS_up hC (by omega)⟩ (lv_sub hl [0, 1, 2, 3, 4, 5] rfl)

set_option maxRecDepth 100000 in
set_option maxHeartbeats 4000000 in
theorem lg_21 (X : LX p l s m meth c D cy σ0 eda ca ia ad τ q0 x0 sa L xs) (ht : t < 512) (hc0 : c0 ≤ 40000) (hn0 : n0 ≤ 400000) (hI : LI D cy s σ0 eda ia ad τ q0 x0 av qv fd a0 oa od t c0 n0 H locs k N) (hi : i.toInt = 6 * (t : Int)) (hL : 6 * t + 6 ≤ L) (hl : lv_has ls 9 [(5, .int i), (4, .ref od), (3, .ref oa), (2, .ref a0), (1, .ref x0), (0, .ref sa)]) (hE : ∀ (H : Heap) (locs : List Loc) (k N : Nat) (ls : Array Slot), LI D cy s σ0 eda ia ad τ q0 x0 av qv fd a0 oa od (t + 1) c0 n0 H locs k N → lv_has ls 9 [(5, .int i), (4, .ref od), (3, .ref oa), (2, .ref a0), (1, .ref x0), (0, .ref sa)] → W p l e room_1 s m #[Value.ref sa] below meth c H locs k N Q (F0 m 1864 ls [])) : W p l e room_1 s m #[Value.ref sa] below meth c H locs k N Q (F0 m 969 ls []) := by
  obtain ⟨F, hst, hs, hr0, hr1, hTT, hXs, hbl, hbA, hp0, hL9⟩ := X
  obtain ⟨hx, hb, hml, hown, hts⟩ := id F.1
  obtain ⟨σ, K, g, n, S, hw, nn, w, f, fD, hB, hnn, hk, hSS, hV, hKa, hY, hH, hO, hD, ht9, hC⟩ := hI
  subst hKa
  refine lv_aload_n hx hb dL_law_969 rfl (lv_at hl 4 rfl) ?_
  refine lv_aload_n hx hb dL_law_970 rfl (lv_at hl 5 rfl) ?_
  refine lv_iload hx hb dL_law_971 (lv_at hl 0 rfl) ?_
  refine lv_iconst (v := 1) hx hb dL_law_973 (by decide) ?_
  refine lv_iadd hx hb dL_law_974 ?_
  refine va_sld hx hb hXs hbl hbA hB.1.2.2 (lx_in hi hL hL9 (k := 1) (by decide)) dL_law_975 ?_
  refine lv_aload_n hx hb dL_law_976 rfl (lv_at hl 5 rfl) ?_
  refine lv_iload hx hb dL_law_977 (lv_at hl 0 rfl) ?_
  refine lv_iconst (v := 2) hx hb dL_law_979 (by decide) ?_
  refine lv_iadd hx hb dL_law_980 ?_
  refine va_sld hx hb hXs hbl hbA hB.1.2.2 (lx_in hi hL hL9 (k := 2) (by decide)) dL_law_981 ?_
  refine lv_aload_n hx hb dL_law_982 rfl (lv_at hl 5 rfl) ?_
  refine lv_iload hx hb dL_law_983 (lv_at hl 0 rfl) ?_
  refine lv_iconst (v := 3) hx hb dL_law_985 (by decide) ?_
  refine lv_iadd hx hb dL_law_986 ?_
  refine va_sld hx hb hXs hbl hbA hB.1.2.2 (lx_in hi hL hL9 (k := 3) (by decide)) dL_law_987 ?_
  refine lv_i2c (v := ((xs (i + 3).toNatClampNeg).toUInt32 % 65536).toInt32) hx hb dL_law_988 rfl ?_
  refine lv_aload_n hx hb dL_law_989 rfl (lv_at hl 5 rfl) ?_
  refine lv_iload hx hb dL_law_990 (lv_at hl 0 rfl) ?_
  refine lv_iconst (v := 4) hx hb dL_law_992 (by decide) ?_
  refine lv_iadd hx hb dL_law_993 ?_
  refine va_sld hx hb hXs hbl hbA hB.1.2.2 (lx_in hi hL hL9 (k := 4) (by decide)) dL_law_994 ?_
  refine lv_aload_n hx hb dL_law_995 rfl (lv_at hl 2 rfl) ?_
  refine lw_wkS (wr := [(od, .inl (cy 3, 1, .inr (.inr (.inr (.inl fD)))))]) (rest := []) (vx_runSW (g := F0 m 996 ls _) (As := [.ref x0, .int (xs (i + 1).toNatClampNeg), .int (xs (i + 2).toNatClampNeg), .int (((xs (i + 3).toNatClampNeg).toUInt32 % 65536).toInt32), .int (xs (i + 4).toNatClampNeg), .ref oa]) (rest := []) F.1 (ws_open l D cy hst _ oa _ hs hr1 hC ((xs (i + 1).toNatClampNeg)) ((xs (i + 2).toNatClampNeg)) ((((xs (i + 3).toNatClampNeg).toUInt32 % 65536).toInt32)) (lw_c16 (xs (i + 3).toNatClampNeg)) ((xs (i + 4).toNatClampNeg))) (vx_cwSW 6 hts (lwS lxl_ (lx_ _ (List.mem_of_getElem? (i := 327) rfl)) (lx_ _ (List.mem_of_getElem? (i := 328) rfl)) (lx_ _ (List.mem_of_getElem? (i := 177) rfl)) (lx_ _ (List.mem_of_getElem? (i := 329) rfl))) rfl rfl rfl ⟨by decide, by decide, by decide +kernel⟩ ⟨Nat.le_of_ble_eq_true rfl, Nat.le_of_ble_eq_true rfl⟩) ⟨vi_px_blind, vi_px hO.1.right hD.right F.2.1 F.2.2.1 hTT hB.1.2.2 sgB_A⟩ rfl rfl hl.1 rfl (lv_room (Nat.le_of_ble_eq_true rfl)) dL_law_996 ⟨rm_c (show _ + 3 ≤ 606000 by omega), rm_s (show _ + 6 * 3 ≤ 7100000 by have := hB.2.2; omega)⟩) hB hO hD ht9 (fun H locs kx1 w2 f1 hB hO hD ht1 hC => ?_)
  have ht9 := ht1
  refine lv_istore (lv' := [(6, .int kx1), (5, .int i), (4, .ref od), (3, .ref oa), (2, .ref (kA K)), (1, .ref x0), (0, .ref sa)]) hx hb dL_law_999 hl (by decide) rfl (fun ls hl => ?_)
  refine lv_aload_n hx hb dL_law_1001 rfl (lv_at hl 4 rfl) ?_
  refine lv_aload_n hx hb dL_law_1002 rfl (lv_at hl 6 rfl) ?_
  refine lv_iload hx hb dL_law_1003 (lv_at hl 1 rfl) ?_
  refine lv_iconst (v := 1) hx hb dL_law_1005 (by decide) ?_
  refine lv_iadd hx hb dL_law_1006 ?_
  refine va_sld hx hb hXs hbl hbA hB.1.2.2 (lx_in hi hL hL9 (k := 1) (by decide)) dL_law_1007 ?_
  refine lv_aload_n hx hb dL_law_1008 rfl (lv_at hl 6 rfl) ?_
  refine lv_iload hx hb dL_law_1009 (lv_at hl 1 rfl) ?_
  refine lv_iconst (v := 2) hx hb dL_law_1011 (by decide) ?_
  refine lv_iadd hx hb dL_law_1012 ?_
  refine va_sld hx hb hXs hbl hbA hB.1.2.2 (lx_in hi hL hL9 (k := 2) (by decide)) dL_law_1013 ?_
  refine lv_aload_n hx hb dL_law_1014 rfl (lv_at hl 6 rfl) ?_
  refine lv_iload hx hb dL_law_1015 (lv_at hl 1 rfl) ?_
  refine lv_iconst (v := 3) hx hb dL_law_1017 (by decide) ?_
  refine lv_iadd hx hb dL_law_1018 ?_
  refine va_sld hx hb hXs hbl hbA hB.1.2.2 (lx_in hi hL hL9 (k := 3) (by decide)) dL_law_1019 ?_
  refine lv_i2c (v := ((xs (i + 3).toNatClampNeg).toUInt32 % 65536).toInt32) hx hb dL_law_1020 rfl ?_
  refine lv_aload_n hx hb dL_law_1021 rfl (lv_at hl 6 rfl) ?_
  refine lv_iload hx hb dL_law_1022 (lv_at hl 1 rfl) ?_
  refine lv_iconst (v := 4) hx hb dL_law_1024 (by decide) ?_
  refine lv_iadd hx hb dL_law_1025 ?_
  refine va_sld hx hb hXs hbl hbA hB.1.2.2 (lx_in hi hL hL9 (k := 4) (by decide)) dL_law_1026 ?_
  refine lw_callV (ci := 19) (b := kA K) (As := [.int (xs (i + 1).toNatClampNeg), .int (xs (i + 2).toNatClampNeg), .int (((xs (i + 3).toNatClampNeg).toUInt32 % 65536).toInt32), .int (xs (i + 4).toNatClampNeg)]) (rest := []) F hB hO (m_open l D cy hV hY hH ((xs (i + 1).toNatClampNeg)) ((xs (i + 2).toNatClampNeg)) ((((xs (i + 3).toNatClampNeg).toUInt32 % 65536).toInt32)) ((xs (i + 4).toNatClampNeg)) (lw_c16 (xs (i + 3).toNatClampNeg)) _) (cwV 4 hts (lwV lxm_ (lx_ _ (List.mem_of_getElem? (i := 330) rfl)) (lx_ _ (List.mem_of_getElem? (i := 331) rfl)) (lx_ _ (List.mem_of_getElem? (i := 332) rfl)) (lx_ _ (List.mem_of_getElem? (i := 182) rfl)) (lx_ _ (List.mem_of_getElem? (i := 333) rfl))) rfl rfl rfl ⟨rfl, by decide, by decide, by decide +kernel⟩ ⟨Nat.le_of_ble_eq_true rfl, Nat.le_of_ble_eq_true rfl⟩) rfl rfl (by decide) rfl hl.1 rfl (Nat.le_of_ble_eq_true rfl) dL_law_1027 (rm_c (show _ + 2 ≤ 606000 by omega)) (rm_s (show _ + 13 + sgPot σ0 ≤ 7100000 by omega)) (inv_Mr hV).1 (fun H locs v σ N hB hX hP hO => ?_)
  obtain ⟨⟨y4, rfl⟩, g2, ⟨hY, hH⟩, hV⟩ := hP
  refine lv_istore (lv' := [(7, .int y4), (6, .int kx1), (5, .int i), (4, .ref od), (3, .ref oa), (2, .ref (kA K)), (1, .ref x0), (0, .ref sa)]) hx hb dL_law_1030 hl (by decide) rfl (fun ls hl => ?_)
  refine lv_goto (tgt := 1864) hx hb dL_law_1032 (by decide) ?_
  exact hE _ _ _ _ _ ⟨σ, K, g2, n, S, hw, _, w2, f1, fD, hB, by omega, by omega, by omega, hV, rfl, hY, hH, hO, hD, ht9, CS_up hC (by omega)⟩ (lv_sub hl [2, 3, 4, 5, 6, 7] rfl)

set_option maxRecDepth 100000 in
set_option maxHeartbeats 4000000 in
theorem lg_22 (X : LX p l s m meth c D cy σ0 eda ca ia ad τ q0 x0 sa L xs) (ht : t < 512) (hc0 : c0 ≤ 40000) (hn0 : n0 ≤ 400000) (hI : LI D cy s σ0 eda ia ad τ q0 x0 av qv fd a0 oa od t c0 n0 H locs k N) (hi : i.toInt = 6 * (t : Int)) (hL : 6 * t + 6 ≤ L) (hl : lv_has ls 9 [(5, .int i), (4, .ref od), (3, .ref oa), (2, .ref a0), (1, .ref x0), (0, .ref sa)]) (hE : ∀ (H : Heap) (locs : List Loc) (k N : Nat) (ls : Array Slot), LI D cy s σ0 eda ia ad τ q0 x0 av qv fd a0 oa od (t + 1) c0 n0 H locs k N → lv_has ls 9 [(5, .int i), (4, .ref od), (3, .ref oa), (2, .ref a0), (1, .ref x0), (0, .ref sa)] → W p l e room_1 s m #[Value.ref sa] below meth c H locs k N Q (F0 m 1864 ls [])) : W p l e room_1 s m #[Value.ref sa] below meth c H locs k N Q (F0 m 1035 ls []) := by
  obtain ⟨F, hst, hs, hr0, hr1, hTT, hXs, hbl, hbA, hp0, hL9⟩ := X
  obtain ⟨hx, hb, hml, hown, hts⟩ := id F.1
  obtain ⟨σ, K, g, n, S, hw, nn, w, f, fD, hB, hnn, hk, hSS, hV, hKa, hY, hH, hO, hD, ht9, hC⟩ := hI
  subst hKa
  refine lv_aload_n hx hb dL_law_1035 rfl (lv_at hl 4 rfl) ?_
  refine lv_aload_n hx hb dL_law_1036 rfl (lv_at hl 5 rfl) ?_
  refine lv_iload hx hb dL_law_1037 (lv_at hl 0 rfl) ?_
  refine lv_iconst (v := 1) hx hb dL_law_1039 (by decide) ?_
  refine lv_iadd hx hb dL_law_1040 ?_
  refine va_sld hx hb hXs hbl hbA hB.1.2.2 (lx_in hi hL hL9 (k := 1) (by decide)) dL_law_1041 ?_
  refine lv_aload_n hx hb dL_law_1042 rfl (lv_at hl 2 rfl) ?_
  refine lw_wkS (wr := [(od, .inl (cy 3, 1, .inr (.inr (.inr (.inl fD)))))]) (rest := []) (vx_runSW (g := F0 m 1043 ls _) (As := [.ref x0, .int (xs (i + 1).toNatClampNeg), .ref oa]) (rest := []) F.1 (ws_close l D cy hst _ oa _ hs hr1 hC ((xs (i + 1).toNatClampNeg))) (vx_cwSW 3 hts (lwS lxl_ (lx_ _ (List.mem_of_getElem? (i := 334) rfl)) (lx_ _ (List.mem_of_getElem? (i := 335) rfl)) (lx_ _ (List.mem_of_getElem? (i := 177) rfl)) (lx_ _ (List.mem_of_getElem? (i := 336) rfl))) rfl rfl rfl ⟨by decide, by decide, by decide +kernel⟩ ⟨Nat.le_of_ble_eq_true rfl, Nat.le_of_ble_eq_true rfl⟩) ⟨vi_px_blind, vi_px hO.1.right hD.right F.2.1 F.2.2.1 hTT hB.1.2.2 sgB_A⟩ rfl rfl hl.1 rfl (lv_room (Nat.le_of_ble_eq_true rfl)) dL_law_1043 ⟨rm_c (show _ + 1 ≤ 606000 by omega), rm_s (show _ + 6 * 1 ≤ 7100000 by have := hB.2.2; omega)⟩) hB hO hD ht9 (fun H locs kx1 w2 f1 hB hO hD ht1 hC => ?_)
  have ht9 := ht1
  refine lv_istore (lv' := [(6, .int kx1), (5, .int i), (4, .ref od), (3, .ref oa), (2, .ref (kA K)), (1, .ref x0), (0, .ref sa)]) hx hb dL_law_1046 hl (by decide) rfl (fun ls hl => ?_)
  refine lv_aload_n hx hb dL_law_1048 rfl (lv_at hl 4 rfl) ?_
  refine lv_aload_n hx hb dL_law_1049 rfl (lv_at hl 6 rfl) ?_
  refine lv_iload hx hb dL_law_1050 (lv_at hl 1 rfl) ?_
  refine lv_iconst (v := 1) hx hb dL_law_1052 (by decide) ?_
  refine lv_iadd hx hb dL_law_1053 ?_
  refine va_sld hx hb hXs hbl hbA hB.1.2.2 (lx_in hi hL hL9 (k := 1) (by decide)) dL_law_1054 ?_
  refine lw_callV (ci := 19) (b := kA K) (As := [.int (xs (i + 1).toNatClampNeg)]) (rest := []) F hB hO (m_close l D cy hV ((xs (i + 1).toNatClampNeg)) _) (cwV 1 hts (lwV lxm_ (lx_ _ (List.mem_of_getElem? (i := 337) rfl)) (lx_ _ (List.mem_of_getElem? (i := 338) rfl)) (lx_ _ (List.mem_of_getElem? (i := 339) rfl)) (lx_ _ (List.mem_of_getElem? (i := 182) rfl)) (lx_ _ (List.mem_of_getElem? (i := 340) rfl))) rfl rfl rfl ⟨rfl, by decide, by decide, by decide +kernel⟩ ⟨Nat.le_of_ble_eq_true rfl, Nat.le_of_ble_eq_true rfl⟩) rfl rfl (by decide) rfl hl.1 rfl (Nat.le_of_ble_eq_true rfl) dL_law_1055 (rm_c (show _ + 12 ≤ 606000 by omega)) (rm_s (show _ + 108 + sgPot σ0 ≤ 7100000 by omega)) (inv_Mr hV).1 (fun H locs v σ N hB hX hP hO => ?_)
  obtain ⟨⟨y4, rfl⟩, hV⟩ := hP
  refine lv_istore (lv' := [(7, .int y4), (6, .int kx1), (5, .int i), (4, .ref od), (3, .ref oa), (2, .ref (kA K)), (1, .ref x0), (0, .ref sa)]) hx hb dL_law_1058 hl (by decide) rfl (fun ls hl => ?_)
  refine lv_goto (tgt := 1864) hx hb dL_law_1060 (by decide) ?_
  exact hE _ _ _ _ _ ⟨σ, K, g, n, S, hw, _, w2, f1, fD, hB, by omega, by omega, by omega, hV, rfl, hY, hH, hO, hD, ht9, CS_up hC (by omega)⟩ (lv_sub hl [2, 3, 4, 5, 6, 7] rfl)

set_option maxRecDepth 100000 in
set_option maxHeartbeats 4000000 in
theorem lg_23 (X : LX p l s m meth c D cy σ0 eda ca ia ad τ q0 x0 sa L xs) (ht : t < 512) (hc0 : c0 ≤ 40000) (hn0 : n0 ≤ 400000) (hI : LI D cy s σ0 eda ia ad τ q0 x0 av qv fd a0 oa od t c0 n0 H locs k N) (hi : i.toInt = 6 * (t : Int)) (hL : 6 * t + 6 ≤ L) (hl : lv_has ls 9 [(5, .int i), (4, .ref od), (3, .ref oa), (2, .ref a0), (1, .ref x0), (0, .ref sa)]) (hE : ∀ (H : Heap) (locs : List Loc) (k N : Nat) (ls : Array Slot), LI D cy s σ0 eda ia ad τ q0 x0 av qv fd a0 oa od (t + 1) c0 n0 H locs k N → lv_has ls 9 [(5, .int i), (4, .ref od), (3, .ref oa), (2, .ref a0), (1, .ref x0), (0, .ref sa)] → W p l e room_1 s m #[Value.ref sa] below meth c H locs k N Q (F0 m 1864 ls [])) : W p l e room_1 s m #[Value.ref sa] below meth c H locs k N Q (F0 m 1063 ls []) := by
  obtain ⟨F, hst, hs, hr0, hr1, hTT, hXs, hbl, hbA, hp0, hL9⟩ := X
  obtain ⟨hx, hb, hml, hown, hts⟩ := id F.1
  obtain ⟨σ, K, g, n, S, hw, nn, w, f, fD, hB, hnn, hk, hSS, hV, hKa, hY, hH, hO, hD, ht9, hC⟩ := hI
  subst hKa
  refine lv_aload_n hx hb dL_law_1063 rfl (lv_at hl 4 rfl) ?_
  refine lv_aload_n hx hb dL_law_1064 rfl (lv_at hl 5 rfl) ?_
  refine lv_iload hx hb dL_law_1065 (lv_at hl 0 rfl) ?_
  refine lv_iconst (v := 1) hx hb dL_law_1067 (by decide) ?_
  refine lv_iadd hx hb dL_law_1068 ?_
  refine va_sld hx hb hXs hbl hbA hB.1.2.2 (lx_in hi hL hL9 (k := 1) (by decide)) dL_law_1069 ?_
  refine lv_aload_n hx hb dL_law_1070 rfl (lv_at hl 2 rfl) ?_
  refine lw_wk (wr := [(od, .inl (cy 3, 1, .inr (.inr (.inr (.inl fD)))))]) (rest := []) (vx_runSW (g := F0 m 1071 ls _) (As := [.ref x0, .int (xs (i + 1).toNatClampNeg), .ref oa]) (rest := []) F.1 (w_phaseOf l D cy hst _ oa _ hs ht9 hr0 hr1 ((xs (i + 1).toNatClampNeg))) (vx_cwSW 3 hts (lwS lxl_ (lx_ _ (List.mem_of_getElem? (i := 341) rfl)) (lx_ _ (List.mem_of_getElem? (i := 342) rfl)) (lx_ _ (List.mem_of_getElem? (i := 177) rfl)) (lx_ _ (List.mem_of_getElem? (i := 343) rfl))) rfl rfl rfl ⟨by decide, by decide, by decide +kernel⟩ ⟨Nat.le_of_ble_eq_true rfl, Nat.le_of_ble_eq_true rfl⟩) ⟨vi_px_blind, vi_px hO.1.right hD.right F.2.1 F.2.2.1 hTT hB.1.2.2 sgB_A⟩ rfl rfl hl.1 rfl (lv_room (Nat.le_of_ble_eq_true rfl)) dL_law_1071 ⟨rm_c (show _ + 1 ≤ 606000 by omega), rm_s (show _ + 6 * 1 ≤ 7100000 by have := hB.2.2; omega)⟩) hB hO hD ht9 (fun H locs kx1 w2 f1 hB hO hD ht1 hk9 => ?_)
  obtain ⟨w3, hC, hO, hD, ht9⟩ := CS_kept (a := (od, .inl (cy 3, 1, .inr (.inr (.inr (.inl fD)))))) hC ht1 hk9 (by decide +kernel) (by decide +kernel) hO hD
  have hO : lwO D σ ([(od, .inl (cy 3, 1, .inr (.inr (.inr (.inl fD)))))] ++ (oa, .inl (cy 2, 1, .inr (.inl f1))) :: w3) H := hO
  have hD : va_D (sgA σ0 s.heap.size) ([(od, .inl (cy 3, 1, .inr (.inr (.inr (.inl fD)))))] ++ (oa, .inl (cy 2, 1, .inr (.inl f1))) :: w3) := hD
  refine lv_istore (lv' := [(6, .int kx1), (5, .int i), (4, .ref od), (3, .ref oa), (2, .ref (kA K)), (1, .ref x0), (0, .ref sa)]) hx hb dL_law_1074 hl (by decide) rfl (fun ls hl => ?_)
  refine lv_aload_n hx hb dL_law_1076 rfl (lv_at hl 4 rfl) ?_
  refine lv_aload_n hx hb dL_law_1077 rfl (lv_at hl 6 rfl) ?_
  refine lv_iload hx hb dL_law_1078 (lv_at hl 1 rfl) ?_
  refine lv_iconst (v := 1) hx hb dL_law_1080 (by decide) ?_
  refine lv_iadd hx hb dL_law_1081 ?_
  refine va_sld hx hb hXs hbl hbA hB.1.2.2 (lx_in hi hL hL9 (k := 1) (by decide)) dL_law_1082 ?_
  refine lw_callV (ci := 19) (b := kA K) (As := [.int (xs (i + 1).toNatClampNeg)]) (rest := []) F hB hO (m_phaseOf l D cy hV ((xs (i + 1).toNatClampNeg)) _) (cwV 1 hts (lwV lxm_ (lx_ _ (List.mem_of_getElem? (i := 344) rfl)) (lx_ _ (List.mem_of_getElem? (i := 345) rfl)) (lx_ _ (List.mem_of_getElem? (i := 346) rfl)) (lx_ _ (List.mem_of_getElem? (i := 182) rfl)) (lx_ _ (List.mem_of_getElem? (i := 347) rfl))) rfl rfl rfl ⟨rfl, by decide, by decide, by decide +kernel⟩ ⟨Nat.le_of_ble_eq_true rfl, Nat.le_of_ble_eq_true rfl⟩) rfl rfl (by decide) rfl hl.1 rfl (Nat.le_of_ble_eq_true rfl) dL_law_1083 (rm_c (show _ + 0 ≤ 606000 by omega)) (rm_s (show _ + 0 + sgPot σ0 ≤ 7100000 by omega)) (inv_Mr hV).1 (fun H locs v σ N hB hX hP hO => ?_)
  obtain ⟨⟨y5, rfl⟩, hV⟩ := hP
  refine lv_istore (lv' := [(7, .int y5), (6, .int kx1), (5, .int i), (4, .ref od), (3, .ref oa), (2, .ref (kA K)), (1, .ref x0), (0, .ref sa)]) hx hb dL_law_1086 hl (by decide) rfl (fun ls hl => ?_)
  refine lv_goto (tgt := 1864) hx hb dL_law_1088 (by decide) ?_
  exact hE _ _ _ _ _ ⟨σ, K, g, n, S, hw, _, w3, f1, fD, hB, by omega, by omega, by omega, hV, rfl, hY, hH, hO, hD, ht9, CS_up hC (by omega)⟩ (lv_sub hl [2, 3, 4, 5, 6, 7] rfl)

set_option maxRecDepth 100000 in
set_option maxHeartbeats 4000000 in
theorem lg_24 (X : LX p l s m meth c D cy σ0 eda ca ia ad τ q0 x0 sa L xs) (ht : t < 512) (hc0 : c0 ≤ 40000) (hn0 : n0 ≤ 400000) (hI : LI D cy s σ0 eda ia ad τ q0 x0 av qv fd a0 oa od t c0 n0 H locs k N) (hi : i.toInt = 6 * (t : Int)) (hL : 6 * t + 6 ≤ L) (hl : lv_has ls 9 [(5, .int i), (4, .ref od), (3, .ref oa), (2, .ref a0), (1, .ref x0), (0, .ref sa)]) (hE : ∀ (H : Heap) (locs : List Loc) (k N : Nat) (ls : Array Slot), LI D cy s σ0 eda ia ad τ q0 x0 av qv fd a0 oa od (t + 1) c0 n0 H locs k N → lv_has ls 9 [(5, .int i), (4, .ref od), (3, .ref oa), (2, .ref a0), (1, .ref x0), (0, .ref sa)] → W p l e room_1 s m #[Value.ref sa] below meth c H locs k N Q (F0 m 1864 ls [])) : W p l e room_1 s m #[Value.ref sa] below meth c H locs k N Q (F0 m 1091 ls []) := by
  obtain ⟨F, hst, hs, hr0, hr1, hTT, hXs, hbl, hbA, hp0, hL9⟩ := X
  obtain ⟨hx, hb, hml, hown, hts⟩ := id F.1
  obtain ⟨σ, K, g, n, S, hw, nn, w, f, fD, hB, hnn, hk, hSS, hV, hKa, hY, hH, hO, hD, ht9, hC⟩ := hI
  subst hKa
  refine lv_aload_n hx hb dL_law_1091 rfl (lv_at hl 4 rfl) ?_
  refine lv_aload_n hx hb dL_law_1092 rfl (lv_at hl 5 rfl) ?_
  refine lv_iload hx hb dL_law_1093 (lv_at hl 0 rfl) ?_
  refine lv_iconst (v := 1) hx hb dL_law_1095 (by decide) ?_
  refine lv_iadd hx hb dL_law_1096 ?_
  refine va_sld hx hb hXs hbl hbA hB.1.2.2 (lx_in hi hL hL9 (k := 1) (by decide)) dL_law_1097 ?_
  refine lv_aload_n hx hb dL_law_1098 rfl (lv_at hl 5 rfl) ?_
  refine lv_iload hx hb dL_law_1099 (lv_at hl 0 rfl) ?_
  refine lv_iconst (v := 2) hx hb dL_law_1101 (by decide) ?_
  refine lv_iadd hx hb dL_law_1102 ?_
  refine va_sld hx hb hXs hbl hbA hB.1.2.2 (lx_in hi hL hL9 (k := 2) (by decide)) dL_law_1103 ?_
  refine lv_aload_n hx hb dL_law_1104 rfl (lv_at hl 2 rfl) ?_
  refine lw_wk (wr := [(od, .inl (cy 3, 1, .inr (.inr (.inr (.inl fD)))))]) (rest := []) (vx_runSW (g := F0 m 1105 ls _) (As := [.ref x0, .int (xs (i + 1).toNatClampNeg), .int (xs (i + 2).toNatClampNeg), .ref oa]) (rest := []) F.1 (w_reserved l D cy hst _ oa _ hs ht9 hr0 hr1 ((xs (i + 1).toNatClampNeg)) ((xs (i + 2).toNatClampNeg))) (vx_cwSW 4 hts (lwS lxl_ (lx_ _ (List.mem_of_getElem? (i := 348) rfl)) (lx_ _ (List.mem_of_getElem? (i := 349) rfl)) (lx_ _ (List.mem_of_getElem? (i := 177) rfl)) (lx_ _ (List.mem_of_getElem? (i := 350) rfl))) rfl rfl rfl ⟨by decide, by decide, by decide +kernel⟩ ⟨Nat.le_of_ble_eq_true rfl, Nat.le_of_ble_eq_true rfl⟩) ⟨vi_px_blind, vi_px hO.1.right hD.right F.2.1 F.2.2.1 hTT hB.1.2.2 sgB_A⟩ rfl rfl hl.1 rfl (lv_room (Nat.le_of_ble_eq_true rfl)) dL_law_1105 ⟨rm_c (show _ + 1 ≤ 606000 by omega), rm_s (show _ + 6 * 1 ≤ 7100000 by have := hB.2.2; omega)⟩) hB hO hD ht9 (fun H locs kx1 w2 f1 hB hO hD ht1 hk9 => ?_)
  obtain ⟨w3, hC, hO, hD, ht9⟩ := CS_kept (a := (od, .inl (cy 3, 1, .inr (.inr (.inr (.inl fD)))))) hC ht1 hk9 (by decide +kernel) (by decide +kernel) hO hD
  have hO : lwO D σ ([(od, .inl (cy 3, 1, .inr (.inr (.inr (.inl fD)))))] ++ (oa, .inl (cy 2, 1, .inr (.inl f1))) :: w3) H := hO
  have hD : va_D (sgA σ0 s.heap.size) ([(od, .inl (cy 3, 1, .inr (.inr (.inr (.inl fD)))))] ++ (oa, .inl (cy 2, 1, .inr (.inl f1))) :: w3) := hD
  refine lv_istore (lv' := [(6, .int kx1), (5, .int i), (4, .ref od), (3, .ref oa), (2, .ref (kA K)), (1, .ref x0), (0, .ref sa)]) hx hb dL_law_1108 hl (by decide) rfl (fun ls hl => ?_)
  refine lv_aload_n hx hb dL_law_1110 rfl (lv_at hl 4 rfl) ?_
  refine lv_aload_n hx hb dL_law_1111 rfl (lv_at hl 6 rfl) ?_
  refine lv_iload hx hb dL_law_1112 (lv_at hl 1 rfl) ?_
  refine lv_iconst (v := 1) hx hb dL_law_1114 (by decide) ?_
  refine lv_iadd hx hb dL_law_1115 ?_
  refine va_sld hx hb hXs hbl hbA hB.1.2.2 (lx_in hi hL hL9 (k := 1) (by decide)) dL_law_1116 ?_
  refine lv_aload_n hx hb dL_law_1117 rfl (lv_at hl 6 rfl) ?_
  refine lv_iload hx hb dL_law_1118 (lv_at hl 1 rfl) ?_
  refine lv_iconst (v := 2) hx hb dL_law_1120 (by decide) ?_
  refine lv_iadd hx hb dL_law_1121 ?_
  refine va_sld hx hb hXs hbl hbA hB.1.2.2 (lx_in hi hL hL9 (k := 2) (by decide)) dL_law_1122 ?_
  refine lw_callV (ci := 19) (b := kA K) (As := [.int (xs (i + 1).toNatClampNeg), .int (xs (i + 2).toNatClampNeg)]) (rest := []) F hB hO (m_reserved l D cy hV hY ((xs (i + 1).toNatClampNeg)) ((xs (i + 2).toNatClampNeg)) _) (cwV 2 hts (lwV lxm_ (lx_ _ (List.mem_of_getElem? (i := 351) rfl)) (lx_ _ (List.mem_of_getElem? (i := 352) rfl)) (lx_ _ (List.mem_of_getElem? (i := 353) rfl)) (lx_ _ (List.mem_of_getElem? (i := 182) rfl)) (lx_ _ (List.mem_of_getElem? (i := 354) rfl))) rfl rfl rfl ⟨rfl, by decide, by decide, by decide +kernel⟩ ⟨Nat.le_of_ble_eq_true rfl, Nat.le_of_ble_eq_true rfl⟩) rfl rfl (by decide) rfl hl.1 rfl (Nat.le_of_ble_eq_true rfl) dL_law_1123 (rm_c (show _ + 0 ≤ 606000 by omega)) (rm_s (show _ + 0 + sgPot σ0 ≤ 7100000 by omega)) (inv_Mr hV).1 (fun H locs v σ N hB hX hP hO => ?_)
  obtain ⟨⟨y5, rfl⟩, hV⟩ := hP
  refine lv_istore (lv' := [(7, .int y5), (6, .int kx1), (5, .int i), (4, .ref od), (3, .ref oa), (2, .ref (kA K)), (1, .ref x0), (0, .ref sa)]) hx hb dL_law_1126 hl (by decide) rfl (fun ls hl => ?_)
  refine lv_goto (tgt := 1864) hx hb dL_law_1128 (by decide) ?_
  exact hE _ _ _ _ _ ⟨σ, K, g, n, S, hw, _, w3, f1, fD, hB, by omega, by omega, by omega, hV, rfl, hY, hH, hO, hD, ht9, CS_up hC (by omega)⟩ (lv_sub hl [2, 3, 4, 5, 6, 7] rfl)

set_option maxRecDepth 100000 in
set_option maxHeartbeats 4000000 in
theorem lg_25 (X : LX p l s m meth c D cy σ0 eda ca ia ad τ q0 x0 sa L xs) (ht : t < 512) (hc0 : c0 ≤ 40000) (hn0 : n0 ≤ 400000) (hI : LI D cy s σ0 eda ia ad τ q0 x0 av qv fd a0 oa od t c0 n0 H locs k N) (hi : i.toInt = 6 * (t : Int)) (hL : 6 * t + 6 ≤ L) (hl : lv_has ls 9 [(5, .int i), (4, .ref od), (3, .ref oa), (2, .ref a0), (1, .ref x0), (0, .ref sa)]) (hE : ∀ (H : Heap) (locs : List Loc) (k N : Nat) (ls : Array Slot), LI D cy s σ0 eda ia ad τ q0 x0 av qv fd a0 oa od (t + 1) c0 n0 H locs k N → lv_has ls 9 [(5, .int i), (4, .ref od), (3, .ref oa), (2, .ref a0), (1, .ref x0), (0, .ref sa)] → W p l e room_1 s m #[Value.ref sa] below meth c H locs k N Q (F0 m 1864 ls [])) : W p l e room_1 s m #[Value.ref sa] below meth c H locs k N Q (F0 m 1131 ls []) := by
  obtain ⟨F, hst, hs, hr0, hr1, hTT, hXs, hbl, hbA, hp0, hL9⟩ := X
  obtain ⟨hx, hb, hml, hown, hts⟩ := id F.1
  obtain ⟨σ, K, g, n, S, hw, nn, w, f, fD, hB, hnn, hk, hSS, hV, hKa, hY, hH, hO, hD, ht9, hC⟩ := hI
  subst hKa
  refine lv_aload_n hx hb dL_law_1131 rfl (lv_at hl 4 rfl) ?_
  refine lv_aload_n hx hb dL_law_1132 rfl (lv_at hl 5 rfl) ?_
  refine lv_iload hx hb dL_law_1133 (lv_at hl 0 rfl) ?_
  refine lv_iconst (v := 1) hx hb dL_law_1135 (by decide) ?_
  refine lv_iadd hx hb dL_law_1136 ?_
  refine va_sld hx hb hXs hbl hbA hB.1.2.2 (lx_in hi hL hL9 (k := 1) (by decide)) dL_law_1137 ?_
  refine lv_aload_n hx hb dL_law_1138 rfl (lv_at hl 2 rfl) ?_
  refine lw_wkS (wr := [(od, .inl (cy 3, 1, .inr (.inr (.inr (.inl fD)))))]) (rest := []) (vx_runSW (g := F0 m 1139 ls _) (As := [.ref x0, .int (xs (i + 1).toNatClampNeg), .ref oa]) (rest := []) F.1 (ws_send l D cy hst _ oa _ hs hr1 hC ((xs (i + 1).toNatClampNeg))) (vx_cwSW 3 hts (lwS lxl_ (lx_ _ (List.mem_of_getElem? (i := 355) rfl)) (lx_ _ (List.mem_of_getElem? (i := 356) rfl)) (lx_ _ (List.mem_of_getElem? (i := 177) rfl)) (lx_ _ (List.mem_of_getElem? (i := 357) rfl))) rfl rfl rfl ⟨by decide, by decide, by decide +kernel⟩ ⟨Nat.le_of_ble_eq_true rfl, Nat.le_of_ble_eq_true rfl⟩) ⟨vi_px_blind, vi_px hO.1.right hD.right F.2.1 F.2.2.1 hTT hB.1.2.2 sgB_A⟩ rfl rfl hl.1 rfl (lv_room (Nat.le_of_ble_eq_true rfl)) dL_law_1139 ⟨rm_c (show _ + 2 ≤ 606000 by omega), rm_s (show _ + 6 * 2 ≤ 7100000 by have := hB.2.2; omega)⟩) hB hO hD ht9 (fun H locs kx1 w2 f1 hB hO hD ht1 hC => ?_)
  have ht9 := ht1
  refine lv_istore (lv' := [(6, .int kx1), (5, .int i), (4, .ref od), (3, .ref oa), (2, .ref (kA K)), (1, .ref x0), (0, .ref sa)]) hx hb dL_law_1142 hl (by decide) rfl (fun ls hl => ?_)
  refine lv_aload_n hx hb dL_law_1144 rfl (lv_at hl 4 rfl) ?_
  refine lv_aload_n hx hb dL_law_1145 rfl (lv_at hl 6 rfl) ?_
  refine lv_iload hx hb dL_law_1146 (lv_at hl 1 rfl) ?_
  refine lv_iconst (v := 1) hx hb dL_law_1148 (by decide) ?_
  refine lv_iadd hx hb dL_law_1149 ?_
  refine va_sld hx hb hXs hbl hbA hB.1.2.2 (lx_in hi hL hL9 (k := 1) (by decide)) dL_law_1150 ?_
  refine lw_callV (ci := 19) (b := kA K) (As := [.int (xs (i + 1).toNatClampNeg)]) (rest := []) F hB hO (m_send l D cy hV hY hH ((xs (i + 1).toNatClampNeg)) _) (cwV 1 hts (lwV lxm_ (lx_ _ (List.mem_of_getElem? (i := 358) rfl)) (lx_ _ (List.mem_of_getElem? (i := 359) rfl)) (lx_ _ (List.mem_of_getElem? (i := 360) rfl)) (lx_ _ (List.mem_of_getElem? (i := 182) rfl)) (lx_ _ (List.mem_of_getElem? (i := 361) rfl))) rfl rfl rfl ⟨rfl, by decide, by decide, by decide +kernel⟩ ⟨Nat.le_of_ble_eq_true rfl, Nat.le_of_ble_eq_true rfl⟩) rfl rfl (by decide) rfl hl.1 rfl (Nat.le_of_ble_eq_true rfl) dL_law_1151 (rm_c (show _ + 3 ≤ 606000 by omega)) (rm_s (show _ + 36 + sgPot σ0 ≤ 7100000 by omega)) (inv_Mr hV).1 (fun H locs v σ N hB hX hP hO => ?_)
  obtain ⟨⟨y4, rfl⟩, g2, ⟨hY, hH⟩, hV⟩ := hP
  refine lv_istore (lv' := [(7, .int y4), (6, .int kx1), (5, .int i), (4, .ref od), (3, .ref oa), (2, .ref (kA K)), (1, .ref x0), (0, .ref sa)]) hx hb dL_law_1154 hl (by decide) rfl (fun ls hl => ?_)
  refine lv_goto (tgt := 1864) hx hb dL_law_1156 (by decide) ?_
  exact hE _ _ _ _ _ ⟨σ, K, g2, n, S, hw, _, w2, f1, fD, hB, by omega, by omega, by omega, hV, rfl, hY, hH, hO, hD, ht9, CS_up hC (by omega)⟩ (lv_sub hl [2, 3, 4, 5, 6, 7] rfl)

set_option maxRecDepth 100000 in
set_option maxHeartbeats 4000000 in
theorem lg_26 (X : LX p l s m meth c D cy σ0 eda ca ia ad τ q0 x0 sa L xs) (ht : t < 512) (hc0 : c0 ≤ 40000) (hn0 : n0 ≤ 400000) (hI : LI D cy s σ0 eda ia ad τ q0 x0 av qv fd a0 oa od t c0 n0 H locs k N) (hi : i.toInt = 6 * (t : Int)) (hL : 6 * t + 6 ≤ L) (hl : lv_has ls 9 [(5, .int i), (4, .ref od), (3, .ref oa), (2, .ref a0), (1, .ref x0), (0, .ref sa)]) (hE : ∀ (H : Heap) (locs : List Loc) (k N : Nat) (ls : Array Slot), LI D cy s σ0 eda ia ad τ q0 x0 av qv fd a0 oa od (t + 1) c0 n0 H locs k N → lv_has ls 9 [(5, .int i), (4, .ref od), (3, .ref oa), (2, .ref a0), (1, .ref x0), (0, .ref sa)] → W p l e room_1 s m #[Value.ref sa] below meth c H locs k N Q (F0 m 1864 ls [])) : W p l e room_1 s m #[Value.ref sa] below meth c H locs k N Q (F0 m 1159 ls []) := by
  obtain ⟨F, hst, hs, hr0, hr1, hTT, hXs, hbl, hbA, hp0, hL9⟩ := X
  obtain ⟨hx, hb, hml, hown, hts⟩ := id F.1
  obtain ⟨σ, K, g, n, S, hw, nn, w, f, fD, hB, hnn, hk, hSS, hV, hKa, hY, hH, hO, hD, ht9, hC⟩ := hI
  subst hKa
  refine lv_aload_n hx hb dL_law_1159 rfl (lv_at hl 4 rfl) ?_
  refine lv_aload_n hx hb dL_law_1160 rfl (lv_at hl 5 rfl) ?_
  refine lv_iload hx hb dL_law_1161 (lv_at hl 0 rfl) ?_
  refine lv_iconst (v := 1) hx hb dL_law_1163 (by decide) ?_
  refine lv_iadd hx hb dL_law_1164 ?_
  refine va_sld hx hb hXs hbl hbA hB.1.2.2 (lx_in hi hL hL9 (k := 1) (by decide)) dL_law_1165 ?_
  refine lv_aload_n hx hb dL_law_1166 rfl (lv_at hl 5 rfl) ?_
  refine lv_iload hx hb dL_law_1167 (lv_at hl 0 rfl) ?_
  refine lv_iconst (v := 2) hx hb dL_law_1169 (by decide) ?_
  refine lv_iadd hx hb dL_law_1170 ?_
  refine va_sld hx hb hXs hbl hbA hB.1.2.2 (lx_in hi hL hL9 (k := 2) (by decide)) dL_law_1171 ?_
  refine lv_aload_n hx hb dL_law_1172 rfl (lv_at hl 2 rfl) ?_
  refine lw_wkS (wr := [(od, .inl (cy 3, 1, .inr (.inr (.inr (.inl fD)))))]) (rest := []) (vx_runSW (g := F0 m 1173 ls _) (As := [.ref x0, .int (xs (i + 1).toNatClampNeg), .int (xs (i + 2).toNatClampNeg), .ref oa]) (rest := []) F.1 (ws_ask l D cy hst _ oa _ hs hr1 hC ((xs (i + 1).toNatClampNeg)) ((xs (i + 2).toNatClampNeg))) (vx_cwSW 4 hts (lwS lxl_ (lx_ _ (List.mem_of_getElem? (i := 362) rfl)) (lx_ _ (List.mem_of_getElem? (i := 363) rfl)) (lx_ _ (List.mem_of_getElem? (i := 177) rfl)) (lx_ _ (List.mem_of_getElem? (i := 364) rfl))) rfl rfl rfl ⟨by decide, by decide, by decide +kernel⟩ ⟨Nat.le_of_ble_eq_true rfl, Nat.le_of_ble_eq_true rfl⟩) ⟨vi_px_blind, vi_px hO.1.right hD.right F.2.1 F.2.2.1 hTT hB.1.2.2 sgB_A⟩ rfl rfl hl.1 rfl (lv_room (Nat.le_of_ble_eq_true rfl)) dL_law_1173 ⟨rm_c (show _ + 2 ≤ 606000 by omega), rm_s (show _ + 6 * 2 ≤ 7100000 by have := hB.2.2; omega)⟩) hB hO hD ht9 (fun H locs kx1 w2 f1 hB hO hD ht1 hC => ?_)
  have ht9 := ht1
  refine lv_istore (lv' := [(6, .int kx1), (5, .int i), (4, .ref od), (3, .ref oa), (2, .ref (kA K)), (1, .ref x0), (0, .ref sa)]) hx hb dL_law_1176 hl (by decide) rfl (fun ls hl => ?_)
  refine lv_aload_n hx hb dL_law_1178 rfl (lv_at hl 4 rfl) ?_
  refine lv_aload_n hx hb dL_law_1179 rfl (lv_at hl 6 rfl) ?_
  refine lv_iload hx hb dL_law_1180 (lv_at hl 1 rfl) ?_
  refine lv_iconst (v := 1) hx hb dL_law_1182 (by decide) ?_
  refine lv_iadd hx hb dL_law_1183 ?_
  refine va_sld hx hb hXs hbl hbA hB.1.2.2 (lx_in hi hL hL9 (k := 1) (by decide)) dL_law_1184 ?_
  refine lv_aload_n hx hb dL_law_1185 rfl (lv_at hl 6 rfl) ?_
  refine lv_iload hx hb dL_law_1186 (lv_at hl 1 rfl) ?_
  refine lv_iconst (v := 2) hx hb dL_law_1188 (by decide) ?_
  refine lv_iadd hx hb dL_law_1189 ?_
  refine va_sld hx hb hXs hbl hbA hB.1.2.2 (lx_in hi hL hL9 (k := 2) (by decide)) dL_law_1190 ?_
  refine lw_callV (ci := 19) (b := kA K) (As := [.int (xs (i + 1).toNatClampNeg), .int (xs (i + 2).toNatClampNeg)]) (rest := []) F hB hO (m_ask l D cy hV hY hH ((xs (i + 1).toNatClampNeg)) ((xs (i + 2).toNatClampNeg)) _) (cwV 2 hts (lwV lxm_ (lx_ _ (List.mem_of_getElem? (i := 365) rfl)) (lx_ _ (List.mem_of_getElem? (i := 366) rfl)) (lx_ _ (List.mem_of_getElem? (i := 367) rfl)) (lx_ _ (List.mem_of_getElem? (i := 182) rfl)) (lx_ _ (List.mem_of_getElem? (i := 368) rfl))) rfl rfl rfl ⟨rfl, by decide, by decide, by decide +kernel⟩ ⟨Nat.le_of_ble_eq_true rfl, Nat.le_of_ble_eq_true rfl⟩) rfl rfl (by decide) rfl hl.1 rfl (Nat.le_of_ble_eq_true rfl) dL_law_1191 (rm_c (show _ + 3 ≤ 606000 by omega)) (rm_s (show _ + 20 + sgPot σ0 ≤ 7100000 by omega)) (inv_Mr hV).1 (fun H locs v σ N hB hX hP hO => ?_)
  obtain ⟨⟨y4, rfl⟩, g2, ⟨hY, hH⟩, hV⟩ := hP
  refine lv_istore (lv' := [(7, .int y4), (6, .int kx1), (5, .int i), (4, .ref od), (3, .ref oa), (2, .ref (kA K)), (1, .ref x0), (0, .ref sa)]) hx hb dL_law_1194 hl (by decide) rfl (fun ls hl => ?_)
  refine lv_goto (tgt := 1864) hx hb dL_law_1196 (by decide) ?_
  exact hE _ _ _ _ _ ⟨σ, K, g2, n, S, hw, _, w2, f1, fD, hB, by omega, by omega, by omega, hV, rfl, hY, hH, hO, hD, ht9, CS_up hC (by omega)⟩ (lv_sub hl [2, 3, 4, 5, 6, 7] rfl)
end LGC
