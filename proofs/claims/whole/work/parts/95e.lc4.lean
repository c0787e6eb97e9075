set_option maxHeartbeats 400000 in
set_option maxRecDepth 100000 in
theorem lc_20 {E : awE} {S : awS} {M : aM} {j kc ks : Nat} {Q : Option Value → awS → Nat → Nat → Prop} (I : lwS S M) (hj : 7 * j + 7 ≤ awE_n E) (hnb : awE_n E < 2 ^ 31) (k : lwK E M j kc ks Q) : awV true E m_law 1036 (lwL j) [] S kc ks Q := by
  refine av_aload_n (i := 1) dL_law_1036 rfl rfl rfl ?_
  refine av_aload_n (i := 0) dL_law_1037 rfl rfl rfl ?_
  refine av_iload dL_law_1038 rfl ?_
  refine av_iconst (v := 1) dL_law_1040 (by decide) ?_
  refine av_iadd1 dL_law_1041 ?_
  refine av_sldN dL_law_1042 (by omega) hnb ?_
  refine av_aload_n (i := 0) dL_law_1043 rfl rfl rfl ?_
  refine av_iload dL_law_1044 rfl ?_
  refine av_iconst (v := nI 2) dL_law_1046 (by decide) ?_
  refine av_iaddN dL_law_1047 ?_
  refine av_sldN dL_law_1048 (by omega) hnb ?_
  refine av_invV (c := 12) (n := 2) (As := [_, _]) dL_law_1049 cb_X11_answer cv_L_113.1 cv_L_113.2.1 cv_L_113.2.2 rfl (by decide) rfl ⟨Nat.le_of_ble_eq_true rfl, Nat.le_of_ble_eq_true rfl⟩ (Nat.le_of_ble_eq_true rfl) rfl (I.call (fun Q h => c_answer I.2.2.1 h) (fun S1 mc ms n1 b1 b2 => ?_))
  refine av_aload_n (i := 2) dL_law_1052 rfl rfl rfl ?_
  refine av_aload_n (i := 0) dL_law_1053 rfl rfl rfl ?_
  refine av_iload dL_law_1054 rfl ?_
  refine av_iconst (v := 1) dL_law_1056 (by decide) ?_
  refine av_iadd1 dL_law_1057 ?_
  refine av_sldN dL_law_1058 (by omega) hnb ?_
  refine av_aload_n (i := 0) dL_law_1059 rfl rfl rfl ?_
  refine av_iload dL_law_1060 rfl ?_
  refine av_iconst (v := nI 2) dL_law_1062 (by decide) ?_
  refine av_iaddN dL_law_1063 ?_
  refine av_sldN dL_law_1064 (by omega) hnb ?_
  refine av_sE (par_e n1.1) ?_
  refine av_invV (c := 13) (n := 2) (As := [_, _]) dL_law_1065 cb_X12_answer cv_L_116.1 cv_L_116.2.1 cv_L_116.2.2 rfl (by decide) rfl ⟨Nat.le_of_ble_eq_true rfl, Nat.le_of_ble_eq_true rfl⟩ (Nat.le_of_ble_eq_true rfl) rfl (t_answer n1.2.1 I.2.2.1.1.mI _ _ ?_)
  refine av_icmp_eq (tgt := 1485) dL_law_1068 (by decide) (fun c_1068 => ?_) (fun c_1068 => ?_)
  · exact k _ _ _ _ (lwS.put n1.2.1 n1.2.2.1 n1.2.2.2.1) n1.2.2.2.2 (by omega) (by omega)
  · exact absurd rfl c_1068
set_option maxHeartbeats 400000 in
set_option maxRecDepth 100000 in
theorem lc_21 {E : awE} {S : awS} {M : aM} {j kc ks : Nat} {Q : Option Value → awS → Nat → Nat → Prop} (I : lwS S M) (hj : 7 * j + 7 ≤ awE_n E) (hnb : awE_n E < 2 ^ 31) (k : lwK E M j kc ks Q) : awV true E m_law 1073 (lwL j) [] S kc ks Q := by
  refine av_aload_n (i := 1) dL_law_1073 rfl rfl rfl ?_
  refine av_aload_n (i := 0) dL_law_1074 rfl rfl rfl ?_
  refine av_iload dL_law_1075 rfl ?_
  refine av_iconst (v := 1) dL_law_1077 (by decide) ?_
  refine av_iadd1 dL_law_1078 ?_
  refine av_sldN dL_law_1079 (by omega) hnb ?_
  refine av_invV (c := 12) (n := 1) (As := [_]) dL_law_1080 cb_X11_noise cv_L_117.1 cv_L_117.2.1 cv_L_117.2.2 rfl (by decide) rfl ⟨Nat.le_of_ble_eq_true rfl, Nat.le_of_ble_eq_true rfl⟩ (Nat.le_of_ble_eq_true rfl) rfl (I.call (p := mNoise M _) (fun Q h => c_noise I.2.2.1.1 I.2.2.1.2 (rd_post (p := mNoise M _) I.2.2.1 rd_mNoise h)) (fun S1 mc ms n1 b1 b2 => ?_))
  refine av_aload_n (i := 2) dL_law_1083 rfl rfl rfl ?_
  refine av_aload_n (i := 0) dL_law_1084 rfl rfl rfl ?_
  refine av_iload dL_law_1085 rfl ?_
  refine av_iconst (v := 1) dL_law_1087 (by decide) ?_
  refine av_iadd1 dL_law_1088 ?_
  refine av_sldN dL_law_1089 (by omega) hnb ?_
  refine av_sE (par_e n1.1) ?_
  refine av_invV (c := 13) (n := 1) (As := [_]) dL_law_1090 cb_X12_noise cv_L_120.1 cv_L_120.2.1 cv_L_120.2.2 rfl (by decide) rfl ⟨Nat.le_of_ble_eq_true rfl, Nat.le_of_ble_eq_true rfl⟩ (Nat.le_of_ble_eq_true rfl) rfl (t_noise n1.2.1 I.2.2.1.1.mI _ ?_)
  refine av_icmp_eq (tgt := 1485) dL_law_1093 (by decide) (fun c_1093 => ?_) (fun c_1093 => ?_)
  · exact k _ _ _ _ (lwS.put n1.2.1 n1.2.2.1 n1.2.2.2.1) n1.2.2.2.2 (by omega) (by omega)
  · exact absurd rfl c_1093
set_option maxHeartbeats 400000 in
set_option maxRecDepth 100000 in
theorem lc_22 {E : awE} {S : awS} {M : aM} {j kc ks : Nat} {Q : Option Value → awS → Nat → Nat → Prop} (I : lwS S M) (hj : 7 * j + 7 ≤ awE_n E) (hnb : awE_n E < 2 ^ 31) (k : lwK E M j kc ks Q) : awV true E m_law 1098 (lwL j) [] S kc ks Q := by
  refine av_aload_n (i := 1) dL_law_1098 rfl rfl rfl ?_
  refine av_aload_n (i := 0) dL_law_1099 rfl rfl rfl ?_
  refine av_iload dL_law_1100 rfl ?_
  refine av_iconst (v := 1) dL_law_1102 (by decide) ?_
  refine av_iadd1 dL_law_1103 ?_
  refine av_sldN dL_law_1104 (by omega) hnb ?_
  refine av_aload_n (i := 0) dL_law_1105 rfl rfl rfl ?_
  refine av_iload dL_law_1106 rfl ?_
  refine av_iconst (v := nI 2) dL_law_1108 (by decide) ?_
  refine av_iaddN dL_law_1109 ?_
  refine av_sldN dL_law_1110 (by omega) hnb ?_
  refine av_invV (c := 12) (n := 2) (As := [_, _]) dL_law_1111 cb_X11_flap cv_L_121.1 cv_L_121.2.1 cv_L_121.2.2 rfl (by decide) rfl ⟨Nat.le_of_ble_eq_true rfl, Nat.le_of_ble_eq_true rfl⟩ (Nat.le_of_ble_eq_true rfl) rfl (I.call (p := mFlap M _ _) (fun Q h => c_flap I.2.2.1.1 I.2.2.1.2 (rd_post (p := mFlap M _ _) I.2.2.1 rd_mFlap h)) (fun S1 mc ms n1 b1 b2 => ?_))
  refine av_aload_n (i := 2) dL_law_1114 rfl rfl rfl ?_
  refine av_aload_n (i := 0) dL_law_1115 rfl rfl rfl ?_
  refine av_iload dL_law_1116 rfl ?_
  refine av_iconst (v := 1) dL_law_1118 (by decide) ?_
  refine av_iadd1 dL_law_1119 ?_
  refine av_sldN dL_law_1120 (by omega) hnb ?_
  refine av_aload_n (i := 0) dL_law_1121 rfl rfl rfl ?_
  refine av_iload dL_law_1122 rfl ?_
  refine av_iconst (v := nI 2) dL_law_1124 (by decide) ?_
  refine av_iaddN dL_law_1125 ?_
  refine av_sldN dL_law_1126 (by omega) hnb ?_
  refine av_sE (par_e n1.1) ?_
  refine av_invV (c := 13) (n := 2) (As := [_, _]) dL_law_1127 cb_X12_flap cv_L_124.1 cv_L_124.2.1 cv_L_124.2.2 rfl (by decide) rfl ⟨Nat.le_of_ble_eq_true rfl, Nat.le_of_ble_eq_true rfl⟩ (Nat.le_of_ble_eq_true rfl) rfl (t_flap n1.2.1 I.2.2.1.1.mI _ _ ?_)
  refine av_icmp_eq (tgt := 1485) dL_law_1130 (by decide) (fun c_1130 => ?_) (fun c_1130 => ?_)
  · exact k _ _ _ _ (lwS.put n1.2.1 n1.2.2.1 n1.2.2.2.1) n1.2.2.2.2 (by omega) (by omega)
  · exact absurd rfl c_1130
set_option maxHeartbeats 400000 in
set_option maxRecDepth 100000 in
theorem lc_23 {E : awE} {S : awS} {M : aM} {j kc ks : Nat} {Q : Option Value → awS → Nat → Nat → Prop} (I : lwS S M) (hj : 7 * j + 7 ≤ awE_n E) (hnb : awE_n E < 2 ^ 31) (k : lwK E M j kc ks Q) : awV true E m_law 1135 (lwL j) [] S kc ks Q := by
  refine av_aload_n (i := 1) dL_law_1135 rfl rfl rfl ?_
  refine av_aload_n (i := 0) dL_law_1136 rfl rfl rfl ?_
  refine av_iload dL_law_1137 rfl ?_
  refine av_iconst (v := 1) dL_law_1139 (by decide) ?_
  refine av_iadd1 dL_law_1140 ?_
  refine av_sldN dL_law_1141 (by omega) hnb ?_
  refine av_aload_n (i := 0) dL_law_1142 rfl rfl rfl ?_
  refine av_iload dL_law_1143 rfl ?_
  refine av_iconst (v := nI 2) dL_law_1145 (by decide) ?_
  refine av_iaddN dL_law_1146 ?_
  refine av_sldN dL_law_1147 (by omega) hnb ?_
  refine av_invV (c := 12) (n := 2) (As := [_, _]) dL_law_1148 cb_X11_least cv_L_125.1 cv_L_125.2.1 cv_L_125.2.2 rfl (by decide) rfl ⟨Nat.le_of_ble_eq_true rfl, Nat.le_of_ble_eq_true rfl⟩ (Nat.le_of_ble_eq_true rfl) rfl (I.call (p := mLeast M _ _) (fun Q h => c_least I.2.2.1.1 I.2.2.1.2 (rd_post (p := mLeast M _ _) I.2.2.1 rd_mLeast h)) (fun S1 mc ms n1 b1 b2 => ?_))
  refine av_aload_n (i := 2) dL_law_1151 rfl rfl rfl ?_
  refine av_aload_n (i := 0) dL_law_1152 rfl rfl rfl ?_
  refine av_iload dL_law_1153 rfl ?_
  refine av_iconst (v := 1) dL_law_1155 (by decide) ?_
  refine av_iadd1 dL_law_1156 ?_
  refine av_sldN dL_law_1157 (by omega) hnb ?_
  refine av_aload_n (i := 0) dL_law_1158 rfl rfl rfl ?_
  refine av_iload dL_law_1159 rfl ?_
  refine av_iconst (v := nI 2) dL_law_1161 (by decide) ?_
  refine av_iaddN dL_law_1162 ?_
  refine av_sldN dL_law_1163 (by omega) hnb ?_
  refine av_sE (par_e n1.1) ?_
  refine av_invV (c := 13) (n := 2) (As := [_, _]) dL_law_1164 cb_X12_least cv_L_128.1 cv_L_128.2.1 cv_L_128.2.2 rfl (by decide) rfl ⟨Nat.le_of_ble_eq_true rfl, Nat.le_of_ble_eq_true rfl⟩ (Nat.le_of_ble_eq_true rfl) rfl (t_least n1.2.1 I.2.2.1.1.mI _ _ ?_)
  refine av_icmp_eq (tgt := 1485) dL_law_1167 (by decide) (fun c_1167 => ?_) (fun c_1167 => ?_)
  · exact k _ _ _ _ (lwS.put n1.2.1 n1.2.2.1 n1.2.2.2.1) n1.2.2.2.2 (by omega) (by omega)
  · exact absurd rfl c_1167
set_option maxHeartbeats 400000 in
set_option maxRecDepth 100000 in
theorem lc_24 {E : awE} {S : awS} {M : aM} {j kc ks : Nat} {Q : Option Value → awS → Nat → Nat → Prop} (I : lwS S M) (hj : 7 * j + 7 ≤ awE_n E) (hnb : awE_n E < 2 ^ 31) (k : lwK E M j kc ks Q) : awV true E m_law 1172 (lwL j) [] S kc ks Q := by
  refine av_aload_n (i := 1) dL_law_1172 rfl rfl rfl ?_
  refine av_aload_n (i := 0) dL_law_1173 rfl rfl rfl ?_
  refine av_iload dL_law_1174 rfl ?_
  refine av_iconst (v := 1) dL_law_1176 (by decide) ?_
  refine av_iadd1 dL_law_1177 ?_
  refine av_sldN dL_law_1178 (by omega) hnb ?_
  refine av_invV (c := 12) (n := 1) (As := [_]) dL_law_1179 cb_X11_count cv_L_129.1 cv_L_129.2.1 cv_L_129.2.2 rfl (by decide) rfl ⟨Nat.le_of_ble_eq_true rfl, Nat.le_of_ble_eq_true rfl⟩ (Nat.le_of_ble_eq_true rfl) rfl (I.call (p := mCount M _) (fun Q h => c_count I.2.2.1.1 I.2.2.1.2 (rd_post (p := mCount M _) I.2.2.1 rd_mCount h)) (fun S1 mc ms n1 b1 b2 => ?_))
  refine av_aload_n (i := 2) dL_law_1182 rfl rfl rfl ?_
  refine av_aload_n (i := 0) dL_law_1183 rfl rfl rfl ?_
  refine av_iload dL_law_1184 rfl ?_
  refine av_iconst (v := 1) dL_law_1186 (by decide) ?_
  refine av_iadd1 dL_law_1187 ?_
  refine av_sldN dL_law_1188 (by omega) hnb ?_
  refine av_sE (par_e n1.1) ?_
  refine av_invV (c := 13) (n := 1) (As := [_]) dL_law_1189 cb_X12_count cv_L_132.1 cv_L_132.2.1 cv_L_132.2.2 rfl (by decide) rfl ⟨Nat.le_of_ble_eq_true rfl, Nat.le_of_ble_eq_true rfl⟩ (Nat.le_of_ble_eq_true rfl) rfl (t_count n1.2.1 I.2.2.1.1.mI _ ?_)
  refine av_icmp_eq (tgt := 1485) dL_law_1192 (by decide) (fun c_1192 => ?_) (fun c_1192 => ?_)
  · exact k _ _ _ _ (lwS.put n1.2.1 n1.2.2.1 n1.2.2.2.1) n1.2.2.2.2 (by omega) (by omega)
  · exact absurd rfl c_1192
set_option maxHeartbeats 400000 in
set_option maxRecDepth 100000 in
theorem lc_25 {E : awE} {S : awS} {M : aM} {j kc ks : Nat} {Q : Option Value → awS → Nat → Nat → Prop} (I : lwS S M) (hj : 7 * j + 7 ≤ awE_n E) (hnb : awE_n E < 2 ^ 31) (k : lwK E M j kc ks Q) : awV true E m_law 1197 (lwL j) [] S kc ks Q := by
  refine av_aload_n (i := 1) dL_law_1197 rfl rfl rfl ?_
  refine av_aload_n (i := 0) dL_law_1198 rfl rfl rfl ?_
  refine av_iload dL_law_1199 rfl ?_
  refine av_iconst (v := 1) dL_law_1201 (by decide) ?_
  refine av_iadd1 dL_law_1202 ?_
  refine av_sldN dL_law_1203 (by omega) hnb ?_
  refine av_aload_n (i := 0) dL_law_1204 rfl rfl rfl ?_
  refine av_iload dL_law_1205 rfl ?_
  refine av_iconst (v := nI 2) dL_law_1207 (by decide) ?_
  refine av_iaddN dL_law_1208 ?_
  refine av_sldN dL_law_1209 (by omega) hnb ?_
  refine av_aload_n (i := 0) dL_law_1210 rfl rfl rfl ?_
  refine av_iload dL_law_1211 rfl ?_
  refine av_iconst (v := nI 3) dL_law_1213 (by decide) ?_
  refine av_iaddN dL_law_1214 ?_
  refine av_sldN dL_law_1215 (by omega) hnb ?_
  refine av_invV (c := 12) (n := 3) (As := [_, _, _]) dL_law_1216 cb_X11_keep cv_L_133.1 cv_L_133.2.1 cv_L_133.2.2 rfl (by decide) rfl ⟨Nat.le_of_ble_eq_true rfl, Nat.le_of_ble_eq_true rfl⟩ (Nat.le_of_ble_eq_true rfl) rfl (I.call (fun Q h => c_keep I.2.2.1 h) (fun S1 mc ms n1 b1 b2 => ?_))
  refine av_aload_n (i := 2) dL_law_1219 rfl rfl rfl ?_
  refine av_aload_n (i := 0) dL_law_1220 rfl rfl rfl ?_
  refine av_iload dL_law_1221 rfl ?_
  refine av_iconst (v := 1) dL_law_1223 (by decide) ?_
  refine av_iadd1 dL_law_1224 ?_
  refine av_sldN dL_law_1225 (by omega) hnb ?_
  refine av_aload_n (i := 0) dL_law_1226 rfl rfl rfl ?_
  refine av_iload dL_law_1227 rfl ?_
  refine av_iconst (v := nI 2) dL_law_1229 (by decide) ?_
  refine av_iaddN dL_law_1230 ?_
  refine av_sldN dL_law_1231 (by omega) hnb ?_
  refine av_aload_n (i := 0) dL_law_1232 rfl rfl rfl ?_
  refine av_iload dL_law_1233 rfl ?_
  refine av_iconst (v := nI 3) dL_law_1235 (by decide) ?_
  refine av_iaddN dL_law_1236 ?_
  refine av_sldN dL_law_1237 (by omega) hnb ?_
  refine av_sE (par_e n1.1) ?_
  refine av_invV (c := 13) (n := 3) (As := [_, _, _]) dL_law_1238 cb_X12_keep cv_L_136.1 cv_L_136.2.1 cv_L_136.2.2 rfl (by decide) rfl ⟨Nat.le_of_ble_eq_true rfl, Nat.le_of_ble_eq_true rfl⟩ (Nat.le_of_ble_eq_true rfl) rfl (t_keep n1.2.1 I.2.2.1.1.mI _ _ _ ?_)
  refine av_icmp_eq (tgt := 1485) dL_law_1241 (by decide) (fun c_1241 => ?_) (fun c_1241 => ?_)
  · exact k _ _ _ _ (lwS.put n1.2.1 n1.2.2.1 n1.2.2.2.1) n1.2.2.2.2 (by omega) (by omega)
  · exact absurd rfl c_1241
set_option maxHeartbeats 400000 in
set_option maxRecDepth 100000 in
theorem lc_26 {E : awE} {S : awS} {M : aM} {j kc ks : Nat} {Q : Option Value → awS → Nat → Nat → Prop} (I : lwS S M) (hj : 7 * j + 7 ≤ awE_n E) (hnb : awE_n E < 2 ^ 31) (k : lwK E M j kc ks Q) : awV true E m_law 1246 (lwL j) [] S kc ks Q := by
  refine av_aload_n (i := 1) dL_law_1246 rfl rfl rfl ?_
  refine av_aload_n (i := 0) dL_law_1247 rfl rfl rfl ?_
  refine av_iload dL_law_1248 rfl ?_
  refine av_iconst (v := 1) dL_law_1250 (by decide) ?_
  refine av_iadd1 dL_law_1251 ?_
  refine av_sldN dL_law_1252 (by omega) hnb ?_
  refine av_aload_n (i := 0) dL_law_1253 rfl rfl rfl ?_
  refine av_iload dL_law_1254 rfl ?_
  refine av_iconst (v := nI 2) dL_law_1256 (by decide) ?_
  refine av_iaddN dL_law_1257 ?_
  refine av_sldN dL_law_1258 (by omega) hnb ?_
  refine av_aload_n (i := 0) dL_law_1259 rfl rfl rfl ?_
  refine av_iload dL_law_1260 rfl ?_
  refine av_iconst (v := nI 3) dL_law_1262 (by decide) ?_
  refine av_iaddN dL_law_1263 ?_
  refine av_sldN dL_law_1264 (by omega) hnb ?_
  refine av_invV (c := 12) (n := 3) (As := [_, _, _]) dL_law_1265 cb_X11_make cv_L_137.1 cv_L_137.2.1 cv_L_137.2.2 rfl (by decide) rfl ⟨Nat.le_of_ble_eq_true rfl, Nat.le_of_ble_eq_true rfl⟩ (Nat.le_of_ble_eq_true rfl) rfl (I.call (fun Q h => c_make I.2.2.1 h) (fun S1 mc ms n1 b1 b2 => ?_))
  refine av_aload_n (i := 2) dL_law_1268 rfl rfl rfl ?_
  refine av_aload_n (i := 0) dL_law_1269 rfl rfl rfl ?_
  refine av_iload dL_law_1270 rfl ?_
  refine av_iconst (v := 1) dL_law_1272 (by decide) ?_
  refine av_iadd1 dL_law_1273 ?_
  refine av_sldN dL_law_1274 (by omega) hnb ?_
  refine av_aload_n (i := 0) dL_law_1275 rfl rfl rfl ?_
  refine av_iload dL_law_1276 rfl ?_
  refine av_iconst (v := nI 2) dL_law_1278 (by decide) ?_
  refine av_iaddN dL_law_1279 ?_
  refine av_sldN dL_law_1280 (by omega) hnb ?_
  refine av_aload_n (i := 0) dL_law_1281 rfl rfl rfl ?_
  refine av_iload dL_law_1282 rfl ?_
  refine av_iconst (v := nI 3) dL_law_1284 (by decide) ?_
  refine av_iaddN dL_law_1285 ?_
  refine av_sldN dL_law_1286 (by omega) hnb ?_
  refine av_sE (par_e n1.1) ?_
  refine av_invV (c := 13) (n := 3) (As := [_, _, _]) dL_law_1287 cb_X12_make cv_L_140.1 cv_L_140.2.1 cv_L_140.2.2 rfl (by decide) rfl ⟨Nat.le_of_ble_eq_true rfl, Nat.le_of_ble_eq_true rfl⟩ (Nat.le_of_ble_eq_true rfl) rfl (t_make n1.2.1 I.2.2.1.1.mI _ _ _ ?_)
  refine av_icmp_eq (tgt := 1485) dL_law_1290 (by decide) (fun c_1290 => ?_) (fun c_1290 => ?_)
  · exact k _ _ _ _ (lwS.put n1.2.1 n1.2.2.1 n1.2.2.2.1) n1.2.2.2.2 (by omega) (by omega)
  · exact absurd rfl c_1290
set_option maxHeartbeats 400000 in
set_option maxRecDepth 100000 in
theorem lc_28 {E : awE} {S : awS} {M : aM} {j kc ks : Nat} {Q : Option Value → awS → Nat → Nat → Prop} (I : lwS S M) (hj : 7 * j + 7 ≤ awE_n E) (hnb : awE_n E < 2 ^ 31) (k : lwK E M j kc ks Q) : awV true E m_law 1362 (lwL j) [] S kc ks Q := by
  refine av_aload_n (i := 1) dL_law_1362 rfl rfl rfl ?_
  refine av_aload_n (i := 0) dL_law_1363 rfl rfl rfl ?_
  refine av_iload dL_law_1364 rfl ?_
  refine av_iconst (v := 1) dL_law_1366 (by decide) ?_
  refine av_iadd1 dL_law_1367 ?_
  refine av_sldN dL_law_1368 (by omega) hnb ?_
  refine av_aload_n (i := 0) dL_law_1369 rfl rfl rfl ?_
  refine av_iload dL_law_1370 rfl ?_
  refine av_iconst (v := nI 2) dL_law_1372 (by decide) ?_
  refine av_iaddN dL_law_1373 ?_
  refine av_sldN dL_law_1374 (by omega) hnb ?_
  refine av_aload_n (i := 0) dL_law_1375 rfl rfl rfl ?_
  refine av_iload dL_law_1376 rfl ?_
  refine av_iconst (v := nI 3) dL_law_1378 (by decide) ?_
  refine av_iaddN dL_law_1379 ?_
  refine av_sldN dL_law_1380 (by omega) hnb ?_
  refine av_aload_n (i := 0) dL_law_1381 rfl rfl rfl ?_
  refine av_iload dL_law_1382 rfl ?_
  refine av_iconst (v := nI 4) dL_law_1384 (by decide) ?_
  refine av_iaddN dL_law_1385 ?_
  refine av_sldN dL_law_1386 (by omega) hnb ?_
  refine av_aload_n (i := 0) dL_law_1387 rfl rfl rfl ?_
  refine av_iload dL_law_1388 rfl ?_
  refine av_iconst (v := nI 5) dL_law_1390 (by decide) ?_
  refine av_iaddN dL_law_1391 ?_
  refine av_sldN dL_law_1392 (by omega) hnb ?_
  refine av_invV (c := 12) (n := 5) (As := [_, _, _, _, _]) dL_law_1393 cb_X11_copy cv_L_150.1 cv_L_150.2.1 cv_L_150.2.2 rfl (by decide) rfl ⟨Nat.le_of_ble_eq_true rfl, Nat.le_of_ble_eq_true rfl⟩ (Nat.le_of_ble_eq_true rfl) rfl (I.call (fun Q h => c_copy I.2.2.1 h) (fun S1 mc ms n1 b1 b2 => ?_))
  refine av_aload_n (i := 2) dL_law_1396 rfl rfl rfl ?_
  refine av_aload_n (i := 0) dL_law_1397 rfl rfl rfl ?_
  refine av_iload dL_law_1398 rfl ?_
  refine av_iconst (v := 1) dL_law_1400 (by decide) ?_
  refine av_iadd1 dL_law_1401 ?_
  refine av_sldN dL_law_1402 (by omega) hnb ?_
  refine av_aload_n (i := 0) dL_law_1403 rfl rfl rfl ?_
  refine av_iload dL_law_1404 rfl ?_
  refine av_iconst (v := nI 2) dL_law_1406 (by decide) ?_
  refine av_iaddN dL_law_1407 ?_
  refine av_sldN dL_law_1408 (by omega) hnb ?_
  refine av_aload_n (i := 0) dL_law_1409 rfl rfl rfl ?_
  refine av_iload dL_law_1410 rfl ?_
  refine av_iconst (v := nI 3) dL_law_1412 (by decide) ?_
  refine av_iaddN dL_law_1413 ?_
  refine av_sldN dL_law_1414 (by omega) hnb ?_
  refine av_aload_n (i := 0) dL_law_1415 rfl rfl rfl ?_
  refine av_iload dL_law_1416 rfl ?_
  refine av_iconst (v := nI 4) dL_law_1418 (by decide) ?_
  refine av_iaddN dL_law_1419 ?_
  refine av_sldN dL_law_1420 (by omega) hnb ?_
  refine av_aload_n (i := 0) dL_law_1421 rfl rfl rfl ?_
  refine av_iload dL_law_1422 rfl ?_
  refine av_iconst (v := nI 5) dL_law_1424 (by decide) ?_
  refine av_iaddN dL_law_1425 ?_
  refine av_sldN dL_law_1426 (by omega) hnb ?_
  refine av_sE (par_e n1.1) ?_
  refine av_invV (c := 13) (n := 5) (As := [_, _, _, _, _]) dL_law_1427 cb_X12_copy cv_L_153.1 cv_L_153.2.1 cv_L_153.2.2 rfl (by decide) rfl ⟨Nat.le_of_ble_eq_true rfl, Nat.le_of_ble_eq_true rfl⟩ (Nat.le_of_ble_eq_true rfl) rfl (t_copy n1.2.1 I.2.2.1.1.mI _ _ _ _ _ ?_)
  refine av_icmp_eq (tgt := 1485) dL_law_1430 (by decide) (fun c_1430 => ?_) (fun c_1430 => ?_)
  · exact k _ _ _ _ (lwS.put n1.2.1 n1.2.2.1 n1.2.2.2.1) n1.2.2.2.2 (by omega) (by omega)
  · exact absurd rfl c_1430
set_option maxHeartbeats 400000 in
set_option maxRecDepth 100000 in
theorem lc_29 {E : awE} {S : awS} {M : aM} {j kc ks : Nat} {Q : Option Value → awS → Nat → Nat → Prop} (I : lwS S M) (hj : 7 * j + 7 ≤ awE_n E) (hnb : awE_n E < 2 ^ 31) (k : lwK E M j kc ks Q) : awV true E m_law 1435 (lwL j) [] S kc ks Q := by
  refine av_aload_n (i := 1) dL_law_1435 rfl rfl rfl ?_
  refine av_aload_n (i := 0) dL_law_1436 rfl rfl rfl ?_
  refine av_iload dL_law_1437 rfl ?_
  refine av_iconst (v := 1) dL_law_1439 (by decide) ?_
  refine av_iadd1 dL_law_1440 ?_
  refine av_sldN dL_law_1441 (by omega) hnb ?_
  refine av_invV (c := 12) (n := 1) (As := [_]) dL_law_1442 cb_X11_weight cv_L_154.1 cv_L_154.2.1 cv_L_154.2.2 rfl (by decide) rfl ⟨Nat.le_of_ble_eq_true rfl, Nat.le_of_ble_eq_true rfl⟩ (Nat.le_of_ble_eq_true rfl) rfl (I.call (p := mWeight M _) (fun Q h => c_weight I.2.2.1.1 (rd_post (p := mWeight M _) I.2.2.1 rd_mWeight h)) (fun S1 mc ms n1 b1 b2 => ?_))
  refine av_aload_n (i := 2) dL_law_1445 rfl rfl rfl ?_
  refine av_aload_n (i := 0) dL_law_1446 rfl rfl rfl ?_
  refine av_iload dL_law_1447 rfl ?_
  refine av_iconst (v := 1) dL_law_1449 (by decide) ?_
  refine av_iadd1 dL_law_1450 ?_
  refine av_sldN dL_law_1451 (by omega) hnb ?_
  refine av_sE (par_e n1.1) ?_
  refine av_invV (c := 13) (n := 1) (As := [_]) dL_law_1452 cb_X12_weight cv_L_157.1 cv_L_157.2.1 cv_L_157.2.2 rfl (by decide) rfl ⟨Nat.le_of_ble_eq_true rfl, Nat.le_of_ble_eq_true rfl⟩ (Nat.le_of_ble_eq_true rfl) rfl (t_weight n1.2.1 I.2.2.1.1.mI I.2.2.1.1.bd0 _ ?_)
  refine av_icmp_eq (tgt := 1485) dL_law_1455 (by decide) (fun c_1455 => ?_) (fun c_1455 => ?_)
  · exact k _ _ _ _ (lwS.put n1.2.1 n1.2.2.1 n1.2.2.2.1) n1.2.2.2.2 (by omega) (by omega)
  · exact absurd rfl c_1455
