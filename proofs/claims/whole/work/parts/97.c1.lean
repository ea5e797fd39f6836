section
variable {p : Program} {l : Launch} {e : Env} {s : State} {m : MethodId} {below : List Frame} {meth : Method} {c : Code} {b L : Nat} {xs : Nat → Int32}
variable {D : va_G} {cA : Nat → ClassId} {ad adR : Nat → Nat} {Q : State → Prop}
theorem zw_c9 (X : zw_Fx p s m meth c b L xs D cA ad) (Wd : zw_Wd l s D cA ad adR) {t : Nat} (ht : 7 * t + 7 ≤ L) (hL : L ≤ 3584) : zw_Case p l e s m below meth c b L D cA ad adR Q 984 t := by
  intro M R H ls cells slots hcs HR w hl kk
  have hx := X.1
  have hb := X.2.1
  obtain ⟨k, v, M2, R2, h1, h2, h3, h4, h5⟩ := zw_agree (b := false) (c_quota HR (xs (7 * t + 1)))
  refine lv_aload_n hx hb dw_984 rfl (lv_at hl 2 rfl) ?_
  refine zw_arg (t := t) (j := 1) X w.1 ht (by decide) hL (lv_at hl 1 rfl) (lv_at hl 0 rfl) dw_985 dw_986 dw_988 (by decide) dw_989 dw_990 ?_
  refine lv_aload_n hx hb dw_991 rfl (lv_at hl 4 rfl) ?_
  refine zw_wrap X (n := 3) (As := [.ref 0, .int (xs (7 * t + 1)), .ref 73]) (rest := []) (lw_quota Wd.1 (zEx_XOk ad) h1) (zz_inl (by decide +kernel)) ⟨by decide, by decide, by decide +kernel⟩ (by decide) rfl hl.1 (Nat.le_of_ble_eq_true rfl) hcs Wd.2.2.1 w.1 w.2.1 w.2.2 (zw_disC Wd) dw_992 (fun H1 hS hP hPR => ?_)
  refine lv_istore (lv' := (5, .int k) :: zw_lv b ad adR t) hx hb dw_995 hl (by decide) rfl (fun ls hl => ?_)
  refine lv_aload_n hx hb dw_997 rfl (lv_at hl 4 rfl) ?_
  refine zw_arg (t := t) (j := 1) X hS ht (by decide) hL (lv_at hl 2 rfl) (lv_at hl 1 rfl) dw_998 dw_999 dw_1001 (by decide) dw_1002 dw_1003 ?_
  refine zw_virt X (n := 1) (S := zzSR) (ax := adR) (As := [.int (xs (7 * t + 1))]) (rest := []) (v := some (.int v)) (mm_X12_quota Wd.2.1).1 h2 (ci := 10) rfl rfl (zz_inl (by decide +kernel)) ⟨rfl, by decide, by decide, by decide +kernel⟩ (by decide) rfl hl.1 (Nat.le_of_ble_eq_true rfl) hcs Wd.2.2.2.1 hS hPR hP (zw_disR Wd) dw_1004 (fun H1 hS hPR hP => ?_)
  refine lv_istore (lv' := (6, .int v) :: (5, .int k) :: zw_lv b ad adR t) hx hb dw_1007 hl (by decide) rfl (fun ls hl => ?_)
  exact zw_finI X Wd h3 h5 hcs ⟨hS, hP, hPR⟩ hl dw_1009 dw_1010 dw_1013 dw_1015 dw_1020 dw_1022 dw_1025 dw_1026 dw_1027 dw_1028 dw_1030 dw_1031 dw_1032 dw_1037 (by decide) (fun H1 w hl => kk M2 R2 H1 ls h4 w hl)
theorem zw_c10 (X : zw_Fx p s m meth c b L xs D cA ad) (Wd : zw_Wd l s D cA ad adR) {t : Nat} (ht : 7 * t + 7 ≤ L) (hL : L ≤ 3584) : zw_Case p l e s m below meth c b L D cA ad adR Q 1040 t := by
  intro M R H ls cells slots hcs HR w hl kk
  have hx := X.1
  have hb := X.2.1
  obtain ⟨k, v, M2, R2, h1, h2, h3, h4, h5⟩ := zw_agree (b := false) (c_see HR (xs (7 * t + 1)) (xs (7 * t + 2)))
  refine lv_aload_n hx hb dw_1040 rfl (lv_at hl 2 rfl) ?_
  refine zw_arg (t := t) (j := 1) X w.1 ht (by decide) hL (lv_at hl 1 rfl) (lv_at hl 0 rfl) dw_1041 dw_1042 dw_1044 (by decide) dw_1045 dw_1046 ?_
  refine zw_arg (t := t) (j := 2) X w.1 ht (by decide) hL (lv_at hl 1 rfl) (lv_at hl 0 rfl) dw_1047 dw_1048 dw_1050 (by decide) dw_1051 dw_1052 ?_
  refine lv_aload_n hx hb dw_1053 rfl (lv_at hl 4 rfl) ?_
  refine zw_wrap X (n := 4) (As := [.ref 0, .int (xs (7 * t + 1)), .int (xs (7 * t + 2)), .ref 73]) (rest := []) (lw_see Wd.1 (zEx_XOk ad) h1) (zz_inl (by decide +kernel)) ⟨by decide, by decide, by decide +kernel⟩ (by decide) rfl hl.1 (Nat.le_of_ble_eq_true rfl) hcs Wd.2.2.1 w.1 w.2.1 w.2.2 (zw_disC Wd) dw_1054 (fun H1 hS hP hPR => ?_)
  refine lv_istore (lv' := (5, .int k) :: zw_lv b ad adR t) hx hb dw_1057 hl (by decide) rfl (fun ls hl => ?_)
  refine lv_aload_n hx hb dw_1059 rfl (lv_at hl 4 rfl) ?_
  refine zw_arg (t := t) (j := 1) X hS ht (by decide) hL (lv_at hl 2 rfl) (lv_at hl 1 rfl) dw_1060 dw_1061 dw_1063 (by decide) dw_1064 dw_1065 ?_
  refine zw_arg (t := t) (j := 2) X hS ht (by decide) hL (lv_at hl 2 rfl) (lv_at hl 1 rfl) dw_1066 dw_1067 dw_1069 (by decide) dw_1070 dw_1071 ?_
  refine zw_virt X (n := 2) (S := zzSR) (ax := adR) (As := [.int (xs (7 * t + 1)), .int (xs (7 * t + 2))]) (rest := []) (v := some (.int v)) (mm_X12_see Wd.2.1).1 h2 (ci := 10) rfl rfl (zz_inl (by decide +kernel)) ⟨rfl, by decide, by decide, by decide +kernel⟩ (by decide) rfl hl.1 (Nat.le_of_ble_eq_true rfl) hcs Wd.2.2.2.1 hS hPR hP (zw_disR Wd) dw_1072 (fun H1 hS hPR hP => ?_)
  refine lv_istore (lv' := (6, .int v) :: (5, .int k) :: zw_lv b ad adR t) hx hb dw_1075 hl (by decide) rfl (fun ls hl => ?_)
  exact zw_finI X Wd h3 h5 hcs ⟨hS, hP, hPR⟩ hl dw_1077 dw_1078 dw_1081 dw_1083 dw_1088 dw_1090 dw_1093 dw_1094 dw_1095 dw_1096 dw_1098 dw_1099 dw_1100 dw_1105 (by decide) (fun H1 w hl => kk M2 R2 H1 ls h4 w hl)
theorem zw_c11 (X : zw_Fx p s m meth c b L xs D cA ad) (Wd : zw_Wd l s D cA ad adR) {t : Nat} (ht : 7 * t + 7 ≤ L) (hL : L ≤ 3584) : zw_Case p l e s m below meth c b L D cA ad adR Q 1108 t := by
  intro M R H ls cells slots hcs HR w hl kk
  have hx := X.1
  have hb := X.2.1
  obtain ⟨k, v, M2, R2, h1, h2, h3, h4, h5⟩ := zw_agree (b := false) (c_work HR (xs (7 * t + 1)))
  refine lv_aload_n hx hb dw_1108 rfl (lv_at hl 2 rfl) ?_
  refine zw_arg (t := t) (j := 1) X w.1 ht (by decide) hL (lv_at hl 1 rfl) (lv_at hl 0 rfl) dw_1109 dw_1110 dw_1112 (by decide) dw_1113 dw_1114 ?_
  refine lv_aload_n hx hb dw_1115 rfl (lv_at hl 4 rfl) ?_
  refine zw_wrap X (n := 3) (As := [.ref 0, .int (xs (7 * t + 1)), .ref 73]) (rest := []) (lw_work Wd.1 (zEx_XOk ad) h1) (zz_inl (by decide +kernel)) ⟨by decide, by decide, by decide +kernel⟩ (by decide) rfl hl.1 (Nat.le_of_ble_eq_true rfl) hcs Wd.2.2.1 w.1 w.2.1 w.2.2 (zw_disC Wd) dw_1116 (fun H1 hS hP hPR => ?_)
  refine lv_istore (lv' := (5, .int k) :: zw_lv b ad adR t) hx hb dw_1119 hl (by decide) rfl (fun ls hl => ?_)
  refine lv_aload_n hx hb dw_1121 rfl (lv_at hl 4 rfl) ?_
  refine zw_arg (t := t) (j := 1) X hS ht (by decide) hL (lv_at hl 2 rfl) (lv_at hl 1 rfl) dw_1122 dw_1123 dw_1125 (by decide) dw_1126 dw_1127 ?_
  refine zw_virt X (n := 1) (S := zzSR) (ax := adR) (As := [.int (xs (7 * t + 1))]) (rest := []) (v := some (.int v)) (mm_X12_work Wd.2.1).1 h2 (ci := 10) rfl rfl (zz_inl (by decide +kernel)) ⟨rfl, by decide, by decide, by decide +kernel⟩ (by decide) rfl hl.1 (Nat.le_of_ble_eq_true rfl) hcs Wd.2.2.2.1 hS hPR hP (zw_disR Wd) dw_1128 (fun H1 hS hPR hP => ?_)
  refine lv_istore (lv' := (6, .int v) :: (5, .int k) :: zw_lv b ad adR t) hx hb dw_1131 hl (by decide) rfl (fun ls hl => ?_)
  exact zw_finI X Wd h3 h5 hcs ⟨hS, hP, hPR⟩ hl dw_1133 dw_1134 dw_1137 dw_1139 dw_1144 dw_1146 dw_1149 dw_1150 dw_1151 dw_1152 dw_1154 dw_1155 dw_1156 dw_1161 (by decide) (fun H1 w hl => kk M2 R2 H1 ls h4 w hl)
theorem zw_c12 (X : zw_Fx p s m meth c b L xs D cA ad) (Wd : zw_Wd l s D cA ad adR) {t : Nat} (ht : 7 * t + 7 ≤ L) (hL : L ≤ 3584) : zw_Case p l e s m below meth c b L D cA ad adR Q 1164 t := by
  intro M R H ls cells slots hcs HR w hl kk
  have hx := X.1
  have hb := X.2.1
  obtain ⟨k, v, M2, R2, h1, h2, h3, h4, h5⟩ := zw_agree (b := false) (c_turn HR (xs (7 * t + 1)))
  refine lv_aload_n hx hb dw_1164 rfl (lv_at hl 2 rfl) ?_
  refine zw_arg (t := t) (j := 1) X w.1 ht (by decide) hL (lv_at hl 1 rfl) (lv_at hl 0 rfl) dw_1165 dw_1166 dw_1168 (by decide) dw_1169 dw_1170 ?_
  refine lv_aload_n hx hb dw_1171 rfl (lv_at hl 4 rfl) ?_
  refine zw_wrap X (n := 3) (As := [.ref 0, .int (xs (7 * t + 1)), .ref 73]) (rest := []) (lw_turn Wd.1 (zEx_XOk ad) h1) (zz_inl (by decide +kernel)) ⟨by decide, by decide, by decide +kernel⟩ (by decide) rfl hl.1 (Nat.le_of_ble_eq_true rfl) hcs Wd.2.2.1 w.1 w.2.1 w.2.2 (zw_disC Wd) dw_1172 (fun H1 hS hP hPR => ?_)
  refine lv_istore (lv' := (5, .int k) :: zw_lv b ad adR t) hx hb dw_1175 hl (by decide) rfl (fun ls hl => ?_)
  refine lv_aload_n hx hb dw_1177 rfl (lv_at hl 4 rfl) ?_
  refine zw_arg (t := t) (j := 1) X hS ht (by decide) hL (lv_at hl 2 rfl) (lv_at hl 1 rfl) dw_1178 dw_1179 dw_1181 (by decide) dw_1182 dw_1183 ?_
  refine zw_virt X (n := 1) (S := zzSR) (ax := adR) (As := [.int (xs (7 * t + 1))]) (rest := []) (v := some (.int v)) (mm_X12_turn Wd.2.1).1 h2 (ci := 10) rfl rfl (zz_inl (by decide +kernel)) ⟨rfl, by decide, by decide, by decide +kernel⟩ (by decide) rfl hl.1 (Nat.le_of_ble_eq_true rfl) hcs Wd.2.2.2.1 hS hPR hP (zw_disR Wd) dw_1184 (fun H1 hS hPR hP => ?_)
  refine lv_istore (lv' := (6, .int v) :: (5, .int k) :: zw_lv b ad adR t) hx hb dw_1187 hl (by decide) rfl (fun ls hl => ?_)
  exact zw_finI X Wd h3 h5 hcs ⟨hS, hP, hPR⟩ hl dw_1189 dw_1190 dw_1193 dw_1195 dw_1200 dw_1202 dw_1205 dw_1206 dw_1207 dw_1208 dw_1210 dw_1211 dw_1212 dw_1217 (by decide) (fun H1 w hl => kk M2 R2 H1 ls h4 w hl)
theorem zw_c13 (X : zw_Fx p s m meth c b L xs D cA ad) (Wd : zw_Wd l s D cA ad adR) {t : Nat} (ht : 7 * t + 7 ≤ L) (hL : L ≤ 3584) : zw_Case p l e s m below meth c b L D cA ad adR Q 1220 t := by
  intro M R H ls cells slots hcs HR w hl kk
  have hx := X.1
  have hb := X.2.1
  obtain ⟨k, v, M2, R2, h1, h2, h3, h4, h5⟩ := zw_agree (b := false) (c_seen HR (xs (7 * t + 1)))
  refine lv_aload_n hx hb dw_1220 rfl (lv_at hl 2 rfl) ?_
  refine zw_arg (t := t) (j := 1) X w.1 ht (by decide) hL (lv_at hl 1 rfl) (lv_at hl 0 rfl) dw_1221 dw_1222 dw_1224 (by decide) dw_1225 dw_1226 ?_
  refine lv_aload_n hx hb dw_1227 rfl (lv_at hl 4 rfl) ?_
  refine zw_wrap X (n := 3) (As := [.ref 0, .int (xs (7 * t + 1)), .ref 73]) (rest := []) (lw_seen Wd.1 (zEx_XOk ad) h1) (zz_inl (by decide +kernel)) ⟨by decide, by decide, by decide +kernel⟩ (by decide) rfl hl.1 (Nat.le_of_ble_eq_true rfl) hcs Wd.2.2.1 w.1 w.2.1 w.2.2 (zw_disC Wd) dw_1228 (fun H1 hS hP hPR => ?_)
  refine lv_istore (lv' := (5, .int k) :: zw_lv b ad adR t) hx hb dw_1231 hl (by decide) rfl (fun ls hl => ?_)
  refine lv_aload_n hx hb dw_1233 rfl (lv_at hl 4 rfl) ?_
  refine zw_arg (t := t) (j := 1) X hS ht (by decide) hL (lv_at hl 2 rfl) (lv_at hl 1 rfl) dw_1234 dw_1235 dw_1237 (by decide) dw_1238 dw_1239 ?_
  refine zw_virt X (n := 1) (S := zzSR) (ax := adR) (As := [.int (xs (7 * t + 1))]) (rest := []) (v := some (.int v)) (mm_X12_seen Wd.2.1).1 h2 (ci := 10) rfl rfl (zz_inl (by decide +kernel)) ⟨rfl, by decide, by decide, by decide +kernel⟩ (by decide) rfl hl.1 (Nat.le_of_ble_eq_true rfl) hcs Wd.2.2.2.1 hS hPR hP (zw_disR Wd) dw_1240 (fun H1 hS hPR hP => ?_)
  refine lv_istore (lv' := (6, .int v) :: (5, .int k) :: zw_lv b ad adR t) hx hb dw_1243 hl (by decide) rfl (fun ls hl => ?_)
  exact zw_finI X Wd h3 h5 hcs ⟨hS, hP, hPR⟩ hl dw_1245 dw_1246 dw_1249 dw_1251 dw_1256 dw_1258 dw_1261 dw_1262 dw_1263 dw_1264 dw_1266 dw_1267 dw_1268 dw_1273 (by decide) (fun H1 w hl => kk M2 R2 H1 ls h4 w hl)
theorem zw_c14 (X : zw_Fx p s m meth c b L xs D cA ad) (Wd : zw_Wd l s D cA ad adR) {t : Nat} (ht : 7 * t + 7 ≤ L) (hL : L ≤ 3584) : zw_Case p l e s m below meth c b L D cA ad adR Q 1276 t := by
  intro M R H ls cells slots hcs HR w hl kk
  have hx := X.1
  have hb := X.2.1
  obtain ⟨k, v, M2, R2, h1, h2, h3, h4, h5⟩ := zw_agree (b := false) (c_queued HR (xs (7 * t + 1)) (xs (7 * t + 2)))
  refine lv_aload_n hx hb dw_1276 rfl (lv_at hl 2 rfl) ?_
  refine zw_arg (t := t) (j := 1) X w.1 ht (by decide) hL (lv_at hl 1 rfl) (lv_at hl 0 rfl) dw_1277 dw_1278 dw_1280 (by decide) dw_1281 dw_1282 ?_
  refine zw_arg (t := t) (j := 2) X w.1 ht (by decide) hL (lv_at hl 1 rfl) (lv_at hl 0 rfl) dw_1283 dw_1284 dw_1286 (by decide) dw_1287 dw_1288 ?_
  refine lv_aload_n hx hb dw_1289 rfl (lv_at hl 4 rfl) ?_
  refine zw_wrap X (n := 4) (As := [.ref 0, .int (xs (7 * t + 1)), .int (xs (7 * t + 2)), .ref 73]) (rest := []) (lw_queued Wd.1 (zEx_XOk ad) h1) (zz_inl (by decide +kernel)) ⟨by decide, by decide, by decide +kernel⟩ (by decide) rfl hl.1 (Nat.le_of_ble_eq_true rfl) hcs Wd.2.2.1 w.1 w.2.1 w.2.2 (zw_disC Wd) dw_1290 (fun H1 hS hP hPR => ?_)
  refine lv_istore (lv' := (5, .int k) :: zw_lv b ad adR t) hx hb dw_1293 hl (by decide) rfl (fun ls hl => ?_)
  refine lv_aload_n hx hb dw_1295 rfl (lv_at hl 4 rfl) ?_
  refine zw_arg (t := t) (j := 1) X hS ht (by decide) hL (lv_at hl 2 rfl) (lv_at hl 1 rfl) dw_1296 dw_1297 dw_1299 (by decide) dw_1300 dw_1301 ?_
  refine zw_arg (t := t) (j := 2) X hS ht (by decide) hL (lv_at hl 2 rfl) (lv_at hl 1 rfl) dw_1302 dw_1303 dw_1305 (by decide) dw_1306 dw_1307 ?_
  refine zw_virt X (n := 2) (S := zzSR) (ax := adR) (As := [.int (xs (7 * t + 1)), .int (xs (7 * t + 2))]) (rest := []) (v := some (.int v)) (mm_X12_queued Wd.2.1).1 h2 (ci := 10) rfl rfl (zz_inl (by decide +kernel)) ⟨rfl, by decide, by decide, by decide +kernel⟩ (by decide) rfl hl.1 (Nat.le_of_ble_eq_true rfl) hcs Wd.2.2.2.1 hS hPR hP (zw_disR Wd) dw_1308 (fun H1 hS hPR hP => ?_)
  refine lv_istore (lv' := (6, .int v) :: (5, .int k) :: zw_lv b ad adR t) hx hb dw_1311 hl (by decide) rfl (fun ls hl => ?_)
  exact zw_finI X Wd h3 h5 hcs ⟨hS, hP, hPR⟩ hl dw_1313 dw_1314 dw_1317 dw_1319 dw_1324 dw_1326 dw_1329 dw_1330 dw_1331 dw_1332 dw_1334 dw_1335 dw_1336 dw_1341 (by decide) (fun H1 w hl => kk M2 R2 H1 ls h4 w hl)
theorem zw_c15 (X : zw_Fx p s m meth c b L xs D cA ad) (Wd : zw_Wd l s D cA ad adR) {t : Nat} (ht : 7 * t + 7 ≤ L) (hL : L ≤ 3584) : zw_Case p l e s m below meth c b L D cA ad adR Q 1344 t := by
  intro M R H ls cells slots hcs HR w hl kk
  have hx := X.1
  have hb := X.2.1
  obtain ⟨k, v, M2, R2, h1, h2, h3, h4, h5⟩ := zw_agree (b := false) (c_failures HR (xs (7 * t + 1)) (xs (7 * t + 2)))
  refine lv_aload_n hx hb dw_1344 rfl (lv_at hl 2 rfl) ?_
  refine zw_arg (t := t) (j := 1) X w.1 ht (by decide) hL (lv_at hl 1 rfl) (lv_at hl 0 rfl) dw_1345 dw_1346 dw_1348 (by decide) dw_1349 dw_1350 ?_
  refine zw_arg (t := t) (j := 2) X w.1 ht (by decide) hL (lv_at hl 1 rfl) (lv_at hl 0 rfl) dw_1351 dw_1352 dw_1354 (by decide) dw_1355 dw_1356 ?_
  refine lv_aload_n hx hb dw_1357 rfl (lv_at hl 4 rfl) ?_
  refine zw_wrap X (n := 4) (As := [.ref 0, .int (xs (7 * t + 1)), .int (xs (7 * t + 2)), .ref 73]) (rest := []) (lw_failures Wd.1 (zEx_XOk ad) h1) (zz_inl (by decide +kernel)) ⟨by decide, by decide, by decide +kernel⟩ (by decide) rfl hl.1 (Nat.le_of_ble_eq_true rfl) hcs Wd.2.2.1 w.1 w.2.1 w.2.2 (zw_disC Wd) dw_1358 (fun H1 hS hP hPR => ?_)
  refine lv_istore (lv' := (5, .int k) :: zw_lv b ad adR t) hx hb dw_1361 hl (by decide) rfl (fun ls hl => ?_)
  refine lv_aload_n hx hb dw_1363 rfl (lv_at hl 4 rfl) ?_
  refine zw_arg (t := t) (j := 1) X hS ht (by decide) hL (lv_at hl 2 rfl) (lv_at hl 1 rfl) dw_1364 dw_1365 dw_1367 (by decide) dw_1368 dw_1369 ?_
  refine zw_arg (t := t) (j := 2) X hS ht (by decide) hL (lv_at hl 2 rfl) (lv_at hl 1 rfl) dw_1370 dw_1371 dw_1373 (by decide) dw_1374 dw_1375 ?_
  refine zw_virt X (n := 2) (S := zzSR) (ax := adR) (As := [.int (xs (7 * t + 1)), .int (xs (7 * t + 2))]) (rest := []) (v := some (.int v)) (mm_X12_failures Wd.2.1).1 h2 (ci := 10) rfl rfl (zz_inl (by decide +kernel)) ⟨rfl, by decide, by decide, by decide +kernel⟩ (by decide) rfl hl.1 (Nat.le_of_ble_eq_true rfl) hcs Wd.2.2.2.1 hS hPR hP (zw_disR Wd) dw_1376 (fun H1 hS hPR hP => ?_)
  refine lv_istore (lv' := (6, .int v) :: (5, .int k) :: zw_lv b ad adR t) hx hb dw_1379 hl (by decide) rfl (fun ls hl => ?_)
  exact zw_finI X Wd h3 h5 hcs ⟨hS, hP, hPR⟩ hl dw_1381 dw_1382 dw_1385 dw_1387 dw_1392 dw_1394 dw_1397 dw_1398 dw_1399 dw_1400 dw_1402 dw_1403 dw_1404 dw_1409 (by decide) (fun H1 w hl => kk M2 R2 H1 ls h4 w hl)
theorem zw_c16 (X : zw_Fx p s m meth c b L xs D cA ad) (Wd : zw_Wd l s D cA ad adR) {t : Nat} (ht : 7 * t + 7 ≤ L) (hL : L ≤ 3584) : zw_Case p l e s m below meth c b L D cA ad adR Q 1412 t := by
  intro M R H ls cells slots hcs HR w hl kk
  have hx := X.1
  have hb := X.2.1
  obtain ⟨k, v, M2, R2, h1, h2, h3, h4, h5⟩ := zw_agree (b := false) (c_believed HR (xs (7 * t + 1)) (xs (7 * t + 2)) (xs (7 * t + 3)))
  refine lv_aload_n hx hb dw_1412 rfl (lv_at hl 2 rfl) ?_
  refine zw_arg (t := t) (j := 1) X w.1 ht (by decide) hL (lv_at hl 1 rfl) (lv_at hl 0 rfl) dw_1413 dw_1414 dw_1416 (by decide) dw_1417 dw_1418 ?_
  refine zw_arg (t := t) (j := 2) X w.1 ht (by decide) hL (lv_at hl 1 rfl) (lv_at hl 0 rfl) dw_1419 dw_1420 dw_1422 (by decide) dw_1423 dw_1424 ?_
  refine zw_arg (t := t) (j := 3) X w.1 ht (by decide) hL (lv_at hl 1 rfl) (lv_at hl 0 rfl) dw_1425 dw_1426 dw_1428 (by decide) dw_1429 dw_1430 ?_
  refine lv_aload_n hx hb dw_1431 rfl (lv_at hl 4 rfl) ?_
  refine zw_wrap X (n := 5) (As := [.ref 0, .int (xs (7 * t + 1)), .int (xs (7 * t + 2)), .int (xs (7 * t + 3)), .ref 73]) (rest := []) (lw_believed Wd.1 (zEx_XOk ad) h1) (zz_inl (by decide +kernel)) ⟨by decide, by decide, by decide +kernel⟩ (by decide) rfl hl.1 (Nat.le_of_ble_eq_true rfl) hcs Wd.2.2.1 w.1 w.2.1 w.2.2 (zw_disC Wd) dw_1432 (fun H1 hS hP hPR => ?_)
  refine lv_istore (lv' := (5, .int k) :: zw_lv b ad adR t) hx hb dw_1435 hl (by decide) rfl (fun ls hl => ?_)
  refine lv_aload_n hx hb dw_1437 rfl (lv_at hl 4 rfl) ?_
  refine zw_arg (t := t) (j := 1) X hS ht (by decide) hL (lv_at hl 2 rfl) (lv_at hl 1 rfl) dw_1438 dw_1439 dw_1441 (by decide) dw_1442 dw_1443 ?_
  refine zw_arg (t := t) (j := 2) X hS ht (by decide) hL (lv_at hl 2 rfl) (lv_at hl 1 rfl) dw_1444 dw_1445 dw_1447 (by decide) dw_1448 dw_1449 ?_
  refine zw_arg (t := t) (j := 3) X hS ht (by decide) hL (lv_at hl 2 rfl) (lv_at hl 1 rfl) dw_1450 dw_1451 dw_1453 (by decide) dw_1454 dw_1455 ?_
  refine zw_virt X (n := 3) (S := zzSR) (ax := adR) (As := [.int (xs (7 * t + 1)), .int (xs (7 * t + 2)), .int (xs (7 * t + 3))]) (rest := []) (v := some (.int v)) (mm_X12_believed Wd.2.1).1 h2 (ci := 10) rfl rfl (zz_inl (by decide +kernel)) ⟨rfl, by decide, by decide, by decide +kernel⟩ (by decide) rfl hl.1 (Nat.le_of_ble_eq_true rfl) hcs Wd.2.2.2.1 hS hPR hP (zw_disR Wd) dw_1456 (fun H1 hS hPR hP => ?_)
  refine lv_istore (lv' := (6, .int v) :: (5, .int k) :: zw_lv b ad adR t) hx hb dw_1459 hl (by decide) rfl (fun ls hl => ?_)
  exact zw_finI X Wd h3 h5 hcs ⟨hS, hP, hPR⟩ hl dw_1461 dw_1462 dw_1465 dw_1467 dw_1472 dw_1474 dw_1477 dw_1478 dw_1479 dw_1480 dw_1482 dw_1483 dw_1484 dw_1489 (by decide) (fun H1 w hl => kk M2 R2 H1 ls h4 w hl)
theorem zw_c17 (X : zw_Fx p s m meth c b L xs D cA ad) (Wd : zw_Wd l s D cA ad adR) {t : Nat} (ht : 7 * t + 7 ≤ L) (hL : L ≤ 3584) : zw_Case p l e s m below meth c b L D cA ad adR Q 1492 t := by
  intro M R H ls cells slots hcs HR w hl kk
  have hx := X.1
  have hb := X.2.1
  obtain ⟨M2, R2, h4, ⟨v, h1, h2, -⟩ | ⟨e, v, -, -, -, h⟩⟩ := c_isSettled HR
  · refine lv_aload_n hx hb dw_1492 rfl (lv_at hl 2 rfl) ?_
    refine zw_virt X (n := 0) (S := zzSC) (ax := ad) (As := []) (rest := []) (v := some (.int v)) (mm_X11_isSettled Wd.1).1 h1 (ci := 9) rfl rfl (zz_inl (by decide +kernel)) ⟨rfl, by decide, by decide, by decide +kernel⟩ (by decide) rfl hl.1 (Nat.le_of_ble_eq_true rfl) ⟨Nat.le_trans (Nat.le_succ _) hcs.1, Nat.le_trans (Nat.le_add_right _ _) hcs.2⟩ Wd.2.2.1 w.1 w.2.1 w.2.2 (zw_disC Wd) dw_1493 (fun H1 hS hP hPR => ?_)
    refine lv_aload_n hx hb dw_1496 rfl (lv_at hl 3 rfl) ?_
    refine zw_virt X (n := 0) (S := zzSR) (ax := adR) (As := []) (rest := [.int v]) (v := some (.int v)) (mm_X12_isSettled Wd.2.1).1 h2 (ci := 10) rfl rfl (zz_inl (by decide +kernel)) ⟨rfl, by decide, by decide, by decide +kernel⟩ (by decide) rfl hl.1 (Nat.le_of_ble_eq_true rfl) ⟨Nat.le_trans (Nat.le_succ _) hcs.1, Nat.le_trans (Nat.le_add_right _ _) hcs.2⟩ Wd.2.2.2.1 hS hPR hP (zw_disR Wd) dw_1497 (fun H1 hS hPR hP => ?_)
    exact lv_icmp_eq (tgt := 2801) hx hb dw_1500 (by decide) (fun _ => fun T hT Y => kk M2 R2 H1 ls h4 ⟨hS, hP, hPR⟩ hl T hT (stand_widen Y (Nat.le_succ _) (Nat.le_add_right _ _))) (fun h => absurd rfl h)
  · exact absurd rfl h
end
