set_option maxHeartbeats 4000000 in
set_option maxRecDepth 100000 in
theorem lw_case_21 {p : Program} {l : Launch} {e : Env} {s : State} {m : MethodId} {below : List Frame} {meth : Method} {c : Code} {u : cx_U} {b L : Nat} {xs : Nat → Int32} (X : CallFix p m c bc_W_law 4 s #[Value.ref b] GW "CatchSharesLaw") (hX : va_X b L xs s s.heap) (hbl : b < s.heap.size) (hL : L ≤ 4096) {k : Nat} (hk : 8 * k + 8 ≤ L) (kk : lw_Go p l e s m below meth c u b k (k + 1) 1355) : lw_Go p l e s m below meth c u b k k 1107 := by
  intro ad ad2 S sc sc2 H locs ls K B hl
  obtain ⟨v0, v01, v02, ev1⟩ := jI_R (xs (8 * k + 1))
  obtain ⟨h1, h11, h12, ev2⟩ := jI_R (xs (8 * k + 2))
  obtain ⟨g1, g11, g12, ev3⟩ := jI_R (xs (8 * k + 3))
  obtain ⟨v1, v11, v12, el1⟩ := jL_R ((jL h1 <<< ((jI 32).toInt64 &&& 63)) ||| (jL g1 &&& jL 4294967295))
  refine lv_aload_n X.1 X.2.1 dc_W_law_1107 rfl (lv_at hl 1 rfl) ?_
  refine lv_aload_n X.1 X.2.1 dc_W_law_1108 rfl (lv_at hl 0 rfl) ?_
  refine lv_iload_n X.1 X.2.1 dc_W_law_1109 rfl (lv_at hl 3 rfl) ?_
  refine cx_iconst X dc_W_law_1110 ?_
  refine cx_iadd X dc_W_law_1111 ?_
  refine lw_sld X B hX hbl (j := 8 * k + 1) (by omega) (by omega) hL ev1 dc_W_law_1112 ?_
  refine lv_aload_n X.1 X.2.1 dc_W_law_1113 rfl (lv_at hl 0 rfl) ?_
  refine lv_iload_n X.1 X.2.1 dc_W_law_1114 rfl (lv_at hl 3 rfl) ?_
  refine cx_iconst X dc_W_law_1115 ?_
  refine cx_iadd X dc_W_law_1116 ?_
  refine lw_sld X B hX hbl (j := 8 * k + 2) (by omega) (by omega) hL ev2 dc_W_law_1117 ?_
  refine cx_i2l X h11 h12 dc_W_law_1118 ?_
  refine cx_bipush X dc_W_law_1119 (by decide +kernel) ?_
  refine lv_lshl X.1 X.2.1 dc_W_law_1121 rfl ?_
  refine lv_aload_n X.1 X.2.1 dc_W_law_1122 rfl (lv_at hl 0 rfl) ?_
  refine lv_iload_n X.1 X.2.1 dc_W_law_1123 rfl (lv_at hl 3 rfl) ?_
  refine cx_iconst X dc_W_law_1124 ?_
  refine cx_iadd X dc_W_law_1125 ?_
  refine lw_sld X B hX hbl (j := 8 * k + 3) (by omega) (by omega) hL ev3 dc_W_law_1126 ?_
  refine cx_i2l X g11 g12 dc_W_law_1127 ?_
  refine cx_ldc2 (a := 4294967295) X gk_W_13 (by decide +kernel) dc_W_law_1128 ?_
  refine lv_land X.1 X.2.1 dc_W_law_1131 ?_
  refine lv_lor X.1 X.2.1 dc_W_law_1132 ?_
  rw [el1]
  refine cx_cVN X B kc_C_closes gm_W_111 (c_C_closes l u ad S sc K.1  v0 v1 v01 v02 v11 v12) lw_sC (lw_sC 0 0 _ (wC_0 u ad S sc)) rfl rfl ⟨(Nat.le_of_ble_eq_true rfl), (Nat.le_of_ble_eq_true rfl)⟩ ⟨(by show _ ≤ 600000; omega), (by show _ ≤ 7302250; omega)⟩ rfl hl.1 (Nat.le_of_ble_eq_true rfl) dc_W_law_1133 rfl ?_
  refine lv_aload_n X.1 X.2.1 dc_W_law_1136 rfl (lv_at hl 2 rfl) ?_
  refine lv_aload_n X.1 X.2.1 dc_W_law_1137 rfl (lv_at hl 0 rfl) ?_
  refine lv_iload_n X.1 X.2.1 dc_W_law_1138 rfl (lv_at hl 3 rfl) ?_
  refine cx_iconst X dc_W_law_1139 ?_
  refine cx_iadd X dc_W_law_1140 ?_
  refine lw_sld X B hX hbl (j := 8 * k + 1) (by omega) (by omega) hL ev1 dc_W_law_1141 ?_
  refine lv_aload_n X.1 X.2.1 dc_W_law_1142 rfl (lv_at hl 0 rfl) ?_
  refine lv_iload_n X.1 X.2.1 dc_W_law_1143 rfl (lv_at hl 3 rfl) ?_
  refine cx_iconst X dc_W_law_1144 ?_
  refine cx_iadd X dc_W_law_1145 ?_
  refine lw_sld X B hX hbl (j := 8 * k + 2) (by omega) (by omega) hL ev2 dc_W_law_1146 ?_
  refine cx_i2l X h11 h12 dc_W_law_1147 ?_
  refine cx_bipush X dc_W_law_1148 (by decide +kernel) ?_
  refine lv_lshl X.1 X.2.1 dc_W_law_1150 rfl ?_
  refine lv_aload_n X.1 X.2.1 dc_W_law_1151 rfl (lv_at hl 0 rfl) ?_
  refine lv_iload_n X.1 X.2.1 dc_W_law_1152 rfl (lv_at hl 3 rfl) ?_
  refine cx_iconst X dc_W_law_1153 ?_
  refine cx_iadd X dc_W_law_1154 ?_
  refine lw_sld X B hX hbl (j := 8 * k + 3) (by omega) (by omega) hL ev3 dc_W_law_1155 ?_
  refine cx_i2l X g11 g12 dc_W_law_1156 ?_
  refine cx_ldc2 (a := 4294967295) X gk_W_13 (by decide +kernel) dc_W_law_1157 ?_
  refine lv_land X.1 X.2.1 dc_W_law_1160 ?_
  refine lv_lor X.1 X.2.1 dc_W_law_1161 ?_
  rw [el1]
  refine cx_cVN X B kc_M_closes gm_W_115 (c_M_closes l u ad2 S sc2 K.1  v0 v1 v01 v02 v11 v12) lw_sM (lw_sM 20 0 _ (wM_20 u ad2 S sc2)) rfl rfl ⟨(Nat.le_of_ble_eq_true rfl), (Nat.le_of_ble_eq_true rfl)⟩ ⟨(by show _ ≤ 600000; omega), (by show _ ≤ 7302250; omega)⟩ rfl hl.1 (Nat.le_of_ble_eq_true rfl) dc_W_law_1162 rfl ?_
  refine cx_lcmpR_eq (tgt := 1355) X dc_W_law_1165 dc_W_law_1166 (by decide) (fun _ => ?_) (fun q => absurd rfl q)
  refine W.widen (k := 35 + 3 * (k + 1)) (n := 2056 + 35 * (k + 1)) (by omega) (by omega) ?_
  exact kk _ _ _ _ _ _ _ _ K B hl
set_option maxHeartbeats 4000000 in
set_option maxRecDepth 100000 in
theorem lw_case_22 {p : Program} {l : Launch} {e : Env} {s : State} {m : MethodId} {below : List Frame} {meth : Method} {c : Code} {u : cx_U} {b L : Nat} {xs : Nat → Int32} (X : CallFix p m c bc_W_law 4 s #[Value.ref b] GW "CatchSharesLaw") (hX : va_X b L xs s s.heap) (hbl : b < s.heap.size) (hL : L ≤ 4096) {k : Nat} (hk : 8 * k + 8 ≤ L) (kk : lw_Go p l e s m below meth c u b k (k + 1) 1355) : lw_Go p l e s m below meth c u b k k 1171 := by
  intro ad ad2 S sc sc2 H locs ls K B hl
  obtain ⟨v0, v01, v02, ev1⟩ := jI_R (xs (8 * k + 1))
  obtain ⟨h1, h11, h12, ev2⟩ := jI_R (xs (8 * k + 2))
  obtain ⟨g1, g11, g12, ev3⟩ := jI_R (xs (8 * k + 3))
  obtain ⟨v1, v11, v12, el1⟩ := jL_R ((jL h1 <<< ((jI 32).toInt64 &&& 63)) ||| (jL g1 &&& jL 4294967295))
  obtain ⟨h2, h21, h22, ev4⟩ := jI_R (xs (8 * k + 4))
  obtain ⟨g2, g21, g22, ev5⟩ := jI_R (xs (8 * k + 5))
  obtain ⟨v2, v21, v22, el2⟩ := jL_R ((jL h2 <<< ((jI 32).toInt64 &&& 63)) ||| (jL g2 &&& jL 4294967295))
  refine lv_aload_n X.1 X.2.1 dc_W_law_1171 rfl (lv_at hl 1 rfl) ?_
  refine lv_aload_n X.1 X.2.1 dc_W_law_1172 rfl (lv_at hl 0 rfl) ?_
  refine lv_iload_n X.1 X.2.1 dc_W_law_1173 rfl (lv_at hl 3 rfl) ?_
  refine cx_iconst X dc_W_law_1174 ?_
  refine cx_iadd X dc_W_law_1175 ?_
  refine lw_sld X B hX hbl (j := 8 * k + 1) (by omega) (by omega) hL ev1 dc_W_law_1176 ?_
  refine lv_aload_n X.1 X.2.1 dc_W_law_1177 rfl (lv_at hl 0 rfl) ?_
  refine lv_iload_n X.1 X.2.1 dc_W_law_1178 rfl (lv_at hl 3 rfl) ?_
  refine cx_iconst X dc_W_law_1179 ?_
  refine cx_iadd X dc_W_law_1180 ?_
  refine lw_sld X B hX hbl (j := 8 * k + 2) (by omega) (by omega) hL ev2 dc_W_law_1181 ?_
  refine cx_i2l X h11 h12 dc_W_law_1182 ?_
  refine cx_bipush X dc_W_law_1183 (by decide +kernel) ?_
  refine lv_lshl X.1 X.2.1 dc_W_law_1185 rfl ?_
  refine lv_aload_n X.1 X.2.1 dc_W_law_1186 rfl (lv_at hl 0 rfl) ?_
  refine lv_iload_n X.1 X.2.1 dc_W_law_1187 rfl (lv_at hl 3 rfl) ?_
  refine cx_iconst X dc_W_law_1188 ?_
  refine cx_iadd X dc_W_law_1189 ?_
  refine lw_sld X B hX hbl (j := 8 * k + 3) (by omega) (by omega) hL ev3 dc_W_law_1190 ?_
  refine cx_i2l X g11 g12 dc_W_law_1191 ?_
  refine cx_ldc2 (a := 4294967295) X gk_W_13 (by decide +kernel) dc_W_law_1192 ?_
  refine lv_land X.1 X.2.1 dc_W_law_1195 ?_
  refine lv_lor X.1 X.2.1 dc_W_law_1196 ?_
  rw [el1]
  refine lv_aload_n X.1 X.2.1 dc_W_law_1197 rfl (lv_at hl 0 rfl) ?_
  refine lv_iload_n X.1 X.2.1 dc_W_law_1198 rfl (lv_at hl 3 rfl) ?_
  refine cx_iconst X dc_W_law_1199 ?_
  refine cx_iadd X dc_W_law_1200 ?_
  refine lw_sld X B hX hbl (j := 8 * k + 4) (by omega) (by omega) hL ev4 dc_W_law_1201 ?_
  refine cx_i2l X h21 h22 dc_W_law_1202 ?_
  refine cx_bipush X dc_W_law_1203 (by decide +kernel) ?_
  refine lv_lshl X.1 X.2.1 dc_W_law_1205 rfl ?_
  refine lv_aload_n X.1 X.2.1 dc_W_law_1206 rfl (lv_at hl 0 rfl) ?_
  refine lv_iload_n X.1 X.2.1 dc_W_law_1207 rfl (lv_at hl 3 rfl) ?_
  refine cx_iconst X dc_W_law_1208 ?_
  refine cx_iadd X dc_W_law_1209 ?_
  refine lw_sld X B hX hbl (j := 8 * k + 5) (by omega) (by omega) hL ev5 dc_W_law_1210 ?_
  refine cx_i2l X g21 g22 dc_W_law_1211 ?_
  refine cx_ldc2 (a := 4294967295) X gk_W_13 (by decide +kernel) dc_W_law_1212 ?_
  refine lv_land X.1 X.2.1 dc_W_law_1215 ?_
  refine lv_lor X.1 X.2.1 dc_W_law_1216 ?_
  rw [el2]
  refine lw_cC (S' := (op_seen S v0 v1 v2)) X B kc_C_seen gm_W_116 (c_C_seen l u _ ad S sc K.1  v0 v1 v2 v01 v02 v11 v12 v21 v22) (fun w1 h => ⟨ad, sc, rfl, h⟩) rfl ⟨(Nat.le_of_ble_eq_true rfl), (Nat.le_of_ble_eq_true rfl)⟩ ⟨(by show _ ≤ 600000; omega), (by show _ ≤ 7302250; omega)⟩ rfl hl.1 (Nat.le_of_ble_eq_true rfl) dc_W_law_1217 rfl (fun H locs ad1 sc1 had B => ?_)
  rw [← had] at hl
  clear had
  refine lv_aload_n X.1 X.2.1 dc_W_law_1220 rfl (lv_at hl 2 rfl) ?_
  refine lv_aload_n X.1 X.2.1 dc_W_law_1221 rfl (lv_at hl 0 rfl) ?_
  refine lv_iload_n X.1 X.2.1 dc_W_law_1222 rfl (lv_at hl 3 rfl) ?_
  refine cx_iconst X dc_W_law_1223 ?_
  refine cx_iadd X dc_W_law_1224 ?_
  refine lw_sld X B hX hbl (j := 8 * k + 1) (by omega) (by omega) hL ev1 dc_W_law_1225 ?_
  refine lv_aload_n X.1 X.2.1 dc_W_law_1226 rfl (lv_at hl 0 rfl) ?_
  refine lv_iload_n X.1 X.2.1 dc_W_law_1227 rfl (lv_at hl 3 rfl) ?_
  refine cx_iconst X dc_W_law_1228 ?_
  refine cx_iadd X dc_W_law_1229 ?_
  refine lw_sld X B hX hbl (j := 8 * k + 2) (by omega) (by omega) hL ev2 dc_W_law_1230 ?_
  refine cx_i2l X h11 h12 dc_W_law_1231 ?_
  refine cx_bipush X dc_W_law_1232 (by decide +kernel) ?_
  refine lv_lshl X.1 X.2.1 dc_W_law_1234 rfl ?_
  refine lv_aload_n X.1 X.2.1 dc_W_law_1235 rfl (lv_at hl 0 rfl) ?_
  refine lv_iload_n X.1 X.2.1 dc_W_law_1236 rfl (lv_at hl 3 rfl) ?_
  refine cx_iconst X dc_W_law_1237 ?_
  refine cx_iadd X dc_W_law_1238 ?_
  refine lw_sld X B hX hbl (j := 8 * k + 3) (by omega) (by omega) hL ev3 dc_W_law_1239 ?_
  refine cx_i2l X g11 g12 dc_W_law_1240 ?_
  refine cx_ldc2 (a := 4294967295) X gk_W_13 (by decide +kernel) dc_W_law_1241 ?_
  refine lv_land X.1 X.2.1 dc_W_law_1244 ?_
  refine lv_lor X.1 X.2.1 dc_W_law_1245 ?_
  rw [el1]
  refine lv_aload_n X.1 X.2.1 dc_W_law_1246 rfl (lv_at hl 0 rfl) ?_
  refine lv_iload_n X.1 X.2.1 dc_W_law_1247 rfl (lv_at hl 3 rfl) ?_
  refine cx_iconst X dc_W_law_1248 ?_
  refine cx_iadd X dc_W_law_1249 ?_
  refine lw_sld X B hX hbl (j := 8 * k + 4) (by omega) (by omega) hL ev4 dc_W_law_1250 ?_
  refine cx_i2l X h21 h22 dc_W_law_1251 ?_
  refine cx_bipush X dc_W_law_1252 (by decide +kernel) ?_
  refine lv_lshl X.1 X.2.1 dc_W_law_1254 rfl ?_
  refine lv_aload_n X.1 X.2.1 dc_W_law_1255 rfl (lv_at hl 0 rfl) ?_
  refine lv_iload_n X.1 X.2.1 dc_W_law_1256 rfl (lv_at hl 3 rfl) ?_
  refine cx_iconst X dc_W_law_1257 ?_
  refine cx_iadd X dc_W_law_1258 ?_
  refine lw_sld X B hX hbl (j := 8 * k + 5) (by omega) (by omega) hL ev5 dc_W_law_1259 ?_
  refine cx_i2l X g21 g22 dc_W_law_1260 ?_
  refine cx_ldc2 (a := 4294967295) X gk_W_13 (by decide +kernel) dc_W_law_1261 ?_
  refine lv_land X.1 X.2.1 dc_W_law_1264 ?_
  refine lv_lor X.1 X.2.1 dc_W_law_1265 ?_
  rw [el2]
  refine lw_cM (S' := (op_seen S v0 v1 v2)) X B kc_M_seen gm_W_120 (c_M_seen l u _ ad2 S sc2 K.1  v0 v1 v2 v01 v02 v11 v12 v21 v22) (fun w1 h => ⟨sc2, h⟩) rfl ⟨(Nat.le_of_ble_eq_true rfl), (Nat.le_of_ble_eq_true rfl)⟩ ⟨(by show _ ≤ 600000; omega), (by show _ ≤ 7302250; omega)⟩ rfl hl.1 (Nat.le_of_ble_eq_true rfl) dc_W_law_1266 rfl (fun H locs sc3 B => ?_)
  refine lv_icmp_eq (tgt := 1355) X.1 X.2.1 dc_W_law_1269 (by decide) (fun _ => ?_) (fun q => absurd rfl q)
  refine W.widen (k := 35 + 3 * (k + 1)) (n := 2056 + 35 * (k + 1)) (by omega) (by omega) ?_
  exact kk _ _ _ _ _ _ _ _ (K_seen K v0 v1 v2) B hl
set_option maxHeartbeats 4000000 in
set_option maxRecDepth 100000 in
theorem lw_case_23 {p : Program} {l : Launch} {e : Env} {s : State} {m : MethodId} {below : List Frame} {meth : Method} {c : Code} {u : cx_U} {b L : Nat} {xs : Nat → Int32} (X : CallFix p m c bc_W_law 4 s #[Value.ref b] GW "CatchSharesLaw") (hX : va_X b L xs s s.heap) (hbl : b < s.heap.size) (hL : L ≤ 4096) {k : Nat} (hk : 8 * k + 8 ≤ L) (kk : lw_Go p l e s m below meth c u b k (k + 1) 1355) : lw_Go p l e s m below meth c u b k k 1274 := by
  intro ad ad2 S sc sc2 H locs ls K B hl
  obtain ⟨v0, v01, v02, ev1⟩ := jI_R (xs (8 * k + 1))
  refine lv_aload_n X.1 X.2.1 dc_W_law_1274 rfl (lv_at hl 1 rfl) ?_
  refine lv_aload_n X.1 X.2.1 dc_W_law_1275 rfl (lv_at hl 0 rfl) ?_
  refine lv_iload_n X.1 X.2.1 dc_W_law_1276 rfl (lv_at hl 3 rfl) ?_
  refine cx_iconst X dc_W_law_1277 ?_
  refine cx_iadd X dc_W_law_1278 ?_
  refine lw_sld X B hX hbl (j := 8 * k + 1) (by omega) (by omega) hL ev1 dc_W_law_1279 ?_
  refine cx_cVN X B kc_C_discard gm_W_121 (c_C_discard l u ad S sc K.1  v0 v01 v02) lw_sC (lw_sC 0 0 _ (wC_0 u ad S sc)) rfl rfl ⟨(Nat.le_of_ble_eq_true rfl), (Nat.le_of_ble_eq_true rfl)⟩ ⟨(by show _ ≤ 600000; omega), (by show _ ≤ 7302250; omega)⟩ rfl hl.1 (Nat.le_of_ble_eq_true rfl) dc_W_law_1280 rfl ?_
  refine lv_aload_n X.1 X.2.1 dc_W_law_1283 rfl (lv_at hl 2 rfl) ?_
  refine lv_aload_n X.1 X.2.1 dc_W_law_1284 rfl (lv_at hl 0 rfl) ?_
  refine lv_iload_n X.1 X.2.1 dc_W_law_1285 rfl (lv_at hl 3 rfl) ?_
  refine cx_iconst X dc_W_law_1286 ?_
  refine cx_iadd X dc_W_law_1287 ?_
  refine lw_sld X B hX hbl (j := 8 * k + 1) (by omega) (by omega) hL ev1 dc_W_law_1288 ?_
  refine cx_cVN X B kc_M_discard gm_W_125 (c_M_discard l u ad2 S sc2 K.1  v0 v01 v02) lw_sM (lw_sM 20 0 _ (wM_20 u ad2 S sc2)) rfl rfl ⟨(Nat.le_of_ble_eq_true rfl), (Nat.le_of_ble_eq_true rfl)⟩ ⟨(by show _ ≤ 600000; omega), (by show _ ≤ 7302250; omega)⟩ rfl hl.1 (Nat.le_of_ble_eq_true rfl) dc_W_law_1289 rfl ?_
  refine cx_lcmpR_eq (tgt := 1355) X dc_W_law_1292 dc_W_law_1293 (by decide) (fun _ => ?_) (fun q => absurd rfl q)
  refine W.widen (k := 35 + 3 * (k + 1)) (n := 2056 + 35 * (k + 1)) (by omega) (by omega) ?_
  exact kk _ _ _ _ _ _ _ _ K B hl
set_option maxHeartbeats 4000000 in
set_option maxRecDepth 100000 in
theorem lw_case_24 {p : Program} {l : Launch} {e : Env} {s : State} {m : MethodId} {below : List Frame} {meth : Method} {c : Code} {u : cx_U} {b L : Nat} {xs : Nat → Int32} (X : CallFix p m c bc_W_law 4 s #[Value.ref b] GW "CatchSharesLaw") (hX : va_X b L xs s s.heap) (hbl : b < s.heap.size) (hL : L ≤ 4096) {k : Nat} (hk : 8 * k + 8 ≤ L) (kk : lw_Go p l e s m below meth c u b k (k + 1) 1355) : lw_Go p l e s m below meth c u b k k 1298 := by
  intro ad ad2 S sc sc2 H locs ls K B hl
  obtain ⟨v0, v01, v02, ev1⟩ := jI_R (xs (8 * k + 1))
  obtain ⟨v1, v11, v12, ev2⟩ := jI_R (xs (8 * k + 2))
  refine lv_aload_n X.1 X.2.1 dc_W_law_1298 rfl (lv_at hl 1 rfl) ?_
  refine lv_aload_n X.1 X.2.1 dc_W_law_1299 rfl (lv_at hl 0 rfl) ?_
  refine lv_iload_n X.1 X.2.1 dc_W_law_1300 rfl (lv_at hl 3 rfl) ?_
  refine cx_iconst X dc_W_law_1301 ?_
  refine cx_iadd X dc_W_law_1302 ?_
  refine lw_sld X B hX hbl (j := 8 * k + 1) (by omega) (by omega) hL ev1 dc_W_law_1303 ?_
  refine lv_aload_n X.1 X.2.1 dc_W_law_1304 rfl (lv_at hl 0 rfl) ?_
  refine lv_iload_n X.1 X.2.1 dc_W_law_1305 rfl (lv_at hl 3 rfl) ?_
  refine cx_iconst X dc_W_law_1306 ?_
  refine cx_iadd X dc_W_law_1307 ?_
  refine lw_sld X B hX hbl (j := 8 * k + 2) (by omega) (by omega) hL ev2 dc_W_law_1308 ?_
  refine cx_cVN X B kc_C_told gm_W_126 (c_C_told l u ad S sc K.1  v0 v1 v01 v02 v11 v12) lw_sC (lw_sC 0 0 _ (wC_0 u ad S sc)) rfl rfl ⟨(Nat.le_of_ble_eq_true rfl), (Nat.le_of_ble_eq_true rfl)⟩ ⟨(by show _ ≤ 600000; omega), (by show _ ≤ 7302250; omega)⟩ rfl hl.1 (Nat.le_of_ble_eq_true rfl) dc_W_law_1309 rfl ?_
  refine lv_aload_n X.1 X.2.1 dc_W_law_1312 rfl (lv_at hl 2 rfl) ?_
  refine lv_aload_n X.1 X.2.1 dc_W_law_1313 rfl (lv_at hl 0 rfl) ?_
  refine lv_iload_n X.1 X.2.1 dc_W_law_1314 rfl (lv_at hl 3 rfl) ?_
  refine cx_iconst X dc_W_law_1315 ?_
  refine cx_iadd X dc_W_law_1316 ?_
  refine lw_sld X B hX hbl (j := 8 * k + 1) (by omega) (by omega) hL ev1 dc_W_law_1317 ?_
  refine lv_aload_n X.1 X.2.1 dc_W_law_1318 rfl (lv_at hl 0 rfl) ?_
  refine lv_iload_n X.1 X.2.1 dc_W_law_1319 rfl (lv_at hl 3 rfl) ?_
  refine cx_iconst X dc_W_law_1320 ?_
  refine cx_iadd X dc_W_law_1321 ?_
  refine lw_sld X B hX hbl (j := 8 * k + 2) (by omega) (by omega) hL ev2 dc_W_law_1322 ?_
  refine cx_cVN X B kc_M_told gm_W_129 (c_M_told l u ad2 S sc2 K.1 K.2.2.2.2.1 v0 v1 v01 v02 v11 v12) lw_sM (lw_sM 20 0 _ (wM_20 u ad2 S sc2)) rfl rfl ⟨(Nat.le_of_ble_eq_true rfl), (Nat.le_of_ble_eq_true rfl)⟩ ⟨(by show _ ≤ 600000; omega), (by show _ ≤ 7302250; omega)⟩ rfl hl.1 (Nat.le_of_ble_eq_true rfl) dc_W_law_1323 rfl ?_
  refine cx_lcmpR_eq (tgt := 1355) X dc_W_law_1326 dc_W_law_1327 (by decide) (fun _ => ?_) (fun q => absurd rfl q)
  refine W.widen (k := 35 + 3 * (k + 1)) (n := 2056 + 35 * (k + 1)) (by omega) (by omega) ?_
  exact kk _ _ _ _ _ _ _ _ K B hl
set_option maxHeartbeats 4000000 in
set_option maxRecDepth 100000 in
theorem lw_case_25 {p : Program} {l : Launch} {e : Env} {s : State} {m : MethodId} {below : List Frame} {meth : Method} {c : Code} {u : cx_U} {b L : Nat} {xs : Nat → Int32} (X : CallFix p m c bc_W_law 4 s #[Value.ref b] GW "CatchSharesLaw") (hX : va_X b L xs s s.heap) (hbl : b < s.heap.size) (hL : L ≤ 4096) {k : Nat} (hk : 8 * k + 8 ≤ L) (kk : lw_Go p l e s m below meth c u b k (k + 1) 1355) : lw_Go p l e s m below meth c u b k k 1332 := by
  intro ad ad2 S sc sc2 H locs ls K B hl
  obtain ⟨v0, v01, v02, ev1⟩ := jI_R (xs (8 * k + 1))
  refine lv_aload_n X.1 X.2.1 dc_W_law_1332 rfl (lv_at hl 1 rfl) ?_
  refine lv_aload_n X.1 X.2.1 dc_W_law_1333 rfl (lv_at hl 0 rfl) ?_
  refine lv_iload_n X.1 X.2.1 dc_W_law_1334 rfl (lv_at hl 3 rfl) ?_
  refine cx_iconst X dc_W_law_1335 ?_
  refine cx_iadd X dc_W_law_1336 ?_
  refine lw_sld X B hX hbl (j := 8 * k + 1) (by omega) (by omega) hL ev1 dc_W_law_1337 ?_
  refine cx_cVN X B kc_C_sums gm_W_130 (c_C_sums l u ad S sc K.1  v0 v01 v02) lw_sC (lw_sC 0 0 _ (wC_0 u ad S sc)) rfl rfl ⟨(Nat.le_of_ble_eq_true rfl), (Nat.le_of_ble_eq_true rfl)⟩ ⟨(by show _ ≤ 600000; omega), (by show _ ≤ 7302250; omega)⟩ rfl hl.1 (Nat.le_of_ble_eq_true rfl) dc_W_law_1338 rfl ?_
  refine lv_aload_n X.1 X.2.1 dc_W_law_1341 rfl (lv_at hl 2 rfl) ?_
  refine lv_aload_n X.1 X.2.1 dc_W_law_1342 rfl (lv_at hl 0 rfl) ?_
  refine lv_iload_n X.1 X.2.1 dc_W_law_1343 rfl (lv_at hl 3 rfl) ?_
  refine cx_iconst X dc_W_law_1344 ?_
  refine cx_iadd X dc_W_law_1345 ?_
  refine lw_sld X B hX hbl (j := 8 * k + 1) (by omega) (by omega) hL ev1 dc_W_law_1346 ?_
  refine cx_cVN X B kc_M_sums gm_W_133 (c_M_sums l u ad2 S sc2 K.1 K.2.2.2.2.1 K.2.2.2.2.2.1 v0 v01 v02) lw_sM (lw_sM 20 0 _ (wM_20 u ad2 S sc2)) rfl rfl ⟨(Nat.le_of_ble_eq_true rfl), (Nat.le_of_ble_eq_true rfl)⟩ ⟨(by show _ ≤ 600000; omega), (by show _ ≤ 7302250; omega)⟩ rfl hl.1 (Nat.le_of_ble_eq_true rfl) dc_W_law_1347 rfl ?_
  refine lv_icmp_eq (tgt := 1355) X.1 X.2.1 dc_W_law_1350 (by decide) (fun _ => ?_) (fun q => absurd rfl q)
  refine W.widen (k := 35 + 3 * (k + 1)) (n := 2056 + 35 * (k + 1)) (by omega) (by omega) ?_
  exact kk _ _ _ _ _ _ _ _ K B hl
