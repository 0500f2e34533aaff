variable {y : MethodName}
set_option maxRecDepth 100000 in
set_option maxHeartbeats 4000000 in
theorem law_30 (g : jz_G) (hg : jz_L g ≤ 3584) {i : Int} (hi : 0 ≤ i ∧ i + 7 ≤ jz_L g) {sx : jz_St} (hV : Inv sx) (kk : ∀ s' : jz_St, Inv s' → jz_Z g (mLw y) (jq_i (fun z _ => z = 1)) 1461 [some (jr (1000)), some (jr (0)), some (jr (416)), some (ji (i))] [] s') : jz_Z g (mLw y) (jq_i (fun z _ => z = 1)) 1180 [some (jr (1000)), some (jr (0)), some (jr (416)), some (ji (i))] [] sx := by
  have hI := hV.1.2.2.1
  refine jj_aload_n dL_law_1180 rfl ?_
  refine jj_aload_n dL_law_1181 rfl ?_
  refine jj_iload_n dL_law_1182 rfl ?_
  refine jj_iconst dL_law_1183 (kk := ?_)
  refine jj_iadd dL_law_1184 (by omega) ?_
  refine jj_sld dL_law_1185 rfl (by omega) (by omega) ?_
  refine jj_aload_n dL_law_1186 rfl ?_
  refine jj_iload_n dL_law_1187 rfl ?_
  refine jj_iconst dL_law_1188 (kk := ?_)
  refine jj_iadd dL_law_1189 (by omega) ?_
  refine jj_sld dL_law_1190 rfl (by omega) (by omega) ?_
  refine jj_aload_n dL_law_1191 rfl ?_
  refine jj_iload_n dL_law_1192 rfl ?_
  refine jj_iconst dL_law_1193 (kk := ?_)
  refine jj_iadd dL_law_1194 (by omega) ?_
  refine jj_sld dL_law_1195 rfl (by omega) (by omega) ?_
  refine zz_cVl (av := [ji (jz_x g (i + 1).toNat), ji (jz_x g (i + 2).toNat), ji (jz_x g (i + 3).toNat)]) (st' := []) dL_law_1196 kn_L_140 kmX7_wind tt0 rfl rfl rfl (Nat.le_of_ble_eq_true rfl) (Nat.le_of_ble_eq_true rfl) rfl (c_X7_wind g sx (jz_x g (i + 1).toNat) (jz_x g (i + 2).toNat) (jz_x g (i + 3).toNat) hI) (fun hr1196 ho1196 => ?_)
  obtain ⟨he, hN, hM⟩ := OK_law (s1 := f_X7_wind sx (jz_x g (i + 1).toNat) (jz_x g (i + 2).toNat) (jz_x g (i + 3).toNat)) (f8 := fun t => f_X8_wind t (jz_x g (i + 1).toNat) (jz_x g (i + 2).toNat) (jz_x g (i + 3).toNat)) (v8 := fun t => v_X8_wind t (jz_x g (i + 1).toNat) (jz_x g (i + 2).toNat) (jz_x g (i + 3).toNat)) hV (fun t h => o_wind h (jz_x g (i + 1).toNat) (jz_x g (i + 2).toNat) (jz_x g (i + 3).toNat)) (t_wind hV.1 hV.2 (jz_x g (i + 1).toNat) (jz_x g (i + 2).toNat) (jz_x g (i + 3).toNat))
  refine jj_aload_n dL_law_1199 rfl ?_
  refine jj_aload_n dL_law_1200 rfl ?_
  refine jj_iload_n dL_law_1201 rfl ?_
  refine jj_iconst dL_law_1202 (kk := ?_)
  refine jj_iadd dL_law_1203 (by omega) ?_
  refine jj_sld dL_law_1204 rfl (by omega) (by omega) ?_
  refine jj_aload_n dL_law_1205 rfl ?_
  refine jj_iload_n dL_law_1206 rfl ?_
  refine jj_iconst dL_law_1207 (kk := ?_)
  refine jj_iadd dL_law_1208 (by omega) ?_
  refine jj_sld dL_law_1209 rfl (by omega) (by omega) ?_
  refine jj_aload_n dL_law_1210 rfl ?_
  refine jj_iload_n dL_law_1211 rfl ?_
  refine jj_iconst dL_law_1212 (kk := ?_)
  refine jj_iadd dL_law_1213 (by omega) ?_
  refine jj_sld dL_law_1214 rfl (by omega) (by omega) ?_
  refine zz_cVl (av := [ji (jz_x g (i + 1).toNat), ji (jz_x g (i + 2).toNat), ji (jz_x g (i + 3).toNat)]) (st' := [jl (v_X7_wind sx (jz_x g (i + 1).toNat) (jz_x g (i + 2).toNat) (jz_x g (i + 3).toNat))]) dL_law_1215 kn_L_144 kmX8_wind tt416 rfl rfl rfl (Nat.le_of_ble_eq_true rfl) (Nat.le_of_ble_eq_true rfl) rfl (c_X8_wind g (f_X7_wind sx (jz_x g (i + 1).toNat) (jz_x g (i + 2).toNat) (jz_x g (i + 3).toNat)) (jz_x g (i + 1).toNat) (jz_x g (i + 2).toNat) (jz_x g (i + 3).toNat) hM.1) (fun hr1215 ho1215 => ?_)
  refine jj_lcmp dL_law_1218 ?_
  refine jj_if_eq (tgt := 1461) dL_law_1219 (by decide) (fun h1219 => ?_) (fun h1219 => ?_)
  · exact kk _ hN
  · exact absurd (by have he2 : v_X7_wind sx (jz_x g (i + 1).toNat) (jz_x g (i + 2).toNat) (jz_x g (i + 3).toNat) = v_X8_wind (f_X7_wind sx (jz_x g (i + 1).toNat) (jz_x g (i + 2).toNat) (jz_x g (i + 3).toNat)) (jz_x g (i + 1).toNat) (jz_x g (i + 2).toNat) (jz_x g (i + 3).toNat) := he; rw [he2]; exact jc_self _) h1219
set_option maxRecDepth 100000 in
set_option maxHeartbeats 4000000 in
theorem law_31 (g : jz_G) (hg : jz_L g ≤ 3584) {i : Int} (hi : 0 ≤ i ∧ i + 7 ≤ jz_L g) {sx : jz_St} (hV : Inv sx) (kk : ∀ s' : jz_St, Inv s' → jz_Z g (mLw y) (jq_i (fun z _ => z = 1)) 1461 [some (jr (1000)), some (jr (0)), some (jr (416)), some (ji (i))] [] s') : jz_Z g (mLw y) (jq_i (fun z _ => z = 1)) 1224 [some (jr (1000)), some (jr (0)), some (jr (416)), some (ji (i))] [] sx := by
  have hI := hV.1.2.2.1
  refine jj_aload_n dL_law_1224 rfl ?_
  refine jj_aload_n dL_law_1225 rfl ?_
  refine jj_iload_n dL_law_1226 rfl ?_
  refine jj_iconst dL_law_1227 (kk := ?_)
  refine jj_iadd dL_law_1228 (by omega) ?_
  refine jj_sld dL_law_1229 rfl (by omega) (by omega) ?_
  refine jj_aload_n dL_law_1230 rfl ?_
  refine jj_iload_n dL_law_1231 rfl ?_
  refine jj_iconst dL_law_1232 (kk := ?_)
  refine jj_iadd dL_law_1233 (by omega) ?_
  refine jj_sld dL_law_1234 rfl (by omega) (by omega) ?_
  refine jj_aload_n dL_law_1235 rfl ?_
  refine jj_iload_n dL_law_1236 rfl ?_
  refine jj_iconst dL_law_1237 (kk := ?_)
  refine jj_iadd dL_law_1238 (by omega) ?_
  refine jj_sld dL_law_1239 rfl (by omega) (by omega) ?_
  refine zz_cVi (av := [ji (jz_x g (i + 1).toNat), ji (jz_x g (i + 2).toNat), ji (jz_x g (i + 3).toNat)]) (st' := []) dL_law_1240 kn_L_145 kmX7_drawn tt0 rfl rfl rfl (Nat.le_of_ble_eq_true rfl) (Nat.le_of_ble_eq_true rfl) rfl (c_X7_drawn g sx (jz_x g (i + 1).toNat) (jz_x g (i + 2).toNat) (jz_x g (i + 3).toNat) hI (H3_sz hV.1)) (fun hr1240 ho1240 => ?_)
  obtain ⟨he, hN, hM⟩ := OK_law (s1 := f_X7_drawn sx (jz_x g (i + 1).toNat) (jz_x g (i + 2).toNat) (jz_x g (i + 3).toNat)) (f8 := fun t => f_X8_drawn t (jz_x g (i + 1).toNat) (jz_x g (i + 2).toNat) (jz_x g (i + 3).toNat)) (v8 := fun t => v_X8_drawn t (jz_x g (i + 1).toNat) (jz_x g (i + 2).toNat) (jz_x g (i + 3).toNat)) hV (fun t h => o_drawn h (jz_x g (i + 1).toNat) (jz_x g (i + 2).toNat) (jz_x g (i + 3).toNat)) (t_drawn hV.1 hV.2 (jz_x g (i + 1).toNat) (jz_x g (i + 2).toNat) (jz_x g (i + 3).toNat))
  refine jj_aload_n dL_law_1243 rfl ?_
  refine jj_aload_n dL_law_1244 rfl ?_
  refine jj_iload_n dL_law_1245 rfl ?_
  refine jj_iconst dL_law_1246 (kk := ?_)
  refine jj_iadd dL_law_1247 (by omega) ?_
  refine jj_sld dL_law_1248 rfl (by omega) (by omega) ?_
  refine jj_aload_n dL_law_1249 rfl ?_
  refine jj_iload_n dL_law_1250 rfl ?_
  refine jj_iconst dL_law_1251 (kk := ?_)
  refine jj_iadd dL_law_1252 (by omega) ?_
  refine jj_sld dL_law_1253 rfl (by omega) (by omega) ?_
  refine jj_aload_n dL_law_1254 rfl ?_
  refine jj_iload_n dL_law_1255 rfl ?_
  refine jj_iconst dL_law_1256 (kk := ?_)
  refine jj_iadd dL_law_1257 (by omega) ?_
  refine jj_sld dL_law_1258 rfl (by omega) (by omega) ?_
  refine zz_cVi (av := [ji (jz_x g (i + 1).toNat), ji (jz_x g (i + 2).toNat), ji (jz_x g (i + 3).toNat)]) (st' := [ji (v_X7_drawn sx (jz_x g (i + 1).toNat) (jz_x g (i + 2).toNat) (jz_x g (i + 3).toNat))]) dL_law_1259 kn_L_148 kmX8_drawn tt416 rfl rfl rfl (Nat.le_of_ble_eq_true rfl) (Nat.le_of_ble_eq_true rfl) rfl (c_X8_drawn g (f_X7_drawn sx (jz_x g (i + 1).toNat) (jz_x g (i + 2).toNat) (jz_x g (i + 3).toNat)) (jz_x g (i + 1).toNat) (jz_x g (i + 2).toNat) (jz_x g (i + 3).toNat) hM.1 hM.2.1.2.2.1) (fun hr1259 ho1259 => ?_)
  refine jj_icmp_eq (tgt := 1461) dL_law_1262 (by decide) (fun h1262 => ?_) (fun h1262 => ?_)
  · exact kk _ hN
  · exact absurd he h1262
set_option maxRecDepth 100000 in
set_option maxHeartbeats 4000000 in
theorem law_32 (g : jz_G) (hg : jz_L g ≤ 3584) {i : Int} (hi : 0 ≤ i ∧ i + 7 ≤ jz_L g) {sx : jz_St} (hV : Inv sx) (kk : ∀ s' : jz_St, Inv s' → jz_Z g (mLw y) (jq_i (fun z _ => z = 1)) 1461 [some (jr (1000)), some (jr (0)), some (jr (416)), some (ji (i))] [] s') : jz_Z g (mLw y) (jq_i (fun z _ => z = 1)) 1267 [some (jr (1000)), some (jr (0)), some (jr (416)), some (ji (i))] [] sx := by
  have hI := hV.1.2.2.1
  refine jj_aload_n dL_law_1267 rfl ?_
  refine jj_aload_n dL_law_1268 rfl ?_
  refine jj_iload_n dL_law_1269 rfl ?_
  refine jj_iconst dL_law_1270 (kk := ?_)
  refine jj_iadd dL_law_1271 (by omega) ?_
  refine jj_sld dL_law_1272 rfl (by omega) (by omega) ?_
  refine zz_cVi (av := [ji (jz_x g (i + 1).toNat)]) (st' := []) dL_law_1273 kn_L_149 kmX7_image tt0 rfl rfl rfl (Nat.le_of_ble_eq_true rfl) (Nat.le_of_ble_eq_true rfl) rfl (c_X7_image g sx (jz_x g (i + 1).toNat) hI) (fun hr1273 ho1273 => ?_)
  obtain ⟨he, hN, hM⟩ := OK_law (s1 := f_X7_image sx (jz_x g (i + 1).toNat)) (f8 := fun t => f_X8_image t (jz_x g (i + 1).toNat)) (v8 := fun t => v_X8_image t (jz_x g (i + 1).toNat)) hV (fun t h => o_image h (jz_x g (i + 1).toNat)) (t_image hV.2 (jz_x g (i + 1).toNat))
  refine jj_aload_n dL_law_1276 rfl ?_
  refine jj_aload_n dL_law_1277 rfl ?_
  refine jj_iload_n dL_law_1278 rfl ?_
  refine jj_iconst dL_law_1279 (kk := ?_)
  refine jj_iadd dL_law_1280 (by omega) ?_
  refine jj_sld dL_law_1281 rfl (by omega) (by omega) ?_
  refine zz_cVi (av := [ji (jz_x g (i + 1).toNat)]) (st' := [ji (v_X7_image sx (jz_x g (i + 1).toNat))]) dL_law_1282 kn_L_152 kmX8_image tt416 rfl rfl rfl (Nat.le_of_ble_eq_true rfl) (Nat.le_of_ble_eq_true rfl) rfl (c_X8_image g (f_X7_image sx (jz_x g (i + 1).toNat)) (jz_x g (i + 1).toNat) hM.1) (fun hr1282 ho1282 => ?_)
  refine jj_icmp_eq (tgt := 1461) dL_law_1285 (by decide) (fun h1285 => ?_) (fun h1285 => ?_)
  · exact kk _ hN
  · exact absurd he h1285
set_option maxRecDepth 100000 in
set_option maxHeartbeats 4000000 in
theorem law_33 (g : jz_G) (hg : jz_L g ≤ 3584) {i : Int} (hi : 0 ≤ i ∧ i + 7 ≤ jz_L g) {sx : jz_St} (hV : Inv sx) (kk : ∀ s' : jz_St, Inv s' → jz_Z g (mLw y) (jq_i (fun z _ => z = 1)) 1461 [some (jr (1000)), some (jr (0)), some (jr (416)), some (ji (i))] [] s') : jz_Z g (mLw y) (jq_i (fun z _ => z = 1)) 1290 [some (jr (1000)), some (jr (0)), some (jr (416)), some (ji (i))] [] sx := by
  have hI := hV.1.2.2.1
  refine jj_aload_n dL_law_1290 rfl ?_
  refine jj_aload_n dL_law_1291 rfl ?_
  refine jj_iload_n dL_law_1292 rfl ?_
  refine jj_iconst dL_law_1293 (kk := ?_)
  refine jj_iadd dL_law_1294 (by omega) ?_
  refine jj_sld dL_law_1295 rfl (by omega) (by omega) ?_
  refine zz_cVi (av := [ji (jz_x g (i + 1).toNat)]) (st' := []) dL_law_1296 kn_L_153 kmX7_restore tt0 rfl rfl rfl (Nat.le_of_ble_eq_true rfl) (Nat.le_of_ble_eq_true rfl) rfl (c_X7_restore g sx (jz_x g (i + 1).toNat) hI) (fun hr1296 ho1296 => ?_)
  obtain ⟨he, hN, hM⟩ := OK_law (s1 := f_X7_restore sx (jz_x g (i + 1).toNat)) (f8 := fun t => f_X8_restore t (jz_x g (i + 1).toNat)) (v8 := fun t => v_X8_restore t (jz_x g (i + 1).toNat)) hV (fun t h => o_restore h (jz_x g (i + 1).toNat)) (t_restore hV.2 (jz_x g (i + 1).toNat))
  refine jj_aload_n dL_law_1299 rfl ?_
  refine jj_aload_n dL_law_1300 rfl ?_
  refine jj_iload_n dL_law_1301 rfl ?_
  refine jj_iconst dL_law_1302 (kk := ?_)
  refine jj_iadd dL_law_1303 (by omega) ?_
  refine jj_sld dL_law_1304 rfl (by omega) (by omega) ?_
  refine zz_cVi (av := [ji (jz_x g (i + 1).toNat)]) (st' := [ji (v_X7_restore sx (jz_x g (i + 1).toNat))]) dL_law_1305 kn_L_156 kmX8_restore tt416 rfl rfl rfl (Nat.le_of_ble_eq_true rfl) (Nat.le_of_ble_eq_true rfl) rfl (c_X8_restore g (f_X7_restore sx (jz_x g (i + 1).toNat)) (jz_x g (i + 1).toNat) hM.1) (fun hr1305 ho1305 => ?_)
  refine jj_icmp_eq (tgt := 1461) dL_law_1308 (by decide) (fun h1308 => ?_) (fun h1308 => ?_)
  · exact kk _ hN
  · exact absurd he h1308
set_option maxRecDepth 100000 in
set_option maxHeartbeats 4000000 in
theorem law_34 (g : jz_G) (hg : jz_L g ≤ 3584) {i : Int} (hi : 0 ≤ i ∧ i + 7 ≤ jz_L g) {sx : jz_St} (hV : Inv sx) (kk : ∀ s' : jz_St, Inv s' → jz_Z g (mLw y) (jq_i (fun z _ => z = 1)) 1461 [some (jr (1000)), some (jr (0)), some (jr (416)), some (ji (i))] [] s') : jz_Z g (mLw y) (jq_i (fun z _ => z = 1)) 1313 [some (jr (1000)), some (jr (0)), some (jr (416)), some (ji (i))] [] sx := by
  have hI := hV.1.2.2.1
  refine jj_aload_n dL_law_1313 rfl ?_
  refine jj_aload_n dL_law_1314 rfl ?_
  refine jj_iload_n dL_law_1315 rfl ?_
  refine jj_iconst dL_law_1316 (kk := ?_)
  refine jj_iadd dL_law_1317 (by omega) ?_
  refine jj_sld dL_law_1318 rfl (by omega) (by omega) ?_
  refine zz_cVi (av := [ji (jz_x g (i + 1).toNat)]) (st' := []) dL_law_1319 kn_L_157 kmX7_kind tt0 rfl rfl rfl (Nat.le_of_ble_eq_true rfl) (Nat.le_of_ble_eq_true rfl) rfl (c_X7_kind g sx (jz_x g (i + 1).toNat) hI) (fun hr1319 ho1319 => ?_)
  have he := o_kind hV.1 (jz_x g (i + 1).toNat)
  have hN := hV
  have hM := hV.1.2.1
  refine jj_aload_n dL_law_1322 rfl ?_
  refine jj_aload_n dL_law_1323 rfl ?_
  refine jj_iload_n dL_law_1324 rfl ?_
  refine jj_iconst dL_law_1325 (kk := ?_)
  refine jj_iadd dL_law_1326 (by omega) ?_
  refine jj_sld dL_law_1327 rfl (by omega) (by omega) ?_
  refine zz_cVi (av := [ji (jz_x g (i + 1).toNat)]) (st' := [ji (v_X7_kind sx (jz_x g (i + 1).toNat))]) dL_law_1328 kn_L_160 kmX8_kind tt416 rfl rfl rfl (Nat.le_of_ble_eq_true rfl) (Nat.le_of_ble_eq_true rfl) rfl (c_X8_kind g sx (jz_x g (i + 1).toNat) hM.1) (fun hr1328 ho1328 => ?_)
  refine jj_icmp_eq (tgt := 1461) dL_law_1331 (by decide) (fun h1331 => ?_) (fun h1331 => ?_)
  · exact kk _ hN
  · exact absurd he h1331
set_option maxRecDepth 100000 in
set_option maxHeartbeats 4000000 in
theorem law_35 (g : jz_G) (hg : jz_L g ≤ 3584) {i : Int} (hi : 0 ≤ i ∧ i + 7 ≤ jz_L g) {sx : jz_St} (hV : Inv sx) (kk : ∀ s' : jz_St, Inv s' → jz_Z g (mLw y) (jq_i (fun z _ => z = 1)) 1461 [some (jr (1000)), some (jr (0)), some (jr (416)), some (ji (i))] [] s') : jz_Z g (mLw y) (jq_i (fun z _ => z = 1)) 1336 [some (jr (1000)), some (jr (0)), some (jr (416)), some (ji (i))] [] sx := by
  have hI := hV.1.2.2.1
  refine jj_aload_n dL_law_1336 rfl ?_
  refine jj_aload_n dL_law_1337 rfl ?_
  refine jj_iload_n dL_law_1338 rfl ?_
  refine jj_iconst dL_law_1339 (kk := ?_)
  refine jj_iadd dL_law_1340 (by omega) ?_
  refine jj_sld dL_law_1341 rfl (by omega) (by omega) ?_
  refine jj_aload_n dL_law_1342 rfl ?_
  refine jj_iload_n dL_law_1343 rfl ?_
  refine jj_iconst dL_law_1344 (kk := ?_)
  refine jj_iadd dL_law_1345 (by omega) ?_
  refine jj_sld dL_law_1346 rfl (by omega) (by omega) ?_
  refine zz_cVi (av := [ji (jz_x g (i + 1).toNat), ji (jz_x g (i + 2).toNat)]) (st' := []) dL_law_1347 kn_L_161 kmX7_as tt0 rfl rfl rfl (Nat.le_of_ble_eq_true rfl) (Nat.le_of_ble_eq_true rfl) rfl (c_X7_as g sx (jz_x g (i + 1).toNat) (jz_x g (i + 2).toNat) hI) (fun hr1347 ho1347 => ?_)
  obtain ⟨he, hN, hM⟩ := OK_law (s1 := f_X7_as sx (jz_x g (i + 1).toNat) (jz_x g (i + 2).toNat)) (f8 := fun t => f_X8_as t (jz_x g (i + 1).toNat) (jz_x g (i + 2).toNat)) (v8 := fun t => v_X8_as t (jz_x g (i + 1).toNat) (jz_x g (i + 2).toNat)) hV (fun t h => o_as h (jz_x g (i + 1).toNat) (jz_x g (i + 2).toNat)) (t_as hV.2 (jz_x g (i + 1).toNat) (jz_x g (i + 2).toNat))
  refine jj_aload_n dL_law_1350 rfl ?_
  refine jj_aload_n dL_law_1351 rfl ?_
  refine jj_iload_n dL_law_1352 rfl ?_
  refine jj_iconst dL_law_1353 (kk := ?_)
  refine jj_iadd dL_law_1354 (by omega) ?_
  refine jj_sld dL_law_1355 rfl (by omega) (by omega) ?_
  refine jj_aload_n dL_law_1356 rfl ?_
  refine jj_iload_n dL_law_1357 rfl ?_
  refine jj_iconst dL_law_1358 (kk := ?_)
  refine jj_iadd dL_law_1359 (by omega) ?_
  refine jj_sld dL_law_1360 rfl (by omega) (by omega) ?_
  refine zz_cVi (av := [ji (jz_x g (i + 1).toNat), ji (jz_x g (i + 2).toNat)]) (st' := [ji (v_X7_as sx (jz_x g (i + 1).toNat) (jz_x g (i + 2).toNat))]) dL_law_1361 kn_L_164 kmX8_as tt416 rfl rfl rfl (Nat.le_of_ble_eq_true rfl) (Nat.le_of_ble_eq_true rfl) rfl (c_X8_as g (f_X7_as sx (jz_x g (i + 1).toNat) (jz_x g (i + 2).toNat)) (jz_x g (i + 1).toNat) (jz_x g (i + 2).toNat) hM.1) (fun hr1361 ho1361 => ?_)
  refine jj_icmp_eq (tgt := 1461) dL_law_1364 (by decide) (fun h1364 => ?_) (fun h1364 => ?_)
  · exact kk _ hN
  · exact absurd he h1364
set_option maxRecDepth 100000 in
set_option maxHeartbeats 4000000 in
theorem law_36 (g : jz_G) (hg : jz_L g ≤ 3584) {i : Int} (hi : 0 ≤ i ∧ i + 7 ≤ jz_L g) {sx : jz_St} (hV : Inv sx) (kk : ∀ s' : jz_St, Inv s' → jz_Z g (mLw y) (jq_i (fun z _ => z = 1)) 1461 [some (jr (1000)), some (jr (0)), some (jr (416)), some (ji (i))] [] s') : jz_Z g (mLw y) (jq_i (fun z _ => z = 1)) 1369 [some (jr (1000)), some (jr (0)), some (jr (416)), some (ji (i))] [] sx := by
  have hI := hV.1.2.2.1
  refine jj_aload_n dL_law_1369 rfl ?_
  refine jj_aload_n dL_law_1370 rfl ?_
  refine jj_iload_n dL_law_1371 rfl ?_
  refine jj_iconst dL_law_1372 (kk := ?_)
  refine jj_iadd dL_law_1373 (by omega) ?_
  refine jj_sld dL_law_1374 rfl (by omega) (by omega) ?_
  refine jj_aload_n dL_law_1375 rfl ?_
  refine jj_iload_n dL_law_1376 rfl ?_
  refine jj_iconst dL_law_1377 (kk := ?_)
  refine jj_iadd dL_law_1378 (by omega) ?_
  refine jj_sld dL_law_1379 rfl (by omega) (by omega) ?_
  refine zz_cVi (av := [ji (jz_x g (i + 1).toNat), ji (jz_x g (i + 2).toNat)]) (st' := []) dL_law_1380 kn_L_165 kmX7_ask tt0 rfl rfl rfl (Nat.le_of_ble_eq_true rfl) (Nat.le_of_ble_eq_true rfl) rfl (c_X7_ask g sx (jz_x g (i + 1).toNat) (jz_x g (i + 2).toNat) hI (H3_sz hV.1)) (fun hr1380 ho1380 => ?_)
  obtain ⟨he, hN, hM⟩ := OK_law (s1 := f_X7_ask sx (jz_x g (i + 1).toNat) (jz_x g (i + 2).toNat)) (f8 := fun t => f_X8_ask t (jz_x g (i + 1).toNat) (jz_x g (i + 2).toNat)) (v8 := fun t => v_X8_ask t (jz_x g (i + 1).toNat) (jz_x g (i + 2).toNat)) hV (fun t h => o_ask h (jz_x g (i + 1).toNat) (jz_x g (i + 2).toNat)) (t_ask hV.2 (jz_x g (i + 1).toNat) (jz_x g (i + 2).toNat))
  refine jj_aload_n dL_law_1383 rfl ?_
  refine jj_aload_n dL_law_1384 rfl ?_
  refine jj_iload_n dL_law_1385 rfl ?_
  refine jj_iconst dL_law_1386 (kk := ?_)
  refine jj_iadd dL_law_1387 (by omega) ?_
  refine jj_sld dL_law_1388 rfl (by omega) (by omega) ?_
  refine jj_aload_n dL_law_1389 rfl ?_
  refine jj_iload_n dL_law_1390 rfl ?_
  refine jj_iconst dL_law_1391 (kk := ?_)
  refine jj_iadd dL_law_1392 (by omega) ?_
  refine jj_sld dL_law_1393 rfl (by omega) (by omega) ?_
  refine zz_cVi (av := [ji (jz_x g (i + 1).toNat), ji (jz_x g (i + 2).toNat)]) (st' := [ji (v_X7_ask sx (jz_x g (i + 1).toNat) (jz_x g (i + 2).toNat))]) dL_law_1394 kn_L_168 kmX8_ask tt416 rfl rfl rfl (Nat.le_of_ble_eq_true rfl) (Nat.le_of_ble_eq_true rfl) rfl (c_X8_ask g (f_X7_ask sx (jz_x g (i + 1).toNat) (jz_x g (i + 2).toNat)) (jz_x g (i + 1).toNat) (jz_x g (i + 2).toNat) hM.1) (fun hr1394 ho1394 => ?_)
  refine jj_icmp_eq (tgt := 1461) dL_law_1397 (by decide) (fun h1397 => ?_) (fun h1397 => ?_)
  · exact kk _ hN
  · exact absurd he h1397
set_option maxRecDepth 100000 in
set_option maxHeartbeats 4000000 in
theorem law_37 (g : jz_G) (hg : jz_L g ≤ 3584) {i : Int} (hi : 0 ≤ i ∧ i + 7 ≤ jz_L g) {sx : jz_St} (hV : Inv sx) (kk : ∀ s' : jz_St, Inv s' → jz_Z g (mLw y) (jq_i (fun z _ => z = 1)) 1461 [some (jr (1000)), some (jr (0)), some (jr (416)), some (ji (i))] [] s') : jz_Z g (mLw y) (jq_i (fun z _ => z = 1)) 1402 [some (jr (1000)), some (jr (0)), some (jr (416)), some (ji (i))] [] sx := by
  have hI := hV.1.2.2.1
  refine jj_aload_n dL_law_1402 rfl ?_
  refine jj_aload_n dL_law_1403 rfl ?_
  refine jj_iload_n dL_law_1404 rfl ?_
  refine jj_iconst dL_law_1405 (kk := ?_)
  refine jj_iadd dL_law_1406 (by omega) ?_
  refine jj_sld dL_law_1407 rfl (by omega) (by omega) ?_
  refine zz_cVi (av := [ji (jz_x g (i + 1).toNat)]) (st' := []) dL_law_1408 kn_L_169 kmX7_trace tt0 rfl rfl rfl (Nat.le_of_ble_eq_true rfl) (Nat.le_of_ble_eq_true rfl) rfl (c_X7_trace g sx (jz_x g (i + 1).toNat)) (fun hr1408 ho1408 => ?_)
  have he := o_trace hV.1 (jz_x g (i + 1).toNat)
  have hN := hV
  have hM := hV.1.2.1
  refine jj_aload_n dL_law_1411 rfl ?_
  refine jj_aload_n dL_law_1412 rfl ?_
  refine jj_iload_n dL_law_1413 rfl ?_
  refine jj_iconst dL_law_1414 (kk := ?_)
  refine jj_iadd dL_law_1415 (by omega) ?_
  refine jj_sld dL_law_1416 rfl (by omega) (by omega) ?_
  refine zz_cVi (av := [ji (jz_x g (i + 1).toNat)]) (st' := [ji (v_X7_trace sx (jz_x g (i + 1).toNat))]) dL_law_1417 kn_L_172 kmX8_trace tt416 rfl rfl rfl (Nat.le_of_ble_eq_true rfl) (Nat.le_of_ble_eq_true rfl) rfl (c_X8_trace g sx (jz_x g (i + 1).toNat) hM.1) (fun hr1417 ho1417 => ?_)
  refine jj_icmp_eq (tgt := 1461) dL_law_1420 (by decide) (fun h1420 => ?_) (fun h1420 => ?_)
  · exact kk _ hN
  · exact absurd he h1420
set_option maxRecDepth 100000 in
set_option maxHeartbeats 4000000 in
theorem law_38 (g : jz_G) (hg : jz_L g ≤ 3584) {i : Int} (hi : 0 ≤ i ∧ i + 7 ≤ jz_L g) {sx : jz_St} (hV : Inv sx) (kk : ∀ s' : jz_St, Inv s' → jz_Z g (mLw y) (jq_i (fun z _ => z = 1)) 1461 [some (jr (1000)), some (jr (0)), some (jr (416)), some (ji (i))] [] s') : jz_Z g (mLw y) (jq_i (fun z _ => z = 1)) 1425 [some (jr (1000)), some (jr (0)), some (jr (416)), some (ji (i))] [] sx := by
  have hI := hV.1.2.2.1
  refine jj_aload_n dL_law_1425 rfl ?_
  refine jj_aload_n dL_law_1426 rfl ?_
  refine jj_iload_n dL_law_1427 rfl ?_
  refine jj_iconst dL_law_1428 (kk := ?_)
  refine jj_iadd dL_law_1429 (by omega) ?_
  refine jj_sld dL_law_1430 rfl (by omega) (by omega) ?_
  refine zz_cVi (av := [ji (jz_x g (i + 1).toNat)]) (st' := []) dL_law_1431 kn_L_173 kmX7_count tt0 rfl rfl rfl (Nat.le_of_ble_eq_true rfl) (Nat.le_of_ble_eq_true rfl) rfl (c_X7_count g sx (jz_x g (i + 1).toNat) hI) (fun hr1431 ho1431 => ?_)
  have he := o_count hV.1 (jz_x g (i + 1).toNat)
  have hN := hV
  have hM := hV.1.2.1
  refine jj_aload_n dL_law_1434 rfl ?_
  refine jj_aload_n dL_law_1435 rfl ?_
  refine jj_iload_n dL_law_1436 rfl ?_
  refine jj_iconst dL_law_1437 (kk := ?_)
  refine jj_iadd dL_law_1438 (by omega) ?_
  refine jj_sld dL_law_1439 rfl (by omega) (by omega) ?_
  refine zz_cVi (av := [ji (jz_x g (i + 1).toNat)]) (st' := [ji (v_X7_count sx (jz_x g (i + 1).toNat))]) dL_law_1440 kn_L_176 kmX8_count tt416 rfl rfl rfl (Nat.le_of_ble_eq_true rfl) (Nat.le_of_ble_eq_true rfl) rfl (c_X8_count g sx (jz_x g (i + 1).toNat) hM.1) (fun hr1440 ho1440 => ?_)
  refine jj_icmp_eq (tgt := 1461) dL_law_1443 (by decide) (fun h1443 => ?_) (fun h1443 => ?_)
  · exact kk _ hN
  · exact absurd he h1443
set_option maxRecDepth 100000 in
set_option maxHeartbeats 4000000 in
theorem law_39 (g : jz_G) (hg : jz_L g ≤ 3584) {i : Int} (hi : 0 ≤ i ∧ i + 7 ≤ jz_L g) {sx : jz_St} (hV : Inv sx) (kk : ∀ s' : jz_St, Inv s' → jz_Z g (mLw y) (jq_i (fun z _ => z = 1)) 1461 [some (jr (1000)), some (jr (0)), some (jr (416)), some (ji (i))] [] s') : jz_Z g (mLw y) (jq_i (fun z _ => z = 1)) 1448 [some (jr (1000)), some (jr (0)), some (jr (416)), some (ji (i))] [] sx := by
  have hI := hV.1.2.2.1
  refine jj_aload_n dL_law_1448 rfl ?_
  refine zz_cVi (av := []) (st' := []) dL_law_1449 kn_L_177 kmX7_status tt0 rfl rfl rfl (Nat.le_of_ble_eq_true rfl) (Nat.le_of_ble_eq_true rfl) rfl (c_X7_status g sx ) (fun hr1449 ho1449 => ?_)
  have he := o_status hV.1 
  have hN := hV
  have hM := hV.1.2.1
  refine jj_aload_n dL_law_1452 rfl ?_
  refine zz_cVi (av := []) (st' := [ji (v_X7_status sx)]) dL_law_1453 kn_L_180 kmX8_status tt416 rfl rfl rfl (Nat.le_of_ble_eq_true rfl) (Nat.le_of_ble_eq_true rfl) rfl (c_X8_status g sx  hM.1.1) (fun hr1453 ho1453 => ?_)
  refine jj_icmp_eq (tgt := 1461) dL_law_1456 (by decide) (fun h1456 => ?_) (fun h1456 => ?_)
  · exact kk _ hN
  · exact absurd he h1456
