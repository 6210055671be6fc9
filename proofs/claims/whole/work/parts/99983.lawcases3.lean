/-! the law, case by case -/
section LAWCASES
variable {p : Program} {l : Launch} {e : Env} {s : State} {m : MethodId} {below : List Frame} {meth : Method} {c : Code} {cells slots : Nat} {Q : State → Prop} {b L i : Nat} {xs : Nat → Int32} {D : va_G} {ca : Nat → ClassId} {aX aM : Nat → Nat} {A0 : Nat → Prop} {H : Heap} {locs : List Loc} {ls : Array Slot}
set_option maxHeartbeats 2000000 in
theorem law_26 (C : LSt p s m meth c b L xs D ca aX aM A0 cells slots) {G N : Nat} {σ τ : xS} (h : RRn G N σ τ) (hH : LHp s D ca aX aM A0 σ τ H locs) (hl : LLs b i aX aM ls) (hi : i + 6 ≤ L) (next : ∀ (G' N' : Nat) (σ' τ' : xS) (H' : Heap) (locs' : List Loc), RRn G' N' σ' τ' → LHp s D ca aX aM A0 σ' τ' H' locs' → W p l e room_1 s m #[Value.ref b] below meth c H' locs' cells slots Q (F0 m 1448 ls [])) : W p l e room_1 s m #[Value.ref b] below meth c H locs cells slots Q (F0 m 1109 ls []) := by
  obtain ⟨hx, hb, -⟩ := C.1
  refine lv_aload_n hx hb dL_law_1109 rfl (lv_at hl 2 rfl) ?_
  refine larg (k := 1) C hH hl hi (by omega) (by decide) dL_law_1110 dL_law_1111 dL_law_1112 dL_law_1113 dL_law_1114 ?_
  refine larg (k := 2) C hH hl hi (by omega) (by decide) dL_law_1115 dL_law_1116 dL_law_1117 dL_law_1118 dL_law_1119 ?_
  refine lcX (n := 2) (as' := [.int (xs (i + 1)), .int (xs (i + 2))]) (rest := []) C hH hl mX6_fit (pX6_fit_h h (xs (i + 1)) (xs (i + 2))) (fX6_fit_e (s := (xs (i + 1))) (n := (xs (i + 2)))) rfl rfl rfl (by decide) (by decide) w_L_127 ⟨by decide, by decide, by decide +kernel⟩ rfl (Nat.le_of_ble_eq_true rfl) dL_law_1120 (fun H1 locs1 hH1 => ?_)
  refine lv_aload_n hx hb dL_law_1123 rfl (lv_at hl 3 rfl) ?_
  refine larg (k := 1) C hH1 hl hi (by omega) (by decide) dL_law_1124 dL_law_1125 dL_law_1126 dL_law_1127 dL_law_1128 ?_
  refine larg (k := 2) C hH1 hl hi (by omega) (by decide) dL_law_1129 dL_law_1130 dL_law_1131 dL_law_1132 dL_law_1133 ?_
  refine lcM (n := 2) (as' := [.int (xs (i + 1)), .int (xs (i + 2))]) (rest := [_]) C hH1 hl mX7_fit (pX7_fit_h h (xs (i + 1)) (xs (i + 2))) (fX7_fit_e (s := (xs (i + 1))) (n := (xs (i + 2)))) rfl rfl rfl (by decide) (by decide) w_L_130 ⟨by decide, by decide, by decide +kernel⟩ rfl (Nat.le_of_ble_eq_true rfl) dL_law_1134 (fun H2 locs2 hH2 => ?_)
  obtain ⟨hq, G', N', h'⟩ := ok_fit h (xs (i + 1)) (xs (i + 2))
  refine lv_icmp_eq (tgt := 1448) hx hb dL_law_1137 (by decide) (fun _ => ?_) (fun hne => absurd hq hne)
  exact next G' N' _ _ _ _ h' hH2
set_option maxHeartbeats 2000000 in
theorem law_27 (C : LSt p s m meth c b L xs D ca aX aM A0 cells slots) {G N : Nat} {σ τ : xS} (h : RRn G N σ τ) (hH : LHp s D ca aX aM A0 σ τ H locs) (hl : LLs b i aX aM ls) (hi : i + 6 ≤ L) (next : ∀ (G' N' : Nat) (σ' τ' : xS) (H' : Heap) (locs' : List Loc), RRn G' N' σ' τ' → LHp s D ca aX aM A0 σ' τ' H' locs' → W p l e room_1 s m #[Value.ref b] below meth c H' locs' cells slots Q (F0 m 1448 ls [])) : W p l e room_1 s m #[Value.ref b] below meth c H locs cells slots Q (F0 m 1142 ls []) := by
  obtain ⟨hx, hb, -⟩ := C.1
  refine lv_aload_n hx hb dL_law_1142 rfl (lv_at hl 2 rfl) ?_
  refine larg (k := 1) C hH hl hi (by omega) (by decide) dL_law_1143 dL_law_1144 dL_law_1145 dL_law_1146 dL_law_1147 ?_
  refine larg (k := 2) C hH hl hi (by omega) (by decide) dL_law_1148 dL_law_1149 dL_law_1150 dL_law_1151 dL_law_1152 ?_
  refine larg (k := 3) C hH hl hi (by omega) (by decide) dL_law_1153 dL_law_1154 dL_law_1155 dL_law_1156 dL_law_1157 ?_
  refine lcX (n := 3) (as' := [.int (xs (i + 1)), .int (xs (i + 2)), .int (xs (i + 3))]) (rest := []) C hH hl mX6_began (pX6_began_h h (xs (i + 1)) (xs (i + 2)) (xs (i + 3))) (fX6_began_e (s := (xs (i + 1))) (n := (xs (i + 2))) (x := (xs (i + 3)))) rfl rfl rfl (by decide) (by decide) w_L_131 ⟨by decide, by decide, by decide +kernel⟩ rfl (Nat.le_of_ble_eq_true rfl) dL_law_1158 (fun H1 locs1 hH1 => ?_)
  refine lv_aload_n hx hb dL_law_1161 rfl (lv_at hl 3 rfl) ?_
  refine larg (k := 1) C hH1 hl hi (by omega) (by decide) dL_law_1162 dL_law_1163 dL_law_1164 dL_law_1165 dL_law_1166 ?_
  refine larg (k := 2) C hH1 hl hi (by omega) (by decide) dL_law_1167 dL_law_1168 dL_law_1169 dL_law_1170 dL_law_1171 ?_
  refine larg (k := 3) C hH1 hl hi (by omega) (by decide) dL_law_1172 dL_law_1173 dL_law_1174 dL_law_1175 dL_law_1176 ?_
  refine lcM (n := 3) (as' := [.int (xs (i + 1)), .int (xs (i + 2)), .int (xs (i + 3))]) (rest := [_]) C hH1 hl mX7_began (pX7_began_h h (xs (i + 1)) (xs (i + 2)) (xs (i + 3))) (fX7_began_e (s := (xs (i + 1))) (n := (xs (i + 2))) (x := (xs (i + 3)))) rfl rfl rfl (by decide) (by decide) w_L_134 ⟨by decide, by decide, by decide +kernel⟩ rfl (Nat.le_of_ble_eq_true rfl) dL_law_1177 (fun H2 locs2 hH2 => ?_)
  obtain ⟨hq, G', N', h'⟩ := ok_began h (xs (i + 1)) (xs (i + 2)) (xs (i + 3))
  refine lv_icmp_eq (tgt := 1448) hx hb dL_law_1180 (by decide) (fun _ => ?_) (fun hne => absurd hq hne)
  exact next G' N' _ _ _ _ h' hH2
set_option maxHeartbeats 2000000 in
theorem law_28 (C : LSt p s m meth c b L xs D ca aX aM A0 cells slots) {G N : Nat} {σ τ : xS} (h : RRn G N σ τ) (hH : LHp s D ca aX aM A0 σ τ H locs) (hl : LLs b i aX aM ls) (hi : i + 6 ≤ L) (next : ∀ (G' N' : Nat) (σ' τ' : xS) (H' : Heap) (locs' : List Loc), RRn G' N' σ' τ' → LHp s D ca aX aM A0 σ' τ' H' locs' → W p l e room_1 s m #[Value.ref b] below meth c H' locs' cells slots Q (F0 m 1448 ls [])) : W p l e room_1 s m #[Value.ref b] below meth c H locs cells slots Q (F0 m 1185 ls []) := by
  obtain ⟨hx, hb, -⟩ := C.1
  refine lv_aload_n hx hb dL_law_1185 rfl (lv_at hl 2 rfl) ?_
  refine larg (k := 1) C hH hl hi (by omega) (by decide) dL_law_1186 dL_law_1187 dL_law_1188 dL_law_1189 dL_law_1190 ?_
  refine larg (k := 2) C hH hl hi (by omega) (by decide) dL_law_1191 dL_law_1192 dL_law_1193 dL_law_1194 dL_law_1195 ?_
  refine lcX (n := 2) (as' := [.int (xs (i + 1)), .int (xs (i + 2))]) (rest := []) C hH hl mX6_thief (pX6_thief_h h (xs (i + 1)) (xs (i + 2))) (fX6_thief_e (g := (xs (i + 1))) (n := (xs (i + 2)))) rfl rfl rfl (by decide) (by decide) w_L_135 ⟨by decide, by decide, by decide +kernel⟩ rfl (Nat.le_of_ble_eq_true rfl) dL_law_1196 (fun H1 locs1 hH1 => ?_)
  refine lv_aload_n hx hb dL_law_1199 rfl (lv_at hl 3 rfl) ?_
  refine larg (k := 1) C hH1 hl hi (by omega) (by decide) dL_law_1200 dL_law_1201 dL_law_1202 dL_law_1203 dL_law_1204 ?_
  refine larg (k := 2) C hH1 hl hi (by omega) (by decide) dL_law_1205 dL_law_1206 dL_law_1207 dL_law_1208 dL_law_1209 ?_
  refine lcM (n := 2) (as' := [.int (xs (i + 1)), .int (xs (i + 2))]) (rest := [_]) C hH1 hl mX7_thief (pX7_thief_h h (xs (i + 1)) (xs (i + 2))) (fX7_thief_e (g := (xs (i + 1))) (n := (xs (i + 2)))) rfl rfl rfl (by decide) (by decide) w_L_138 ⟨by decide, by decide, by decide +kernel⟩ rfl (Nat.le_of_ble_eq_true rfl) dL_law_1210 (fun H2 locs2 hH2 => ?_)
  obtain ⟨hq, G', N', h'⟩ := ok_thief h (xs (i + 1)) (xs (i + 2))
  refine lv_icmp_eq (tgt := 1448) hx hb dL_law_1213 (by decide) (fun _ => ?_) (fun hne => absurd hq hne)
  exact next G' N' _ _ _ _ h' hH2
set_option maxHeartbeats 2000000 in
theorem law_29 (C : LSt p s m meth c b L xs D ca aX aM A0 cells slots) {G N : Nat} {σ τ : xS} (h : RRn G N σ τ) (hH : LHp s D ca aX aM A0 σ τ H locs) (hl : LLs b i aX aM ls) (hi : i + 6 ≤ L) (next : ∀ (G' N' : Nat) (σ' τ' : xS) (H' : Heap) (locs' : List Loc), RRn G' N' σ' τ' → LHp s D ca aX aM A0 σ' τ' H' locs' → W p l e room_1 s m #[Value.ref b] below meth c H' locs' cells slots Q (F0 m 1448 ls [])) : W p l e room_1 s m #[Value.ref b] below meth c H locs cells slots Q (F0 m 1218 ls []) := by
  obtain ⟨hx, hb, -⟩ := C.1
  refine lv_aload_n hx hb dL_law_1218 rfl (lv_at hl 2 rfl) ?_
  refine larg (k := 1) C hH hl hi (by omega) (by decide) dL_law_1219 dL_law_1220 dL_law_1221 dL_law_1222 dL_law_1223 ?_
  refine lcX (n := 1) (as' := [.int (xs (i + 1))]) (rest := []) C hH hl mX6_beat (pX6_beat_h h (xs (i + 1))) (fX6_beat_e (n := (xs (i + 1)))) rfl rfl rfl (by decide) (by decide) w_L_139 ⟨by decide, by decide, by decide +kernel⟩ rfl (Nat.le_of_ble_eq_true rfl) dL_law_1224 (fun H1 locs1 hH1 => ?_)
  refine lv_aload_n hx hb dL_law_1227 rfl (lv_at hl 3 rfl) ?_
  refine larg (k := 1) C hH1 hl hi (by omega) (by decide) dL_law_1228 dL_law_1229 dL_law_1230 dL_law_1231 dL_law_1232 ?_
  refine lcM (n := 1) (as' := [.int (xs (i + 1))]) (rest := [_]) C hH1 hl mX7_beat (pX7_beat_h h (xs (i + 1))) (fX7_beat_e (n := (xs (i + 1)))) rfl rfl rfl (by decide) (by decide) w_L_142 ⟨by decide, by decide, by decide +kernel⟩ rfl (Nat.le_of_ble_eq_true rfl) dL_law_1233 (fun H2 locs2 hH2 => ?_)
  obtain ⟨hq, G', N', h'⟩ := ok_beat h (xs (i + 1))
  refine lv_icmp_eq (tgt := 1448) hx hb dL_law_1236 (by decide) (fun _ => ?_) (fun hne => absurd hq hne)
  exact next G' N' _ _ _ _ h' hH2
set_option maxHeartbeats 2000000 in
theorem law_30 (C : LSt p s m meth c b L xs D ca aX aM A0 cells slots) {G N : Nat} {σ τ : xS} (h : RRn G N σ τ) (hH : LHp s D ca aX aM A0 σ τ H locs) (hl : LLs b i aX aM ls) (hi : i + 6 ≤ L) (next : ∀ (G' N' : Nat) (σ' τ' : xS) (H' : Heap) (locs' : List Loc), RRn G' N' σ' τ' → LHp s D ca aX aM A0 σ' τ' H' locs' → W p l e room_1 s m #[Value.ref b] below meth c H' locs' cells slots Q (F0 m 1448 ls [])) : W p l e room_1 s m #[Value.ref b] below meth c H locs cells slots Q (F0 m 1241 ls []) := by
  obtain ⟨hx, hb, -⟩ := C.1
  refine lv_aload_n hx hb dL_law_1241 rfl (lv_at hl 2 rfl) ?_
  refine larg (k := 1) C hH hl hi (by omega) (by decide) dL_law_1242 dL_law_1243 dL_law_1244 dL_law_1245 dL_law_1246 ?_
  refine lcX (n := 1) (as' := [.int (xs (i + 1))]) (rest := []) C hH hl mX6_strangers (pX6_strangers_h h (xs (i + 1))) (fX6_strangers_e (n := (xs (i + 1)))) rfl rfl rfl (by decide) (by decide) w_L_143 ⟨by decide, by decide, by decide +kernel⟩ rfl (Nat.le_of_ble_eq_true rfl) dL_law_1247 (fun H1 locs1 hH1 => ?_)
  refine lv_aload_n hx hb dL_law_1250 rfl (lv_at hl 3 rfl) ?_
  refine larg (k := 1) C hH1 hl hi (by omega) (by decide) dL_law_1251 dL_law_1252 dL_law_1253 dL_law_1254 dL_law_1255 ?_
  refine lcM (n := 1) (as' := [.int (xs (i + 1))]) (rest := [_]) C hH1 hl mX7_strangers (pX7_strangers_h h (xs (i + 1))) (fX7_strangers_e (n := (xs (i + 1)))) rfl rfl rfl (by decide) (by decide) w_L_146 ⟨by decide, by decide, by decide +kernel⟩ rfl (Nat.le_of_ble_eq_true rfl) dL_law_1256 (fun H2 locs2 hH2 => ?_)
  obtain ⟨hq, G', N', h'⟩ := ok_strangers h (xs (i + 1))
  refine lv_icmp_eq (tgt := 1448) hx hb dL_law_1259 (by decide) (fun _ => ?_) (fun hne => absurd hq hne)
  exact next G' N' _ _ _ _ h' hH2
set_option maxHeartbeats 2000000 in
theorem law_31 (C : LSt p s m meth c b L xs D ca aX aM A0 cells slots) {G N : Nat} {σ τ : xS} (h : RRn G N σ τ) (hH : LHp s D ca aX aM A0 σ τ H locs) (hl : LLs b i aX aM ls) (hi : i + 6 ≤ L) (next : ∀ (G' N' : Nat) (σ' τ' : xS) (H' : Heap) (locs' : List Loc), RRn G' N' σ' τ' → LHp s D ca aX aM A0 σ' τ' H' locs' → W p l e room_1 s m #[Value.ref b] below meth c H' locs' cells slots Q (F0 m 1448 ls [])) : W p l e room_1 s m #[Value.ref b] below meth c H locs cells slots Q (F0 m 1264 ls []) := by
  obtain ⟨hx, hb, -⟩ := C.1
  refine lv_aload_n hx hb dL_law_1264 rfl (lv_at hl 2 rfl) ?_
  refine lcX (n := 0) (as' := []) (rest := []) C hH hl mX6_goes (pX6_goes_h h ) (fX6_goes_e ) rfl rfl rfl (by decide) (by decide) w_L_147 ⟨by decide, by decide, by decide +kernel⟩ rfl (Nat.le_of_ble_eq_true rfl) dL_law_1265 (fun H1 locs1 hH1 => ?_)
  refine lv_aload_n hx hb dL_law_1268 rfl (lv_at hl 3 rfl) ?_
  refine lcM (n := 0) (as' := []) (rest := [_]) C hH1 hl mX7_goes (pX7_goes_h h ) (fX7_goes_e ) rfl rfl rfl (by decide) (by decide) w_L_150 ⟨by decide, by decide, by decide +kernel⟩ rfl (Nat.le_of_ble_eq_true rfl) dL_law_1269 (fun H2 locs2 hH2 => ?_)
  obtain ⟨hq, G', N', h'⟩ := ok_goes h 
  refine lv_icmp_eq (tgt := 1448) hx hb dL_law_1272 (by decide) (fun _ => ?_) (fun hne => absurd hq hne)
  exact next G' N' _ _ _ _ h' hH2
set_option maxHeartbeats 2000000 in
theorem law_32 (C : LSt p s m meth c b L xs D ca aX aM A0 cells slots) {G N : Nat} {σ τ : xS} (h : RRn G N σ τ) (hH : LHp s D ca aX aM A0 σ τ H locs) (hl : LLs b i aX aM ls) (hi : i + 6 ≤ L) (next : ∀ (G' N' : Nat) (σ' τ' : xS) (H' : Heap) (locs' : List Loc), RRn G' N' σ' τ' → LHp s D ca aX aM A0 σ' τ' H' locs' → W p l e room_1 s m #[Value.ref b] below meth c H' locs' cells slots Q (F0 m 1448 ls [])) : W p l e room_1 s m #[Value.ref b] below meth c H locs cells slots Q (F0 m 1277 ls []) := by
  obtain ⟨hx, hb, -⟩ := C.1
  refine lv_aload_n hx hb dL_law_1277 rfl (lv_at hl 2 rfl) ?_
  refine larg (k := 1) C hH hl hi (by omega) (by decide) dL_law_1278 dL_law_1279 dL_law_1280 dL_law_1281 dL_law_1282 ?_
  refine larg (k := 2) C hH hl hi (by omega) (by decide) dL_law_1283 dL_law_1284 dL_law_1285 dL_law_1286 dL_law_1287 ?_
  refine lcX (n := 2) (as' := [.int (xs (i + 1)), .int (xs (i + 2))]) (rest := []) C hH hl mX6_teach (pX6_teach_h h (xs (i + 1)) (xs (i + 2))) (fX6_teach_e (x := (xs (i + 1))) (g := (xs (i + 2)))) rfl rfl rfl (by decide) (by decide) w_L_151 ⟨by decide, by decide, by decide +kernel⟩ rfl (Nat.le_of_ble_eq_true rfl) dL_law_1288 (fun H1 locs1 hH1 => ?_)
  refine lv_aload_n hx hb dL_law_1291 rfl (lv_at hl 3 rfl) ?_
  refine larg (k := 1) C hH1 hl hi (by omega) (by decide) dL_law_1292 dL_law_1293 dL_law_1294 dL_law_1295 dL_law_1296 ?_
  refine larg (k := 2) C hH1 hl hi (by omega) (by decide) dL_law_1297 dL_law_1298 dL_law_1299 dL_law_1300 dL_law_1301 ?_
  refine lcM (n := 2) (as' := [.int (xs (i + 1)), .int (xs (i + 2))]) (rest := [_]) C hH1 hl mX7_teach (pX7_teach_h h (xs (i + 1)) (xs (i + 2))) (fX7_teach_e (x := (xs (i + 1))) (g := (xs (i + 2)))) rfl rfl rfl (by decide) (by decide) w_L_154 ⟨by decide, by decide, by decide +kernel⟩ rfl (Nat.le_of_ble_eq_true rfl) dL_law_1302 (fun H2 locs2 hH2 => ?_)
  obtain ⟨hq, G', N', h'⟩ := ok_teach h (xs (i + 1)) (xs (i + 2))
  refine lv_icmp_eq (tgt := 1448) hx hb dL_law_1305 (by decide) (fun _ => ?_) (fun hne => absurd hq hne)
  exact next G' N' _ _ _ _ h' hH2
set_option maxHeartbeats 2000000 in
theorem law_33 (C : LSt p s m meth c b L xs D ca aX aM A0 cells slots) {G N : Nat} {σ τ : xS} (h : RRn G N σ τ) (hH : LHp s D ca aX aM A0 σ τ H locs) (hl : LLs b i aX aM ls) (hi : i + 6 ≤ L) (next : ∀ (G' N' : Nat) (σ' τ' : xS) (H' : Heap) (locs' : List Loc), RRn G' N' σ' τ' → LHp s D ca aX aM A0 σ' τ' H' locs' → W p l e room_1 s m #[Value.ref b] below meth c H' locs' cells slots Q (F0 m 1448 ls [])) : W p l e room_1 s m #[Value.ref b] below meth c H locs cells slots Q (F0 m 1310 ls []) := by
  obtain ⟨hx, hb, -⟩ := C.1
  refine lv_aload_n hx hb dL_law_1310 rfl (lv_at hl 2 rfl) ?_
  refine larg (k := 1) C hH hl hi (by omega) (by decide) dL_law_1311 dL_law_1312 dL_law_1313 dL_law_1314 dL_law_1315 ?_
  refine lcX (n := 1) (as' := [.int (xs (i + 1))]) (rest := []) C hH hl mX6_seed (pX6_seed_h h (xs (i + 1))) (fX6_seed_e (v := (xs (i + 1)))) rfl rfl rfl (by decide) (by decide) w_L_155 ⟨by decide, by decide, by decide +kernel⟩ rfl (Nat.le_of_ble_eq_true rfl) dL_law_1316 (fun H1 locs1 hH1 => ?_)
  refine lv_aload_n hx hb dL_law_1319 rfl (lv_at hl 3 rfl) ?_
  refine larg (k := 1) C hH1 hl hi (by omega) (by decide) dL_law_1320 dL_law_1321 dL_law_1322 dL_law_1323 dL_law_1324 ?_
  refine lcM (n := 1) (as' := [.int (xs (i + 1))]) (rest := [_]) C hH1 hl mX7_seed (pX7_seed_h h (xs (i + 1))) (fX7_seed_e (v := (xs (i + 1)))) rfl rfl rfl (by decide) (by decide) w_L_158 ⟨by decide, by decide, by decide +kernel⟩ rfl (Nat.le_of_ble_eq_true rfl) dL_law_1325 (fun H2 locs2 hH2 => ?_)
  obtain ⟨hq, G', N', h'⟩ := ok_seed h (xs (i + 1))
  refine lv_icmp_eq (tgt := 1448) hx hb dL_law_1328 (by decide) (fun _ => ?_) (fun hne => absurd hq hne)
  exact next G' N' _ _ _ _ h' hH2
set_option maxHeartbeats 2000000 in
theorem law_34 (C : LSt p s m meth c b L xs D ca aX aM A0 cells slots) {G N : Nat} {σ τ : xS} (h : RRn G N σ τ) (hH : LHp s D ca aX aM A0 σ τ H locs) (hl : LLs b i aX aM ls) (hi : i + 6 ≤ L) (next : ∀ (G' N' : Nat) (σ' τ' : xS) (H' : Heap) (locs' : List Loc), RRn G' N' σ' τ' → LHp s D ca aX aM A0 σ' τ' H' locs' → W p l e room_1 s m #[Value.ref b] below meth c H' locs' cells slots Q (F0 m 1448 ls [])) : W p l e room_1 s m #[Value.ref b] below meth c H locs cells slots Q (F0 m 1333 ls []) := by
  obtain ⟨hx, hb, -⟩ := C.1
  refine lv_aload_n hx hb dL_law_1333 rfl (lv_at hl 2 rfl) ?_
  refine larg (k := 1) C hH hl hi (by omega) (by decide) dL_law_1334 dL_law_1335 dL_law_1336 dL_law_1337 dL_law_1338 ?_
  refine larg (k := 2) C hH hl hi (by omega) (by decide) dL_law_1339 dL_law_1340 dL_law_1341 dL_law_1342 dL_law_1343 ?_
  refine larg (k := 3) C hH hl hi (by omega) (by decide) dL_law_1344 dL_law_1345 dL_law_1346 dL_law_1347 dL_law_1348 ?_
  refine lcX (n := 3) (as' := [.int (xs (i + 1)), .int (xs (i + 2)), .int (xs (i + 3))]) (rest := []) C hH hl mX6_act (pX6_act_h h (xs (i + 1)) (xs (i + 2)) (xs (i + 3))) (fX6_act_e (x := (xs (i + 1))) (a := (xs (i + 2))) (y := (xs (i + 3)))) rfl rfl rfl (by decide) (by decide) w_L_159 ⟨by decide, by decide, by decide +kernel⟩ rfl (Nat.le_of_ble_eq_true rfl) dL_law_1349 (fun H1 locs1 hH1 => ?_)
  refine lv_aload_n hx hb dL_law_1352 rfl (lv_at hl 3 rfl) ?_
  refine larg (k := 1) C hH1 hl hi (by omega) (by decide) dL_law_1353 dL_law_1354 dL_law_1355 dL_law_1356 dL_law_1357 ?_
  refine larg (k := 2) C hH1 hl hi (by omega) (by decide) dL_law_1358 dL_law_1359 dL_law_1360 dL_law_1361 dL_law_1362 ?_
  refine larg (k := 3) C hH1 hl hi (by omega) (by decide) dL_law_1363 dL_law_1364 dL_law_1365 dL_law_1366 dL_law_1367 ?_
  refine lcM (n := 3) (as' := [.int (xs (i + 1)), .int (xs (i + 2)), .int (xs (i + 3))]) (rest := [_]) C hH1 hl mX7_act (pX7_act_h h (xs (i + 1)) (xs (i + 2)) (xs (i + 3))) (fX7_act_e (x := (xs (i + 1))) (a := (xs (i + 2))) (v := (xs (i + 3)))) rfl rfl rfl (by decide) (by decide) w_L_162 ⟨by decide, by decide, by decide +kernel⟩ rfl (Nat.le_of_ble_eq_true rfl) dL_law_1368 (fun H2 locs2 hH2 => ?_)
  obtain ⟨hq, G', N', h'⟩ := ok_act h (xs (i + 1)) (xs (i + 2)) (xs (i + 3))
  refine lv_icmp_eq (tgt := 1448) hx hb dL_law_1371 (by decide) (fun _ => ?_) (fun hne => absurd hq hne)
  exact next G' N' _ _ _ _ h' hH2
set_option maxHeartbeats 2000000 in
theorem law_35 (C : LSt p s m meth c b L xs D ca aX aM A0 cells slots) {G N : Nat} {σ τ : xS} (h : RRn G N σ τ) (hH : LHp s D ca aX aM A0 σ τ H locs) (hl : LLs b i aX aM ls) (hi : i + 6 ≤ L) (next : ∀ (G' N' : Nat) (σ' τ' : xS) (H' : Heap) (locs' : List Loc), RRn G' N' σ' τ' → LHp s D ca aX aM A0 σ' τ' H' locs' → W p l e room_1 s m #[Value.ref b] below meth c H' locs' cells slots Q (F0 m 1448 ls [])) : W p l e room_1 s m #[Value.ref b] below meth c H locs cells slots Q (F0 m 1376 ls []) := by
  obtain ⟨hx, hb, -⟩ := C.1
  refine lv_aload_n hx hb dL_law_1376 rfl (lv_at hl 2 rfl) ?_
  refine larg (k := 1) C hH hl hi (by omega) (by decide) dL_law_1377 dL_law_1378 dL_law_1379 dL_law_1380 dL_law_1381 ?_
  refine lcX (n := 1) (as' := [.int (xs (i + 1))]) (rest := []) C hH hl mX6_trace (pX6_trace_h h (xs (i + 1))) (fX6_trace_e (i := (xs (i + 1)))) rfl rfl rfl (by decide) (by decide) w_L_163 ⟨by decide, by decide, by decide +kernel⟩ rfl (Nat.le_of_ble_eq_true rfl) dL_law_1382 (fun H1 locs1 hH1 => ?_)
  refine lv_aload_n hx hb dL_law_1385 rfl (lv_at hl 3 rfl) ?_
  refine larg (k := 1) C hH1 hl hi (by omega) (by decide) dL_law_1386 dL_law_1387 dL_law_1388 dL_law_1389 dL_law_1390 ?_
  refine lcM (n := 1) (as' := [.int (xs (i + 1))]) (rest := [_]) C hH1 hl mX7_trace (pX7_trace_h h (xs (i + 1))) (fX7_trace_e (i := (xs (i + 1)))) rfl rfl rfl (by decide) (by decide) w_L_166 ⟨by decide, by decide, by decide +kernel⟩ rfl (Nat.le_of_ble_eq_true rfl) dL_law_1391 (fun H2 locs2 hH2 => ?_)
  have hq := ok_trace h (xs (i + 1))
  refine lv_icmp_eq (tgt := 1448) hx hb dL_law_1394 (by decide) (fun _ => ?_) (fun hne => absurd hq hne)
  exact next G N _ _ _ _ h hH2
set_option maxHeartbeats 2000000 in
theorem law_36 (C : LSt p s m meth c b L xs D ca aX aM A0 cells slots) {G N : Nat} {σ τ : xS} (h : RRn G N σ τ) (hH : LHp s D ca aX aM A0 σ τ H locs) (hl : LLs b i aX aM ls) (hi : i + 6 ≤ L) (next : ∀ (G' N' : Nat) (σ' τ' : xS) (H' : Heap) (locs' : List Loc), RRn G' N' σ' τ' → LHp s D ca aX aM A0 σ' τ' H' locs' → W p l e room_1 s m #[Value.ref b] below meth c H' locs' cells slots Q (F0 m 1448 ls [])) : W p l e room_1 s m #[Value.ref b] below meth c H locs cells slots Q (F0 m 1399 ls []) := by
  obtain ⟨hx, hb, -⟩ := C.1
  refine lv_aload_n hx hb dL_law_1399 rfl (lv_at hl 2 rfl) ?_
  refine lcX (n := 0) (as' := []) (rest := []) C hH hl mX6_image (pX6_image_h h ) (fX6_image_e ) rfl rfl rfl (by decide) (by decide) w_L_167 ⟨by decide, by decide, by decide +kernel⟩ rfl (Nat.le_of_ble_eq_true rfl) dL_law_1400 (fun H1 locs1 hH1 => ?_)
  refine lv_aload_n hx hb dL_law_1403 rfl (lv_at hl 3 rfl) ?_
  refine lcM (n := 0) (as' := []) (rest := [_]) C hH1 hl mX7_image (pX7_image_h h ) (fX7_image_e ) rfl rfl rfl (by decide) (by decide) w_L_170 ⟨by decide, by decide, by decide +kernel⟩ rfl (Nat.le_of_ble_eq_true rfl) dL_law_1404 (fun H2 locs2 hH2 => ?_)
  obtain ⟨hq, G', N', h'⟩ := ok_image h 
  refine lv_icmp_eq (tgt := 1448) hx hb dL_law_1407 (by decide) (fun _ => ?_) (fun hne => absurd hq hne)
  exact next G' N' _ _ _ _ h' hH2
set_option maxHeartbeats 2000000 in
theorem law_37 (C : LSt p s m meth c b L xs D ca aX aM A0 cells slots) {G N : Nat} {σ τ : xS} (h : RRn G N σ τ) (hH : LHp s D ca aX aM A0 σ τ H locs) (hl : LLs b i aX aM ls) (hi : i + 6 ≤ L) (next : ∀ (G' N' : Nat) (σ' τ' : xS) (H' : Heap) (locs' : List Loc), RRn G' N' σ' τ' → LHp s D ca aX aM A0 σ' τ' H' locs' → W p l e room_1 s m #[Value.ref b] below meth c H' locs' cells slots Q (F0 m 1448 ls [])) : W p l e room_1 s m #[Value.ref b] below meth c H locs cells slots Q (F0 m 1412 ls []) := by
  obtain ⟨hx, hb, -⟩ := C.1
  refine lv_aload_n hx hb dL_law_1412 rfl (lv_at hl 2 rfl) ?_
  refine lcX (n := 0) (as' := []) (rest := []) C hH hl mX6_restoreW (pX6_restoreW_h h ) (fX6_restore_e ) rfl rfl rfl (by decide) (by decide) w_L_171 ⟨by decide, by decide, by decide +kernel⟩ rfl (Nat.le_of_ble_eq_true rfl) dL_law_1413 (fun H1 locs1 hH1 => ?_)
  refine lv_aload_n hx hb dL_law_1416 rfl (lv_at hl 3 rfl) ?_
  refine lcM (n := 0) (as' := []) (rest := [_]) C hH1 hl mX7_restore (pX7_restore_h h ) (fX7_restore_e ) rfl rfl rfl (by decide) (by decide) w_L_174 ⟨by decide, by decide, by decide +kernel⟩ rfl (Nat.le_of_ble_eq_true rfl) dL_law_1417 (fun H2 locs2 hH2 => ?_)
  obtain ⟨hq, G', N', h'⟩ := ok_restore h 
  refine lv_icmp_eq (tgt := 1448) hx hb dL_law_1420 (by decide) (fun _ => ?_) (fun hne => absurd hq hne)
  exact next G' N' _ _ _ _ h' hH2
set_option maxHeartbeats 2000000 in
theorem law_38 (C : LSt p s m meth c b L xs D ca aX aM A0 cells slots) {G N : Nat} {σ τ : xS} (h : RRn G N σ τ) (hH : LHp s D ca aX aM A0 σ τ H locs) (hl : LLs b i aX aM ls) (hi : i + 6 ≤ L) (next : ∀ (G' N' : Nat) (σ' τ' : xS) (H' : Heap) (locs' : List Loc), RRn G' N' σ' τ' → LHp s D ca aX aM A0 σ' τ' H' locs' → W p l e room_1 s m #[Value.ref b] below meth c H' locs' cells slots Q (F0 m 1448 ls [])) : W p l e room_1 s m #[Value.ref b] below meth c H locs cells slots Q (F0 m 1425 ls []) := by
  obtain ⟨hx, hb, -⟩ := C.1
  refine lv_aload_n hx hb dL_law_1425 rfl (lv_at hl 2 rfl) ?_
  refine larg (k := 1) C hH hl hi (by omega) (by decide) dL_law_1426 dL_law_1427 dL_law_1428 dL_law_1429 dL_law_1430 ?_
  refine lcX (n := 1) (as' := [.int (xs (i + 1))]) (rest := []) C hH hl mX6_status (pX6_status_h h (xs (i + 1))) (fX6_status_e (x := (xs (i + 1)))) rfl rfl rfl (by decide) (by decide) w_L_175 ⟨by decide, by decide, by decide +kernel⟩ rfl (Nat.le_of_ble_eq_true rfl) dL_law_1431 (fun H1 locs1 hH1 => ?_)
  refine lv_aload_n hx hb dL_law_1434 rfl (lv_at hl 3 rfl) ?_
  refine larg (k := 1) C hH1 hl hi (by omega) (by decide) dL_law_1435 dL_law_1436 dL_law_1437 dL_law_1438 dL_law_1439 ?_
  refine lcM (n := 1) (as' := [.int (xs (i + 1))]) (rest := [_]) C hH1 hl mX7_status (pX7_status_h h (xs (i + 1))) (fX7_status_e (x := (xs (i + 1)))) rfl rfl rfl (by decide) (by decide) w_L_178 ⟨by decide, by decide, by decide +kernel⟩ rfl (Nat.le_of_ble_eq_true rfl) dL_law_1440 (fun H2 locs2 hH2 => ?_)
  have hq := ok_status h (xs (i + 1))
  refine lv_icmp_eq (tgt := 1448) hx hb dL_law_1443 (by decide) (fun _ => ?_) (fun hne => absurd hq hne)
  exact next G N _ _ _ _ h hH2
end LAWCASES
