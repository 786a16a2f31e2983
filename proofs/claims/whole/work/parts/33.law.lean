theorem dL_law_1201 : decode cL_law 1201 = .ok (.aload_n 1, 1) := by decide +kernel
theorem dL_law_1202 : decode cL_law 1202 = .ok (.aload_n 0, 1) := by decide +kernel
theorem dL_law_1203 : decode cL_law 1203 = .ok (.iload_n 3, 1) := by decide +kernel
theorem dL_law_1204 : decode cL_law 1204 = .ok (.iconst 1, 1) := by decide +kernel
theorem dL_law_1205 : decode cL_law 1205 = .ok (.iadd, 1) := by decide +kernel
theorem dL_law_1206 : decode cL_law 1206 = .ok (.iaload, 1) := by decide +kernel
theorem dL_law_1207 : decode cL_law 1207 = .ok (.invokevirtual 132, 3) := by decide +kernel
theorem dL_law_1210 : decode cL_law 1210 = .ok (.aload_n 2, 1) := by decide +kernel
theorem dL_law_1211 : decode cL_law 1211 = .ok (.aload_n 0, 1) := by decide +kernel
theorem dL_law_1212 : decode cL_law 1212 = .ok (.iload_n 3, 1) := by decide +kernel
theorem dL_law_1213 : decode cL_law 1213 = .ok (.iconst 1, 1) := by decide +kernel
theorem dL_law_1214 : decode cL_law 1214 = .ok (.iadd, 1) := by decide +kernel
theorem dL_law_1215 : decode cL_law 1215 = .ok (.iaload, 1) := by decide +kernel
theorem dL_law_1216 : decode cL_law 1216 = .ok (.invokevirtual 135, 3) := by decide +kernel
theorem dL_law_1219 : decode cL_law 1219 = .ok (.if_icmp .eq 424, 3) := by decide +kernel
theorem dL_law_1222 : decode cL_law 1222 = .ok (.iconst 0, 1) := by decide +kernel
theorem dL_law_1223 : decode cL_law 1223 = .ok (.ireturn, 1) := by decide +kernel
set_option maxRecDepth 20000 in
set_option maxHeartbeats 4000000 in
theorem C_law_28 {nm : String} (K : xK) (L : xL) (k : Int32 → xH → Option (Int32 × xH)) (a0 a1 a2 : Nat) (hk : ∀ (a3 : Int32) (h : xH), Sim K L cL_law RL nm 4 8 (fun q : Int32 × xH => q.2) (xRz cL_law) 1643 [(0, .ref a0), (1, .ref a1), (2, .ref a2), (3, .int a3)] [] h (k a3 h)) (a3 : Int32) (h : xH) : Sim K L cL_law RL nm 4 8 (fun q : Int32 × xH => q.2) (xRz cL_law) 1201 [(0, .ref a0), (1, .ref a1), (2, .ref a2), (3, .int a3)] [] h (f_law_c28 k a0 a1 a2 a3 h) := by
  unfold f_law_c28
  refine S_aload_n (pc := 1201) 1 rfl dL_law_1201 rfl ?_
  refine S_aload_n (pc := 1202) 0 rfl dL_law_1202 rfl ?_
  refine S_iload_n (pc := 1203) 3 rfl dL_law_1203 rfl ?_
  refine S_iconst (pc := 1204) dL_law_1204 ic_1 ?_
  refine S_iadd (pc := 1205) dL_law_1205 ?_
  refine S_aI (pc := 1206) dL_law_1206 (fun v1 => ?_)
  refine S_call_i (pc := 1207) (rest := []) (fun q hq => (x_if hq).elim (fun z => R_V (av := [.int v1]) (q := (RX11, TX11, 12)) (M_X11_stretches _ a1 v1 h z.2) z.1 rfl wd_637 wd_634 wd_635 wd_44 wd_636 ⟨rfl, hd_X11_stretches⟩ ⟨Nat.le_of_ble_eq_true rfl, Nat.le_of_ble_eq_true rfl⟩ rfl (Nat.le_of_ble_eq_true rfl) dL_law_1207) (fun hq => (by cases hq))) (fun _ h => absurd h List.not_mem_nil) (fun q2 => ?_)
  refine S_aload_n (pc := 1210) 2 rfl dL_law_1210 rfl ?_
  refine S_aload_n (pc := 1211) 0 rfl dL_law_1211 rfl ?_
  refine S_iload_n (pc := 1212) 3 rfl dL_law_1212 rfl ?_
  refine S_iconst (pc := 1213) dL_law_1213 ic_1 ?_
  refine S_iadd (pc := 1214) dL_law_1214 ?_
  refine S_aI (pc := 1215) dL_law_1215 (fun v3 => ?_)
  refine S_call_i (pc := 1216) (rest := [.int q2.1]) (fun q hq => (x_if hq).elim (fun z => R_V (av := [.int v3]) (q := (RX12, TX12, 28)) (M_X12_stretches _ a2 v3 q2.2 z.2) z.1 rfl wd_1133 wd_1130 wd_1131 wd_50 wd_1132 ⟨rfl, hd_X12_stretches⟩ ⟨Nat.le_of_ble_eq_true rfl, Nat.le_of_ble_eq_true rfl⟩ rfl (Nat.le_of_ble_eq_true rfl) dL_law_1216) (fun hq => (by cases hq))) (fun _ h => List.mem_cons_of_mem _ (List.mem_cons_of_mem _ (h))) (fun q4 => ?_)
  refine S_icmp_eq (pc := 1219) (tgt := 1643) dL_law_1219 (by decide) ?_ ?_
  · refine S_sub [0, 1, 2, 3] rfl ?_
    exact hk a3 q4.2
  · refine S_iconst (pc := 1222) dL_law_1222 ic_0 ?_
    exact Sim.fin ⟨dL_law_1223, rfl, rfl, x_nar (Or.inl rfl)⟩ rfl
theorem dL_law_1224 : decode cL_law 1224 = .ok (.aload_n 1, 1) := by decide +kernel
theorem dL_law_1225 : decode cL_law 1225 = .ok (.aload_n 0, 1) := by decide +kernel
theorem dL_law_1226 : decode cL_law 1226 = .ok (.iload_n 3, 1) := by decide +kernel
theorem dL_law_1227 : decode cL_law 1227 = .ok (.iconst 1, 1) := by decide +kernel
theorem dL_law_1228 : decode cL_law 1228 = .ok (.iadd, 1) := by decide +kernel
theorem dL_law_1229 : decode cL_law 1229 = .ok (.iaload, 1) := by decide +kernel
theorem dL_law_1230 : decode cL_law 1230 = .ok (.aload_n 0, 1) := by decide +kernel
theorem dL_law_1231 : decode cL_law 1231 = .ok (.iload_n 3, 1) := by decide +kernel
theorem dL_law_1232 : decode cL_law 1232 = .ok (.iconst 2, 1) := by decide +kernel
theorem dL_law_1233 : decode cL_law 1233 = .ok (.iadd, 1) := by decide +kernel
theorem dL_law_1234 : decode cL_law 1234 = .ok (.iaload, 1) := by decide +kernel
theorem dL_law_1235 : decode cL_law 1235 = .ok (.aload_n 0, 1) := by decide +kernel
theorem dL_law_1236 : decode cL_law 1236 = .ok (.iload_n 3, 1) := by decide +kernel
theorem dL_law_1237 : decode cL_law 1237 = .ok (.iconst 3, 1) := by decide +kernel
theorem dL_law_1238 : decode cL_law 1238 = .ok (.iadd, 1) := by decide +kernel
theorem dL_law_1239 : decode cL_law 1239 = .ok (.iaload, 1) := by decide +kernel
theorem dL_law_1240 : decode cL_law 1240 = .ok (.invokevirtual 136, 3) := by decide +kernel
theorem dL_law_1243 : decode cL_law 1243 = .ok (.aload_n 2, 1) := by decide +kernel
theorem dL_law_1244 : decode cL_law 1244 = .ok (.aload_n 0, 1) := by decide +kernel
theorem dL_law_1245 : decode cL_law 1245 = .ok (.iload_n 3, 1) := by decide +kernel
theorem dL_law_1246 : decode cL_law 1246 = .ok (.iconst 1, 1) := by decide +kernel
theorem dL_law_1247 : decode cL_law 1247 = .ok (.iadd, 1) := by decide +kernel
theorem dL_law_1248 : decode cL_law 1248 = .ok (.iaload, 1) := by decide +kernel
theorem dL_law_1249 : decode cL_law 1249 = .ok (.aload_n 0, 1) := by decide +kernel
theorem dL_law_1250 : decode cL_law 1250 = .ok (.iload_n 3, 1) := by decide +kernel
theorem dL_law_1251 : decode cL_law 1251 = .ok (.iconst 2, 1) := by decide +kernel
theorem dL_law_1252 : decode cL_law 1252 = .ok (.iadd, 1) := by decide +kernel
theorem dL_law_1253 : decode cL_law 1253 = .ok (.iaload, 1) := by decide +kernel
theorem dL_law_1254 : decode cL_law 1254 = .ok (.aload_n 0, 1) := by decide +kernel
theorem dL_law_1255 : decode cL_law 1255 = .ok (.iload_n 3, 1) := by decide +kernel
theorem dL_law_1256 : decode cL_law 1256 = .ok (.iconst 3, 1) := by decide +kernel
theorem dL_law_1257 : decode cL_law 1257 = .ok (.iadd, 1) := by decide +kernel
theorem dL_law_1258 : decode cL_law 1258 = .ok (.iaload, 1) := by decide +kernel
theorem dL_law_1259 : decode cL_law 1259 = .ok (.invokevirtual 139, 3) := by decide +kernel
theorem dL_law_1262 : decode cL_law 1262 = .ok (.if_icmp .eq 381, 3) := by decide +kernel
theorem dL_law_1265 : decode cL_law 1265 = .ok (.iconst 0, 1) := by decide +kernel
theorem dL_law_1266 : decode cL_law 1266 = .ok (.ireturn, 1) := by decide +kernel
set_option maxRecDepth 20000 in
set_option maxHeartbeats 4000000 in
theorem C_law_29 {nm : String} (K : xK) (L : xL) (k : Int32 → xH → Option (Int32 × xH)) (a0 a1 a2 : Nat) (hk : ∀ (a3 : Int32) (h : xH), Sim K L cL_law RL nm 4 8 (fun q : Int32 × xH => q.2) (xRz cL_law) 1643 [(0, .ref a0), (1, .ref a1), (2, .ref a2), (3, .int a3)] [] h (k a3 h)) (a3 : Int32) (h : xH) : Sim K L cL_law RL nm 4 8 (fun q : Int32 × xH => q.2) (xRz cL_law) 1224 [(0, .ref a0), (1, .ref a1), (2, .ref a2), (3, .int a3)] [] h (f_law_c29 k a0 a1 a2 a3 h) := by
  unfold f_law_c29
  refine S_aload_n (pc := 1224) 1 rfl dL_law_1224 rfl ?_
  refine S_aload_n (pc := 1225) 0 rfl dL_law_1225 rfl ?_
  refine S_iload_n (pc := 1226) 3 rfl dL_law_1226 rfl ?_
  refine S_iconst (pc := 1227) dL_law_1227 ic_1 ?_
  refine S_iadd (pc := 1228) dL_law_1228 ?_
  refine S_aI (pc := 1229) dL_law_1229 (fun v1 => ?_)
  refine S_aload_n (pc := 1230) 0 rfl dL_law_1230 rfl ?_
  refine S_iload_n (pc := 1231) 3 rfl dL_law_1231 rfl ?_
  refine S_iconst (pc := 1232) dL_law_1232 ic_2 ?_
  refine S_iadd (pc := 1233) dL_law_1233 ?_
  refine S_aI (pc := 1234) dL_law_1234 (fun v2 => ?_)
  refine S_aload_n (pc := 1235) 0 rfl dL_law_1235 rfl ?_
  refine S_iload_n (pc := 1236) 3 rfl dL_law_1236 rfl ?_
  refine S_iconst (pc := 1237) dL_law_1237 ic_3 ?_
  refine S_iadd (pc := 1238) dL_law_1238 ?_
  refine S_aI (pc := 1239) dL_law_1239 (fun v3 => ?_)
  refine S_call_i (pc := 1240) (rest := []) (fun q hq => (x_if hq).elim (fun z => R_V (av := [.int v1, .int v2, .int v3]) (q := (RX11, TX11, 12)) (M_X11_longest _ a1 v1 v2 v3 h z.2) z.1 rfl wd_641 wd_638 wd_639 wd_44 wd_640 ⟨rfl, hd_X11_longest⟩ ⟨Nat.le_of_ble_eq_true rfl, Nat.le_of_ble_eq_true rfl⟩ rfl (Nat.le_of_ble_eq_true rfl) dL_law_1240) (fun hq => (by cases hq))) (fun _ h => absurd h List.not_mem_nil) (fun q4 => ?_)
  refine S_aload_n (pc := 1243) 2 rfl dL_law_1243 rfl ?_
  refine S_aload_n (pc := 1244) 0 rfl dL_law_1244 rfl ?_
  refine S_iload_n (pc := 1245) 3 rfl dL_law_1245 rfl ?_
  refine S_iconst (pc := 1246) dL_law_1246 ic_1 ?_
  refine S_iadd (pc := 1247) dL_law_1247 ?_
  refine S_aI (pc := 1248) dL_law_1248 (fun v5 => ?_)
  refine S_aload_n (pc := 1249) 0 rfl dL_law_1249 rfl ?_
  refine S_iload_n (pc := 1250) 3 rfl dL_law_1250 rfl ?_
  refine S_iconst (pc := 1251) dL_law_1251 ic_2 ?_
  refine S_iadd (pc := 1252) dL_law_1252 ?_
  refine S_aI (pc := 1253) dL_law_1253 (fun v6 => ?_)
  refine S_aload_n (pc := 1254) 0 rfl dL_law_1254 rfl ?_
  refine S_iload_n (pc := 1255) 3 rfl dL_law_1255 rfl ?_
  refine S_iconst (pc := 1256) dL_law_1256 ic_3 ?_
  refine S_iadd (pc := 1257) dL_law_1257 ?_
  refine S_aI (pc := 1258) dL_law_1258 (fun v7 => ?_)
  refine S_call_i (pc := 1259) (rest := [.int q4.1]) (fun q hq => (x_if hq).elim (fun z => R_V (av := [.int v5, .int v6, .int v7]) (q := (RX12, TX12, 28)) (M_X12_longest _ a2 v5 v6 v7 q4.2 z.2) z.1 rfl wd_1137 wd_1134 wd_1135 wd_50 wd_1136 ⟨rfl, hd_X12_longest⟩ ⟨Nat.le_of_ble_eq_true rfl, Nat.le_of_ble_eq_true rfl⟩ rfl (Nat.le_of_ble_eq_true rfl) dL_law_1259) (fun hq => (by cases hq))) (fun _ h => List.mem_cons_of_mem _ (List.mem_cons_of_mem _ (List.mem_cons_of_mem _ (List.mem_cons_of_mem _ (h))))) (fun q8 => ?_)
  refine S_icmp_eq (pc := 1262) (tgt := 1643) dL_law_1262 (by decide) ?_ ?_
  · refine S_sub [0, 1, 2, 3] rfl ?_
    exact hk a3 q8.2
  · refine S_iconst (pc := 1265) dL_law_1265 ic_0 ?_
    exact Sim.fin ⟨dL_law_1266, rfl, rfl, x_nar (Or.inl rfl)⟩ rfl
theorem dL_law_1267 : decode cL_law 1267 = .ok (.aload_n 1, 1) := by decide +kernel
theorem dL_law_1268 : decode cL_law 1268 = .ok (.aload_n 0, 1) := by decide +kernel
theorem dL_law_1269 : decode cL_law 1269 = .ok (.iload_n 3, 1) := by decide +kernel
theorem dL_law_1270 : decode cL_law 1270 = .ok (.iconst 1, 1) := by decide +kernel
theorem dL_law_1271 : decode cL_law 1271 = .ok (.iadd, 1) := by decide +kernel
theorem dL_law_1272 : decode cL_law 1272 = .ok (.iaload, 1) := by decide +kernel
theorem dL_law_1273 : decode cL_law 1273 = .ok (.aload_n 0, 1) := by decide +kernel
theorem dL_law_1274 : decode cL_law 1274 = .ok (.iload_n 3, 1) := by decide +kernel
theorem dL_law_1275 : decode cL_law 1275 = .ok (.iconst 2, 1) := by decide +kernel
theorem dL_law_1276 : decode cL_law 1276 = .ok (.iadd, 1) := by decide +kernel
theorem dL_law_1277 : decode cL_law 1277 = .ok (.iaload, 1) := by decide +kernel
theorem dL_law_1278 : decode cL_law 1278 = .ok (.aload_n 0, 1) := by decide +kernel
theorem dL_law_1279 : decode cL_law 1279 = .ok (.iload_n 3, 1) := by decide +kernel
theorem dL_law_1280 : decode cL_law 1280 = .ok (.iconst 3, 1) := by decide +kernel
theorem dL_law_1281 : decode cL_law 1281 = .ok (.iadd, 1) := by decide +kernel
theorem dL_law_1282 : decode cL_law 1282 = .ok (.iaload, 1) := by decide +kernel
theorem dL_law_1283 : decode cL_law 1283 = .ok (.invokevirtual 140, 3) := by decide +kernel
theorem dL_law_1286 : decode cL_law 1286 = .ok (.aload_n 2, 1) := by decide +kernel
theorem dL_law_1287 : decode cL_law 1287 = .ok (.aload_n 0, 1) := by decide +kernel
theorem dL_law_1288 : decode cL_law 1288 = .ok (.iload_n 3, 1) := by decide +kernel
theorem dL_law_1289 : decode cL_law 1289 = .ok (.iconst 1, 1) := by decide +kernel
theorem dL_law_1290 : decode cL_law 1290 = .ok (.iadd, 1) := by decide +kernel
theorem dL_law_1291 : decode cL_law 1291 = .ok (.iaload, 1) := by decide +kernel
theorem dL_law_1292 : decode cL_law 1292 = .ok (.aload_n 0, 1) := by decide +kernel
theorem dL_law_1293 : decode cL_law 1293 = .ok (.iload_n 3, 1) := by decide +kernel
theorem dL_law_1294 : decode cL_law 1294 = .ok (.iconst 2, 1) := by decide +kernel
theorem dL_law_1295 : decode cL_law 1295 = .ok (.iadd, 1) := by decide +kernel
theorem dL_law_1296 : decode cL_law 1296 = .ok (.iaload, 1) := by decide +kernel
theorem dL_law_1297 : decode cL_law 1297 = .ok (.aload_n 0, 1) := by decide +kernel
theorem dL_law_1298 : decode cL_law 1298 = .ok (.iload_n 3, 1) := by decide +kernel
theorem dL_law_1299 : decode cL_law 1299 = .ok (.iconst 3, 1) := by decide +kernel
theorem dL_law_1300 : decode cL_law 1300 = .ok (.iadd, 1) := by decide +kernel
theorem dL_law_1301 : decode cL_law 1301 = .ok (.iaload, 1) := by decide +kernel
theorem dL_law_1302 : decode cL_law 1302 = .ok (.invokevirtual 143, 3) := by decide +kernel
theorem dL_law_1305 : decode cL_law 1305 = .ok (.if_icmp .eq 338, 3) := by decide +kernel
theorem dL_law_1308 : decode cL_law 1308 = .ok (.iconst 0, 1) := by decide +kernel
theorem dL_law_1309 : decode cL_law 1309 = .ok (.ireturn, 1) := by decide +kernel
set_option maxRecDepth 20000 in
set_option maxHeartbeats 4000000 in
theorem C_law_30 {nm : String} (K : xK) (L : xL) (k : Int32 → xH → Option (Int32 × xH)) (a0 a1 a2 : Nat) (hk : ∀ (a3 : Int32) (h : xH), Sim K L cL_law RL nm 4 8 (fun q : Int32 × xH => q.2) (xRz cL_law) 1643 [(0, .ref a0), (1, .ref a1), (2, .ref a2), (3, .int a3)] [] h (k a3 h)) (a3 : Int32) (h : xH) : Sim K L cL_law RL nm 4 8 (fun q : Int32 × xH => q.2) (xRz cL_law) 1267 [(0, .ref a0), (1, .ref a1), (2, .ref a2), (3, .int a3)] [] h (f_law_c30 k a0 a1 a2 a3 h) := by
  unfold f_law_c30
  refine S_aload_n (pc := 1267) 1 rfl dL_law_1267 rfl ?_
  refine S_aload_n (pc := 1268) 0 rfl dL_law_1268 rfl ?_
  refine S_iload_n (pc := 1269) 3 rfl dL_law_1269 rfl ?_
  refine S_iconst (pc := 1270) dL_law_1270 ic_1 ?_
  refine S_iadd (pc := 1271) dL_law_1271 ?_
  refine S_aI (pc := 1272) dL_law_1272 (fun v1 => ?_)
  refine S_aload_n (pc := 1273) 0 rfl dL_law_1273 rfl ?_
  refine S_iload_n (pc := 1274) 3 rfl dL_law_1274 rfl ?_
  refine S_iconst (pc := 1275) dL_law_1275 ic_2 ?_
  refine S_iadd (pc := 1276) dL_law_1276 ?_
  refine S_aI (pc := 1277) dL_law_1277 (fun v2 => ?_)
  refine S_aload_n (pc := 1278) 0 rfl dL_law_1278 rfl ?_
  refine S_iload_n (pc := 1279) 3 rfl dL_law_1279 rfl ?_
  refine S_iconst (pc := 1280) dL_law_1280 ic_3 ?_
  refine S_iadd (pc := 1281) dL_law_1281 ?_
  refine S_aI (pc := 1282) dL_law_1282 (fun v3 => ?_)
  refine S_call_i (pc := 1283) (rest := []) (fun q hq => (x_if hq).elim (fun z => R_V (av := [.int v1, .int v2, .int v3]) (q := (RX11, TX11, 12)) (M_X11_alike _ a1 v1 v2 v3 h z.2) z.1 rfl wd_645 wd_642 wd_643 wd_44 wd_644 ⟨rfl, hd_X11_alike⟩ ⟨Nat.le_of_ble_eq_true rfl, Nat.le_of_ble_eq_true rfl⟩ rfl (Nat.le_of_ble_eq_true rfl) dL_law_1283) (fun hq => (by cases hq))) (fun _ h => absurd h List.not_mem_nil) (fun q4 => ?_)
  refine S_aload_n (pc := 1286) 2 rfl dL_law_1286 rfl ?_
  refine S_aload_n (pc := 1287) 0 rfl dL_law_1287 rfl ?_
  refine S_iload_n (pc := 1288) 3 rfl dL_law_1288 rfl ?_
  refine S_iconst (pc := 1289) dL_law_1289 ic_1 ?_
  refine S_iadd (pc := 1290) dL_law_1290 ?_
  refine S_aI (pc := 1291) dL_law_1291 (fun v5 => ?_)
  refine S_aload_n (pc := 1292) 0 rfl dL_law_1292 rfl ?_
  refine S_iload_n (pc := 1293) 3 rfl dL_law_1293 rfl ?_
  refine S_iconst (pc := 1294) dL_law_1294 ic_2 ?_
  refine S_iadd (pc := 1295) dL_law_1295 ?_
  refine S_aI (pc := 1296) dL_law_1296 (fun v6 => ?_)
  refine S_aload_n (pc := 1297) 0 rfl dL_law_1297 rfl ?_
  refine S_iload_n (pc := 1298) 3 rfl dL_law_1298 rfl ?_
  refine S_iconst (pc := 1299) dL_law_1299 ic_3 ?_
  refine S_iadd (pc := 1300) dL_law_1300 ?_
  refine S_aI (pc := 1301) dL_law_1301 (fun v7 => ?_)
  refine S_call_i (pc := 1302) (rest := [.int q4.1]) (fun q hq => (x_if hq).elim (fun z => R_V (av := [.int v5, .int v6, .int v7]) (q := (RX12, TX12, 28)) (M_X12_alike _ a2 v5 v6 v7 q4.2 z.2) z.1 rfl wd_1141 wd_1138 wd_1139 wd_50 wd_1140 ⟨rfl, hd_X12_alike⟩ ⟨Nat.le_of_ble_eq_true rfl, Nat.le_of_ble_eq_true rfl⟩ rfl (Nat.le_of_ble_eq_true rfl) dL_law_1302) (fun hq => (by cases hq))) (fun _ h => List.mem_cons_of_mem _ (List.mem_cons_of_mem _ (List.mem_cons_of_mem _ (List.mem_cons_of_mem _ (h))))) (fun q8 => ?_)
  refine S_icmp_eq (pc := 1305) (tgt := 1643) dL_law_1305 (by decide) ?_ ?_
  · refine S_sub [0, 1, 2, 3] rfl ?_
    exact hk a3 q8.2
  · refine S_iconst (pc := 1308) dL_law_1308 ic_0 ?_
    exact Sim.fin ⟨dL_law_1309, rfl, rfl, x_nar (Or.inl rfl)⟩ rfl
theorem dL_law_1310 : decode cL_law 1310 = .ok (.aload_n 1, 1) := by decide +kernel
theorem dL_law_1311 : decode cL_law 1311 = .ok (.aload_n 0, 1) := by decide +kernel
theorem dL_law_1312 : decode cL_law 1312 = .ok (.iload_n 3, 1) := by decide +kernel
theorem dL_law_1313 : decode cL_law 1313 = .ok (.iconst 1, 1) := by decide +kernel
theorem dL_law_1314 : decode cL_law 1314 = .ok (.iadd, 1) := by decide +kernel
theorem dL_law_1315 : decode cL_law 1315 = .ok (.iaload, 1) := by decide +kernel
theorem dL_law_1316 : decode cL_law 1316 = .ok (.aload_n 0, 1) := by decide +kernel
theorem dL_law_1317 : decode cL_law 1317 = .ok (.iload_n 3, 1) := by decide +kernel
theorem dL_law_1318 : decode cL_law 1318 = .ok (.iconst 2, 1) := by decide +kernel
theorem dL_law_1319 : decode cL_law 1319 = .ok (.iadd, 1) := by decide +kernel
theorem dL_law_1320 : decode cL_law 1320 = .ok (.iaload, 1) := by decide +kernel
theorem dL_law_1321 : decode cL_law 1321 = .ok (.invokevirtual 144, 3) := by decide +kernel
theorem dL_law_1324 : decode cL_law 1324 = .ok (.aload_n 2, 1) := by decide +kernel
theorem dL_law_1325 : decode cL_law 1325 = .ok (.aload_n 0, 1) := by decide +kernel
theorem dL_law_1326 : decode cL_law 1326 = .ok (.iload_n 3, 1) := by decide +kernel
theorem dL_law_1327 : decode cL_law 1327 = .ok (.iconst 1, 1) := by decide +kernel
theorem dL_law_1328 : decode cL_law 1328 = .ok (.iadd, 1) := by decide +kernel
theorem dL_law_1329 : decode cL_law 1329 = .ok (.iaload, 1) := by decide +kernel
theorem dL_law_1330 : decode cL_law 1330 = .ok (.aload_n 0, 1) := by decide +kernel
theorem dL_law_1331 : decode cL_law 1331 = .ok (.iload_n 3, 1) := by decide +kernel
theorem dL_law_1332 : decode cL_law 1332 = .ok (.iconst 2, 1) := by decide +kernel
theorem dL_law_1333 : decode cL_law 1333 = .ok (.iadd, 1) := by decide +kernel
theorem dL_law_1334 : decode cL_law 1334 = .ok (.iaload, 1) := by decide +kernel
theorem dL_law_1335 : decode cL_law 1335 = .ok (.invokevirtual 147, 3) := by decide +kernel
theorem dL_law_1338 : decode cL_law 1338 = .ok (.if_icmp .eq 305, 3) := by decide +kernel
theorem dL_law_1341 : decode cL_law 1341 = .ok (.iconst 0, 1) := by decide +kernel
theorem dL_law_1342 : decode cL_law 1342 = .ok (.ireturn, 1) := by decide +kernel
set_option maxRecDepth 20000 in
set_option maxHeartbeats 4000000 in
theorem C_law_31 {nm : String} (K : xK) (L : xL) (k : Int32 → xH → Option (Int32 × xH)) (a0 a1 a2 : Nat) (hk : ∀ (a3 : Int32) (h : xH), Sim K L cL_law RL nm 4 8 (fun q : Int32 × xH => q.2) (xRz cL_law) 1643 [(0, .ref a0), (1, .ref a1), (2, .ref a2), (3, .int a3)] [] h (k a3 h)) (a3 : Int32) (h : xH) : Sim K L cL_law RL nm 4 8 (fun q : Int32 × xH => q.2) (xRz cL_law) 1310 [(0, .ref a0), (1, .ref a1), (2, .ref a2), (3, .int a3)] [] h (f_law_c31 k a0 a1 a2 a3 h) := by
  unfold f_law_c31
  refine S_aload_n (pc := 1310) 1 rfl dL_law_1310 rfl ?_
  refine S_aload_n (pc := 1311) 0 rfl dL_law_1311 rfl ?_
  refine S_iload_n (pc := 1312) 3 rfl dL_law_1312 rfl ?_
  refine S_iconst (pc := 1313) dL_law_1313 ic_1 ?_
  refine S_iadd (pc := 1314) dL_law_1314 ?_
  refine S_aI (pc := 1315) dL_law_1315 (fun v1 => ?_)
  refine S_aload_n (pc := 1316) 0 rfl dL_law_1316 rfl ?_
  refine S_iload_n (pc := 1317) 3 rfl dL_law_1317 rfl ?_
  refine S_iconst (pc := 1318) dL_law_1318 ic_2 ?_
  refine S_iadd (pc := 1319) dL_law_1319 ?_
  refine S_aI (pc := 1320) dL_law_1320 (fun v2 => ?_)
  refine S_call_i (pc := 1321) (rest := []) (fun q hq => (x_if hq).elim (fun z => R_V (av := [.int v1, .int v2]) (q := (RX11, TX11, 12)) (M_X11_weight _ a1 v1 v2 h z.2) z.1 rfl wd_652 wd_649 wd_650 wd_44 wd_651 ⟨rfl, hd_X11_weight⟩ ⟨Nat.le_of_ble_eq_true rfl, Nat.le_of_ble_eq_true rfl⟩ rfl (Nat.le_of_ble_eq_true rfl) dL_law_1321) (fun hq => (by cases hq))) (fun _ h => absurd h List.not_mem_nil) (fun q3 => ?_)
  refine S_aload_n (pc := 1324) 2 rfl dL_law_1324 rfl ?_
  refine S_aload_n (pc := 1325) 0 rfl dL_law_1325 rfl ?_
  refine S_iload_n (pc := 1326) 3 rfl dL_law_1326 rfl ?_
  refine S_iconst (pc := 1327) dL_law_1327 ic_1 ?_
  refine S_iadd (pc := 1328) dL_law_1328 ?_
  refine S_aI (pc := 1329) dL_law_1329 (fun v4 => ?_)
  refine S_aload_n (pc := 1330) 0 rfl dL_law_1330 rfl ?_
  refine S_iload_n (pc := 1331) 3 rfl dL_law_1331 rfl ?_
  refine S_iconst (pc := 1332) dL_law_1332 ic_2 ?_
  refine S_iadd (pc := 1333) dL_law_1333 ?_
  refine S_aI (pc := 1334) dL_law_1334 (fun v5 => ?_)
  refine S_call_i (pc := 1335) (rest := [.int q3.1]) (fun q hq => (x_if hq).elim (fun z => R_V (av := [.int v4, .int v5]) (q := (RX12, TX12, 28)) (M_X12_weight _ a2 v4 v5 q3.2 z.2) z.1 rfl wd_1145 wd_1142 wd_1143 wd_50 wd_1144 ⟨rfl, hd_X12_weight⟩ ⟨Nat.le_of_ble_eq_true rfl, Nat.le_of_ble_eq_true rfl⟩ rfl (Nat.le_of_ble_eq_true rfl) dL_law_1335) (fun hq => (by cases hq))) (fun _ h => List.mem_cons_of_mem _ (List.mem_cons_of_mem _ (List.mem_cons_of_mem _ (h)))) (fun q6 => ?_)
  refine S_icmp_eq (pc := 1338) (tgt := 1643) dL_law_1338 (by decide) ?_ ?_
  · refine S_sub [0, 1, 2, 3] rfl ?_
    exact hk a3 q6.2
  · refine S_iconst (pc := 1341) dL_law_1341 ic_0 ?_
    exact Sim.fin ⟨dL_law_1342, rfl, rfl, x_nar (Or.inl rfl)⟩ rfl
theorem dL_law_1343 : decode cL_law 1343 = .ok (.aload_n 1, 1) := by decide +kernel
theorem dL_law_1344 : decode cL_law 1344 = .ok (.aload_n 0, 1) := by decide +kernel
theorem dL_law_1345 : decode cL_law 1345 = .ok (.iload_n 3, 1) := by decide +kernel
theorem dL_law_1346 : decode cL_law 1346 = .ok (.iconst 1, 1) := by decide +kernel
theorem dL_law_1347 : decode cL_law 1347 = .ok (.iadd, 1) := by decide +kernel
theorem dL_law_1348 : decode cL_law 1348 = .ok (.iaload, 1) := by decide +kernel
theorem dL_law_1349 : decode cL_law 1349 = .ok (.aload_n 0, 1) := by decide +kernel
theorem dL_law_1350 : decode cL_law 1350 = .ok (.iload_n 3, 1) := by decide +kernel
theorem dL_law_1351 : decode cL_law 1351 = .ok (.iconst 2, 1) := by decide +kernel
theorem dL_law_1352 : decode cL_law 1352 = .ok (.iadd, 1) := by decide +kernel
theorem dL_law_1353 : decode cL_law 1353 = .ok (.iaload, 1) := by decide +kernel
theorem dL_law_1354 : decode cL_law 1354 = .ok (.aload_n 0, 1) := by decide +kernel
theorem dL_law_1355 : decode cL_law 1355 = .ok (.iload_n 3, 1) := by decide +kernel
theorem dL_law_1356 : decode cL_law 1356 = .ok (.iconst 3, 1) := by decide +kernel
theorem dL_law_1357 : decode cL_law 1357 = .ok (.iadd, 1) := by decide +kernel
theorem dL_law_1358 : decode cL_law 1358 = .ok (.iaload, 1) := by decide +kernel
theorem dL_law_1359 : decode cL_law 1359 = .ok (.aload_n 0, 1) := by decide +kernel
theorem dL_law_1360 : decode cL_law 1360 = .ok (.iload_n 3, 1) := by decide +kernel
theorem dL_law_1361 : decode cL_law 1361 = .ok (.iconst 4, 1) := by decide +kernel
theorem dL_law_1362 : decode cL_law 1362 = .ok (.iadd, 1) := by decide +kernel
theorem dL_law_1363 : decode cL_law 1363 = .ok (.iaload, 1) := by decide +kernel
theorem dL_law_1364 : decode cL_law 1364 = .ok (.invokevirtual 148, 3) := by decide +kernel
theorem dL_law_1367 : decode cL_law 1367 = .ok (.aload_n 2, 1) := by decide +kernel
theorem dL_law_1368 : decode cL_law 1368 = .ok (.aload_n 0, 1) := by decide +kernel
theorem dL_law_1369 : decode cL_law 1369 = .ok (.iload_n 3, 1) := by decide +kernel
theorem dL_law_1370 : decode cL_law 1370 = .ok (.iconst 1, 1) := by decide +kernel
theorem dL_law_1371 : decode cL_law 1371 = .ok (.iadd, 1) := by decide +kernel
theorem dL_law_1372 : decode cL_law 1372 = .ok (.iaload, 1) := by decide +kernel
theorem dL_law_1373 : decode cL_law 1373 = .ok (.aload_n 0, 1) := by decide +kernel
theorem dL_law_1374 : decode cL_law 1374 = .ok (.iload_n 3, 1) := by decide +kernel
theorem dL_law_1375 : decode cL_law 1375 = .ok (.iconst 2, 1) := by decide +kernel
theorem dL_law_1376 : decode cL_law 1376 = .ok (.iadd, 1) := by decide +kernel
theorem dL_law_1377 : decode cL_law 1377 = .ok (.iaload, 1) := by decide +kernel
theorem dL_law_1378 : decode cL_law 1378 = .ok (.aload_n 0, 1) := by decide +kernel
theorem dL_law_1379 : decode cL_law 1379 = .ok (.iload_n 3, 1) := by decide +kernel
theorem dL_law_1380 : decode cL_law 1380 = .ok (.iconst 3, 1) := by decide +kernel
theorem dL_law_1381 : decode cL_law 1381 = .ok (.iadd, 1) := by decide +kernel
theorem dL_law_1382 : decode cL_law 1382 = .ok (.iaload, 1) := by decide +kernel
theorem dL_law_1383 : decode cL_law 1383 = .ok (.aload_n 0, 1) := by decide +kernel
theorem dL_law_1384 : decode cL_law 1384 = .ok (.iload_n 3, 1) := by decide +kernel
theorem dL_law_1385 : decode cL_law 1385 = .ok (.iconst 4, 1) := by decide +kernel
theorem dL_law_1386 : decode cL_law 1386 = .ok (.iadd, 1) := by decide +kernel
theorem dL_law_1387 : decode cL_law 1387 = .ok (.iaload, 1) := by decide +kernel
theorem dL_law_1388 : decode cL_law 1388 = .ok (.invokevirtual 151, 3) := by decide +kernel
theorem dL_law_1391 : decode cL_law 1391 = .ok (.if_icmp .eq 252, 3) := by decide +kernel
theorem dL_law_1394 : decode cL_law 1394 = .ok (.iconst 0, 1) := by decide +kernel
theorem dL_law_1395 : decode cL_law 1395 = .ok (.ireturn, 1) := by decide +kernel
set_option maxRecDepth 20000 in
set_option maxHeartbeats 4000000 in
theorem C_law_32 {nm : String} (K : xK) (L : xL) (k : Int32 → xH → Option (Int32 × xH)) (a0 a1 a2 : Nat) (hk : ∀ (a3 : Int32) (h : xH), Sim K L cL_law RL nm 4 8 (fun q : Int32 × xH => q.2) (xRz cL_law) 1643 [(0, .ref a0), (1, .ref a1), (2, .ref a2), (3, .int a3)] [] h (k a3 h)) (a3 : Int32) (h : xH) : Sim K L cL_law RL nm 4 8 (fun q : Int32 × xH => q.2) (xRz cL_law) 1343 [(0, .ref a0), (1, .ref a1), (2, .ref a2), (3, .int a3)] [] h (f_law_c32 k a0 a1 a2 a3 h) := by
  unfold f_law_c32
  refine S_aload_n (pc := 1343) 1 rfl dL_law_1343 rfl ?_
  refine S_aload_n (pc := 1344) 0 rfl dL_law_1344 rfl ?_
  refine S_iload_n (pc := 1345) 3 rfl dL_law_1345 rfl ?_
  refine S_iconst (pc := 1346) dL_law_1346 ic_1 ?_
  refine S_iadd (pc := 1347) dL_law_1347 ?_
  refine S_aI (pc := 1348) dL_law_1348 (fun v1 => ?_)
  refine S_aload_n (pc := 1349) 0 rfl dL_law_1349 rfl ?_
  refine S_iload_n (pc := 1350) 3 rfl dL_law_1350 rfl ?_
  refine S_iconst (pc := 1351) dL_law_1351 ic_2 ?_
  refine S_iadd (pc := 1352) dL_law_1352 ?_
  refine S_aI (pc := 1353) dL_law_1353 (fun v2 => ?_)
  refine S_aload_n (pc := 1354) 0 rfl dL_law_1354 rfl ?_
  refine S_iload_n (pc := 1355) 3 rfl dL_law_1355 rfl ?_
  refine S_iconst (pc := 1356) dL_law_1356 ic_3 ?_
  refine S_iadd (pc := 1357) dL_law_1357 ?_
  refine S_aI (pc := 1358) dL_law_1358 (fun v3 => ?_)
  refine S_aload_n (pc := 1359) 0 rfl dL_law_1359 rfl ?_
  refine S_iload_n (pc := 1360) 3 rfl dL_law_1360 rfl ?_
  refine S_iconst (pc := 1361) dL_law_1361 ic_4 ?_
  refine S_iadd (pc := 1362) dL_law_1362 ?_
  refine S_aI (pc := 1363) dL_law_1363 (fun v4 => ?_)
  refine S_call_i (pc := 1364) (rest := []) (fun q hq => (x_if hq).elim (fun z => R_V (av := [.int v1, .int v2, .int v3, .int v4]) (q := (RX11, TX11, 12)) (M_X11_tell _ a1 v1 v2 v3 v4 h z.2) z.1 rfl wd_659 wd_656 wd_657 wd_44 wd_658 ⟨rfl, hd_X11_tell⟩ ⟨Nat.le_of_ble_eq_true rfl, Nat.le_of_ble_eq_true rfl⟩ rfl (Nat.le_of_ble_eq_true rfl) dL_law_1364) (fun hq => (by cases hq))) (fun _ h => absurd h List.not_mem_nil) (fun q5 => ?_)
  refine S_aload_n (pc := 1367) 2 rfl dL_law_1367 rfl ?_
  refine S_aload_n (pc := 1368) 0 rfl dL_law_1368 rfl ?_
  refine S_iload_n (pc := 1369) 3 rfl dL_law_1369 rfl ?_
  refine S_iconst (pc := 1370) dL_law_1370 ic_1 ?_
  refine S_iadd (pc := 1371) dL_law_1371 ?_
  refine S_aI (pc := 1372) dL_law_1372 (fun v6 => ?_)
  refine S_aload_n (pc := 1373) 0 rfl dL_law_1373 rfl ?_
  refine S_iload_n (pc := 1374) 3 rfl dL_law_1374 rfl ?_
  refine S_iconst (pc := 1375) dL_law_1375 ic_2 ?_
  refine S_iadd (pc := 1376) dL_law_1376 ?_
  refine S_aI (pc := 1377) dL_law_1377 (fun v7 => ?_)
  refine S_aload_n (pc := 1378) 0 rfl dL_law_1378 rfl ?_
  refine S_iload_n (pc := 1379) 3 rfl dL_law_1379 rfl ?_
  refine S_iconst (pc := 1380) dL_law_1380 ic_3 ?_
  refine S_iadd (pc := 1381) dL_law_1381 ?_
  refine S_aI (pc := 1382) dL_law_1382 (fun v8 => ?_)
  refine S_aload_n (pc := 1383) 0 rfl dL_law_1383 rfl ?_
  refine S_iload_n (pc := 1384) 3 rfl dL_law_1384 rfl ?_
  refine S_iconst (pc := 1385) dL_law_1385 ic_4 ?_
  refine S_iadd (pc := 1386) dL_law_1386 ?_
  refine S_aI (pc := 1387) dL_law_1387 (fun v9 => ?_)
  refine S_call_i (pc := 1388) (rest := [.int q5.1]) (fun q hq => (x_if hq).elim (fun z => R_V (av := [.int v6, .int v7, .int v8, .int v9]) (q := (RX12, TX12, 28)) (M_X12_tell _ a2 v6 v7 v8 v9 q5.2 z.2) z.1 rfl wd_1154 wd_1151 wd_1152 wd_50 wd_1153 ⟨rfl, hd_X12_tell⟩ ⟨Nat.le_of_ble_eq_true rfl, Nat.le_of_ble_eq_true rfl⟩ rfl (Nat.le_of_ble_eq_true rfl) dL_law_1388) (fun hq => (by cases hq))) (fun _ h => List.mem_cons_of_mem _ (List.mem_cons_of_mem _ (List.mem_cons_of_mem _ (List.mem_cons_of_mem _ (List.mem_cons_of_mem _ (h)))))) (fun q10 => ?_)
  refine S_icmp_eq (pc := 1391) (tgt := 1643) dL_law_1391 (by decide) ?_ ?_
  · refine S_sub [0, 1, 2, 3] rfl ?_
    exact hk a3 q10.2
  · refine S_iconst (pc := 1394) dL_law_1394 ic_0 ?_
    exact Sim.fin ⟨dL_law_1395, rfl, rfl, x_nar (Or.inl rfl)⟩ rfl
theorem dL_law_1396 : decode cL_law 1396 = .ok (.aload_n 1, 1) := by decide +kernel
theorem dL_law_1397 : decode cL_law 1397 = .ok (.aload_n 0, 1) := by decide +kernel
theorem dL_law_1398 : decode cL_law 1398 = .ok (.iload_n 3, 1) := by decide +kernel
theorem dL_law_1399 : decode cL_law 1399 = .ok (.iconst 1, 1) := by decide +kernel
theorem dL_law_1400 : decode cL_law 1400 = .ok (.iadd, 1) := by decide +kernel
theorem dL_law_1401 : decode cL_law 1401 = .ok (.iaload, 1) := by decide +kernel
theorem dL_law_1402 : decode cL_law 1402 = .ok (.aload_n 0, 1) := by decide +kernel
theorem dL_law_1403 : decode cL_law 1403 = .ok (.iload_n 3, 1) := by decide +kernel
theorem dL_law_1404 : decode cL_law 1404 = .ok (.iconst 2, 1) := by decide +kernel
theorem dL_law_1405 : decode cL_law 1405 = .ok (.iadd, 1) := by decide +kernel
theorem dL_law_1406 : decode cL_law 1406 = .ok (.iaload, 1) := by decide +kernel
theorem dL_law_1407 : decode cL_law 1407 = .ok (.aload_n 0, 1) := by decide +kernel
theorem dL_law_1408 : decode cL_law 1408 = .ok (.iload_n 3, 1) := by decide +kernel
theorem dL_law_1409 : decode cL_law 1409 = .ok (.iconst 3, 1) := by decide +kernel
theorem dL_law_1410 : decode cL_law 1410 = .ok (.iadd, 1) := by decide +kernel
theorem dL_law_1411 : decode cL_law 1411 = .ok (.iaload, 1) := by decide +kernel
theorem dL_law_1412 : decode cL_law 1412 = .ok (.aload_n 0, 1) := by decide +kernel
theorem dL_law_1413 : decode cL_law 1413 = .ok (.iload_n 3, 1) := by decide +kernel
theorem dL_law_1414 : decode cL_law 1414 = .ok (.iconst 4, 1) := by decide +kernel
theorem dL_law_1415 : decode cL_law 1415 = .ok (.iadd, 1) := by decide +kernel
theorem dL_law_1416 : decode cL_law 1416 = .ok (.iaload, 1) := by decide +kernel
theorem dL_law_1417 : decode cL_law 1417 = .ok (.invokevirtual 152, 3) := by decide +kernel
theorem dL_law_1420 : decode cL_law 1420 = .ok (.aload_n 2, 1) := by decide +kernel
theorem dL_law_1421 : decode cL_law 1421 = .ok (.aload_n 0, 1) := by decide +kernel
theorem dL_law_1422 : decode cL_law 1422 = .ok (.iload_n 3, 1) := by decide +kernel
theorem dL_law_1423 : decode cL_law 1423 = .ok (.iconst 1, 1) := by decide +kernel
theorem dL_law_1424 : decode cL_law 1424 = .ok (.iadd, 1) := by decide +kernel
theorem dL_law_1425 : decode cL_law 1425 = .ok (.iaload, 1) := by decide +kernel
theorem dL_law_1426 : decode cL_law 1426 = .ok (.aload_n 0, 1) := by decide +kernel
theorem dL_law_1427 : decode cL_law 1427 = .ok (.iload_n 3, 1) := by decide +kernel
theorem dL_law_1428 : decode cL_law 1428 = .ok (.iconst 2, 1) := by decide +kernel
theorem dL_law_1429 : decode cL_law 1429 = .ok (.iadd, 1) := by decide +kernel
theorem dL_law_1430 : decode cL_law 1430 = .ok (.iaload, 1) := by decide +kernel
theorem dL_law_1431 : decode cL_law 1431 = .ok (.aload_n 0, 1) := by decide +kernel
theorem dL_law_1432 : decode cL_law 1432 = .ok (.iload_n 3, 1) := by decide +kernel
theorem dL_law_1433 : decode cL_law 1433 = .ok (.iconst 3, 1) := by decide +kernel
theorem dL_law_1434 : decode cL_law 1434 = .ok (.iadd, 1) := by decide +kernel
theorem dL_law_1435 : decode cL_law 1435 = .ok (.iaload, 1) := by decide +kernel
theorem dL_law_1436 : decode cL_law 1436 = .ok (.aload_n 0, 1) := by decide +kernel
theorem dL_law_1437 : decode cL_law 1437 = .ok (.iload_n 3, 1) := by decide +kernel
theorem dL_law_1438 : decode cL_law 1438 = .ok (.iconst 4, 1) := by decide +kernel
theorem dL_law_1439 : decode cL_law 1439 = .ok (.iadd, 1) := by decide +kernel
theorem dL_law_1440 : decode cL_law 1440 = .ok (.iaload, 1) := by decide +kernel
theorem dL_law_1441 : decode cL_law 1441 = .ok (.invokevirtual 155, 3) := by decide +kernel
theorem dL_law_1444 : decode cL_law 1444 = .ok (.if_icmp .eq 199, 3) := by decide +kernel
theorem dL_law_1447 : decode cL_law 1447 = .ok (.iconst 0, 1) := by decide +kernel
theorem dL_law_1448 : decode cL_law 1448 = .ok (.ireturn, 1) := by decide +kernel
set_option maxRecDepth 20000 in
set_option maxHeartbeats 4000000 in
theorem C_law_33 {nm : String} (K : xK) (L : xL) (k : Int32 → xH → Option (Int32 × xH)) (a0 a1 a2 : Nat) (hk : ∀ (a3 : Int32) (h : xH), Sim K L cL_law RL nm 4 8 (fun q : Int32 × xH => q.2) (xRz cL_law) 1643 [(0, .ref a0), (1, .ref a1), (2, .ref a2), (3, .int a3)] [] h (k a3 h)) (a3 : Int32) (h : xH) : Sim K L cL_law RL nm 4 8 (fun q : Int32 × xH => q.2) (xRz cL_law) 1396 [(0, .ref a0), (1, .ref a1), (2, .ref a2), (3, .int a3)] [] h (f_law_c33 k a0 a1 a2 a3 h) := by
  unfold f_law_c33
  refine S_aload_n (pc := 1396) 1 rfl dL_law_1396 rfl ?_
  refine S_aload_n (pc := 1397) 0 rfl dL_law_1397 rfl ?_
  refine S_iload_n (pc := 1398) 3 rfl dL_law_1398 rfl ?_
  refine S_iconst (pc := 1399) dL_law_1399 ic_1 ?_
  refine S_iadd (pc := 1400) dL_law_1400 ?_
  refine S_aI (pc := 1401) dL_law_1401 (fun v1 => ?_)
  refine S_aload_n (pc := 1402) 0 rfl dL_law_1402 rfl ?_
  refine S_iload_n (pc := 1403) 3 rfl dL_law_1403 rfl ?_
  refine S_iconst (pc := 1404) dL_law_1404 ic_2 ?_
  refine S_iadd (pc := 1405) dL_law_1405 ?_
  refine S_aI (pc := 1406) dL_law_1406 (fun v2 => ?_)
  refine S_aload_n (pc := 1407) 0 rfl dL_law_1407 rfl ?_
  refine S_iload_n (pc := 1408) 3 rfl dL_law_1408 rfl ?_
  refine S_iconst (pc := 1409) dL_law_1409 ic_3 ?_
  refine S_iadd (pc := 1410) dL_law_1410 ?_
  refine S_aI (pc := 1411) dL_law_1411 (fun v3 => ?_)
  refine S_aload_n (pc := 1412) 0 rfl dL_law_1412 rfl ?_
  refine S_iload_n (pc := 1413) 3 rfl dL_law_1413 rfl ?_
  refine S_iconst (pc := 1414) dL_law_1414 ic_4 ?_
  refine S_iadd (pc := 1415) dL_law_1415 ?_
  refine S_aI (pc := 1416) dL_law_1416 (fun v4 => ?_)
  refine S_call_i (pc := 1417) (rest := []) (fun q hq => (x_if hq).elim (fun z => R_V (av := [.int v1, .int v2, .int v3, .int v4]) (q := (RX11, TX11, 12)) (M_X11_drawn _ a1 v1 v2 v3 v4 h z.2) z.1 rfl wd_663 wd_660 wd_661 wd_44 wd_662 ⟨rfl, hd_X11_drawn⟩ ⟨Nat.le_of_ble_eq_true rfl, Nat.le_of_ble_eq_true rfl⟩ rfl (Nat.le_of_ble_eq_true rfl) dL_law_1417) (fun hq => (by cases hq))) (fun _ h => absurd h List.not_mem_nil) (fun q5 => ?_)
  refine S_aload_n (pc := 1420) 2 rfl dL_law_1420 rfl ?_
  refine S_aload_n (pc := 1421) 0 rfl dL_law_1421 rfl ?_
  refine S_iload_n (pc := 1422) 3 rfl dL_law_1422 rfl ?_
  refine S_iconst (pc := 1423) dL_law_1423 ic_1 ?_
  refine S_iadd (pc := 1424) dL_law_1424 ?_
  refine S_aI (pc := 1425) dL_law_1425 (fun v6 => ?_)
  refine S_aload_n (pc := 1426) 0 rfl dL_law_1426 rfl ?_
  refine S_iload_n (pc := 1427) 3 rfl dL_law_1427 rfl ?_
  refine S_iconst (pc := 1428) dL_law_1428 ic_2 ?_
  refine S_iadd (pc := 1429) dL_law_1429 ?_
  refine S_aI (pc := 1430) dL_law_1430 (fun v7 => ?_)
  refine S_aload_n (pc := 1431) 0 rfl dL_law_1431 rfl ?_
  refine S_iload_n (pc := 1432) 3 rfl dL_law_1432 rfl ?_
  refine S_iconst (pc := 1433) dL_law_1433 ic_3 ?_
  refine S_iadd (pc := 1434) dL_law_1434 ?_
  refine S_aI (pc := 1435) dL_law_1435 (fun v8 => ?_)
  refine S_aload_n (pc := 1436) 0 rfl dL_law_1436 rfl ?_
  refine S_iload_n (pc := 1437) 3 rfl dL_law_1437 rfl ?_
  refine S_iconst (pc := 1438) dL_law_1438 ic_4 ?_
  refine S_iadd (pc := 1439) dL_law_1439 ?_
  refine S_aI (pc := 1440) dL_law_1440 (fun v9 => ?_)
  refine S_call_i (pc := 1441) (rest := [.int q5.1]) (fun q hq => (x_if hq).elim (fun z => R_V (av := [.int v6, .int v7, .int v8, .int v9]) (q := (RX12, TX12, 28)) (M_X12_drawn _ a2 v6 v7 v8 v9 q5.2 z.2) z.1 rfl wd_1158 wd_1155 wd_1156 wd_50 wd_1157 ⟨rfl, hd_X12_drawn⟩ ⟨Nat.le_of_ble_eq_true rfl, Nat.le_of_ble_eq_true rfl⟩ rfl (Nat.le_of_ble_eq_true rfl) dL_law_1441) (fun hq => (by cases hq))) (fun _ h => List.mem_cons_of_mem _ (List.mem_cons_of_mem _ (List.mem_cons_of_mem _ (List.mem_cons_of_mem _ (List.mem_cons_of_mem _ (h)))))) (fun q10 => ?_)
  refine S_icmp_eq (pc := 1444) (tgt := 1643) dL_law_1444 (by decide) ?_ ?_
  · refine S_sub [0, 1, 2, 3] rfl ?_
    exact hk a3 q10.2
  · refine S_iconst (pc := 1447) dL_law_1447 ic_0 ?_
    exact Sim.fin ⟨dL_law_1448, rfl, rfl, x_nar (Or.inl rfl)⟩ rfl
theorem dL_law_1449 : decode cL_law 1449 = .ok (.aload_n 1, 1) := by decide +kernel
theorem dL_law_1450 : decode cL_law 1450 = .ok (.aload_n 0, 1) := by decide +kernel
theorem dL_law_1451 : decode cL_law 1451 = .ok (.iload_n 3, 1) := by decide +kernel
theorem dL_law_1452 : decode cL_law 1452 = .ok (.iconst 1, 1) := by decide +kernel
theorem dL_law_1453 : decode cL_law 1453 = .ok (.iadd, 1) := by decide +kernel
theorem dL_law_1454 : decode cL_law 1454 = .ok (.iaload, 1) := by decide +kernel
theorem dL_law_1455 : decode cL_law 1455 = .ok (.invokevirtual 156, 3) := by decide +kernel
theorem dL_law_1458 : decode cL_law 1458 = .ok (.aload_n 2, 1) := by decide +kernel
theorem dL_law_1459 : decode cL_law 1459 = .ok (.aload_n 0, 1) := by decide +kernel
theorem dL_law_1460 : decode cL_law 1460 = .ok (.iload_n 3, 1) := by decide +kernel
theorem dL_law_1461 : decode cL_law 1461 = .ok (.iconst 1, 1) := by decide +kernel
theorem dL_law_1462 : decode cL_law 1462 = .ok (.iadd, 1) := by decide +kernel
theorem dL_law_1463 : decode cL_law 1463 = .ok (.iaload, 1) := by decide +kernel
theorem dL_law_1464 : decode cL_law 1464 = .ok (.invokevirtual 159, 3) := by decide +kernel
theorem dL_law_1467 : decode cL_law 1467 = .ok (.if_icmp .eq 176, 3) := by decide +kernel
theorem dL_law_1470 : decode cL_law 1470 = .ok (.iconst 0, 1) := by decide +kernel
theorem dL_law_1471 : decode cL_law 1471 = .ok (.ireturn, 1) := by decide +kernel
set_option maxRecDepth 20000 in
set_option maxHeartbeats 4000000 in
theorem C_law_34 {nm : String} (K : xK) (L : xL) (k : Int32 → xH → Option (Int32 × xH)) (a0 a1 a2 : Nat) (hk : ∀ (a3 : Int32) (h : xH), Sim K L cL_law RL nm 4 8 (fun q : Int32 × xH => q.2) (xRz cL_law) 1643 [(0, .ref a0), (1, .ref a1), (2, .ref a2), (3, .int a3)] [] h (k a3 h)) (a3 : Int32) (h : xH) : Sim K L cL_law RL nm 4 8 (fun q : Int32 × xH => q.2) (xRz cL_law) 1449 [(0, .ref a0), (1, .ref a1), (2, .ref a2), (3, .int a3)] [] h (f_law_c34 k a0 a1 a2 a3 h) := by
  unfold f_law_c34
  refine S_aload_n (pc := 1449) 1 rfl dL_law_1449 rfl ?_
  refine S_aload_n (pc := 1450) 0 rfl dL_law_1450 rfl ?_
  refine S_iload_n (pc := 1451) 3 rfl dL_law_1451 rfl ?_
  refine S_iconst (pc := 1452) dL_law_1452 ic_1 ?_
  refine S_iadd (pc := 1453) dL_law_1453 ?_
  refine S_aI (pc := 1454) dL_law_1454 (fun v1 => ?_)
  refine S_call_i (pc := 1455) (rest := []) (fun q hq => (x_if hq).elim (fun z => R_V (av := [.int v1]) (q := (RX11, TX11, 12)) (M_X11_image _ a1 v1 h z.2) z.1 rfl wd_671 wd_668 wd_669 wd_44 wd_670 ⟨rfl, hd_X11_image⟩ ⟨Nat.le_of_ble_eq_true rfl, Nat.le_of_ble_eq_true rfl⟩ rfl (Nat.le_of_ble_eq_true rfl) dL_law_1455) (fun hq => (by cases hq))) (fun _ h => absurd h List.not_mem_nil) (fun q2 => ?_)
  refine S_aload_n (pc := 1458) 2 rfl dL_law_1458 rfl ?_
  refine S_aload_n (pc := 1459) 0 rfl dL_law_1459 rfl ?_
  refine S_iload_n (pc := 1460) 3 rfl dL_law_1460 rfl ?_
  refine S_iconst (pc := 1461) dL_law_1461 ic_1 ?_
  refine S_iadd (pc := 1462) dL_law_1462 ?_
  refine S_aI (pc := 1463) dL_law_1463 (fun v3 => ?_)
  refine S_call_i (pc := 1464) (rest := [.int q2.1]) (fun q hq => (x_if hq).elim (fun z => R_V (av := [.int v3]) (q := (RX12, TX12, 28)) (M_X12_image _ a2 v3 q2.2 z.2) z.1 rfl wd_1164 wd_1161 wd_1162 wd_50 wd_1163 ⟨rfl, hd_X12_image⟩ ⟨Nat.le_of_ble_eq_true rfl, Nat.le_of_ble_eq_true rfl⟩ rfl (Nat.le_of_ble_eq_true rfl) dL_law_1464) (fun hq => (by cases hq))) (fun _ h => List.mem_cons_of_mem _ (List.mem_cons_of_mem _ (h))) (fun q4 => ?_)
  refine S_icmp_eq (pc := 1467) (tgt := 1643) dL_law_1467 (by decide) ?_ ?_
  · refine S_sub [0, 1, 2, 3] rfl ?_
    exact hk a3 q4.2
  · refine S_iconst (pc := 1470) dL_law_1470 ic_0 ?_
    exact Sim.fin ⟨dL_law_1471, rfl, rfl, x_nar (Or.inl rfl)⟩ rfl
theorem dL_law_1472 : decode cL_law 1472 = .ok (.aload_n 1, 1) := by decide +kernel
theorem dL_law_1473 : decode cL_law 1473 = .ok (.aload_n 0, 1) := by decide +kernel
theorem dL_law_1474 : decode cL_law 1474 = .ok (.iload_n 3, 1) := by decide +kernel
theorem dL_law_1475 : decode cL_law 1475 = .ok (.iconst 1, 1) := by decide +kernel
theorem dL_law_1476 : decode cL_law 1476 = .ok (.iadd, 1) := by decide +kernel
theorem dL_law_1477 : decode cL_law 1477 = .ok (.iaload, 1) := by decide +kernel
theorem dL_law_1478 : decode cL_law 1478 = .ok (.invokevirtual 160, 3) := by decide +kernel
theorem dL_law_1481 : decode cL_law 1481 = .ok (.aload_n 2, 1) := by decide +kernel
theorem dL_law_1482 : decode cL_law 1482 = .ok (.aload_n 0, 1) := by decide +kernel
theorem dL_law_1483 : decode cL_law 1483 = .ok (.iload_n 3, 1) := by decide +kernel
theorem dL_law_1484 : decode cL_law 1484 = .ok (.iconst 1, 1) := by decide +kernel
theorem dL_law_1485 : decode cL_law 1485 = .ok (.iadd, 1) := by decide +kernel
theorem dL_law_1486 : decode cL_law 1486 = .ok (.iaload, 1) := by decide +kernel
theorem dL_law_1487 : decode cL_law 1487 = .ok (.invokevirtual 163, 3) := by decide +kernel
theorem dL_law_1490 : decode cL_law 1490 = .ok (.if_icmp .eq 153, 3) := by decide +kernel
theorem dL_law_1493 : decode cL_law 1493 = .ok (.iconst 0, 1) := by decide +kernel
theorem dL_law_1494 : decode cL_law 1494 = .ok (.ireturn, 1) := by decide +kernel
set_option maxRecDepth 20000 in
set_option maxHeartbeats 4000000 in
theorem C_law_35 {nm : String} (K : xK) (L : xL) (k : Int32 → xH → Option (Int32 × xH)) (a0 a1 a2 : Nat) (hk : ∀ (a3 : Int32) (h : xH), Sim K L cL_law RL nm 4 8 (fun q : Int32 × xH => q.2) (xRz cL_law) 1643 [(0, .ref a0), (1, .ref a1), (2, .ref a2), (3, .int a3)] [] h (k a3 h)) (a3 : Int32) (h : xH) : Sim K L cL_law RL nm 4 8 (fun q : Int32 × xH => q.2) (xRz cL_law) 1472 [(0, .ref a0), (1, .ref a1), (2, .ref a2), (3, .int a3)] [] h (f_law_c35 k a0 a1 a2 a3 h) := by
  unfold f_law_c35
  refine S_aload_n (pc := 1472) 1 rfl dL_law_1472 rfl ?_
  refine S_aload_n (pc := 1473) 0 rfl dL_law_1473 rfl ?_
  refine S_iload_n (pc := 1474) 3 rfl dL_law_1474 rfl ?_
  refine S_iconst (pc := 1475) dL_law_1475 ic_1 ?_
  refine S_iadd (pc := 1476) dL_law_1476 ?_
  refine S_aI (pc := 1477) dL_law_1477 (fun v1 => ?_)
  refine S_call_i (pc := 1478) (rest := []) (fun q hq => (x_if hq).elim (fun z => R_V (av := [.int v1]) (q := (RX11, TX11, 12)) (M_X11_restore _ a1 v1 h z.2) z.1 rfl wd_679 wd_676 wd_677 wd_44 wd_678 ⟨rfl, hd_X11_restore⟩ ⟨Nat.le_of_ble_eq_true rfl, Nat.le_of_ble_eq_true rfl⟩ rfl (Nat.le_of_ble_eq_true rfl) dL_law_1478) (fun hq => (by cases hq))) (fun _ h => absurd h List.not_mem_nil) (fun q2 => ?_)
  refine S_aload_n (pc := 1481) 2 rfl dL_law_1481 rfl ?_
  refine S_aload_n (pc := 1482) 0 rfl dL_law_1482 rfl ?_
  refine S_iload_n (pc := 1483) 3 rfl dL_law_1483 rfl ?_
  refine S_iconst (pc := 1484) dL_law_1484 ic_1 ?_
  refine S_iadd (pc := 1485) dL_law_1485 ?_
  refine S_aI (pc := 1486) dL_law_1486 (fun v3 => ?_)
  refine S_call_i (pc := 1487) (rest := [.int q2.1]) (fun q hq => (x_if hq).elim (fun z => R_V (av := [.int v3]) (q := (RX12, TX12, 28)) (M_X12_restore _ a2 v3 q2.2 z.2) z.1 rfl wd_1172 wd_1169 wd_1170 wd_50 wd_1171 ⟨rfl, hd_X12_restore⟩ ⟨Nat.le_of_ble_eq_true rfl, Nat.le_of_ble_eq_true rfl⟩ rfl (Nat.le_of_ble_eq_true rfl) dL_law_1487) (fun hq => (by cases hq))) (fun _ h => List.mem_cons_of_mem _ (List.mem_cons_of_mem _ (h))) (fun q4 => ?_)
  refine S_icmp_eq (pc := 1490) (tgt := 1643) dL_law_1490 (by decide) ?_ ?_
  · refine S_sub [0, 1, 2, 3] rfl ?_
    exact hk a3 q4.2
  · refine S_iconst (pc := 1493) dL_law_1493 ic_0 ?_
    exact Sim.fin ⟨dL_law_1494, rfl, rfl, x_nar (Or.inl rfl)⟩ rfl
theorem dL_law_1495 : decode cL_law 1495 = .ok (.aload_n 1, 1) := by decide +kernel
theorem dL_law_1496 : decode cL_law 1496 = .ok (.aload_n 0, 1) := by decide +kernel
theorem dL_law_1497 : decode cL_law 1497 = .ok (.iload_n 3, 1) := by decide +kernel
theorem dL_law_1498 : decode cL_law 1498 = .ok (.iconst 1, 1) := by decide +kernel
theorem dL_law_1499 : decode cL_law 1499 = .ok (.iadd, 1) := by decide +kernel
theorem dL_law_1500 : decode cL_law 1500 = .ok (.iaload, 1) := by decide +kernel
theorem dL_law_1501 : decode cL_law 1501 = .ok (.invokevirtual 164, 3) := by decide +kernel
theorem dL_law_1504 : decode cL_law 1504 = .ok (.aload_n 2, 1) := by decide +kernel
theorem dL_law_1505 : decode cL_law 1505 = .ok (.aload_n 0, 1) := by decide +kernel
theorem dL_law_1506 : decode cL_law 1506 = .ok (.iload_n 3, 1) := by decide +kernel
theorem dL_law_1507 : decode cL_law 1507 = .ok (.iconst 1, 1) := by decide +kernel
theorem dL_law_1508 : decode cL_law 1508 = .ok (.iadd, 1) := by decide +kernel
theorem dL_law_1509 : decode cL_law 1509 = .ok (.iaload, 1) := by decide +kernel
theorem dL_law_1510 : decode cL_law 1510 = .ok (.invokevirtual 167, 3) := by decide +kernel
theorem dL_law_1513 : decode cL_law 1513 = .ok (.if_icmp .eq 130, 3) := by decide +kernel
theorem dL_law_1516 : decode cL_law 1516 = .ok (.iconst 0, 1) := by decide +kernel
theorem dL_law_1517 : decode cL_law 1517 = .ok (.ireturn, 1) := by decide +kernel
set_option maxRecDepth 20000 in
set_option maxHeartbeats 4000000 in
theorem C_law_36 {nm : String} (K : xK) (L : xL) (k : Int32 → xH → Option (Int32 × xH)) (a0 a1 a2 : Nat) (hk : ∀ (a3 : Int32) (h : xH), Sim K L cL_law RL nm 4 8 (fun q : Int32 × xH => q.2) (xRz cL_law) 1643 [(0, .ref a0), (1, .ref a1), (2, .ref a2), (3, .int a3)] [] h (k a3 h)) (a3 : Int32) (h : xH) : Sim K L cL_law RL nm 4 8 (fun q : Int32 × xH => q.2) (xRz cL_law) 1495 [(0, .ref a0), (1, .ref a1), (2, .ref a2), (3, .int a3)] [] h (f_law_c36 k a0 a1 a2 a3 h) := by
  unfold f_law_c36
  refine S_aload_n (pc := 1495) 1 rfl dL_law_1495 rfl ?_
  refine S_aload_n (pc := 1496) 0 rfl dL_law_1496 rfl ?_
  refine S_iload_n (pc := 1497) 3 rfl dL_law_1497 rfl ?_
  refine S_iconst (pc := 1498) dL_law_1498 ic_1 ?_
  refine S_iadd (pc := 1499) dL_law_1499 ?_
  refine S_aI (pc := 1500) dL_law_1500 (fun v1 => ?_)
  refine S_call_i (pc := 1501) (rest := []) (fun q hq => (x_if hq).elim (fun z => R_V (av := [.int v1]) (q := (RX11, TX11, 12)) (M_X11_kind _ a1 v1 h z.2) z.1 rfl wd_687 wd_684 wd_685 wd_44 wd_686 ⟨rfl, hd_X11_kind⟩ ⟨Nat.le_of_ble_eq_true rfl, Nat.le_of_ble_eq_true rfl⟩ rfl (Nat.le_of_ble_eq_true rfl) dL_law_1501) (fun hq => (by cases hq))) (fun _ h => absurd h List.not_mem_nil) (fun q2 => ?_)
  refine S_aload_n (pc := 1504) 2 rfl dL_law_1504 rfl ?_
  refine S_aload_n (pc := 1505) 0 rfl dL_law_1505 rfl ?_
  refine S_iload_n (pc := 1506) 3 rfl dL_law_1506 rfl ?_
  refine S_iconst (pc := 1507) dL_law_1507 ic_1 ?_
  refine S_iadd (pc := 1508) dL_law_1508 ?_
  refine S_aI (pc := 1509) dL_law_1509 (fun v3 => ?_)
  refine S_call_i (pc := 1510) (rest := [.int q2.1]) (fun q hq => (x_if hq).elim (fun z => R_V (av := [.int v3]) (q := (RX12, TX12, 28)) (M_X12_kind _ a2 v3 q2.2 z.2) z.1 rfl wd_1176 wd_1173 wd_1174 wd_50 wd_1175 ⟨rfl, hd_X12_kind⟩ ⟨Nat.le_of_ble_eq_true rfl, Nat.le_of_ble_eq_true rfl⟩ rfl (Nat.le_of_ble_eq_true rfl) dL_law_1510) (fun hq => (by cases hq))) (fun _ h => List.mem_cons_of_mem _ (List.mem_cons_of_mem _ (h))) (fun q4 => ?_)
  refine S_icmp_eq (pc := 1513) (tgt := 1643) dL_law_1513 (by decide) ?_ ?_
  · refine S_sub [0, 1, 2, 3] rfl ?_
    exact hk a3 q4.2
  · refine S_iconst (pc := 1516) dL_law_1516 ic_0 ?_
    exact Sim.fin ⟨dL_law_1517, rfl, rfl, x_nar (Or.inl rfl)⟩ rfl
