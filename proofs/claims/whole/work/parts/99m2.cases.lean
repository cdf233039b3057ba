/-! the law, call by call -/
set_option maxHeartbeats 4000000 in
set_option maxRecDepth 100000 in
/-- oilChair -/
theorem L_c16 {X : zX} {l : Launch} {E : zG} (hzs : zS E) (hst : l.stackTraces = false) (C : zC X cL_law RL 9) (G : zGX X l E room_1) {h : zH} {kc ks sq a k L : Nat} {xs : Nat → Int32} (T : zSc E sq L xs) (hk : k < 512) (hi : 4 * k + 4 ≤ L) (hL : L ≤ 2048) (hc : kc + 30 ≤ 604272) (hs : ks + 5806 ≤ 7174744) (S : lwSx a k h) (kk : ∀ h', lwSx a (k + 1) h' → zV X (kc + 30) (ks + 5806) h' 3182 [(0, .retAddr sq), (1, .ref a), (2, .ref (a + 271)), (3, .ref (a + 280)), (4, .ref (a + 281)), (5, .int (nI (4 * k)))] []) : zV X kc ks h 1296 [(0, .retAddr sq), (1, .ref a), (2, .ref (a + 271)), (3, .ref (a + 280)), (4, .ref (a + 281)), (5, .int (nI (4 * k)))] [] := by
  obtain ⟨g, us, sn, off, rs, dt, cs, t, o, S⟩ := S
  have hw := LS_W S hk
  have hb := LS_big hk
  have hR := S.2.2.2.1
  obtain ⟨A, eA⟩ : ∃ A : zAn, A = chgA g 111 (xs (4 * k + 1)) 0 := ⟨_, rfl⟩
  have ok : okA A (fun Ex => Ex = IOB ∨ Ex = UOE) := by rw [eA]; exact okA_chg isD_111 (fun _ => (Or.inl rfl)) (fun z => absurd z jd_111_2) (fun _ => (Or.inr rfl))
  refine zV.aload_n C dL_law_1296 rfl rfl ?_
  refine zV.arg (p := 1297) C G T hi hL (c := 1) (by decide) dL_law_1297 dL_law_1298 dL_law_1300 dL_law_1301 dL_law_1302 (by decide) rfl rfl ?_
  refine zV.aload_n C dL_law_1303 rfl rfl ?_
  refine zV.callSW (n := 3) C G dL_law_1304 (s_LoilChair hzs hst h a (a + 280) (xs (4 * k + 1)) A (chgP h a (a + 282) 111 (xs (4 * k + 1)) 0 g us sn off rs dt cs t o) (by rw [eA]; exact s_oilChair hzs hst h a (a + 282) (60000 * k) (xs (4 * k + 1)) g us sn off rs dt cs t o S.1.1 hR.1 (by omega)) S.1.1.1.1 (fun h1 p => LS_ob S p.1) ok.1 ok.2) rfl ⟨cd_L_oilChair, lk_L_230, st_L_oilChair, in_L⟩ ⟨⟨by decide, by decide⟩, by decide⟩ rfl (zRmL rfl (by omega) (by omega)) rfl (zafX (fun r2 h2 q2 => ?_)) (zno)
  obtain ⟨rfl, h1, p1, rfl⟩ := q2
  show zV X (kc + 1) (ks + 6) (lwH A (a + 280) h1) 1307 [(0, .retAddr sq), (1, .ref a), (2, .ref (a + 271)), (3, .ref (a + 280)), (4, .ref (a + 281)), (5, .int (nI (4 * k)))] [.int _]
  refine zV.istore (lo' := [(0, .retAddr sq), (1, .ref a), (2, .ref (a + 271)), (3, .ref (a + 280)), (4, .ref (a + 281)), (5, .int (nI (4 * k))), (6, _)]) C dL_law_1307 (by decide) rfl rfl rfl ?_
  have R2 := LS_r S p1.1 (zWr_H (A := A))
  refine zV.aload_n C dL_law_1309 rfl rfl ?_
  refine zV.arg (p := 1310) C G T hi hL (c := 1) (by decide) dL_law_1310 dL_law_1311 dL_law_1313 dL_law_1314 dL_law_1315 (by decide) rfl rfl ?_
  refine zV.callV (n := 1) C G dL_law_1316 (s_moilChair hzs hst (lwH A (a + 280) h1) (a + 271) (60000 * k) g us sn off rs dt cs t o (xs (4 * k + 1)) R2 hR (by omega)) rfl ⟨cd_X10_oilChair, lk_L_232, im_X10_oilChair, se_X10_X10_oilChair, in_X10⟩ ⟨⟨by decide, by decide⟩, by decide⟩ rfl (zRmL rfl (by omega) (by omega)) rfl R2.1.1 ⟨rfl, by decide⟩ (zafX (fun r3 h3 q3 => ?_)) (zno)
  obtain ⟨e0, e⟩ := q3
  have Sx := LSx_c isD_111 S p1 (zWr_H (A := A)) e
  have e1 : hI h3 435 (a + 271) = nI (anC A (fun Ex => if Ex = IOB then 1 else 2)) := by rw [eA]; exact e.1.trans (congrArg nI code_111.symm)
  have e0 : r3 = some (anV A (.int (nI 0))) := by rw [eA]; exact e0.trans (congrArg some chg_m.symm)
  obtain ⟨b, rfl, f1, f2⟩ := fct (d := nI 0) (ob := a + 280) (h1 := h1) ok.1 (fun Ex _ => cfn2 Ex) e0 e1 e.2.1.1.2.2.2.2.2.1
  exact zV.up (kc' := kc + 30) (ks' := ks + 5806) (by omega) (by omega) (L_tail hzs hst C G (p := 1319) dL_law_1319 dL_law_1321 dL_law_1322 dL_law_1325 dL_law_1327 dL_law_1332 dL_law_1334 dL_law_1337 dL_law_1338 dL_law_1339 dL_law_1340 dL_law_1342 dL_law_1343 dL_law_1344 dL_law_1349 (by decide) hc hs (LSx_r Sx) (LSx_ob Sx) f1 f2 (kk _ Sx))
set_option maxHeartbeats 4000000 in
set_option maxRecDepth 100000 in
/-- addOil -/
theorem L_c17 {X : zX} {l : Launch} {E : zG} (hzs : zS E) (hst : l.stackTraces = false) (C : zC X cL_law RL 9) (G : zGX X l E room_1) {h : zH} {kc ks sq a k L : Nat} {xs : Nat → Int32} (T : zSc E sq L xs) (hk : k < 512) (hi : 4 * k + 4 ≤ L) (hL : L ≤ 2048) (hc : kc + 30 ≤ 604272) (hs : ks + 5806 ≤ 7174744) (S : lwSx a k h) (kk : ∀ h', lwSx a (k + 1) h' → zV X (kc + 30) (ks + 5806) h' 3182 [(0, .retAddr sq), (1, .ref a), (2, .ref (a + 271)), (3, .ref (a + 280)), (4, .ref (a + 281)), (5, .int (nI (4 * k)))] []) : zV X kc ks h 1352 [(0, .retAddr sq), (1, .ref a), (2, .ref (a + 271)), (3, .ref (a + 280)), (4, .ref (a + 281)), (5, .int (nI (4 * k)))] [] := by
  obtain ⟨g, us, sn, off, rs, dt, cs, t, o, S⟩ := S
  have hw := LS_W S hk
  have hb := LS_big hk
  have hR := S.2.2.2.1
  obtain ⟨A, eA⟩ : ∃ A : zAn, A = chgA g 97 (xs (4 * k + 1)) 0 := ⟨_, rfl⟩
  have ok : okA A (fun Ex => Ex = IAE ∨ Ex = UOE) := by rw [eA]; exact okA_chg isD_97 (fun z => absurd z jd_97_1) (fun _ => (Or.inl rfl)) (fun _ => (Or.inr rfl))
  refine zV.aload_n C dL_law_1352 rfl rfl ?_
  refine zV.arg (p := 1353) C G T hi hL (c := 1) (by decide) dL_law_1353 dL_law_1354 dL_law_1356 dL_law_1357 dL_law_1358 (by decide) rfl rfl ?_
  refine zV.aload_n C dL_law_1359 rfl rfl ?_
  refine zV.callSW (n := 3) C G dL_law_1360 (s_LaddOil hzs hst h a (a + 280) (xs (4 * k + 1)) A (chgP h a (a + 282) 97 (xs (4 * k + 1)) 0 g us sn off rs dt cs t o) (by rw [eA]; exact s_addOil hzs hst h a (a + 282) (60000 * k) (xs (4 * k + 1)) g us sn off rs dt cs t o S.1.1 hR.1 (by omega)) S.1.1.1.1 (fun h1 p => LS_ob S p.1) ok.1 ok.2) rfl ⟨cd_L_addOil, lk_L_233, st_L_addOil, in_L⟩ ⟨⟨by decide, by decide⟩, by decide⟩ rfl (zRmL rfl (by omega) (by omega)) rfl (zafX (fun r2 h2 q2 => ?_)) (zno)
  obtain ⟨rfl, h1, p1, rfl⟩ := q2
  show zV X (kc + 1) (ks + 6) (lwH A (a + 280) h1) 1363 [(0, .retAddr sq), (1, .ref a), (2, .ref (a + 271)), (3, .ref (a + 280)), (4, .ref (a + 281)), (5, .int (nI (4 * k)))] [.int _]
  refine zV.istore (lo' := [(0, .retAddr sq), (1, .ref a), (2, .ref (a + 271)), (3, .ref (a + 280)), (4, .ref (a + 281)), (5, .int (nI (4 * k))), (6, _)]) C dL_law_1363 (by decide) rfl rfl rfl ?_
  have R2 := LS_r S p1.1 (zWr_H (A := A))
  refine zV.aload_n C dL_law_1365 rfl rfl ?_
  refine zV.arg (p := 1366) C G T hi hL (c := 1) (by decide) dL_law_1366 dL_law_1367 dL_law_1369 dL_law_1370 dL_law_1371 (by decide) rfl rfl ?_
  refine zV.callV (n := 1) C G dL_law_1372 (s_maddOil hzs hst (lwH A (a + 280) h1) (a + 271) (60000 * k) g us sn off rs dt cs t o (xs (4 * k + 1)) R2 hR (by omega)) rfl ⟨cd_X10_addOil, lk_L_235, im_X10_addOil, se_X10_X10_addOil, in_X10⟩ ⟨⟨by decide, by decide⟩, by decide⟩ rfl (zRmL rfl (by omega) (by omega)) rfl R2.1.1 ⟨rfl, by decide⟩ (zafX (fun r3 h3 q3 => ?_)) (zno)
  obtain ⟨e0, e⟩ := q3
  have Sx := LSx_c isD_97 S p1 (zWr_H (A := A)) e
  have e1 : hI h3 435 (a + 271) = nI (anC A (fun Ex => if Ex = IAE then 1 else 2)) := by rw [eA]; exact e.1.trans (congrArg nI code_97.symm)
  have e0 : r3 = some (anV A (.int (nI 0))) := by rw [eA]; exact e0.trans (congrArg some chg_m.symm)
  obtain ⟨b, rfl, f1, f2⟩ := fct (d := nI 0) (ob := a + 280) (h1 := h1) ok.1 (fun Ex _ => cfn2 Ex) e0 e1 e.2.1.1.2.2.2.2.2.1
  exact zV.up (kc' := kc + 30) (ks' := ks + 5806) (by omega) (by omega) (L_tail hzs hst C G (p := 1375) dL_law_1375 dL_law_1377 dL_law_1378 dL_law_1381 dL_law_1383 dL_law_1388 dL_law_1390 dL_law_1393 dL_law_1394 dL_law_1395 dL_law_1396 dL_law_1398 dL_law_1399 dL_law_1400 dL_law_1405 (by decide) hc hs (LSx_r Sx) (LSx_ob Sx) f1 f2 (kk _ Sx))
set_option maxHeartbeats 4000000 in
set_option maxRecDepth 100000 in
/-- exists -/
theorem L_c18 {X : zX} {l : Launch} {E : zG} (hzs : zS E) (hst : l.stackTraces = false) (C : zC X cL_law RL 9) (G : zGX X l E room_1) {h : zH} {kc ks sq a k L : Nat} {xs : Nat → Int32} (T : zSc E sq L xs) (hk : k < 512) (hi : 4 * k + 4 ≤ L) (hL : L ≤ 2048) (hc : kc + 30 ≤ 604272) (hs : ks + 5806 ≤ 7174744) (S : lwSx a k h) (kk : ∀ h', lwSx a (k + 1) h' → zV X (kc + 30) (ks + 5806) h' 3182 [(0, .retAddr sq), (1, .ref a), (2, .ref (a + 271)), (3, .ref (a + 280)), (4, .ref (a + 281)), (5, .int (nI (4 * k)))] []) : zV X kc ks h 1408 [(0, .retAddr sq), (1, .ref a), (2, .ref (a + 271)), (3, .ref (a + 280)), (4, .ref (a + 281)), (5, .int (nI (4 * k)))] [] := by
  obtain ⟨g, us, sn, off, rs, dt, cs, t, o, S⟩ := S
  have hw := LS_W S hk
  have hb := LS_big hk
  have hR := S.2.2.2.1
  refine zV.aload_n C dL_law_1408 rfl rfl ?_
  refine zV.arg (p := 1409) C G T hi hL (c := 1) (by decide) dL_law_1409 dL_law_1410 dL_law_1412 dL_law_1413 dL_law_1414 (by decide) rfl rfl ?_
  refine zV.callV (n := 1) C G dL_law_1415 (s_exists hzs hst h a g (xs (4 * k + 1)) S.1.1.1 S.1.1.2.1.1 hw) rfl ⟨cd_X9_exists, lk_L_236, im_X9_exists, se_X9_X9_exists, in_X9⟩ ⟨⟨by decide, by decide⟩, by decide⟩ rfl (zRmL rfl (by omega) (by omega)) rfl S.1.1.1.1 ⟨rfl, by decide⟩ (zaf ?_) (zno)
  have R2 := LS_r S (zXf.refl h a (a + 282)) zWr_0
  refine zV.aload_n C dL_law_1418 rfl rfl ?_
  refine zV.arg (p := 1419) C G T hi hL (c := 1) (by decide) dL_law_1419 dL_law_1420 dL_law_1422 dL_law_1423 dL_law_1424 (by decide) rfl rfl ?_
  refine zV.callV (n := 1) C G dL_law_1425 (s_qexists hzs hst h (a + 271) (60000 * k) g R2.1 R2.2.1 hR.1 (by omega) (xs (4 * k + 1))) rfl ⟨cd_X10_exists, lk_L_239, im_X10_exists, se_X10_X10_exists, in_X10⟩ ⟨⟨by decide, by decide⟩, by decide⟩ rfl (zRmL rfl (by omega) (by omega)) rfl R2.1.1 ⟨rfl, by decide⟩ (zaf ?_) (zno)
  have Sx := LSx_q (v := nI 0) S zWr_0
  refine zV.icmp_eq (tgt := 3182) C dL_law_1428 (by decide) (fun _ => ?_) (fun z => absurd rfl z)
  exact zV.up (kc' := kc + 30) (ks' := ks + 5806) (by omega) (by omega) (kk _ Sx)
set_option maxHeartbeats 4000000 in
set_option maxRecDepth 100000 in
/-- lawnOf -/
theorem L_c19 {X : zX} {l : Launch} {E : zG} (hzs : zS E) (hst : l.stackTraces = false) (C : zC X cL_law RL 9) (G : zGX X l E room_1) {h : zH} {kc ks sq a k L : Nat} {xs : Nat → Int32} (T : zSc E sq L xs) (hk : k < 512) (hi : 4 * k + 4 ≤ L) (hL : L ≤ 2048) (hc : kc + 30 ≤ 604272) (hs : ks + 5806 ≤ 7174744) (S : lwSx a k h) (kk : ∀ h', lwSx a (k + 1) h' → zV X (kc + 30) (ks + 5806) h' 3182 [(0, .retAddr sq), (1, .ref a), (2, .ref (a + 271)), (3, .ref (a + 280)), (4, .ref (a + 281)), (5, .int (nI (4 * k)))] []) : zV X kc ks h 1433 [(0, .retAddr sq), (1, .ref a), (2, .ref (a + 271)), (3, .ref (a + 280)), (4, .ref (a + 281)), (5, .int (nI (4 * k)))] [] := by
  obtain ⟨g, us, sn, off, rs, dt, cs, t, o, S⟩ := S
  have hw := LS_W S hk
  have hb := LS_big hk
  have hR := S.2.2.2.1
  obtain ⟨A, eA⟩ : ∃ A : zAn, A = (chQ g (xs (4 * k + 1)) (fun _ c => .inr (.int (nI (chL c))))) := ⟨_, rfl⟩
  have ok : okA A (fun Ex => Ex = IOB) := by rw [eA]; exact okA_ch rfl (fun _ _ => okA_v)
  refine zV.aload_n C dL_law_1433 rfl rfl ?_
  refine zV.arg (p := 1434) C G T hi hL (c := 1) (by decide) dL_law_1434 dL_law_1435 dL_law_1437 dL_law_1438 dL_law_1439 (by decide) rfl rfl ?_
  refine zV.aload_n C dL_law_1440 rfl rfl ?_
  refine zV.callSW (n := 3) C G dL_law_1441 (s_LlawnOf hzs hst h a (a + 280) (xs (4 * k + 1)) A (fun h' => h' = h) (by rw [eA]; exact s_lawnOf hzs hst h a g (xs (4 * k + 1)) S.1.1.1 S.1.1.2.1.1 hw) S.1.1.1.1 (fun h1 e => by rw [show h1 = h from e]; exact S.2.1.1) ok.1 ok.2) rfl ⟨cd_L_lawnOf, lk_L_240, st_L_lawnOf, in_L⟩ ⟨⟨by decide, by decide⟩, by decide⟩ rfl (zRmL rfl (by omega) (by omega)) rfl (zafX (fun r2 h2 q2 => ?_)) (zno)
  obtain ⟨rfl, h1, p1, rfl⟩ := q2
  obtain rfl : h = h1 := Eq.symm p1
  show zV X (kc + 1) (ks + 6) (lwH A (a + 280) h) 1444 [(0, .retAddr sq), (1, .ref a), (2, .ref (a + 271)), (3, .ref (a + 280)), (4, .ref (a + 281)), (5, .int (nI (4 * k)))] [.int _]
  refine zV.istore (lo' := [(0, .retAddr sq), (1, .ref a), (2, .ref (a + 271)), (3, .ref (a + 280)), (4, .ref (a + 281)), (5, .int (nI (4 * k))), (6, _)]) C dL_law_1444 (by decide) rfl rfl rfl ?_
  have R2 := LS_r S (zXf.refl h a (a + 282)) (zWr_H (A := A))
  refine zV.aload_n C dL_law_1446 rfl rfl ?_
  refine zV.arg (p := 1447) C G T hi hL (c := 1) (by decide) dL_law_1447 dL_law_1448 dL_law_1450 dL_law_1451 dL_law_1452 (by decide) rfl rfl ?_
  refine zV.callV (n := 1) C G dL_law_1453 (s_qlawnOf hzs hst (lwH A (a + 280) h) (a + 271) (60000 * k) g R2.1 R2.2.1 hR.1 (by omega) (xs (4 * k + 1))) rfl ⟨cd_X10_lawnOf, lk_L_242, im_X10_lawnOf, se_X10_X10_lawnOf, in_X10⟩ ⟨⟨by decide, by decide⟩, by decide⟩ rfl (zRmL rfl (by omega) (by omega)) rfl R2.1.1 ⟨rfl, by decide⟩ (zafX (fun r3 h3 q3 => ?_)) (zno)
  have q3 : mqQ (lwH A (a + 280) h) (a + 271) A (fun Ex => 1) (.int (nI 0)) r3 h3 := by rw [eA] at q3 ⊢; exact q3
  obtain ⟨e0, rfl⟩ := q3
  have Sx := LSx_q (v := nI (anC A (fun Ex => 1))) S (zWr_H (A := A))
  obtain ⟨b, rfl, f1, f2⟩ := fct (d := nI 0) (ob := a + 280) (h1 := h) ok.1 (fun Ex _ => cfn1 Ex) e0 (hI_sI (h := (lwH A (a + 280) h))) rfl
  exact zV.up (kc' := kc + 30) (ks' := ks + 5806) (by omega) (by omega) (L_tail hzs hst C G (p := 1456) dL_law_1456 dL_law_1458 dL_law_1459 dL_law_1462 dL_law_1464 dL_law_1469 dL_law_1471 dL_law_1474 dL_law_1475 dL_law_1476 dL_law_1477 dL_law_1479 dL_law_1480 dL_law_1481 dL_law_1486 (by decide) hc hs (LSx_r Sx) (LSx_ob Sx) f1 f2 (kk _ Sx))
set_option maxHeartbeats 4000000 in
set_option maxRecDepth 100000 in
/-- rustOf -/
theorem L_c20 {X : zX} {l : Launch} {E : zG} (hzs : zS E) (hst : l.stackTraces = false) (C : zC X cL_law RL 9) (G : zGX X l E room_1) {h : zH} {kc ks sq a k L : Nat} {xs : Nat → Int32} (T : zSc E sq L xs) (hk : k < 512) (hi : 4 * k + 4 ≤ L) (hL : L ≤ 2048) (hc : kc + 30 ≤ 604272) (hs : ks + 5806 ≤ 7174744) (S : lwSx a k h) (kk : ∀ h', lwSx a (k + 1) h' → zV X (kc + 30) (ks + 5806) h' 3182 [(0, .retAddr sq), (1, .ref a), (2, .ref (a + 271)), (3, .ref (a + 280)), (4, .ref (a + 281)), (5, .int (nI (4 * k)))] []) : zV X kc ks h 1489 [(0, .retAddr sq), (1, .ref a), (2, .ref (a + 271)), (3, .ref (a + 280)), (4, .ref (a + 281)), (5, .int (nI (4 * k)))] [] := by
  obtain ⟨g, us, sn, off, rs, dt, cs, t, o, S⟩ := S
  have hw := LS_W S hk
  have hb := LS_big hk
  have hR := S.2.2.2.1
  obtain ⟨A, eA⟩ : ∃ A : zAn, A = (chQ g (xs (4 * k + 1)) (fun _ c => .inr (.int (nI (chR c))))) := ⟨_, rfl⟩
  have ok : okA A (fun Ex => Ex = IOB) := by rw [eA]; exact okA_ch rfl (fun _ _ => okA_v)
  refine zV.aload_n C dL_law_1489 rfl rfl ?_
  refine zV.arg (p := 1490) C G T hi hL (c := 1) (by decide) dL_law_1490 dL_law_1491 dL_law_1493 dL_law_1494 dL_law_1495 (by decide) rfl rfl ?_
  refine zV.aload_n C dL_law_1496 rfl rfl ?_
  refine zV.callSW (n := 3) C G dL_law_1497 (s_LrustOf hzs hst h a (a + 280) (xs (4 * k + 1)) A (fun h' => h' = h) (by rw [eA]; exact s_rustOf hzs hst h a g (xs (4 * k + 1)) S.1.1.1 S.1.1.2.1.1 hw) S.1.1.1.1 (fun h1 e => by rw [show h1 = h from e]; exact S.2.1.1) ok.1 ok.2) rfl ⟨cd_L_rustOf, lk_L_243, st_L_rustOf, in_L⟩ ⟨⟨by decide, by decide⟩, by decide⟩ rfl (zRmL rfl (by omega) (by omega)) rfl (zafX (fun r2 h2 q2 => ?_)) (zno)
  obtain ⟨rfl, h1, p1, rfl⟩ := q2
  obtain rfl : h = h1 := Eq.symm p1
  show zV X (kc + 1) (ks + 6) (lwH A (a + 280) h) 1500 [(0, .retAddr sq), (1, .ref a), (2, .ref (a + 271)), (3, .ref (a + 280)), (4, .ref (a + 281)), (5, .int (nI (4 * k)))] [.int _]
  refine zV.istore (lo' := [(0, .retAddr sq), (1, .ref a), (2, .ref (a + 271)), (3, .ref (a + 280)), (4, .ref (a + 281)), (5, .int (nI (4 * k))), (6, _)]) C dL_law_1500 (by decide) rfl rfl rfl ?_
  have R2 := LS_r S (zXf.refl h a (a + 282)) (zWr_H (A := A))
  refine zV.aload_n C dL_law_1502 rfl rfl ?_
  refine zV.arg (p := 1503) C G T hi hL (c := 1) (by decide) dL_law_1503 dL_law_1504 dL_law_1506 dL_law_1507 dL_law_1508 (by decide) rfl rfl ?_
  refine zV.callV (n := 1) C G dL_law_1509 (s_qrustOf hzs hst (lwH A (a + 280) h) (a + 271) (60000 * k) g R2.1 R2.2.1 hR.1 (by omega) (xs (4 * k + 1))) rfl ⟨cd_X10_rustOf, lk_L_245, im_X10_rustOf, se_X10_X10_rustOf, in_X10⟩ ⟨⟨by decide, by decide⟩, by decide⟩ rfl (zRmL rfl (by omega) (by omega)) rfl R2.1.1 ⟨rfl, by decide⟩ (zafX (fun r3 h3 q3 => ?_)) (zno)
  have q3 : mqQ (lwH A (a + 280) h) (a + 271) A (fun Ex => 1) (.int (nI 0)) r3 h3 := by rw [eA] at q3 ⊢; exact q3
  obtain ⟨e0, rfl⟩ := q3
  have Sx := LSx_q (v := nI (anC A (fun Ex => 1))) S (zWr_H (A := A))
  obtain ⟨b, rfl, f1, f2⟩ := fct (d := nI 0) (ob := a + 280) (h1 := h) ok.1 (fun Ex _ => cfn1 Ex) e0 (hI_sI (h := (lwH A (a + 280) h))) rfl
  exact zV.up (kc' := kc + 30) (ks' := ks + 5806) (by omega) (by omega) (L_tail hzs hst C G (p := 1512) dL_law_1512 dL_law_1514 dL_law_1515 dL_law_1518 dL_law_1520 dL_law_1525 dL_law_1527 dL_law_1530 dL_law_1531 dL_law_1532 dL_law_1533 dL_law_1535 dL_law_1536 dL_law_1537 dL_law_1542 (by decide) hc hs (LSx_r Sx) (LSx_ob Sx) f1 f2 (kk _ Sx))
set_option maxHeartbeats 4000000 in
set_option maxRecDepth 100000 in
/-- isFolded -/
theorem L_c21 {X : zX} {l : Launch} {E : zG} (hzs : zS E) (hst : l.stackTraces = false) (C : zC X cL_law RL 9) (G : zGX X l E room_1) {h : zH} {kc ks sq a k L : Nat} {xs : Nat → Int32} (T : zSc E sq L xs) (hk : k < 512) (hi : 4 * k + 4 ≤ L) (hL : L ≤ 2048) (hc : kc + 30 ≤ 604272) (hs : ks + 5806 ≤ 7174744) (S : lwSx a k h) (kk : ∀ h', lwSx a (k + 1) h' → zV X (kc + 30) (ks + 5806) h' 3182 [(0, .retAddr sq), (1, .ref a), (2, .ref (a + 271)), (3, .ref (a + 280)), (4, .ref (a + 281)), (5, .int (nI (4 * k)))] []) : zV X kc ks h 1545 [(0, .retAddr sq), (1, .ref a), (2, .ref (a + 271)), (3, .ref (a + 280)), (4, .ref (a + 281)), (5, .int (nI (4 * k)))] [] := by
  obtain ⟨g, us, sn, off, rs, dt, cs, t, o, S⟩ := S
  have hw := LS_W S hk
  have hb := LS_big hk
  have hR := S.2.2.2.1
  obtain ⟨A, eA⟩ : ∃ A : zAn, A = (chQ g (xs (4 * k + 1)) (fun _ c => .inr (.int (nI (b2 (chF c)))))) := ⟨_, rfl⟩
  have ok : okA A (fun Ex => Ex = IOB) := by rw [eA]; exact okA_ch rfl (fun _ _ => okA_v)
  refine zV.aload_n C dL_law_1545 rfl rfl ?_
  refine zV.arg (p := 1546) C G T hi hL (c := 1) (by decide) dL_law_1546 dL_law_1547 dL_law_1549 dL_law_1550 dL_law_1551 (by decide) rfl rfl ?_
  refine zV.aload_n C dL_law_1552 rfl rfl ?_
  refine zV.callSW (n := 3) C G dL_law_1553 (s_LisFolded hzs hst h a (a + 280) (xs (4 * k + 1)) A (fun h' => h' = h) (by rw [eA]; exact s_isFolded hzs hst h a g (xs (4 * k + 1)) S.1.1.1 S.1.1.2.1.1 hw) S.1.1.1.1 (fun h1 e => by rw [show h1 = h from e]; exact S.2.1.1) ok.1 ok.2) rfl ⟨cd_L_isFolded, lk_L_246, st_L_isFolded, in_L⟩ ⟨⟨by decide, by decide⟩, by decide⟩ rfl (zRmL rfl (by omega) (by omega)) rfl (zafX (fun r2 h2 q2 => ?_)) (zno)
  obtain ⟨rfl, h1, p1, rfl⟩ := q2
  obtain rfl : h = h1 := Eq.symm p1
  show zV X (kc + 1) (ks + 6) (lwHB A (a + 280) h) 1556 [(0, .retAddr sq), (1, .ref a), (2, .ref (a + 271)), (3, .ref (a + 280)), (4, .ref (a + 281)), (5, .int (nI (4 * k)))] [.int _]
  refine zV.istore (lo' := [(0, .retAddr sq), (1, .ref a), (2, .ref (a + 271)), (3, .ref (a + 280)), (4, .ref (a + 281)), (5, .int (nI (4 * k))), (6, _)]) C dL_law_1556 (by decide) rfl rfl rfl ?_
  have R2 := LS_r S (zXf.refl h a (a + 282)) (zWr_HB (A := A))
  refine zV.aload_n C dL_law_1558 rfl rfl ?_
  refine zV.arg (p := 1559) C G T hi hL (c := 1) (by decide) dL_law_1559 dL_law_1560 dL_law_1562 dL_law_1563 dL_law_1564 (by decide) rfl rfl ?_
  refine zV.callV (n := 1) C G dL_law_1565 (s_qisFolded hzs hst (lwHB A (a + 280) h) (a + 271) (60000 * k) g R2.1 R2.2.1 hR.1 (by omega) (xs (4 * k + 1))) rfl ⟨cd_X10_isFolded, lk_L_248, im_X10_isFolded, se_X10_X10_isFolded, in_X10⟩ ⟨⟨by decide, by decide⟩, by decide⟩ rfl (zRmL rfl (by omega) (by omega)) rfl R2.1.1 ⟨rfl, by decide⟩ (zafX (fun r3 h3 q3 => ?_)) (zno)
  have q3 : mqQ (lwHB A (a + 280) h) (a + 271) A (fun Ex => 1) (.int (nI 0)) r3 h3 := by rw [eA] at q3 ⊢; exact q3
  obtain ⟨e0, rfl⟩ := q3
  have Sx := LSx_q (v := nI (anC A (fun Ex => 1))) S (zWr_HB (A := A))
  obtain ⟨b, rfl, f1, f2⟩ := fctB (d := nI 0) (ob := a + 280) (h1 := h) ok.1 (fun Ex _ => cfn1 Ex) e0 (hI_sI (h := (lwHB A (a + 280) h))) rfl
  exact zV.up (kc' := kc + 30) (ks' := ks + 5806) (by omega) (by omega) (L_tailB hzs hst C G (p := 1568) dL_law_1568 dL_law_1570 dL_law_1571 dL_law_1574 dL_law_1576 dL_law_1581 dL_law_1583 dL_law_1586 dL_law_1587 dL_law_1588 dL_law_1589 dL_law_1591 dL_law_1594 dL_law_1595 dL_law_1598 dL_law_1599 dL_law_1600 dL_law_1605 (by decide) hc hs (LSx_r Sx) (LSx_ob Sx) f1 f2 (kk _ Sx))
set_option maxHeartbeats 4000000 in
set_option maxRecDepth 100000 in
/-- ageOf -/
theorem L_c22 {X : zX} {l : Launch} {E : zG} (hzs : zS E) (hst : l.stackTraces = false) (C : zC X cL_law RL 9) (G : zGX X l E room_1) {h : zH} {kc ks sq a k L : Nat} {xs : Nat → Int32} (T : zSc E sq L xs) (hk : k < 512) (hi : 4 * k + 4 ≤ L) (hL : L ≤ 2048) (hc : kc + 30 ≤ 604272) (hs : ks + 5806 ≤ 7174744) (S : lwSx a k h) (kk : ∀ h', lwSx a (k + 1) h' → zV X (kc + 30) (ks + 5806) h' 3182 [(0, .retAddr sq), (1, .ref a), (2, .ref (a + 271)), (3, .ref (a + 280)), (4, .ref (a + 281)), (5, .int (nI (4 * k)))] []) : zV X kc ks h 1608 [(0, .retAddr sq), (1, .ref a), (2, .ref (a + 271)), (3, .ref (a + 280)), (4, .ref (a + 281)), (5, .int (nI (4 * k)))] [] := by
  obtain ⟨g, us, sn, off, rs, dt, cs, t, o, S⟩ := S
  have hw := LS_W S hk
  have hb := LS_big hk
  have hR := S.2.2.2.1
  obtain ⟨A, eA⟩ : ∃ A : zAn, A = (chQ g (xs (4 * k + 1)) (fun _ c => .inr (.int (nI (gD g - chD c))))) := ⟨_, rfl⟩
  have ok : okA A (fun Ex => Ex = IOB) := by rw [eA]; exact okA_ch rfl (fun _ _ => okA_v)
  refine zV.aload_n C dL_law_1608 rfl rfl ?_
  refine zV.arg (p := 1609) C G T hi hL (c := 1) (by decide) dL_law_1609 dL_law_1610 dL_law_1612 dL_law_1613 dL_law_1614 (by decide) rfl rfl ?_
  refine zV.aload_n C dL_law_1615 rfl rfl ?_
  refine zV.callSW (n := 3) C G dL_law_1616 (s_LageOf hzs hst h a (a + 280) (xs (4 * k + 1)) A (fun h' => h' = h) (by rw [eA]; exact s_ageOf hzs hst h a g (xs (4 * k + 1)) S.1.1.1 S.1.1.2.1.1 hw) S.1.1.1.1 (fun h1 e => by rw [show h1 = h from e]; exact S.2.1.1) ok.1 ok.2) rfl ⟨cd_L_ageOf, lk_L_249, st_L_ageOf, in_L⟩ ⟨⟨by decide, by decide⟩, by decide⟩ rfl (zRmL rfl (by omega) (by omega)) rfl (zafX (fun r2 h2 q2 => ?_)) (zno)
  obtain ⟨rfl, h1, p1, rfl⟩ := q2
  obtain rfl : h = h1 := Eq.symm p1
  show zV X (kc + 1) (ks + 6) (lwH A (a + 280) h) 1619 [(0, .retAddr sq), (1, .ref a), (2, .ref (a + 271)), (3, .ref (a + 280)), (4, .ref (a + 281)), (5, .int (nI (4 * k)))] [.int _]
  refine zV.istore (lo' := [(0, .retAddr sq), (1, .ref a), (2, .ref (a + 271)), (3, .ref (a + 280)), (4, .ref (a + 281)), (5, .int (nI (4 * k))), (6, _)]) C dL_law_1619 (by decide) rfl rfl rfl ?_
  have R2 := LS_r S (zXf.refl h a (a + 282)) (zWr_H (A := A))
  refine zV.aload_n C dL_law_1621 rfl rfl ?_
  refine zV.arg (p := 1622) C G T hi hL (c := 1) (by decide) dL_law_1622 dL_law_1623 dL_law_1625 dL_law_1626 dL_law_1627 (by decide) rfl rfl ?_
  refine zV.callV (n := 1) C G dL_law_1628 (s_qageOf hzs hst (lwH A (a + 280) h) (a + 271) (60000 * k) g R2.1 R2.2.1 hR.1 (by omega) (xs (4 * k + 1))) rfl ⟨cd_X10_ageOf, lk_L_251, im_X10_ageOf, se_X10_X10_ageOf, in_X10⟩ ⟨⟨by decide, by decide⟩, by decide⟩ rfl (zRmL rfl (by omega) (by omega)) rfl R2.1.1 ⟨rfl, by decide⟩ (zafX (fun r3 h3 q3 => ?_)) (zno)
  have q3 : mqQ (lwH A (a + 280) h) (a + 271) A (fun Ex => 1) (.int (nI 0)) r3 h3 := by rw [eA] at q3 ⊢; exact q3
  obtain ⟨e0, rfl⟩ := q3
  have Sx := LSx_q (v := nI (anC A (fun Ex => 1))) S (zWr_H (A := A))
  obtain ⟨b, rfl, f1, f2⟩ := fct (d := nI 0) (ob := a + 280) (h1 := h) ok.1 (fun Ex _ => cfn1 Ex) e0 (hI_sI (h := (lwH A (a + 280) h))) rfl
  exact zV.up (kc' := kc + 30) (ks' := ks + 5806) (by omega) (by omega) (L_tail hzs hst C G (p := 1631) dL_law_1631 dL_law_1633 dL_law_1634 dL_law_1637 dL_law_1639 dL_law_1644 dL_law_1646 dL_law_1649 dL_law_1650 dL_law_1651 dL_law_1652 dL_law_1654 dL_law_1655 dL_law_1656 dL_law_1661 (by decide) hc hs (LSx_r Sx) (LSx_ob Sx) f1 f2 (kk _ Sx))
set_option maxHeartbeats 4000000 in
set_option maxRecDepth 100000 in
/-- positionOf -/
theorem L_c23 {X : zX} {l : Launch} {E : zG} (hzs : zS E) (hst : l.stackTraces = false) (C : zC X cL_law RL 9) (G : zGX X l E room_1) {h : zH} {kc ks sq a k L : Nat} {xs : Nat → Int32} (T : zSc E sq L xs) (hk : k < 512) (hi : 4 * k + 4 ≤ L) (hL : L ≤ 2048) (hc : kc + 30 ≤ 604272) (hs : ks + 5806 ≤ 7174744) (S : lwSx a k h) (kk : ∀ h', lwSx a (k + 1) h' → zV X (kc + 30) (ks + 5806) h' 3182 [(0, .retAddr sq), (1, .ref a), (2, .ref (a + 271)), (3, .ref (a + 280)), (4, .ref (a + 281)), (5, .int (nI (4 * k)))] []) : zV X kc ks h 1664 [(0, .retAddr sq), (1, .ref a), (2, .ref (a + 271)), (3, .ref (a + 280)), (4, .ref (a + 281)), (5, .int (nI (4 * k)))] [] := by
  obtain ⟨g, us, sn, off, rs, dt, cs, t, o, S⟩ := S
  have hw := LS_W S hk
  have hb := LS_big hk
  have hR := S.2.2.2.1
  obtain ⟨A, eA⟩ : ∃ A : zAn, A = (chQ g (xs (4 * k + 1)) (fun k c => .inr (.int (nI (hsz ((gC g).take k) (chL c)))))) := ⟨_, rfl⟩
  have ok : okA A (fun Ex => Ex = IOB) := by rw [eA]; exact okA_ch rfl (fun _ _ => okA_v)
  refine zV.aload_n C dL_law_1664 rfl rfl ?_
  refine zV.arg (p := 1665) C G T hi hL (c := 1) (by decide) dL_law_1665 dL_law_1666 dL_law_1668 dL_law_1669 dL_law_1670 (by decide) rfl rfl ?_
  refine zV.aload_n C dL_law_1671 rfl rfl ?_
  refine zV.callSW (n := 3) C G dL_law_1672 (s_LpositionOf hzs hst h a (a + 280) (xs (4 * k + 1)) A (fun h' => h' = h) (by rw [eA]; exact s_positionOf hzs hst h a g (xs (4 * k + 1)) S.1.1.1 S.1.1.2.1.1 hw) S.1.1.1.1 (fun h1 e => by rw [show h1 = h from e]; exact S.2.1.1) ok.1 ok.2) rfl ⟨cd_L_positionOf, lk_L_252, st_L_positionOf, in_L⟩ ⟨⟨by decide, by decide⟩, by decide⟩ rfl (zRmL rfl (by omega) (by omega)) rfl (zafX (fun r2 h2 q2 => ?_)) (zno)
  obtain ⟨rfl, h1, p1, rfl⟩ := q2
  obtain rfl : h = h1 := Eq.symm p1
  show zV X (kc + 1) (ks + 6) (lwH A (a + 280) h) 1675 [(0, .retAddr sq), (1, .ref a), (2, .ref (a + 271)), (3, .ref (a + 280)), (4, .ref (a + 281)), (5, .int (nI (4 * k)))] [.int _]
  refine zV.istore (lo' := [(0, .retAddr sq), (1, .ref a), (2, .ref (a + 271)), (3, .ref (a + 280)), (4, .ref (a + 281)), (5, .int (nI (4 * k))), (6, _)]) C dL_law_1675 (by decide) rfl rfl rfl ?_
  have R2 := LS_r S (zXf.refl h a (a + 282)) (zWr_H (A := A))
  refine zV.aload_n C dL_law_1677 rfl rfl ?_
  refine zV.arg (p := 1678) C G T hi hL (c := 1) (by decide) dL_law_1678 dL_law_1679 dL_law_1681 dL_law_1682 dL_law_1683 (by decide) rfl rfl ?_
  refine zV.callV (n := 1) C G dL_law_1684 (s_qpositionOf hzs hst (lwH A (a + 280) h) (a + 271) (60000 * k) g R2.1 R2.2.1 hR.1 (by omega) (xs (4 * k + 1))) rfl ⟨cd_X10_positionOf, lk_L_254, im_X10_positionOf, se_X10_X10_positionOf, in_X10⟩ ⟨⟨by decide, by decide⟩, by decide⟩ rfl (zRmL rfl (by omega) (by omega)) rfl R2.1.1 ⟨rfl, by decide⟩ (zafX (fun r3 h3 q3 => ?_)) (zno)
  have q3 : mqQ (lwH A (a + 280) h) (a + 271) A (fun Ex => 1) (.int (nI 0)) r3 h3 := by rw [eA] at q3 ⊢; exact q3
  obtain ⟨e0, rfl⟩ := q3
  have Sx := LSx_q (v := nI (anC A (fun Ex => 1))) S (zWr_H (A := A))
  obtain ⟨b, rfl, f1, f2⟩ := fct (d := nI 0) (ob := a + 280) (h1 := h) ok.1 (fun Ex _ => cfn1 Ex) e0 (hI_sI (h := (lwH A (a + 280) h))) rfl
  exact zV.up (kc' := kc + 30) (ks' := ks + 5806) (by omega) (by omega) (L_tail hzs hst C G (p := 1687) dL_law_1687 dL_law_1689 dL_law_1690 dL_law_1693 dL_law_1695 dL_law_1700 dL_law_1702 dL_law_1705 dL_law_1706 dL_law_1707 dL_law_1708 dL_law_1710 dL_law_1711 dL_law_1712 dL_law_1717 (by decide) hc hs (LSx_r Sx) (LSx_ob Sx) f1 f2 (kk _ Sx))
set_option maxHeartbeats 4000000 in
set_option maxRecDepth 100000 in
/-- herdSize -/
theorem L_c24 {X : zX} {l : Launch} {E : zG} (hzs : zS E) (hst : l.stackTraces = false) (C : zC X cL_law RL 9) (G : zGX X l E room_1) {h : zH} {kc ks sq a k L : Nat} {xs : Nat → Int32} (T : zSc E sq L xs) (hk : k < 512) (hi : 4 * k + 4 ≤ L) (hL : L ≤ 2048) (hc : kc + 30 ≤ 604272) (hs : ks + 5806 ≤ 7174744) (S : lwSx a k h) (kk : ∀ h', lwSx a (k + 1) h' → zV X (kc + 30) (ks + 5806) h' 3182 [(0, .retAddr sq), (1, .ref a), (2, .ref (a + 271)), (3, .ref (a + 280)), (4, .ref (a + 281)), (5, .int (nI (4 * k)))] []) : zV X kc ks h 1720 [(0, .retAddr sq), (1, .ref a), (2, .ref (a + 271)), (3, .ref (a + 280)), (4, .ref (a + 281)), (5, .int (nI (4 * k)))] [] := by
  obtain ⟨g, us, sn, off, rs, dt, cs, t, o, S⟩ := S
  have hw := LS_W S hk
  have hb := LS_big hk
  have hR := S.2.2.2.1
  obtain ⟨A, eA⟩ : ∃ A : zAn, A = (lawA (xs (4 * k + 1)) (fun i => .inr (.int (nI (hsz (gC g) i))))) := ⟨_, rfl⟩
  have ok : okA A (fun Ex => Ex = IOB) := by rw [eA]; exact okA_law rfl (fun i => okA_v)
  refine zV.aload_n C dL_law_1720 rfl rfl ?_
  refine zV.arg (p := 1721) C G T hi hL (c := 1) (by decide) dL_law_1721 dL_law_1722 dL_law_1724 dL_law_1725 dL_law_1726 (by decide) rfl rfl ?_
  refine zV.aload_n C dL_law_1727 rfl rfl ?_
  refine zV.callSW (n := 3) C G dL_law_1728 (s_LherdSize hzs hst h a (a + 280) (xs (4 * k + 1)) A (fun h' => h' = h) (by rw [eA]; exact s_herdSize hzs hst h a g (xs (4 * k + 1)) S.1.1.1 S.1.1.2.1.1 hw) S.1.1.1.1 (fun h1 e => by rw [show h1 = h from e]; exact S.2.1.1) ok.1 ok.2) rfl ⟨cd_L_herdSize, lk_L_255, st_L_herdSize, in_L⟩ ⟨⟨by decide, by decide⟩, by decide⟩ rfl (zRmL rfl (by omega) (by omega)) rfl (zafX (fun r2 h2 q2 => ?_)) (zno)
  obtain ⟨rfl, h1, p1, rfl⟩ := q2
  obtain rfl : h = h1 := Eq.symm p1
  show zV X (kc + 1) (ks + 6) (lwH A (a + 280) h) 1731 [(0, .retAddr sq), (1, .ref a), (2, .ref (a + 271)), (3, .ref (a + 280)), (4, .ref (a + 281)), (5, .int (nI (4 * k)))] [.int _]
  refine zV.istore (lo' := [(0, .retAddr sq), (1, .ref a), (2, .ref (a + 271)), (3, .ref (a + 280)), (4, .ref (a + 281)), (5, .int (nI (4 * k))), (6, _)]) C dL_law_1731 (by decide) rfl rfl rfl ?_
  have R2 := LS_r S (zXf.refl h a (a + 282)) (zWr_H (A := A))
  refine zV.aload_n C dL_law_1733 rfl rfl ?_
  refine zV.arg (p := 1734) C G T hi hL (c := 1) (by decide) dL_law_1734 dL_law_1735 dL_law_1737 dL_law_1738 dL_law_1739 (by decide) rfl rfl ?_
  refine zV.callV (n := 1) C G dL_law_1740 (s_qherdSize hzs hst (lwH A (a + 280) h) (a + 271) (60000 * k) g R2.1 R2.2.1 hR.1 (by omega) (xs (4 * k + 1))) rfl ⟨cd_X10_herdSize, lk_L_257, im_X10_herdSize, se_X10_X10_herdSize, in_X10⟩ ⟨⟨by decide, by decide⟩, by decide⟩ rfl (zRmL rfl (by omega) (by omega)) rfl R2.1.1 ⟨rfl, by decide⟩ (zafX (fun r3 h3 q3 => ?_)) (zno)
  have q3 : mqQ (lwH A (a + 280) h) (a + 271) A (fun Ex => 1) (.int (nI 0)) r3 h3 := by rw [eA] at q3 ⊢; exact q3
  obtain ⟨e0, rfl⟩ := q3
  have Sx := LSx_q (v := nI (anC A (fun Ex => 1))) S (zWr_H (A := A))
  obtain ⟨b, rfl, f1, f2⟩ := fct (d := nI 0) (ob := a + 280) (h1 := h) ok.1 (fun Ex _ => cfn1 Ex) e0 (hI_sI (h := (lwH A (a + 280) h))) rfl
  exact zV.up (kc' := kc + 30) (ks' := ks + 5806) (by omega) (by omega) (L_tail hzs hst C G (p := 1743) dL_law_1743 dL_law_1745 dL_law_1746 dL_law_1749 dL_law_1751 dL_law_1756 dL_law_1758 dL_law_1761 dL_law_1762 dL_law_1763 dL_law_1764 dL_law_1766 dL_law_1767 dL_law_1768 dL_law_1773 (by decide) hc hs (LSx_r Sx) (LSx_ob Sx) f1 f2 (kk _ Sx))
set_option maxHeartbeats 4000000 in
set_option maxRecDepth 100000 in
/-- herdSizeByChairs -/
theorem L_c25 {X : zX} {l : Launch} {E : zG} (hzs : zS E) (hst : l.stackTraces = false) (C : zC X cL_law RL 9) (G : zGX X l E room_1) {h : zH} {kc ks sq a k L : Nat} {xs : Nat → Int32} (T : zSc E sq L xs) (hk : k < 512) (hi : 4 * k + 4 ≤ L) (hL : L ≤ 2048) (hc : kc + 30 ≤ 604272) (hs : ks + 5806 ≤ 7174744) (S : lwSx a k h) (kk : ∀ h', lwSx a (k + 1) h' → zV X (kc + 30) (ks + 5806) h' 3182 [(0, .retAddr sq), (1, .ref a), (2, .ref (a + 271)), (3, .ref (a + 280)), (4, .ref (a + 281)), (5, .int (nI (4 * k)))] []) : zV X kc ks h 1776 [(0, .retAddr sq), (1, .ref a), (2, .ref (a + 271)), (3, .ref (a + 280)), (4, .ref (a + 281)), (5, .int (nI (4 * k)))] [] := by
  obtain ⟨g, us, sn, off, rs, dt, cs, t, o, S⟩ := S
  have hw := LS_W S hk
  have hb := LS_big hk
  have hR := S.2.2.2.1
  obtain ⟨A, eA⟩ : ∃ A : zAn, A = (lawA (xs (4 * k + 1)) (fun i => .inr (.int (nI (hsz (gC g) i))))) := ⟨_, rfl⟩
  have ok : okA A (fun Ex => Ex = IOB) := by rw [eA]; exact okA_law rfl (fun i => okA_v)
  refine zV.aload_n C dL_law_1776 rfl rfl ?_
  refine zV.arg (p := 1777) C G T hi hL (c := 1) (by decide) dL_law_1777 dL_law_1778 dL_law_1780 dL_law_1781 dL_law_1782 (by decide) rfl rfl ?_
  refine zV.aload_n C dL_law_1783 rfl rfl ?_
  refine zV.callSW (n := 3) C G dL_law_1784 (s_LherdSizeByChairs hzs hst h a (a + 280) (xs (4 * k + 1)) A (fun h' => h' = h) (by rw [eA]; exact s_herdSizeByChairs hzs hst h a g (xs (4 * k + 1)) S.1.1.1 S.1.1.2.1.1 hw) S.1.1.1.1 (fun h1 e => by rw [show h1 = h from e]; exact S.2.1.1) ok.1 ok.2) rfl ⟨cd_L_herdSizeByChairs, lk_L_258, st_L_herdSizeByChairs, in_L⟩ ⟨⟨by decide, by decide⟩, by decide⟩ rfl (zRmL rfl (by omega) (by omega)) rfl (zafX (fun r2 h2 q2 => ?_)) (zno)
  obtain ⟨rfl, h1, p1, rfl⟩ := q2
  obtain rfl : h = h1 := Eq.symm p1
  show zV X (kc + 1) (ks + 6) (lwH A (a + 280) h) 1787 [(0, .retAddr sq), (1, .ref a), (2, .ref (a + 271)), (3, .ref (a + 280)), (4, .ref (a + 281)), (5, .int (nI (4 * k)))] [.int _]
  refine zV.istore (lo' := [(0, .retAddr sq), (1, .ref a), (2, .ref (a + 271)), (3, .ref (a + 280)), (4, .ref (a + 281)), (5, .int (nI (4 * k))), (6, _)]) C dL_law_1787 (by decide) rfl rfl rfl ?_
  have R2 := LS_r S (zXf.refl h a (a + 282)) (zWr_H (A := A))
  refine zV.aload_n C dL_law_1789 rfl rfl ?_
  refine zV.arg (p := 1790) C G T hi hL (c := 1) (by decide) dL_law_1790 dL_law_1791 dL_law_1793 dL_law_1794 dL_law_1795 (by decide) rfl rfl ?_
  refine zV.callV (n := 1) C G dL_law_1796 (s_qherdSizeByChairs hzs hst (lwH A (a + 280) h) (a + 271) (60000 * k) g R2.1 R2.2.1 hR.1 (by omega) (xs (4 * k + 1))) rfl ⟨cd_X10_herdSizeByChairs, lk_L_260, im_X10_herdSizeByChairs, se_X10_X10_herdSizeByChairs, in_X10⟩ ⟨⟨by decide, by decide⟩, by decide⟩ rfl (zRmL rfl (by omega) (by omega)) rfl R2.1.1 ⟨rfl, by decide⟩ (zafX (fun r3 h3 q3 => ?_)) (zno)
  have q3 : mqQ (lwH A (a + 280) h) (a + 271) A (fun Ex => 1) (.int (nI 0)) r3 h3 := by rw [eA] at q3 ⊢; exact q3
  obtain ⟨e0, rfl⟩ := q3
  have Sx := LSx_q (v := nI (anC A (fun Ex => 1))) S (zWr_H (A := A))
  obtain ⟨b, rfl, f1, f2⟩ := fct (d := nI 0) (ob := a + 280) (h1 := h) ok.1 (fun Ex _ => cfn1 Ex) e0 (hI_sI (h := (lwH A (a + 280) h))) rfl
  exact zV.up (kc' := kc + 30) (ks' := ks + 5806) (by omega) (by omega) (L_tail hzs hst C G (p := 1799) dL_law_1799 dL_law_1801 dL_law_1802 dL_law_1805 dL_law_1807 dL_law_1812 dL_law_1814 dL_law_1817 dL_law_1818 dL_law_1819 dL_law_1820 dL_law_1822 dL_law_1823 dL_law_1824 dL_law_1829 (by decide) hc hs (LSx_r Sx) (LSx_ob Sx) f1 f2 (kk _ Sx))
set_option maxHeartbeats 4000000 in
set_option maxRecDepth 100000 in
/-- chairAt -/
theorem L_c26 {X : zX} {l : Launch} {E : zG} (hzs : zS E) (hst : l.stackTraces = false) (C : zC X cL_law RL 9) (G : zGX X l E room_1) {h : zH} {kc ks sq a k L : Nat} {xs : Nat → Int32} (T : zSc E sq L xs) (hk : k < 512) (hi : 4 * k + 4 ≤ L) (hL : L ≤ 2048) (hc : kc + 30 ≤ 604272) (hs : ks + 5806 ≤ 7174744) (S : lwSx a k h) (kk : ∀ h', lwSx a (k + 1) h' → zV X (kc + 30) (ks + 5806) h' 3182 [(0, .retAddr sq), (1, .ref a), (2, .ref (a + 271)), (3, .ref (a + 280)), (4, .ref (a + 281)), (5, .int (nI (4 * k)))] []) : zV X kc ks h 1832 [(0, .retAddr sq), (1, .ref a), (2, .ref (a + 271)), (3, .ref (a + 280)), (4, .ref (a + 281)), (5, .int (nI (4 * k)))] [] := by
  obtain ⟨g, us, sn, off, rs, dt, cs, t, o, S⟩ := S
  have hw := LS_W S hk
  have hb := LS_big hk
  have hR := S.2.2.2.1
  obtain ⟨A, eA⟩ : ∃ A : zAn, A = (lawA (xs (4 * k + 1)) (fun i => elA (idO (gC g) (fdH i (xs (4 * k + 2)) (gC g) 0 0)))) := ⟨_, rfl⟩
  have ok : okA A (fun Ex => Ex = IOB ∨ Ex = NSE) := by rw [eA]; exact okA_law (Or.inl rfl) (fun i => okA_el (Or.inr rfl))
  refine zV.aload_n C dL_law_1832 rfl rfl ?_
  refine zV.arg (p := 1833) C G T hi hL (c := 1) (by decide) dL_law_1833 dL_law_1834 dL_law_1836 dL_law_1837 dL_law_1838 (by decide) rfl rfl ?_
  refine zV.arg (p := 1839) C G T hi hL (c := 2) (by decide) dL_law_1839 dL_law_1840 dL_law_1842 dL_law_1843 dL_law_1844 (by decide) rfl rfl ?_
  refine zV.aload_n C dL_law_1845 rfl rfl ?_
  refine zV.callSW (n := 4) C G dL_law_1846 (s_LchairAt hzs hst h a (a + 280) (xs (4 * k + 1)) (xs (4 * k + 2)) A (fun h' => h' = h) (by rw [eA]; exact s_chairAt hzs hst h a g (xs (4 * k + 1)) (xs (4 * k + 2)) S.1.1.1 S.1.1.2.1.1 hw) S.1.1.1.1 (fun h1 e => by rw [show h1 = h from e]; exact S.2.1.1) ok.1 ok.2) rfl ⟨cd_L_chairAt, lk_L_261, st_L_chairAt, in_L⟩ ⟨⟨by decide, by decide⟩, by decide⟩ rfl (zRmL rfl (by omega) (by omega)) rfl (zafX (fun r2 h2 q2 => ?_)) (zno)
  obtain ⟨rfl, h1, p1, rfl⟩ := q2
  obtain rfl : h = h1 := Eq.symm p1
  show zV X (kc + 2) (ks + 12) (lwH A (a + 280) h) 1849 [(0, .retAddr sq), (1, .ref a), (2, .ref (a + 271)), (3, .ref (a + 280)), (4, .ref (a + 281)), (5, .int (nI (4 * k)))] [.int _]
  refine zV.istore (lo' := [(0, .retAddr sq), (1, .ref a), (2, .ref (a + 271)), (3, .ref (a + 280)), (4, .ref (a + 281)), (5, .int (nI (4 * k))), (6, _)]) C dL_law_1849 (by decide) rfl rfl rfl ?_
  have R2 := LS_r S (zXf.refl h a (a + 282)) (zWr_H (A := A))
  refine zV.aload_n C dL_law_1851 rfl rfl ?_
  refine zV.arg (p := 1852) C G T hi hL (c := 1) (by decide) dL_law_1852 dL_law_1853 dL_law_1855 dL_law_1856 dL_law_1857 (by decide) rfl rfl ?_
  refine zV.arg (p := 1858) C G T hi hL (c := 2) (by decide) dL_law_1858 dL_law_1859 dL_law_1861 dL_law_1862 dL_law_1863 (by decide) rfl rfl ?_
  refine zV.callV (n := 2) C G dL_law_1864 (s_qchairAt hzs hst (lwH A (a + 280) h) (a + 271) (60000 * k) g R2.1 R2.2.1 hR.1 (by omega) (xs (4 * k + 1)) (xs (4 * k + 2))) rfl ⟨cd_X10_chairAt, lk_L_263, im_X10_chairAt, se_X10_X10_chairAt, in_X10⟩ ⟨⟨by decide, by decide⟩, by decide⟩ rfl (zRmL rfl (by omega) (by omega)) rfl R2.1.1 ⟨rfl, by decide⟩ (zafX (fun r3 h3 q3 => ?_)) (zno)
  have q3 : mqQ (lwH A (a + 280) h) (a + 271) A (fun Ex => if Ex = IOB then 1 else 2) (.int (nI 0)) r3 h3 := by rw [eA] at q3 ⊢; exact q3
  obtain ⟨e0, rfl⟩ := q3
  have Sx := LSx_q (v := nI (anC A (fun Ex => if Ex = IOB then 1 else 2))) S (zWr_H (A := A))
  obtain ⟨b, rfl, f1, f2⟩ := fct (d := nI 0) (ob := a + 280) (h1 := h) ok.1 (fun Ex _ => cfn2 Ex) e0 (hI_sI (h := (lwH A (a + 280) h))) rfl
  exact zV.up (kc' := kc + 30) (ks' := ks + 5806) (by omega) (by omega) (L_tail hzs hst C G (p := 1867) dL_law_1867 dL_law_1869 dL_law_1870 dL_law_1873 dL_law_1875 dL_law_1880 dL_law_1882 dL_law_1885 dL_law_1886 dL_law_1887 dL_law_1888 dL_law_1890 dL_law_1891 dL_law_1892 dL_law_1897 (by decide) hc hs (LSx_r Sx) (LSx_ob Sx) f1 f2 (kk _ Sx))
set_option maxHeartbeats 4000000 in
set_option maxRecDepth 100000 in
/-- elderOf -/
theorem L_c27 {X : zX} {l : Launch} {E : zG} (hzs : zS E) (hst : l.stackTraces = false) (C : zC X cL_law RL 9) (G : zGX X l E room_1) {h : zH} {kc ks sq a k L : Nat} {xs : Nat → Int32} (T : zSc E sq L xs) (hk : k < 512) (hi : 4 * k + 4 ≤ L) (hL : L ≤ 2048) (hc : kc + 30 ≤ 604272) (hs : ks + 5806 ≤ 7174744) (S : lwSx a k h) (kk : ∀ h', lwSx a (k + 1) h' → zV X (kc + 30) (ks + 5806) h' 3182 [(0, .retAddr sq), (1, .ref a), (2, .ref (a + 271)), (3, .ref (a + 280)), (4, .ref (a + 281)), (5, .int (nI (4 * k)))] []) : zV X kc ks h 1900 [(0, .retAddr sq), (1, .ref a), (2, .ref (a + 271)), (3, .ref (a + 280)), (4, .ref (a + 281)), (5, .int (nI (4 * k)))] [] := by
  obtain ⟨g, us, sn, off, rs, dt, cs, t, o, S⟩ := S
  have hw := LS_W S hk
  have hb := LS_big hk
  have hR := S.2.2.2.1
  obtain ⟨A, eA⟩ : ∃ A : zAn, A = (lawA (xs (4 * k + 1)) (fun i => elA (eldI (eldF i (gC g) 0 none)))) := ⟨_, rfl⟩
  have ok : okA A (fun Ex => Ex = IOB ∨ Ex = NSE) := by rw [eA]; exact okA_law (Or.inl rfl) (fun i => okA_el (Or.inr rfl))
  refine zV.aload_n C dL_law_1900 rfl rfl ?_
  refine zV.arg (p := 1901) C G T hi hL (c := 1) (by decide) dL_law_1901 dL_law_1902 dL_law_1904 dL_law_1905 dL_law_1906 (by decide) rfl rfl ?_
  refine zV.aload_n C dL_law_1907 rfl rfl ?_
  refine zV.callSW (n := 3) C G dL_law_1908 (s_LelderOf hzs hst h a (a + 280) (xs (4 * k + 1)) A (fun h' => h' = h) (by rw [eA]; exact s_elderOf hzs hst h a g (xs (4 * k + 1)) S.1.1.1 S.1.1.2.1.1 hw) S.1.1.1.1 (fun h1 e => by rw [show h1 = h from e]; exact S.2.1.1) ok.1 ok.2) rfl ⟨cd_L_elderOf, lk_L_264, st_L_elderOf, in_L⟩ ⟨⟨by decide, by decide⟩, by decide⟩ rfl (zRmL rfl (by omega) (by omega)) rfl (zafX (fun r2 h2 q2 => ?_)) (zno)
  obtain ⟨rfl, h1, p1, rfl⟩ := q2
  obtain rfl : h = h1 := Eq.symm p1
  show zV X (kc + 2) (ks + 12) (lwH A (a + 280) h) 1911 [(0, .retAddr sq), (1, .ref a), (2, .ref (a + 271)), (3, .ref (a + 280)), (4, .ref (a + 281)), (5, .int (nI (4 * k)))] [.int _]
  refine zV.istore (lo' := [(0, .retAddr sq), (1, .ref a), (2, .ref (a + 271)), (3, .ref (a + 280)), (4, .ref (a + 281)), (5, .int (nI (4 * k))), (6, _)]) C dL_law_1911 (by decide) rfl rfl rfl ?_
  have R2 := LS_r S (zXf.refl h a (a + 282)) (zWr_H (A := A))
  refine zV.aload_n C dL_law_1913 rfl rfl ?_
  refine zV.arg (p := 1914) C G T hi hL (c := 1) (by decide) dL_law_1914 dL_law_1915 dL_law_1917 dL_law_1918 dL_law_1919 (by decide) rfl rfl ?_
  refine zV.callV (n := 1) C G dL_law_1920 (s_qelderOf hzs hst (lwH A (a + 280) h) (a + 271) (60000 * k) g R2.1 R2.2.1 hR.1 (by omega) (xs (4 * k + 1))) rfl ⟨cd_X10_elderOf, lk_L_266, im_X10_elderOf, se_X10_X10_elderOf, in_X10⟩ ⟨⟨by decide, by decide⟩, by decide⟩ rfl (zRmL rfl (by omega) (by omega)) rfl R2.1.1 ⟨rfl, by decide⟩ (zafX (fun r3 h3 q3 => ?_)) (zno)
  have q3 : mqQ (lwH A (a + 280) h) (a + 271) A (fun Ex => if Ex = IOB then 1 else 2) (.int (nI 0)) r3 h3 := by rw [eA] at q3 ⊢; exact q3
  obtain ⟨e0, rfl⟩ := q3
  have Sx := LSx_q (v := nI (anC A (fun Ex => if Ex = IOB then 1 else 2))) S (zWr_H (A := A))
  obtain ⟨b, rfl, f1, f2⟩ := fct (d := nI 0) (ob := a + 280) (h1 := h) ok.1 (fun Ex _ => cfn2 Ex) e0 (hI_sI (h := (lwH A (a + 280) h))) rfl
  exact zV.up (kc' := kc + 30) (ks' := ks + 5806) (by omega) (by omega) (L_tail hzs hst C G (p := 1923) dL_law_1923 dL_law_1925 dL_law_1926 dL_law_1929 dL_law_1931 dL_law_1936 dL_law_1938 dL_law_1941 dL_law_1942 dL_law_1943 dL_law_1944 dL_law_1946 dL_law_1947 dL_law_1948 dL_law_1953 (by decide) hc hs (LSx_r Sx) (LSx_ob Sx) f1 f2 (kk _ Sx))
set_option maxHeartbeats 4000000 in
set_option maxRecDepth 100000 in
/-- hungryChairs -/
theorem L_c28 {X : zX} {l : Launch} {E : zG} (hzs : zS E) (hst : l.stackTraces = false) (C : zC X cL_law RL 9) (G : zGX X l E room_1) {h : zH} {kc ks sq a k L : Nat} {xs : Nat → Int32} (T : zSc E sq L xs) (hk : k < 512) (hi : 4 * k + 4 ≤ L) (hL : L ≤ 2048) (hc : kc + 30 ≤ 604272) (hs : ks + 5806 ≤ 7174744) (S : lwSx a k h) (kk : ∀ h', lwSx a (k + 1) h' → zV X (kc + 30) (ks + 5806) h' 3182 [(0, .retAddr sq), (1, .ref a), (2, .ref (a + 271)), (3, .ref (a + 280)), (4, .ref (a + 281)), (5, .int (nI (4 * k)))] []) : zV X kc ks h 1956 [(0, .retAddr sq), (1, .ref a), (2, .ref (a + 271)), (3, .ref (a + 280)), (4, .ref (a + 281)), (5, .int (nI (4 * k)))] [] := by
  obtain ⟨g, us, sn, off, rs, dt, cs, t, o, S⟩ := S
  have hw := LS_W S hk
  have hb := LS_big hk
  have hR := S.2.2.2.1
  obtain ⟨A, eA⟩ : ∃ A : zAn, A = (lawA (xs (4 * k + 1)) (fun i => .inr (.int (nI ((gC g).countP (chGr i) - gS g i))))) := ⟨_, rfl⟩
  have ok : okA A (fun Ex => Ex = IOB) := by rw [eA]; exact okA_law rfl (fun i => okA_v)
  refine zV.aload_n C dL_law_1956 rfl rfl ?_
  refine zV.arg (p := 1957) C G T hi hL (c := 1) (by decide) dL_law_1957 dL_law_1958 dL_law_1960 dL_law_1961 dL_law_1962 (by decide) rfl rfl ?_
  refine zV.aload_n C dL_law_1963 rfl rfl ?_
  refine zV.callSW (n := 3) C G dL_law_1964 (s_LhungryChairs hzs hst h a (a + 280) (xs (4 * k + 1)) A (fun h' => h' = h) (by rw [eA]; exact s_hungryChairs hzs hst h a g (xs (4 * k + 1)) S.1.1.1 S.1.1.2.1.1 hw) S.1.1.1.1 (fun h1 e => by rw [show h1 = h from e]; exact S.2.1.1) ok.1 ok.2) rfl ⟨cd_L_hungryChairs, lk_L_267, st_L_hungryChairs, in_L⟩ ⟨⟨by decide, by decide⟩, by decide⟩ rfl (zRmL rfl (by omega) (by omega)) rfl (zafX (fun r2 h2 q2 => ?_)) (zno)
  obtain ⟨rfl, h1, p1, rfl⟩ := q2
  obtain rfl : h = h1 := Eq.symm p1
  show zV X (kc + 1) (ks + 6) (lwH A (a + 280) h) 1967 [(0, .retAddr sq), (1, .ref a), (2, .ref (a + 271)), (3, .ref (a + 280)), (4, .ref (a + 281)), (5, .int (nI (4 * k)))] [.int _]
  refine zV.istore (lo' := [(0, .retAddr sq), (1, .ref a), (2, .ref (a + 271)), (3, .ref (a + 280)), (4, .ref (a + 281)), (5, .int (nI (4 * k))), (6, _)]) C dL_law_1967 (by decide) rfl rfl rfl ?_
  have R2 := LS_r S (zXf.refl h a (a + 282)) (zWr_H (A := A))
  refine zV.aload_n C dL_law_1969 rfl rfl ?_
  refine zV.arg (p := 1970) C G T hi hL (c := 1) (by decide) dL_law_1970 dL_law_1971 dL_law_1973 dL_law_1974 dL_law_1975 (by decide) rfl rfl ?_
  refine zV.callV (n := 1) C G dL_law_1976 (s_qhungryChairs hzs hst (lwH A (a + 280) h) (a + 271) (60000 * k) g R2.1 R2.2.1 hR.1 (by omega) (xs (4 * k + 1))) rfl ⟨cd_X10_hungryChairs, lk_L_269, im_X10_hungryChairs, se_X10_X10_hungryChairs, in_X10⟩ ⟨⟨by decide, by decide⟩, by decide⟩ rfl (zRmL rfl (by omega) (by omega)) rfl R2.1.1 ⟨rfl, by decide⟩ (zafX (fun r3 h3 q3 => ?_)) (zno)
  have q3 : mqQ (lwH A (a + 280) h) (a + 271) A (fun Ex => 1) (.int (nI 0)) r3 h3 := by rw [eA] at q3 ⊢; exact q3
  obtain ⟨e0, rfl⟩ := q3
  have Sx := LSx_q (v := nI (anC A (fun Ex => 1))) S (zWr_H (A := A))
  obtain ⟨b, rfl, f1, f2⟩ := fct (d := nI 0) (ob := a + 280) (h1 := h) ok.1 (fun Ex _ => cfn1 Ex) e0 (hI_sI (h := (lwH A (a + 280) h))) rfl
  exact zV.up (kc' := kc + 30) (ks' := ks + 5806) (by omega) (by omega) (L_tail hzs hst C G (p := 1979) dL_law_1979 dL_law_1981 dL_law_1982 dL_law_1985 dL_law_1987 dL_law_1992 dL_law_1994 dL_law_1997 dL_law_1998 dL_law_1999 dL_law_2000 dL_law_2002 dL_law_2003 dL_law_2004 dL_law_2009 (by decide) hc hs (LSx_r Sx) (LSx_ob Sx) f1 f2 (kk _ Sx))
set_option maxHeartbeats 4000000 in
set_option maxRecDepth 100000 in
/-- bestNeighbour -/
theorem L_c29 {X : zX} {l : Launch} {E : zG} (hzs : zS E) (hst : l.stackTraces = false) (C : zC X cL_law RL 9) (G : zGX X l E room_1) {h : zH} {kc ks sq a k L : Nat} {xs : Nat → Int32} (T : zSc E sq L xs) (hk : k < 512) (hi : 4 * k + 4 ≤ L) (hL : L ≤ 2048) (hc : kc + 30 ≤ 604272) (hs : ks + 5806 ≤ 7174744) (S : lwSx a k h) (kk : ∀ h', lwSx a (k + 1) h' → zV X (kc + 30) (ks + 5806) h' 3182 [(0, .retAddr sq), (1, .ref a), (2, .ref (a + 271)), (3, .ref (a + 280)), (4, .ref (a + 281)), (5, .int (nI (4 * k)))] []) : zV X kc ks h 2012 [(0, .retAddr sq), (1, .ref a), (2, .ref (a + 271)), (3, .ref (a + 280)), (4, .ref (a + 281)), (5, .int (nI (4 * k)))] [] := by
  obtain ⟨g, us, sn, off, rs, dt, cs, t, o, S⟩ := S
  have hw := LS_W S hk
  have hb := LS_big hk
  have hR := S.2.2.2.1
  obtain ⟨A, eA⟩ : ∃ A : zAn, A = (lawA (xs (4 * k + 1)) (fun i => elA (oI (bnF g i 6 0 none)))) := ⟨_, rfl⟩
  have ok : okA A (fun Ex => Ex = IOB ∨ Ex = NSE) := by rw [eA]; exact okA_law (Or.inl rfl) (fun i => okA_el (Or.inr rfl))
  refine zV.aload_n C dL_law_2012 rfl rfl ?_
  refine zV.arg (p := 2013) C G T hi hL (c := 1) (by decide) dL_law_2013 dL_law_2014 dL_law_2016 dL_law_2017 dL_law_2018 (by decide) rfl rfl ?_
  refine zV.aload_n C dL_law_2019 rfl rfl ?_
  refine zV.callSW (n := 3) C G dL_law_2020 (s_LbestNeighbour hzs hst h a (a + 280) (xs (4 * k + 1)) A (fun h' => h' = h) (by rw [eA]; exact s_bestNeighbour hzs hst h a g (xs (4 * k + 1)) S.1.1.1 S.1.1.2.1.1 hw) S.1.1.1.1 (fun h1 e => by rw [show h1 = h from e]; exact S.2.1.1) ok.1 ok.2) rfl ⟨cd_L_bestNeighbour, lk_L_270, st_L_bestNeighbour, in_L⟩ ⟨⟨by decide, by decide⟩, by decide⟩ rfl (zRmL rfl (by omega) (by omega)) rfl (zafX (fun r2 h2 q2 => ?_)) (zno)
  obtain ⟨rfl, h1, p1, rfl⟩ := q2
  obtain rfl : h = h1 := Eq.symm p1
  show zV X (kc + 2) (ks + 12) (lwH A (a + 280) h) 2023 [(0, .retAddr sq), (1, .ref a), (2, .ref (a + 271)), (3, .ref (a + 280)), (4, .ref (a + 281)), (5, .int (nI (4 * k)))] [.int _]
  refine zV.istore (lo' := [(0, .retAddr sq), (1, .ref a), (2, .ref (a + 271)), (3, .ref (a + 280)), (4, .ref (a + 281)), (5, .int (nI (4 * k))), (6, _)]) C dL_law_2023 (by decide) rfl rfl rfl ?_
  have R2 := LS_r S (zXf.refl h a (a + 282)) (zWr_H (A := A))
  refine zV.aload_n C dL_law_2025 rfl rfl ?_
  refine zV.arg (p := 2026) C G T hi hL (c := 1) (by decide) dL_law_2026 dL_law_2027 dL_law_2029 dL_law_2030 dL_law_2031 (by decide) rfl rfl ?_
  refine zV.callV (n := 1) C G dL_law_2032 (s_qbestNeighbour hzs hst (lwH A (a + 280) h) (a + 271) (60000 * k) g R2.1 R2.2.1 hR.1 (by omega) (xs (4 * k + 1))) rfl ⟨cd_X10_bestNeighbour, lk_L_272, im_X10_bestNeighbour, se_X10_X10_bestNeighbour, in_X10⟩ ⟨⟨by decide, by decide⟩, by decide⟩ rfl (zRmL rfl (by omega) (by omega)) rfl R2.1.1 ⟨rfl, by decide⟩ (zafX (fun r3 h3 q3 => ?_)) (zno)
  have q3 : mqQ (lwH A (a + 280) h) (a + 271) A (fun Ex => if Ex = IOB then 1 else 2) (.int (nI 0)) r3 h3 := by rw [eA] at q3 ⊢; exact q3
  obtain ⟨e0, rfl⟩ := q3
  have Sx := LSx_q (v := nI (anC A (fun Ex => if Ex = IOB then 1 else 2))) S (zWr_H (A := A))
  obtain ⟨b, rfl, f1, f2⟩ := fct (d := nI 0) (ob := a + 280) (h1 := h) ok.1 (fun Ex _ => cfn2 Ex) e0 (hI_sI (h := (lwH A (a + 280) h))) rfl
  exact zV.up (kc' := kc + 30) (ks' := ks + 5806) (by omega) (by omega) (L_tail hzs hst C G (p := 2035) dL_law_2035 dL_law_2037 dL_law_2038 dL_law_2041 dL_law_2043 dL_law_2048 dL_law_2050 dL_law_2053 dL_law_2054 dL_law_2055 dL_law_2056 dL_law_2058 dL_law_2059 dL_law_2060 dL_law_2065 (by decide) hc hs (LSx_r Sx) (LSx_ob Sx) f1 f2 (kk _ Sx))
set_option maxHeartbeats 4000000 in
set_option maxRecDepth 100000 in
/-- passDays -/
theorem L_c30 {X : zX} {l : Launch} {E : zG} (hzs : zS E) (hst : l.stackTraces = false) (C : zC X cL_law RL 9) (G : zGX X l E room_1) {h : zH} {kc ks sq a k L : Nat} {xs : Nat → Int32} (T : zSc E sq L xs) (hk : k < 512) (hi : 4 * k + 4 ≤ L) (hL : L ≤ 2048) (hc : kc + 30 ≤ 604272) (hs : ks + 5806 ≤ 7174744) (S : lwSx a k h) (kk : ∀ h', lwSx a (k + 1) h' → zV X (kc + 30) (ks + 5806) h' 3182 [(0, .retAddr sq), (1, .ref a), (2, .ref (a + 271)), (3, .ref (a + 280)), (4, .ref (a + 281)), (5, .int (nI (4 * k)))] []) : zV X kc ks h 2068 [(0, .retAddr sq), (1, .ref a), (2, .ref (a + 271)), (3, .ref (a + 280)), (4, .ref (a + 281)), (5, .int (nI (4 * k)))] [] := by
  obtain ⟨g, us, sn, off, rs, dt, cs, t, o, S⟩ := S
  have hw := LS_W S hk
  have hb := LS_big hk
  have hR := S.2.2.2.1
  obtain ⟨A, eA⟩ : ∃ A : zAn, A = chgA g 100 (xs (4 * k + 1)) 0 := ⟨_, rfl⟩
  have ok : okA A (fun Ex => Ex = IAE) := by rw [eA]; exact okA_chg isD_100 (fun z => absurd z jd_100_1) (fun _ => rfl) (fun z => absurd z jd_100_3)
  refine zV.aload_n C dL_law_2068 rfl rfl ?_
  refine zV.arg (p := 2069) C G T hi hL (c := 1) (by decide) dL_law_2069 dL_law_2070 dL_law_2072 dL_law_2073 dL_law_2074 (by decide) rfl rfl ?_
  refine zV.aload_n C dL_law_2075 rfl rfl ?_
  refine zV.callSW (n := 3) C G dL_law_2076 (s_LpassDays hzs hst h a (a + 280) (xs (4 * k + 1)) A (chgP h a (a + 282) 100 (xs (4 * k + 1)) 0 g us sn off rs dt cs t o) (by rw [eA]; exact s_passDays hzs hst h a (a + 282) (60000 * k) (xs (4 * k + 1)) g us sn off rs dt cs t o S.1.1 hR.1 (by omega)) S.1.1.1.1 (fun h1 p => LS_ob S p.1) ok.1 ok.2) rfl ⟨cd_L_passDays, lk_L_273, st_L_passDays, in_L⟩ ⟨⟨by decide, by decide⟩, by decide⟩ rfl (zRmL rfl (by omega) (by omega)) rfl (zafX (fun r2 h2 q2 => ?_)) (zno)
  obtain ⟨rfl, h1, p1, rfl⟩ := q2
  show zV X (kc + 1) (ks + 6) (lwH A (a + 280) h1) 2079 [(0, .retAddr sq), (1, .ref a), (2, .ref (a + 271)), (3, .ref (a + 280)), (4, .ref (a + 281)), (5, .int (nI (4 * k)))] [.int _]
  refine zV.istore (lo' := [(0, .retAddr sq), (1, .ref a), (2, .ref (a + 271)), (3, .ref (a + 280)), (4, .ref (a + 281)), (5, .int (nI (4 * k))), (6, _)]) C dL_law_2079 (by decide) rfl rfl rfl ?_
  have R2 := LS_r S p1.1 (zWr_H (A := A))
  refine zV.aload_n C dL_law_2081 rfl rfl ?_
  refine zV.arg (p := 2082) C G T hi hL (c := 1) (by decide) dL_law_2082 dL_law_2083 dL_law_2085 dL_law_2086 dL_law_2087 (by decide) rfl rfl ?_
  refine zV.callV (n := 1) C G dL_law_2088 (s_mpassDays hzs hst (lwH A (a + 280) h1) (a + 271) (60000 * k) g us sn off rs dt cs t o (xs (4 * k + 1)) R2 hR (by omega)) rfl ⟨cd_X10_passDays, lk_L_275, im_X10_passDays, se_X10_X10_passDays, in_X10⟩ ⟨⟨by decide, by decide⟩, by decide⟩ rfl (zRmL rfl (by omega) (by omega)) rfl R2.1.1 ⟨rfl, by decide⟩ (zafX (fun r3 h3 q3 => ?_)) (zno)
  obtain ⟨e0, e⟩ := q3
  have Sx := LSx_c isD_100 S p1 (zWr_H (A := A)) e
  have e1 : hI h3 435 (a + 271) = nI (anC A (fun Ex => 1)) := by rw [eA]; exact e.1.trans (congrArg nI code_100.symm)
  have e0 : r3 = some (anV A (.int (nI 0))) := by rw [eA]; exact e0.trans (congrArg some chg_m.symm)
  obtain ⟨b, rfl, f1, f2⟩ := fct (d := nI 0) (ob := a + 280) (h1 := h1) ok.1 (fun Ex _ => cfn1 Ex) e0 e1 e.2.1.1.2.2.2.2.2.1
  exact zV.up (kc' := kc + 30) (ks' := ks + 5806) (by omega) (by omega) (L_tail hzs hst C G (p := 2091) dL_law_2091 dL_law_2093 dL_law_2094 dL_law_2097 dL_law_2099 dL_law_2104 dL_law_2106 dL_law_2109 dL_law_2110 dL_law_2111 dL_law_2112 dL_law_2114 dL_law_2115 dL_law_2116 dL_law_2121 (by decide) hc hs (LSx_r Sx) (LSx_ob Sx) f1 f2 (kk _ Sx))
set_option maxHeartbeats 4000000 in
set_option maxRecDepth 100000 in
/-- day -/
theorem L_c31 {X : zX} {l : Launch} {E : zG} (hzs : zS E) (hst : l.stackTraces = false) (C : zC X cL_law RL 9) (G : zGX X l E room_1) {h : zH} {kc ks sq a k L : Nat} {xs : Nat → Int32} (T : zSc E sq L xs) (hk : k < 512) (hi : 4 * k + 4 ≤ L) (hL : L ≤ 2048) (hc : kc + 30 ≤ 604272) (hs : ks + 5806 ≤ 7174744) (S : lwSx a k h) (kk : ∀ h', lwSx a (k + 1) h' → zV X (kc + 30) (ks + 5806) h' 3182 [(0, .retAddr sq), (1, .ref a), (2, .ref (a + 271)), (3, .ref (a + 280)), (4, .ref (a + 281)), (5, .int (nI (4 * k)))] []) : zV X kc ks h 2124 [(0, .retAddr sq), (1, .ref a), (2, .ref (a + 271)), (3, .ref (a + 280)), (4, .ref (a + 281)), (5, .int (nI (4 * k)))] [] := by
  obtain ⟨g, us, sn, off, rs, dt, cs, t, o, S⟩ := S
  have hw := LS_W S hk
  have hb := LS_big hk
  have hR := S.2.2.2.1
  refine zV.aload_n C dL_law_2124 rfl rfl ?_
  refine zV.callV (n := 0) C G dL_law_2125 (s_day hzs hst h a g S.1.1.1 S.1.1.2.1.1 hw) rfl ⟨cd_X9_day, lk_L_276, im_X9_day, se_X9_X9_day, in_X9⟩ ⟨⟨by decide, by decide⟩, by decide⟩ rfl (zRmL rfl (by omega) (by omega)) rfl S.1.1.1.1 ⟨rfl, by decide⟩ (zaf ?_) (zno)
  have R2 := LS_r S (zXf.refl h a (a + 282)) zWr_0
  refine zV.aload_n C dL_law_2128 rfl rfl ?_
  refine zV.callV (n := 0) C G dL_law_2129 (s_qday hzs hst h (a + 271) (60000 * k) g R2.1 R2.2.1 hR.1 (by omega)) rfl ⟨cd_X10_day, lk_L_279, im_X10_day, se_X10_X10_day, in_X10⟩ ⟨⟨by decide, by decide⟩, by decide⟩ rfl (zRmL rfl (by omega) (by omega)) rfl R2.1.1 ⟨rfl, by decide⟩ (zaf ?_) (zno)
  have Sx := LSx_q (v := nI 0) S zWr_0
  refine zV.icmp_eq (tgt := 3182) C dL_law_2132 (by decide) (fun _ => ?_) (fun z => absurd rfl z)
  exact zV.up (kc' := kc + 30) (ks' := ks + 5806) (by omega) (by omega) (kk _ Sx)
