/-! the law, call by call -/
theorem isD_97 : isD 97 := by unfold isD; decide
theorem isD_99 : isD 99 := by unfold isD; decide
theorem isD_100 : isD 100 := by unfold isD; decide
theorem isD_102 : isD 102 := by unfold isD; decide
theorem isD_103 : isD 103 := by unfold isD; decide
theorem isD_104 : isD 104 := by unfold isD; decide
theorem isD_109 : isD 109 := by unfold isD; decide
theorem isD_111 : isD 111 := by unfold isD; decide
theorem isD_112 : isD 112 := by unfold isD; decide
theorem isD_113 : isD 113 := by unfold isD; decide
theorem isD_115 : isD 115 := by unfold isD; decide
theorem isD_117 : isD 117 := by unfold isD; decide
set_option maxHeartbeats 4000000 in
set_option maxRecDepth 100000 in
/-- addPath -/
theorem L_c0 {X : zX} {l : Launch} {E : zG} (hzs : zS E) (hst : l.stackTraces = false) (C : zC X cL_law RL 9) (G : zGX X l E room_1) {h : zH} {kc ks sq a k L : Nat} {xs : Nat → Int32} (T : zSc E sq L xs) (hk : k < 512) (hi : 4 * k + 4 ≤ L) (hL : L ≤ 2048) (hc : kc + 30 ≤ 604272) (hs : ks + 5806 ≤ 7174744) (S : lwSx a k h) (kk : ∀ h', lwSx a (k + 1) h' → zV X (kc + 30) (ks + 5806) h' 3182 [(0, .retAddr sq), (1, .ref a), (2, .ref (a + 271)), (3, .ref (a + 280)), (4, .ref (a + 281)), (5, .int (nI (4 * k)))] []) : zV X kc ks h 304 [(0, .retAddr sq), (1, .ref a), (2, .ref (a + 271)), (3, .ref (a + 280)), (4, .ref (a + 281)), (5, .int (nI (4 * k)))] [] := by
  obtain ⟨g, us, sn, off, rs, dt, cs, t, o, S⟩ := S
  have hw := LS_W S hk
  have hb := LS_big hk
  have hR := S.2.2.2.1
  obtain ⟨A, eA⟩ : ∃ A : zAn, A = chgA g 112 (xs (4 * k + 1)) (xs (4 * k + 2)) := ⟨_, rfl⟩
  have ok : okA A (fun Ex => Ex = IOB ∨ Ex = IAE ∨ Ex = UOE) := by rw [eA]; exact okA_chg isD_112 (fun _ => (Or.inl rfl)) (fun _ => (Or.inr (Or.inl rfl))) (fun _ => (Or.inr (Or.inr rfl)))
  refine zV.aload_n C dL_law_304 rfl rfl ?_
  refine zV.arg (p := 305) C G T hi hL (c := 1) (by decide) dL_law_305 dL_law_306 dL_law_308 dL_law_309 dL_law_310 (by decide) rfl rfl ?_
  refine zV.arg (p := 311) C G T hi hL (c := 2) (by decide) dL_law_311 dL_law_312 dL_law_314 dL_law_315 dL_law_316 (by decide) rfl rfl ?_
  refine zV.aload_n C dL_law_317 rfl rfl ?_
  refine zV.callSW (n := 4) C G dL_law_318 (s_LaddPath hzs hst h a (a + 280) (xs (4 * k + 1)) (xs (4 * k + 2)) A (chgP h a (a + 282) 112 (xs (4 * k + 1)) (xs (4 * k + 2)) g us sn off rs dt cs t o) (by rw [eA]; exact s_addPath hzs hst h a (a + 282) (60000 * k) (xs (4 * k + 1)) (xs (4 * k + 2)) g us sn off rs dt cs t o S.1.1 hR.1 (by omega)) S.1.1.1.1 (fun h1 p => LS_ob S p.1) ok.1 ok.2) rfl ⟨cd_L_addPath, lk_L_173, st_L_addPath, in_L⟩ ⟨⟨by decide, by decide⟩, by decide⟩ rfl (zRmL rfl (by omega) (by omega)) rfl (zafX (fun r2 h2 q2 => ?_)) (zno)
  obtain ⟨rfl, h1, p1, rfl⟩ := q2
  show zV X (kc + 1) (ks + 6) (lwH A (a + 280) h1) 321 [(0, .retAddr sq), (1, .ref a), (2, .ref (a + 271)), (3, .ref (a + 280)), (4, .ref (a + 281)), (5, .int (nI (4 * k)))] [.int _]
  refine zV.istore (lo' := [(0, .retAddr sq), (1, .ref a), (2, .ref (a + 271)), (3, .ref (a + 280)), (4, .ref (a + 281)), (5, .int (nI (4 * k))), (6, _)]) C dL_law_321 (by decide) rfl rfl rfl ?_
  have R2 := LS_r S p1.1 (zWr_H (A := A))
  refine zV.aload_n C dL_law_323 rfl rfl ?_
  refine zV.arg (p := 324) C G T hi hL (c := 1) (by decide) dL_law_324 dL_law_325 dL_law_327 dL_law_328 dL_law_329 (by decide) rfl rfl ?_
  refine zV.arg (p := 330) C G T hi hL (c := 2) (by decide) dL_law_330 dL_law_331 dL_law_333 dL_law_334 dL_law_335 (by decide) rfl rfl ?_
  refine zV.callV (n := 2) C G dL_law_336 (s_maddPath hzs hst (lwH A (a + 280) h1) (a + 271) (60000 * k) g us sn off rs dt cs t o (xs (4 * k + 1)) (xs (4 * k + 2)) R2 hR (by omega)) rfl ⟨cd_X10_addPath, lk_L_178, im_X10_addPath, se_X10_X10_addPath, in_X10⟩ ⟨⟨by decide, by decide⟩, by decide⟩ rfl (zRmL rfl (by omega) (by omega)) rfl R2.1.1 ⟨rfl, by decide⟩ (zafX (fun r3 h3 q3 => ?_)) (zno)
  obtain ⟨e0, e⟩ := q3
  have Sx := LSx_c isD_112 S p1 (zWr_H (A := A)) e
  have e1 : hI h3 435 (a + 271) = nI (anC A (fun Ex => if Ex = IOB then 1 else if Ex = IAE then 2 else 3)) := by rw [eA]; exact e.1.trans (congrArg nI code_112.symm)
  have e0 : r3 = some (anV A (.int (nI 0))) := by rw [eA]; exact e0.trans (congrArg some chg_m.symm)
  obtain ⟨b, rfl, f1, f2⟩ := fct (d := nI 0) (ob := a + 280) (h1 := h1) ok.1 (fun Ex _ => cfn3 Ex) e0 e1 e.2.1.1.2.2.2.2.2.1
  exact zV.up (kc' := kc + 30) (ks' := ks + 5806) (by omega) (by omega) (L_tail hzs hst C G (p := 339) dL_law_339 dL_law_341 dL_law_342 dL_law_345 dL_law_347 dL_law_352 dL_law_354 dL_law_357 dL_law_358 dL_law_359 dL_law_360 dL_law_362 dL_law_363 dL_law_364 dL_law_369 (by decide) hc hs (LSx_r Sx) (LSx_ob Sx) f1 f2 (kk _ Sx))
set_option maxHeartbeats 4000000 in
set_option maxRecDepth 100000 in
/-- removePath -/
theorem L_c1 {X : zX} {l : Launch} {E : zG} (hzs : zS E) (hst : l.stackTraces = false) (C : zC X cL_law RL 9) (G : zGX X l E room_1) {h : zH} {kc ks sq a k L : Nat} {xs : Nat → Int32} (T : zSc E sq L xs) (hk : k < 512) (hi : 4 * k + 4 ≤ L) (hL : L ≤ 2048) (hc : kc + 30 ≤ 604272) (hs : ks + 5806 ≤ 7174744) (S : lwSx a k h) (kk : ∀ h', lwSx a (k + 1) h' → zV X (kc + 30) (ks + 5806) h' 3182 [(0, .retAddr sq), (1, .ref a), (2, .ref (a + 271)), (3, .ref (a + 280)), (4, .ref (a + 281)), (5, .int (nI (4 * k)))] []) : zV X kc ks h 372 [(0, .retAddr sq), (1, .ref a), (2, .ref (a + 271)), (3, .ref (a + 280)), (4, .ref (a + 281)), (5, .int (nI (4 * k)))] [] := by
  obtain ⟨g, us, sn, off, rs, dt, cs, t, o, S⟩ := S
  have hw := LS_W S hk
  have hb := LS_big hk
  have hR := S.2.2.2.1
  obtain ⟨A, eA⟩ : ∃ A : zAn, A = chgA g 113 (xs (4 * k + 1)) (xs (4 * k + 2)) := ⟨_, rfl⟩
  have ok : okA A (fun Ex => Ex = IOB ∨ Ex = IAE ∨ Ex = UOE) := by rw [eA]; exact okA_chg isD_113 (fun _ => (Or.inl rfl)) (fun _ => (Or.inr (Or.inl rfl))) (fun _ => (Or.inr (Or.inr rfl)))
  refine zV.aload_n C dL_law_372 rfl rfl ?_
  refine zV.arg (p := 373) C G T hi hL (c := 1) (by decide) dL_law_373 dL_law_374 dL_law_376 dL_law_377 dL_law_378 (by decide) rfl rfl ?_
  refine zV.arg (p := 379) C G T hi hL (c := 2) (by decide) dL_law_379 dL_law_380 dL_law_382 dL_law_383 dL_law_384 (by decide) rfl rfl ?_
  refine zV.aload_n C dL_law_385 rfl rfl ?_
  refine zV.callSW (n := 4) C G dL_law_386 (s_LremovePath hzs hst h a (a + 280) (xs (4 * k + 1)) (xs (4 * k + 2)) A (chgP h a (a + 282) 113 (xs (4 * k + 1)) (xs (4 * k + 2)) g us sn off rs dt cs t o) (by rw [eA]; exact s_removePath hzs hst h a (a + 282) (60000 * k) (xs (4 * k + 1)) (xs (4 * k + 2)) g us sn off rs dt cs t o S.1.1 hR.1 (by omega)) S.1.1.1.1 (fun h1 p => LS_ob S p.1) ok.1 ok.2) rfl ⟨cd_L_removePath, lk_L_182, st_L_removePath, in_L⟩ ⟨⟨by decide, by decide⟩, by decide⟩ rfl (zRmL rfl (by omega) (by omega)) rfl (zafX (fun r2 h2 q2 => ?_)) (zno)
  obtain ⟨rfl, h1, p1, rfl⟩ := q2
  show zV X (kc + 1) (ks + 6) (lwH A (a + 280) h1) 389 [(0, .retAddr sq), (1, .ref a), (2, .ref (a + 271)), (3, .ref (a + 280)), (4, .ref (a + 281)), (5, .int (nI (4 * k)))] [.int _]
  refine zV.istore (lo' := [(0, .retAddr sq), (1, .ref a), (2, .ref (a + 271)), (3, .ref (a + 280)), (4, .ref (a + 281)), (5, .int (nI (4 * k))), (6, _)]) C dL_law_389 (by decide) rfl rfl rfl ?_
  have R2 := LS_r S p1.1 (zWr_H (A := A))
  refine zV.aload_n C dL_law_391 rfl rfl ?_
  refine zV.arg (p := 392) C G T hi hL (c := 1) (by decide) dL_law_392 dL_law_393 dL_law_395 dL_law_396 dL_law_397 (by decide) rfl rfl ?_
  refine zV.arg (p := 398) C G T hi hL (c := 2) (by decide) dL_law_398 dL_law_399 dL_law_401 dL_law_402 dL_law_403 (by decide) rfl rfl ?_
  refine zV.callV (n := 2) C G dL_law_404 (s_mremovePath hzs hst (lwH A (a + 280) h1) (a + 271) (60000 * k) g us sn off rs dt cs t o (xs (4 * k + 1)) (xs (4 * k + 2)) R2 hR (by omega)) rfl ⟨cd_X10_removePath, lk_L_184, im_X10_removePath, se_X10_X10_removePath, in_X10⟩ ⟨⟨by decide, by decide⟩, by decide⟩ rfl (zRmL rfl (by omega) (by omega)) rfl R2.1.1 ⟨rfl, by decide⟩ (zafX (fun r3 h3 q3 => ?_)) (zno)
  obtain ⟨e0, e⟩ := q3
  have Sx := LSx_c isD_113 S p1 (zWr_H (A := A)) e
  have e1 : hI h3 435 (a + 271) = nI (anC A (fun Ex => if Ex = IOB then 1 else if Ex = IAE then 2 else 3)) := by rw [eA]; exact e.1.trans (congrArg nI code_113.symm)
  have e0 : r3 = some (anV A (.int (nI 0))) := by rw [eA]; exact e0.trans (congrArg some chg_m.symm)
  obtain ⟨b, rfl, f1, f2⟩ := fct (d := nI 0) (ob := a + 280) (h1 := h1) ok.1 (fun Ex _ => cfn3 Ex) e0 e1 e.2.1.1.2.2.2.2.2.1
  exact zV.up (kc' := kc + 30) (ks' := ks + 5806) (by omega) (by omega) (L_tail hzs hst C G (p := 407) dL_law_407 dL_law_409 dL_law_410 dL_law_413 dL_law_415 dL_law_420 dL_law_422 dL_law_425 dL_law_426 dL_law_427 dL_law_428 dL_law_430 dL_law_431 dL_law_432 dL_law_437 (by decide) hc hs (LSx_r Sx) (LSx_ob Sx) f1 f2 (kk _ Sx))
set_option maxHeartbeats 4000000 in
set_option maxRecDepth 100000 in
/-- isPath -/
theorem L_c2 {X : zX} {l : Launch} {E : zG} (hzs : zS E) (hst : l.stackTraces = false) (C : zC X cL_law RL 9) (G : zGX X l E room_1) {h : zH} {kc ks sq a k L : Nat} {xs : Nat → Int32} (T : zSc E sq L xs) (hk : k < 512) (hi : 4 * k + 4 ≤ L) (hL : L ≤ 2048) (hc : kc + 30 ≤ 604272) (hs : ks + 5806 ≤ 7174744) (S : lwSx a k h) (kk : ∀ h', lwSx a (k + 1) h' → zV X (kc + 30) (ks + 5806) h' 3182 [(0, .retAddr sq), (1, .ref a), (2, .ref (a + 271)), (3, .ref (a + 280)), (4, .ref (a + 281)), (5, .int (nI (4 * k)))] []) : zV X kc ks h 440 [(0, .retAddr sq), (1, .ref a), (2, .ref (a + 271)), (3, .ref (a + 280)), (4, .ref (a + 281)), (5, .int (nI (4 * k)))] [] := by
  obtain ⟨g, us, sn, off, rs, dt, cs, t, o, S⟩ := S
  have hw := LS_W S hk
  have hb := LS_big hk
  have hR := S.2.2.2.1
  obtain ⟨A, eA⟩ : ∃ A : zAn, A = (lawA (xs (4 * k + 1)) (fun i => lawA (xs (4 * k + 2)) (fun j => .inr (.int (nI (if (gN g i).testBit j then 1 else 0)))))) := ⟨_, rfl⟩
  have ok : okA A (fun Ex => Ex = IOB) := by rw [eA]; exact okA_law rfl (fun i => okA_law rfl (fun j => okA_v))
  refine zV.aload_n C dL_law_440 rfl rfl ?_
  refine zV.arg (p := 441) C G T hi hL (c := 1) (by decide) dL_law_441 dL_law_442 dL_law_444 dL_law_445 dL_law_446 (by decide) rfl rfl ?_
  refine zV.arg (p := 447) C G T hi hL (c := 2) (by decide) dL_law_447 dL_law_448 dL_law_450 dL_law_451 dL_law_452 (by decide) rfl rfl ?_
  refine zV.aload_n C dL_law_453 rfl rfl ?_
  refine zV.callSW (n := 4) C G dL_law_454 (s_LisPath hzs hst h a (a + 280) (xs (4 * k + 1)) (xs (4 * k + 2)) A (fun h' => h' = h) (by rw [eA]; exact s_isPath hzs hst h a g (xs (4 * k + 1)) (xs (4 * k + 2)) S.1.1.1 S.1.1.2.1.1 hw) S.1.1.1.1 (fun h1 e => by rw [show h1 = h from e]; exact S.2.1.1) ok.1 ok.2) rfl ⟨cd_L_isPath, lk_L_185, st_L_isPath, in_L⟩ ⟨⟨by decide, by decide⟩, by decide⟩ rfl (zRmL rfl (by omega) (by omega)) rfl (zafX (fun r2 h2 q2 => ?_)) (zno)
  obtain ⟨rfl, h1, p1, rfl⟩ := q2
  obtain rfl : h = h1 := Eq.symm p1
  show zV X (kc + 2) (ks + 12) (lwHB A (a + 280) h) 457 [(0, .retAddr sq), (1, .ref a), (2, .ref (a + 271)), (3, .ref (a + 280)), (4, .ref (a + 281)), (5, .int (nI (4 * k)))] [.int _]
  refine zV.istore (lo' := [(0, .retAddr sq), (1, .ref a), (2, .ref (a + 271)), (3, .ref (a + 280)), (4, .ref (a + 281)), (5, .int (nI (4 * k))), (6, _)]) C dL_law_457 (by decide) rfl rfl rfl ?_
  have R2 := LS_r S (zXf.refl h a (a + 282)) (zWr_HB (A := A))
  refine zV.aload_n C dL_law_459 rfl rfl ?_
  refine zV.arg (p := 460) C G T hi hL (c := 1) (by decide) dL_law_460 dL_law_461 dL_law_463 dL_law_464 dL_law_465 (by decide) rfl rfl ?_
  refine zV.arg (p := 466) C G T hi hL (c := 2) (by decide) dL_law_466 dL_law_467 dL_law_469 dL_law_470 dL_law_471 (by decide) rfl rfl ?_
  refine zV.callV (n := 2) C G dL_law_472 (s_qisPath hzs hst (lwHB A (a + 280) h) (a + 271) (60000 * k) g R2.1 R2.2.1 hR.1 (by omega) (xs (4 * k + 1)) (xs (4 * k + 2))) rfl ⟨cd_X10_isPath, lk_L_187, im_X10_isPath, se_X10_X10_isPath, in_X10⟩ ⟨⟨by decide, by decide⟩, by decide⟩ rfl (zRmL rfl (by omega) (by omega)) rfl R2.1.1 ⟨rfl, by decide⟩ (zafX (fun r3 h3 q3 => ?_)) (zno)
  have q3 : mqQ (lwHB A (a + 280) h) (a + 271) A (fun Ex => 1) (.int (nI 0)) r3 h3 := by rw [eA] at q3 ⊢; exact q3
  obtain ⟨e0, rfl⟩ := q3
  have Sx := LSx_q (v := nI (anC A (fun Ex => 1))) S (zWr_HB (A := A))
  obtain ⟨b, rfl, f1, f2⟩ := fctB (d := nI 0) (ob := a + 280) (h1 := h) ok.1 (fun Ex _ => cfn1 Ex) e0 (hI_sI (h := (lwHB A (a + 280) h))) rfl
  exact zV.up (kc' := kc + 30) (ks' := ks + 5806) (by omega) (by omega) (L_tailB hzs hst C G (p := 475) dL_law_475 dL_law_477 dL_law_478 dL_law_481 dL_law_483 dL_law_488 dL_law_490 dL_law_493 dL_law_494 dL_law_495 dL_law_496 dL_law_498 dL_law_501 dL_law_502 dL_law_505 dL_law_506 dL_law_507 dL_law_512 (by decide) hc hs (LSx_r Sx) (LSx_ob Sx) f1 f2 (kk _ Sx))
set_option maxHeartbeats 4000000 in
set_option maxRecDepth 100000 in
/-- distance -/
theorem L_c3 {X : zX} {l : Launch} {E : zG} (hzs : zS E) (hst : l.stackTraces = false) (C : zC X cL_law RL 9) (G : zGX X l E room_1) {h : zH} {kc ks sq a k L : Nat} {xs : Nat → Int32} (T : zSc E sq L xs) (hk : k < 512) (hi : 4 * k + 4 ≤ L) (hL : L ≤ 2048) (hc : kc + 30 ≤ 604272) (hs : ks + 5806 ≤ 7174744) (S : lwSx a k h) (kk : ∀ h', lwSx a (k + 1) h' → zV X (kc + 30) (ks + 5806) h' 3182 [(0, .retAddr sq), (1, .ref a), (2, .ref (a + 271)), (3, .ref (a + 280)), (4, .ref (a + 281)), (5, .int (nI (4 * k)))] []) : zV X kc ks h 515 [(0, .retAddr sq), (1, .ref a), (2, .ref (a + 271)), (3, .ref (a + 280)), (4, .ref (a + 281)), (5, .int (nI (4 * k)))] [] := by
  obtain ⟨g, us, sn, off, rs, dt, cs, t, o, S⟩ := S
  have hw := LS_W S hk
  have hb := LS_big hk
  have hR := S.2.2.2.1
  obtain ⟨A, eA⟩ : ∃ A : zAn, A = (lawA (xs (4 * k + 1)) (fun i => lawA (xs (4 * k + 2)) (fun j => elA (oI (far (gN g) i j))))) := ⟨_, rfl⟩
  have ok : okA A (fun Ex => Ex = IOB ∨ Ex = NSE) := by rw [eA]; exact okA_law (Or.inl rfl) (fun i => okA_law (Or.inl rfl) (fun j => okA_el (Or.inr rfl)))
  refine zV.aload_n C dL_law_515 rfl rfl ?_
  refine zV.arg (p := 516) C G T hi hL (c := 1) (by decide) dL_law_516 dL_law_517 dL_law_519 dL_law_520 dL_law_521 (by decide) rfl rfl ?_
  refine zV.arg (p := 522) C G T hi hL (c := 2) (by decide) dL_law_522 dL_law_523 dL_law_525 dL_law_526 dL_law_527 (by decide) rfl rfl ?_
  refine zV.aload_n C dL_law_528 rfl rfl ?_
  refine zV.callSW (n := 4) C G dL_law_529 (s_Ldistance hzs hst h a (a + 280) (xs (4 * k + 1)) (xs (4 * k + 2)) A (fun h' => h' = h) (by rw [eA]; exact s_distance hzs hst h a g (xs (4 * k + 1)) (xs (4 * k + 2)) S.1.1.1 S.1.1.2.1.1 hw) S.1.1.1.1 (fun h1 e => by rw [show h1 = h from e]; exact S.2.1.1) ok.1 ok.2) rfl ⟨cd_L_distance, lk_L_188, st_L_distance, in_L⟩ ⟨⟨by decide, by decide⟩, by decide⟩ rfl (zRmL rfl (by omega) (by omega)) rfl (zafX (fun r2 h2 q2 => ?_)) (zno)
  obtain ⟨rfl, h1, p1, rfl⟩ := q2
  obtain rfl : h = h1 := Eq.symm p1
  show zV X (kc + 3) (ks + 18) (lwH A (a + 280) h) 532 [(0, .retAddr sq), (1, .ref a), (2, .ref (a + 271)), (3, .ref (a + 280)), (4, .ref (a + 281)), (5, .int (nI (4 * k)))] [.int _]
  refine zV.istore (lo' := [(0, .retAddr sq), (1, .ref a), (2, .ref (a + 271)), (3, .ref (a + 280)), (4, .ref (a + 281)), (5, .int (nI (4 * k))), (6, _)]) C dL_law_532 (by decide) rfl rfl rfl ?_
  have R2 := LS_r S (zXf.refl h a (a + 282)) (zWr_H (A := A))
  refine zV.aload_n C dL_law_534 rfl rfl ?_
  refine zV.arg (p := 535) C G T hi hL (c := 1) (by decide) dL_law_535 dL_law_536 dL_law_538 dL_law_539 dL_law_540 (by decide) rfl rfl ?_
  refine zV.arg (p := 541) C G T hi hL (c := 2) (by decide) dL_law_541 dL_law_542 dL_law_544 dL_law_545 dL_law_546 (by decide) rfl rfl ?_
  refine zV.callV (n := 2) C G dL_law_547 (s_qdistance hzs hst (lwH A (a + 280) h) (a + 271) (60000 * k) g R2.1 R2.2.1 hR.1 (by omega) (xs (4 * k + 1)) (xs (4 * k + 2))) rfl ⟨cd_X10_distance, lk_L_190, im_X10_distance, se_X10_X10_distance, in_X10⟩ ⟨⟨by decide, by decide⟩, by decide⟩ rfl (zRmL rfl (by omega) (by omega)) rfl R2.1.1 ⟨rfl, by decide⟩ (zafX (fun r3 h3 q3 => ?_)) (zno)
  have q3 : mqQ (lwH A (a + 280) h) (a + 271) A (fun Ex => if Ex = IOB then 1 else 2) (.int (nI 0)) r3 h3 := by rw [eA] at q3 ⊢; exact q3
  obtain ⟨e0, rfl⟩ := q3
  have Sx := LSx_q (v := nI (anC A (fun Ex => if Ex = IOB then 1 else 2))) S (zWr_H (A := A))
  obtain ⟨b, rfl, f1, f2⟩ := fct (d := nI 0) (ob := a + 280) (h1 := h) ok.1 (fun Ex _ => cfn2 Ex) e0 (hI_sI (h := (lwH A (a + 280) h))) rfl
  exact zV.up (kc' := kc + 30) (ks' := ks + 5806) (by omega) (by omega) (L_tail hzs hst C G (p := 550) dL_law_550 dL_law_552 dL_law_553 dL_law_556 dL_law_558 dL_law_563 dL_law_565 dL_law_568 dL_law_569 dL_law_570 dL_law_571 dL_law_573 dL_law_574 dL_law_575 dL_law_580 (by decide) hc hs (LSx_r Sx) (LSx_ob Sx) f1 f2 (kk _ Sx))
set_option maxHeartbeats 4000000 in
set_option maxRecDepth 100000 in
/-- distanceByImprovement -/
theorem L_c4 {X : zX} {l : Launch} {E : zG} (hzs : zS E) (hst : l.stackTraces = false) (C : zC X cL_law RL 9) (G : zGX X l E room_1) {h : zH} {kc ks sq a k L : Nat} {xs : Nat → Int32} (T : zSc E sq L xs) (hk : k < 512) (hi : 4 * k + 4 ≤ L) (hL : L ≤ 2048) (hc : kc + 30 ≤ 604272) (hs : ks + 5806 ≤ 7174744) (S : lwSx a k h) (kk : ∀ h', lwSx a (k + 1) h' → zV X (kc + 30) (ks + 5806) h' 3182 [(0, .retAddr sq), (1, .ref a), (2, .ref (a + 271)), (3, .ref (a + 280)), (4, .ref (a + 281)), (5, .int (nI (4 * k)))] []) : zV X kc ks h 583 [(0, .retAddr sq), (1, .ref a), (2, .ref (a + 271)), (3, .ref (a + 280)), (4, .ref (a + 281)), (5, .int (nI (4 * k)))] [] := by
  obtain ⟨g, us, sn, off, rs, dt, cs, t, o, S⟩ := S
  have hw := LS_W S hk
  have hb := LS_big hk
  have hR := S.2.2.2.1
  obtain ⟨A, eA⟩ : ∃ A : zAn, A = (lawA (xs (4 * k + 1)) (fun i => lawA (xs (4 * k + 2)) (fun j => elA (oI (far (gN g) i j))))) := ⟨_, rfl⟩
  have ok : okA A (fun Ex => Ex = IOB ∨ Ex = NSE) := by rw [eA]; exact okA_law (Or.inl rfl) (fun i => okA_law (Or.inl rfl) (fun j => okA_el (Or.inr rfl)))
  refine zV.aload_n C dL_law_583 rfl rfl ?_
  refine zV.arg (p := 584) C G T hi hL (c := 1) (by decide) dL_law_584 dL_law_585 dL_law_587 dL_law_588 dL_law_589 (by decide) rfl rfl ?_
  refine zV.arg (p := 590) C G T hi hL (c := 2) (by decide) dL_law_590 dL_law_591 dL_law_593 dL_law_594 dL_law_595 (by decide) rfl rfl ?_
  refine zV.aload_n C dL_law_596 rfl rfl ?_
  refine zV.callSW (n := 4) C G dL_law_597 (s_LdistanceByImprovement hzs hst h a (a + 280) (xs (4 * k + 1)) (xs (4 * k + 2)) A (sm9 h a (a + 282) g us sn off rs dt cs t o) (by rw [eA]; exact s_distanceByImprovement hzs hst h a (a + 282) (xs (4 * k + 1)) (xs (4 * k + 2)) g us sn off rs dt cs t o S.1.1) S.1.1.1.1 (fun h1 p => LS_ob S p.1) ok.1 ok.2) rfl ⟨cd_L_distanceByImprovement, lk_L_191, st_L_distanceByImprovement, in_L⟩ ⟨⟨by decide, by decide⟩, by decide⟩ rfl (zRmL rfl (by omega) (by omega)) rfl (zafX (fun r2 h2 q2 => ?_)) (zno)
  obtain ⟨rfl, h1, p1, rfl⟩ := q2
  show zV X (kc + 3) (ks + 18) (lwH A (a + 280) h1) 600 [(0, .retAddr sq), (1, .ref a), (2, .ref (a + 271)), (3, .ref (a + 280)), (4, .ref (a + 281)), (5, .int (nI (4 * k)))] [.int _]
  refine zV.istore (lo' := [(0, .retAddr sq), (1, .ref a), (2, .ref (a + 271)), (3, .ref (a + 280)), (4, .ref (a + 281)), (5, .int (nI (4 * k))), (6, _)]) C dL_law_600 (by decide) rfl rfl rfl ?_
  have R2 := LS_r S p1.1 (zWr_H (A := A))
  refine zV.aload_n C dL_law_602 rfl rfl ?_
  refine zV.arg (p := 603) C G T hi hL (c := 1) (by decide) dL_law_603 dL_law_604 dL_law_606 dL_law_607 dL_law_608 (by decide) rfl rfl ?_
  refine zV.arg (p := 609) C G T hi hL (c := 2) (by decide) dL_law_609 dL_law_610 dL_law_612 dL_law_613 dL_law_614 (by decide) rfl rfl ?_
  refine zV.callV (n := 2) C G dL_law_615 (s_qdistanceByImprovement hzs hst (lwH A (a + 280) h1) (a + 271) (60000 * k) g R2.1 R2.2.1 hR.1 (by omega) (xs (4 * k + 1)) (xs (4 * k + 2))) rfl ⟨cd_X10_distanceByImprovement, lk_L_193, im_X10_distanceByImprovement, se_X10_X10_distanceByImprovement, in_X10⟩ ⟨⟨by decide, by decide⟩, by decide⟩ rfl (zRmL rfl (by omega) (by omega)) rfl R2.1.1 ⟨rfl, by decide⟩ (zafX (fun r3 h3 q3 => ?_)) (zno)
  have q3 : mqQ (lwH A (a + 280) h1) (a + 271) A (fun Ex => if Ex = IOB then 1 else 2) (.int (nI 0)) r3 h3 := by rw [eA] at q3 ⊢; exact q3
  obtain ⟨e0, rfl⟩ := q3
  have Sx := LSx_m (v := nI (anC A (fun Ex => if Ex = IOB then 1 else 2))) S p1 (zWr_H (A := A))
  obtain ⟨b, rfl, f1, f2⟩ := fct (d := nI 0) (ob := a + 280) (h1 := h1) ok.1 (fun Ex _ => cfn2 Ex) e0 (hI_sI (h := (lwH A (a + 280) h1))) rfl
  exact zV.up (kc' := kc + 30) (ks' := ks + 5806) (by omega) (by omega) (L_tail hzs hst C G (p := 618) dL_law_618 dL_law_620 dL_law_621 dL_law_624 dL_law_626 dL_law_631 dL_law_633 dL_law_636 dL_law_637 dL_law_638 dL_law_639 dL_law_641 dL_law_642 dL_law_643 dL_law_648 (by decide) hc hs (LSx_r Sx) (LSx_ob Sx) f1 f2 (kk _ Sx))
set_option maxHeartbeats 4000000 in
set_option maxRecDepth 100000 in
/-- routeAt -/
theorem L_c5 {X : zX} {l : Launch} {E : zG} (hzs : zS E) (hst : l.stackTraces = false) (C : zC X cL_law RL 9) (G : zGX X l E room_1) {h : zH} {kc ks sq a k L : Nat} {xs : Nat → Int32} (T : zSc E sq L xs) (hk : k < 512) (hi : 4 * k + 4 ≤ L) (hL : L ≤ 2048) (hc : kc + 30 ≤ 604272) (hs : ks + 5806 ≤ 7174744) (S : lwSx a k h) (kk : ∀ h', lwSx a (k + 1) h' → zV X (kc + 30) (ks + 5806) h' 3182 [(0, .retAddr sq), (1, .ref a), (2, .ref (a + 271)), (3, .ref (a + 280)), (4, .ref (a + 281)), (5, .int (nI (4 * k)))] []) : zV X kc ks h 651 [(0, .retAddr sq), (1, .ref a), (2, .ref (a + 271)), (3, .ref (a + 280)), (4, .ref (a + 281)), (5, .int (nI (4 * k)))] [] := by
  obtain ⟨g, us, sn, off, rs, dt, cs, t, o, S⟩ := S
  have hw := LS_W S hk
  have hb := LS_big hk
  have hR := S.2.2.2.1
  obtain ⟨A, eA⟩ : ∃ A : zAn, A = (lawA (xs (4 * k + 1)) (fun i => lawA (xs (4 * k + 2)) (fun j => rtA (gN g) i j (xs (4 * k + 3))))) := ⟨_, rfl⟩
  have ok : okA A (fun Ex => Ex = IOB ∨ Ex = NSE) := by rw [eA]; exact okA_law (Or.inl rfl) (fun i => okA_law (Or.inl rfl) (fun j => okA_rt (Or.inr rfl)))
  refine zV.aload_n C dL_law_651 rfl rfl ?_
  refine zV.arg (p := 652) C G T hi hL (c := 1) (by decide) dL_law_652 dL_law_653 dL_law_655 dL_law_656 dL_law_657 (by decide) rfl rfl ?_
  refine zV.arg (p := 658) C G T hi hL (c := 2) (by decide) dL_law_658 dL_law_659 dL_law_661 dL_law_662 dL_law_663 (by decide) rfl rfl ?_
  refine zV.arg (p := 664) C G T hi hL (c := 3) (by decide) dL_law_664 dL_law_665 dL_law_667 dL_law_668 dL_law_669 (by decide) rfl rfl ?_
  refine zV.aload_n C dL_law_670 rfl rfl ?_
  refine zV.callSW (n := 5) C G dL_law_671 (s_LrouteAt hzs hst h a (a + 280) (xs (4 * k + 1)) (xs (4 * k + 2)) (xs (4 * k + 3)) A (fun h' => h' = h) (by rw [eA]; exact s_routeAt hzs hst h a g (xs (4 * k + 1)) (xs (4 * k + 2)) (xs (4 * k + 3)) S.1.1.1 S.1.1.2.1.1 hw) S.1.1.1.1 (fun h1 e => by rw [show h1 = h from e]; exact S.2.1.1) ok.1 ok.2) rfl ⟨cd_L_routeAt, lk_L_194, st_L_routeAt, in_L⟩ ⟨⟨by decide, by decide⟩, by decide⟩ rfl (zRmL rfl (by omega) (by omega)) rfl (zafX (fun r2 h2 q2 => ?_)) (zno)
  obtain ⟨rfl, h1, p1, rfl⟩ := q2
  obtain rfl : h = h1 := Eq.symm p1
  show zV X (kc + 3) (ks + 18) (lwH A (a + 280) h) 674 [(0, .retAddr sq), (1, .ref a), (2, .ref (a + 271)), (3, .ref (a + 280)), (4, .ref (a + 281)), (5, .int (nI (4 * k)))] [.int _]
  refine zV.istore (lo' := [(0, .retAddr sq), (1, .ref a), (2, .ref (a + 271)), (3, .ref (a + 280)), (4, .ref (a + 281)), (5, .int (nI (4 * k))), (6, _)]) C dL_law_674 (by decide) rfl rfl rfl ?_
  have R2 := LS_r S (zXf.refl h a (a + 282)) (zWr_H (A := A))
  refine zV.aload_n C dL_law_676 rfl rfl ?_
  refine zV.arg (p := 677) C G T hi hL (c := 1) (by decide) dL_law_677 dL_law_678 dL_law_680 dL_law_681 dL_law_682 (by decide) rfl rfl ?_
  refine zV.arg (p := 683) C G T hi hL (c := 2) (by decide) dL_law_683 dL_law_684 dL_law_686 dL_law_687 dL_law_688 (by decide) rfl rfl ?_
  refine zV.arg (p := 689) C G T hi hL (c := 3) (by decide) dL_law_689 dL_law_690 dL_law_692 dL_law_693 dL_law_694 (by decide) rfl rfl ?_
  refine zV.callV (n := 3) C G dL_law_695 (s_qrouteAt hzs hst (lwH A (a + 280) h) (a + 271) (60000 * k) g R2.1 R2.2.1 hR.1 (by omega) (xs (4 * k + 1)) (xs (4 * k + 2)) (xs (4 * k + 3))) rfl ⟨cd_X10_routeAt, lk_L_197, im_X10_routeAt, se_X10_X10_routeAt, in_X10⟩ ⟨⟨by decide, by decide⟩, by decide⟩ rfl (zRmL rfl (by omega) (by omega)) rfl R2.1.1 ⟨rfl, by decide⟩ (zafX (fun r3 h3 q3 => ?_)) (zno)
  have q3 : mqQ (lwH A (a + 280) h) (a + 271) A (fun Ex => if Ex = IOB then 1 else 2) (.int (nI 0)) r3 h3 := by rw [eA] at q3 ⊢; exact q3
  obtain ⟨e0, rfl⟩ := q3
  have Sx := LSx_q (v := nI (anC A (fun Ex => if Ex = IOB then 1 else 2))) S (zWr_H (A := A))
  obtain ⟨b, rfl, f1, f2⟩ := fct (d := nI 0) (ob := a + 280) (h1 := h) ok.1 (fun Ex _ => cfn2 Ex) e0 (hI_sI (h := (lwH A (a + 280) h))) rfl
  exact zV.up (kc' := kc + 30) (ks' := ks + 5806) (by omega) (by omega) (L_tail hzs hst C G (p := 698) dL_law_698 dL_law_700 dL_law_701 dL_law_704 dL_law_706 dL_law_711 dL_law_713 dL_law_716 dL_law_717 dL_law_718 dL_law_719 dL_law_721 dL_law_722 dL_law_723 dL_law_728 (by decide) hc hs (LSx_r Sx) (LSx_ob Sx) f1 f2 (kk _ Sx))
set_option maxHeartbeats 4000000 in
set_option maxRecDepth 100000 in
/-- reachableLawns -/
theorem L_c6 {X : zX} {l : Launch} {E : zG} (hzs : zS E) (hst : l.stackTraces = false) (C : zC X cL_law RL 9) (G : zGX X l E room_1) {h : zH} {kc ks sq a k L : Nat} {xs : Nat → Int32} (T : zSc E sq L xs) (hk : k < 512) (hi : 4 * k + 4 ≤ L) (hL : L ≤ 2048) (hc : kc + 30 ≤ 604272) (hs : ks + 5806 ≤ 7174744) (S : lwSx a k h) (kk : ∀ h', lwSx a (k + 1) h' → zV X (kc + 30) (ks + 5806) h' 3182 [(0, .retAddr sq), (1, .ref a), (2, .ref (a + 271)), (3, .ref (a + 280)), (4, .ref (a + 281)), (5, .int (nI (4 * k)))] []) : zV X kc ks h 731 [(0, .retAddr sq), (1, .ref a), (2, .ref (a + 271)), (3, .ref (a + 280)), (4, .ref (a + 281)), (5, .int (nI (4 * k)))] [] := by
  obtain ⟨g, us, sn, off, rs, dt, cs, t, o, S⟩ := S
  have hw := LS_W S hk
  have hb := LS_big hk
  have hR := S.2.2.2.1
  obtain ⟨A, eA⟩ : ∃ A : zAn, A = (lawA (xs (4 * k + 1)) (fun i => .inr (.int (nI (popc (wnI (gN g) (2 ^ i) 5)))))) := ⟨_, rfl⟩
  have ok : okA A (fun Ex => Ex = IOB) := by rw [eA]; exact okA_law rfl (fun i => okA_v)
  refine zV.aload_n C dL_law_731 rfl rfl ?_
  refine zV.arg (p := 732) C G T hi hL (c := 1) (by decide) dL_law_732 dL_law_733 dL_law_735 dL_law_736 dL_law_737 (by decide) rfl rfl ?_
  refine zV.aload_n C dL_law_738 rfl rfl ?_
  refine zV.callSW (n := 3) C G dL_law_739 (s_LreachableLawns hzs hst h a (a + 280) (xs (4 * k + 1)) A (fun h' => h' = h) (by rw [eA]; exact s_reachableLawns hzs hst h a g (xs (4 * k + 1)) S.1.1.1 S.1.1.2.1.1 hw) S.1.1.1.1 (fun h1 e => by rw [show h1 = h from e]; exact S.2.1.1) ok.1 ok.2) rfl ⟨cd_L_reachableLawns, lk_L_198, st_L_reachableLawns, in_L⟩ ⟨⟨by decide, by decide⟩, by decide⟩ rfl (zRmL rfl (by omega) (by omega)) rfl (zafX (fun r2 h2 q2 => ?_)) (zno)
  obtain ⟨rfl, h1, p1, rfl⟩ := q2
  obtain rfl : h = h1 := Eq.symm p1
  show zV X (kc + 1) (ks + 6) (lwH A (a + 280) h) 742 [(0, .retAddr sq), (1, .ref a), (2, .ref (a + 271)), (3, .ref (a + 280)), (4, .ref (a + 281)), (5, .int (nI (4 * k)))] [.int _]
  refine zV.istore (lo' := [(0, .retAddr sq), (1, .ref a), (2, .ref (a + 271)), (3, .ref (a + 280)), (4, .ref (a + 281)), (5, .int (nI (4 * k))), (6, _)]) C dL_law_742 (by decide) rfl rfl rfl ?_
  have R2 := LS_r S (zXf.refl h a (a + 282)) (zWr_H (A := A))
  refine zV.aload_n C dL_law_744 rfl rfl ?_
  refine zV.arg (p := 745) C G T hi hL (c := 1) (by decide) dL_law_745 dL_law_746 dL_law_748 dL_law_749 dL_law_750 (by decide) rfl rfl ?_
  refine zV.callV (n := 1) C G dL_law_751 (s_qreachableLawns hzs hst (lwH A (a + 280) h) (a + 271) (60000 * k) g R2.1 R2.2.1 hR.1 (by omega) (xs (4 * k + 1))) rfl ⟨cd_X10_reachableLawns, lk_L_201, im_X10_reachableLawns, se_X10_X10_reachableLawns, in_X10⟩ ⟨⟨by decide, by decide⟩, by decide⟩ rfl (zRmL rfl (by omega) (by omega)) rfl R2.1.1 ⟨rfl, by decide⟩ (zafX (fun r3 h3 q3 => ?_)) (zno)
  have q3 : mqQ (lwH A (a + 280) h) (a + 271) A (fun Ex => 1) (.int (nI 0)) r3 h3 := by rw [eA] at q3 ⊢; exact q3
  obtain ⟨e0, rfl⟩ := q3
  have Sx := LSx_q (v := nI (anC A (fun Ex => 1))) S (zWr_H (A := A))
  obtain ⟨b, rfl, f1, f2⟩ := fct (d := nI 0) (ob := a + 280) (h1 := h) ok.1 (fun Ex _ => cfn1 Ex) e0 (hI_sI (h := (lwH A (a + 280) h))) rfl
  exact zV.up (kc' := kc + 30) (ks' := ks + 5806) (by omega) (by omega) (L_tail hzs hst C G (p := 754) dL_law_754 dL_law_756 dL_law_757 dL_law_760 dL_law_762 dL_law_767 dL_law_769 dL_law_772 dL_law_773 dL_law_774 dL_law_775 dL_law_777 dL_law_778 dL_law_779 dL_law_784 (by decide) hc hs (LSx_r Sx) (LSx_ob Sx) f1 f2 (kk _ Sx))
set_option maxHeartbeats 4000000 in
set_option maxRecDepth 100000 in
/-- pathCount -/
theorem L_c7 {X : zX} {l : Launch} {E : zG} (hzs : zS E) (hst : l.stackTraces = false) (C : zC X cL_law RL 9) (G : zGX X l E room_1) {h : zH} {kc ks sq a k L : Nat} {xs : Nat → Int32} (T : zSc E sq L xs) (hk : k < 512) (hi : 4 * k + 4 ≤ L) (hL : L ≤ 2048) (hc : kc + 30 ≤ 604272) (hs : ks + 5806 ≤ 7174744) (S : lwSx a k h) (kk : ∀ h', lwSx a (k + 1) h' → zV X (kc + 30) (ks + 5806) h' 3182 [(0, .retAddr sq), (1, .ref a), (2, .ref (a + 271)), (3, .ref (a + 280)), (4, .ref (a + 281)), (5, .int (nI (4 * k)))] []) : zV X kc ks h 787 [(0, .retAddr sq), (1, .ref a), (2, .ref (a + 271)), (3, .ref (a + 280)), (4, .ref (a + 281)), (5, .int (nI (4 * k)))] [] := by
  obtain ⟨g, us, sn, off, rs, dt, cs, t, o, S⟩ := S
  have hw := LS_W S hk
  have hb := LS_big hk
  have hR := S.2.2.2.1
  refine zV.aload_n C dL_law_787 rfl rfl ?_
  refine zV.callV (n := 0) C G dL_law_788 (s_pathCount hzs hst h a g S.1.1.1 S.1.1.2.1.1 hw) rfl ⟨cd_X9_pathCount, lk_L_202, im_X9_pathCount, se_X9_X9_pathCount, in_X9⟩ ⟨⟨by decide, by decide⟩, by decide⟩ rfl (zRmL rfl (by omega) (by omega)) rfl S.1.1.1.1 ⟨rfl, by decide⟩ (zaf ?_) (zno)
  have R2 := LS_r S (zXf.refl h a (a + 282)) zWr_0
  refine zV.aload_n C dL_law_791 rfl rfl ?_
  refine zV.callV (n := 0) C G dL_law_792 (s_qpathCount hzs hst h (a + 271) (60000 * k) g R2.1 R2.2.1 hR.1 (by omega)) rfl ⟨cd_X10_pathCount, lk_L_205, im_X10_pathCount, se_X10_X10_pathCount, in_X10⟩ ⟨⟨by decide, by decide⟩, by decide⟩ rfl (zRmL rfl (by omega) (by omega)) rfl R2.1.1 ⟨rfl, by decide⟩ (zaf ?_) (zno)
  have Sx := LSx_q (v := nI 0) S zWr_0
  refine zV.icmp_eq (tgt := 3182) C dL_law_795 (by decide) (fun _ => ?_) (fun z => absurd rfl z)
  exact zV.up (kc' := kc + 30) (ks' := ks + 5806) (by omega) (by omega) (kk _ Sx)
set_option maxHeartbeats 4000000 in
set_option maxRecDepth 100000 in
/-- setShade -/
theorem L_c8 {X : zX} {l : Launch} {E : zG} (hzs : zS E) (hst : l.stackTraces = false) (C : zC X cL_law RL 9) (G : zGX X l E room_1) {h : zH} {kc ks sq a k L : Nat} {xs : Nat → Int32} (T : zSc E sq L xs) (hk : k < 512) (hi : 4 * k + 4 ≤ L) (hL : L ≤ 2048) (hc : kc + 30 ≤ 604272) (hs : ks + 5806 ≤ 7174744) (S : lwSx a k h) (kk : ∀ h', lwSx a (k + 1) h' → zV X (kc + 30) (ks + 5806) h' 3182 [(0, .retAddr sq), (1, .ref a), (2, .ref (a + 271)), (3, .ref (a + 280)), (4, .ref (a + 281)), (5, .int (nI (4 * k)))] []) : zV X kc ks h 800 [(0, .retAddr sq), (1, .ref a), (2, .ref (a + 271)), (3, .ref (a + 280)), (4, .ref (a + 281)), (5, .int (nI (4 * k)))] [] := by
  obtain ⟨g, us, sn, off, rs, dt, cs, t, o, S⟩ := S
  have hw := LS_W S hk
  have hb := LS_big hk
  have hR := S.2.2.2.1
  obtain ⟨A, eA⟩ : ∃ A : zAn, A = chgA g 104 (xs (4 * k + 1)) (xs (4 * k + 2)) := ⟨_, rfl⟩
  have ok : okA A (fun Ex => Ex = IOB ∨ Ex = IAE) := by rw [eA]; exact okA_chg isD_104 (fun _ => (Or.inl rfl)) (fun _ => (Or.inr rfl)) (fun z => absurd z jd_104_3)
  refine zV.aload_n C dL_law_800 rfl rfl ?_
  refine zV.arg (p := 801) C G T hi hL (c := 1) (by decide) dL_law_801 dL_law_802 dL_law_804 dL_law_805 dL_law_806 (by decide) rfl rfl ?_
  refine zV.arg (p := 807) C G T hi hL (c := 2) (by decide) dL_law_807 dL_law_808 dL_law_810 dL_law_811 dL_law_812 (by decide) rfl rfl ?_
  refine zV.aload_n C dL_law_813 rfl rfl ?_
  refine zV.callSW (n := 4) C G dL_law_814 (s_LsetShade hzs hst h a (a + 280) (xs (4 * k + 1)) (xs (4 * k + 2)) A (chgP h a (a + 282) 104 (xs (4 * k + 1)) (xs (4 * k + 2)) g us sn off rs dt cs t o) (by rw [eA]; exact s_setShade hzs hst h a (a + 282) (60000 * k) (xs (4 * k + 1)) (xs (4 * k + 2)) g us sn off rs dt cs t o S.1.1 hR.1 (by omega)) S.1.1.1.1 (fun h1 p => LS_ob S p.1) ok.1 ok.2) rfl ⟨cd_L_setShade, lk_L_206, st_L_setShade, in_L⟩ ⟨⟨by decide, by decide⟩, by decide⟩ rfl (zRmL rfl (by omega) (by omega)) rfl (zafX (fun r2 h2 q2 => ?_)) (zno)
  obtain ⟨rfl, h1, p1, rfl⟩ := q2
  show zV X (kc + 1) (ks + 6) (lwH A (a + 280) h1) 817 [(0, .retAddr sq), (1, .ref a), (2, .ref (a + 271)), (3, .ref (a + 280)), (4, .ref (a + 281)), (5, .int (nI (4 * k)))] [.int _]
  refine zV.istore (lo' := [(0, .retAddr sq), (1, .ref a), (2, .ref (a + 271)), (3, .ref (a + 280)), (4, .ref (a + 281)), (5, .int (nI (4 * k))), (6, _)]) C dL_law_817 (by decide) rfl rfl rfl ?_
  have R2 := LS_r S p1.1 (zWr_H (A := A))
  refine zV.aload_n C dL_law_819 rfl rfl ?_
  refine zV.arg (p := 820) C G T hi hL (c := 1) (by decide) dL_law_820 dL_law_821 dL_law_823 dL_law_824 dL_law_825 (by decide) rfl rfl ?_
  refine zV.arg (p := 826) C G T hi hL (c := 2) (by decide) dL_law_826 dL_law_827 dL_law_829 dL_law_830 dL_law_831 (by decide) rfl rfl ?_
  refine zV.callV (n := 2) C G dL_law_832 (s_msetShade hzs hst (lwH A (a + 280) h1) (a + 271) (60000 * k) g us sn off rs dt cs t o (xs (4 * k + 1)) (xs (4 * k + 2)) R2 hR (by omega)) rfl ⟨cd_X10_setShade, lk_L_208, im_X10_setShade, se_X10_X10_setShade, in_X10⟩ ⟨⟨by decide, by decide⟩, by decide⟩ rfl (zRmL rfl (by omega) (by omega)) rfl R2.1.1 ⟨rfl, by decide⟩ (zafX (fun r3 h3 q3 => ?_)) (zno)
  obtain ⟨e0, e⟩ := q3
  have Sx := LSx_c isD_104 S p1 (zWr_H (A := A)) e
  have e1 : hI h3 435 (a + 271) = nI (anC A (fun Ex => if Ex = IOB then 1 else 2)) := by rw [eA]; exact e.1.trans (congrArg nI code_104.symm)
  have e0 : r3 = some (anV A (.int (nI 0))) := by rw [eA]; exact e0.trans (congrArg some chg_m.symm)
  obtain ⟨b, rfl, f1, f2⟩ := fct (d := nI 0) (ob := a + 280) (h1 := h1) ok.1 (fun Ex _ => cfn2 Ex) e0 e1 e.2.1.1.2.2.2.2.2.1
  exact zV.up (kc' := kc + 30) (ks' := ks + 5806) (by omega) (by omega) (L_tail hzs hst C G (p := 835) dL_law_835 dL_law_837 dL_law_838 dL_law_841 dL_law_843 dL_law_848 dL_law_850 dL_law_853 dL_law_854 dL_law_855 dL_law_856 dL_law_858 dL_law_859 dL_law_860 dL_law_865 (by decide) hc hs (LSx_r Sx) (LSx_ob Sx) f1 f2 (kk _ Sx))
set_option maxHeartbeats 4000000 in
set_option maxRecDepth 100000 in
/-- shadeOf -/
theorem L_c9 {X : zX} {l : Launch} {E : zG} (hzs : zS E) (hst : l.stackTraces = false) (C : zC X cL_law RL 9) (G : zGX X l E room_1) {h : zH} {kc ks sq a k L : Nat} {xs : Nat → Int32} (T : zSc E sq L xs) (hk : k < 512) (hi : 4 * k + 4 ≤ L) (hL : L ≤ 2048) (hc : kc + 30 ≤ 604272) (hs : ks + 5806 ≤ 7174744) (S : lwSx a k h) (kk : ∀ h', lwSx a (k + 1) h' → zV X (kc + 30) (ks + 5806) h' 3182 [(0, .retAddr sq), (1, .ref a), (2, .ref (a + 271)), (3, .ref (a + 280)), (4, .ref (a + 281)), (5, .int (nI (4 * k)))] []) : zV X kc ks h 868 [(0, .retAddr sq), (1, .ref a), (2, .ref (a + 271)), (3, .ref (a + 280)), (4, .ref (a + 281)), (5, .int (nI (4 * k)))] [] := by
  obtain ⟨g, us, sn, off, rs, dt, cs, t, o, S⟩ := S
  have hw := LS_W S hk
  have hb := LS_big hk
  have hR := S.2.2.2.1
  obtain ⟨A, eA⟩ : ∃ A : zAn, A = (lawA (xs (4 * k + 1)) (fun i => .inr (.int (nI (gS g i))))) := ⟨_, rfl⟩
  have ok : okA A (fun Ex => Ex = IOB) := by rw [eA]; exact okA_law rfl (fun i => okA_v)
  refine zV.aload_n C dL_law_868 rfl rfl ?_
  refine zV.arg (p := 869) C G T hi hL (c := 1) (by decide) dL_law_869 dL_law_870 dL_law_872 dL_law_873 dL_law_874 (by decide) rfl rfl ?_
  refine zV.aload_n C dL_law_875 rfl rfl ?_
  refine zV.callSW (n := 3) C G dL_law_876 (s_LshadeOf hzs hst h a (a + 280) (xs (4 * k + 1)) A (fun h' => h' = h) (by rw [eA]; exact s_shadeOf hzs hst h a g (xs (4 * k + 1)) S.1.1.1 S.1.1.2.1.1 hw) S.1.1.1.1 (fun h1 e => by rw [show h1 = h from e]; exact S.2.1.1) ok.1 ok.2) rfl ⟨cd_L_shadeOf, lk_L_209, st_L_shadeOf, in_L⟩ ⟨⟨by decide, by decide⟩, by decide⟩ rfl (zRmL rfl (by omega) (by omega)) rfl (zafX (fun r2 h2 q2 => ?_)) (zno)
  obtain ⟨rfl, h1, p1, rfl⟩ := q2
  obtain rfl : h = h1 := Eq.symm p1
  show zV X (kc + 1) (ks + 6) (lwH A (a + 280) h) 879 [(0, .retAddr sq), (1, .ref a), (2, .ref (a + 271)), (3, .ref (a + 280)), (4, .ref (a + 281)), (5, .int (nI (4 * k)))] [.int _]
  refine zV.istore (lo' := [(0, .retAddr sq), (1, .ref a), (2, .ref (a + 271)), (3, .ref (a + 280)), (4, .ref (a + 281)), (5, .int (nI (4 * k))), (6, _)]) C dL_law_879 (by decide) rfl rfl rfl ?_
  have R2 := LS_r S (zXf.refl h a (a + 282)) (zWr_H (A := A))
  refine zV.aload_n C dL_law_881 rfl rfl ?_
  refine zV.arg (p := 882) C G T hi hL (c := 1) (by decide) dL_law_882 dL_law_883 dL_law_885 dL_law_886 dL_law_887 (by decide) rfl rfl ?_
  refine zV.callV (n := 1) C G dL_law_888 (s_qshadeOf hzs hst (lwH A (a + 280) h) (a + 271) (60000 * k) g R2.1 R2.2.1 hR.1 (by omega) (xs (4 * k + 1))) rfl ⟨cd_X10_shadeOf, lk_L_211, im_X10_shadeOf, se_X10_X10_shadeOf, in_X10⟩ ⟨⟨by decide, by decide⟩, by decide⟩ rfl (zRmL rfl (by omega) (by omega)) rfl R2.1.1 ⟨rfl, by decide⟩ (zafX (fun r3 h3 q3 => ?_)) (zno)
  have q3 : mqQ (lwH A (a + 280) h) (a + 271) A (fun Ex => 1) (.int (nI 0)) r3 h3 := by rw [eA] at q3 ⊢; exact q3
  obtain ⟨e0, rfl⟩ := q3
  have Sx := LSx_q (v := nI (anC A (fun Ex => 1))) S (zWr_H (A := A))
  obtain ⟨b, rfl, f1, f2⟩ := fct (d := nI 0) (ob := a + 280) (h1 := h) ok.1 (fun Ex _ => cfn1 Ex) e0 (hI_sI (h := (lwH A (a + 280) h))) rfl
  exact zV.up (kc' := kc + 30) (ks' := ks + 5806) (by omega) (by omega) (L_tail hzs hst C G (p := 891) dL_law_891 dL_law_893 dL_law_894 dL_law_897 dL_law_899 dL_law_904 dL_law_906 dL_law_909 dL_law_910 dL_law_911 dL_law_912 dL_law_914 dL_law_915 dL_law_916 dL_law_921 (by decide) hc hs (LSx_r Sx) (LSx_ob Sx) f1 f2 (kk _ Sx))
set_option maxHeartbeats 4000000 in
set_option maxRecDepth 100000 in
/-- addChair -/
theorem L_c10 {X : zX} {l : Launch} {E : zG} (hzs : zS E) (hst : l.stackTraces = false) (C : zC X cL_law RL 9) (G : zGX X l E room_1) {h : zH} {kc ks sq a k L : Nat} {xs : Nat → Int32} (T : zSc E sq L xs) (hk : k < 512) (hi : 4 * k + 4 ≤ L) (hL : L ≤ 2048) (hc : kc + 30 ≤ 604272) (hs : ks + 5806 ≤ 7174744) (S : lwSx a k h) (kk : ∀ h', lwSx a (k + 1) h' → zV X (kc + 30) (ks + 5806) h' 3182 [(0, .retAddr sq), (1, .ref a), (2, .ref (a + 271)), (3, .ref (a + 280)), (4, .ref (a + 281)), (5, .int (nI (4 * k)))] []) : zV X kc ks h 924 [(0, .retAddr sq), (1, .ref a), (2, .ref (a + 271)), (3, .ref (a + 280)), (4, .ref (a + 281)), (5, .int (nI (4 * k)))] [] := by
  obtain ⟨g, us, sn, off, rs, dt, cs, t, o, S⟩ := S
  have hw := LS_W S hk
  have hb := LS_big hk
  have hR := S.2.2.2.1
  obtain ⟨A, eA⟩ : ∃ A : zAn, A = chgA g 99 (xs (4 * k + 1)) (xs (4 * k + 2)) := ⟨_, rfl⟩
  have ok : okA A (fun Ex => Ex = IOB ∨ Ex = IAE ∨ Ex = UOE) := by rw [eA]; exact okA_chg isD_99 (fun _ => (Or.inl rfl)) (fun _ => (Or.inr (Or.inl rfl))) (fun _ => (Or.inr (Or.inr rfl)))
  refine zV.aload_n C dL_law_924 rfl rfl ?_
  refine zV.arg (p := 925) C G T hi hL (c := 1) (by decide) dL_law_925 dL_law_926 dL_law_928 dL_law_929 dL_law_930 (by decide) rfl rfl ?_
  refine zV.arg (p := 931) C G T hi hL (c := 2) (by decide) dL_law_931 dL_law_932 dL_law_934 dL_law_935 dL_law_936 (by decide) rfl rfl ?_
  refine zV.aload_n C dL_law_937 rfl rfl ?_
  refine zV.callSW (n := 4) C G dL_law_938 (s_LaddChair hzs hst h a (a + 280) (xs (4 * k + 1)) (xs (4 * k + 2)) A (chgP h a (a + 282) 99 (xs (4 * k + 1)) (xs (4 * k + 2)) g us sn off rs dt cs t o) (by rw [eA]; exact s_addChair hzs hst h a (a + 282) (60000 * k) (xs (4 * k + 1)) (xs (4 * k + 2)) g us sn off rs dt cs t o S.1.1 hR.1 (by omega)) S.1.1.1.1 (fun h1 p => LS_ob S p.1) ok.1 ok.2) rfl ⟨cd_L_addChair, lk_L_212, st_L_addChair, in_L⟩ ⟨⟨by decide, by decide⟩, by decide⟩ rfl (zRmL rfl (by omega) (by omega)) rfl (zafX (fun r2 h2 q2 => ?_)) (zno)
  obtain ⟨rfl, h1, p1, rfl⟩ := q2
  show zV X (kc + 1) (ks + 6) (lwH A (a + 280) h1) 941 [(0, .retAddr sq), (1, .ref a), (2, .ref (a + 271)), (3, .ref (a + 280)), (4, .ref (a + 281)), (5, .int (nI (4 * k)))] [.int _]
  refine zV.istore (lo' := [(0, .retAddr sq), (1, .ref a), (2, .ref (a + 271)), (3, .ref (a + 280)), (4, .ref (a + 281)), (5, .int (nI (4 * k))), (6, _)]) C dL_law_941 (by decide) rfl rfl rfl ?_
  have R2 := LS_r S p1.1 (zWr_H (A := A))
  refine zV.aload_n C dL_law_943 rfl rfl ?_
  refine zV.arg (p := 944) C G T hi hL (c := 1) (by decide) dL_law_944 dL_law_945 dL_law_947 dL_law_948 dL_law_949 (by decide) rfl rfl ?_
  refine zV.arg (p := 950) C G T hi hL (c := 2) (by decide) dL_law_950 dL_law_951 dL_law_953 dL_law_954 dL_law_955 (by decide) rfl rfl ?_
  refine zV.callV (n := 2) C G dL_law_956 (s_maddChair hzs hst (lwH A (a + 280) h1) (a + 271) (60000 * k) g us sn off rs dt cs t o (xs (4 * k + 1)) (xs (4 * k + 2)) R2 hR (by omega)) rfl ⟨cd_X10_addChair, lk_L_214, im_X10_addChair, se_X10_X10_addChair, in_X10⟩ ⟨⟨by decide, by decide⟩, by decide⟩ rfl (zRmL rfl (by omega) (by omega)) rfl R2.1.1 ⟨rfl, by decide⟩ (zafX (fun r3 h3 q3 => ?_)) (zno)
  obtain ⟨e0, e⟩ := q3
  have Sx := LSx_c isD_99 S p1 (zWr_H (A := A)) e
  have e1 : hI h3 435 (a + 271) = nI (anC A (fun Ex => if Ex = IOB then 1 else if Ex = IAE then 2 else 3)) := by rw [eA]; exact e.1.trans (congrArg nI code_99.symm)
  have e0 : r3 = some (anV A (.int (nI 0))) := by rw [eA]; exact e0.trans (congrArg some chg_m.symm)
  obtain ⟨b, rfl, f1, f2⟩ := fct (d := nI 0) (ob := a + 280) (h1 := h1) ok.1 (fun Ex _ => cfn3 Ex) e0 e1 e.2.1.1.2.2.2.2.2.1
  exact zV.up (kc' := kc + 30) (ks' := ks + 5806) (by omega) (by omega) (L_tail hzs hst C G (p := 959) dL_law_959 dL_law_961 dL_law_962 dL_law_965 dL_law_967 dL_law_972 dL_law_974 dL_law_977 dL_law_978 dL_law_979 dL_law_980 dL_law_982 dL_law_983 dL_law_984 dL_law_989 (by decide) hc hs (LSx_r Sx) (LSx_ob Sx) f1 f2 (kk _ Sx))
set_option maxHeartbeats 4000000 in
set_option maxRecDepth 100000 in
/-- scrapChair -/
theorem L_c11 {X : zX} {l : Launch} {E : zG} (hzs : zS E) (hst : l.stackTraces = false) (C : zC X cL_law RL 9) (G : zGX X l E room_1) {h : zH} {kc ks sq a k L : Nat} {xs : Nat → Int32} (T : zSc E sq L xs) (hk : k < 512) (hi : 4 * k + 4 ≤ L) (hL : L ≤ 2048) (hc : kc + 30 ≤ 604272) (hs : ks + 5806 ≤ 7174744) (S : lwSx a k h) (kk : ∀ h', lwSx a (k + 1) h' → zV X (kc + 30) (ks + 5806) h' 3182 [(0, .retAddr sq), (1, .ref a), (2, .ref (a + 271)), (3, .ref (a + 280)), (4, .ref (a + 281)), (5, .int (nI (4 * k)))] []) : zV X kc ks h 992 [(0, .retAddr sq), (1, .ref a), (2, .ref (a + 271)), (3, .ref (a + 280)), (4, .ref (a + 281)), (5, .int (nI (4 * k)))] [] := by
  obtain ⟨g, us, sn, off, rs, dt, cs, t, o, S⟩ := S
  have hw := LS_W S hk
  have hb := LS_big hk
  have hR := S.2.2.2.1
  obtain ⟨A, eA⟩ : ∃ A : zAn, A = chgA g 115 (xs (4 * k + 1)) 0 := ⟨_, rfl⟩
  have ok : okA A (fun Ex => Ex = IOB) := by rw [eA]; exact okA_chg isD_115 (fun _ => rfl) (fun z => absurd z jd_115_2) (fun z => absurd z jd_115_3)
  refine zV.aload_n C dL_law_992 rfl rfl ?_
  refine zV.arg (p := 993) C G T hi hL (c := 1) (by decide) dL_law_993 dL_law_994 dL_law_996 dL_law_997 dL_law_998 (by decide) rfl rfl ?_
  refine zV.aload_n C dL_law_999 rfl rfl ?_
  refine zV.callSW (n := 3) C G dL_law_1000 (s_LscrapChair hzs hst h a (a + 280) (xs (4 * k + 1)) A (chgP h a (a + 282) 115 (xs (4 * k + 1)) 0 g us sn off rs dt cs t o) (by rw [eA]; exact s_scrapChair hzs hst h a (a + 282) (60000 * k) (xs (4 * k + 1)) g us sn off rs dt cs t o S.1.1 hR.1 (by omega)) S.1.1.1.1 (fun h1 p => LS_ob S p.1) ok.1 ok.2) rfl ⟨cd_L_scrapChair, lk_L_215, st_L_scrapChair, in_L⟩ ⟨⟨by decide, by decide⟩, by decide⟩ rfl (zRmL rfl (by omega) (by omega)) rfl (zafX (fun r2 h2 q2 => ?_)) (zno)
  obtain ⟨rfl, h1, p1, rfl⟩ := q2
  show zV X (kc + 1) (ks + 6) (lwH A (a + 280) h1) 1003 [(0, .retAddr sq), (1, .ref a), (2, .ref (a + 271)), (3, .ref (a + 280)), (4, .ref (a + 281)), (5, .int (nI (4 * k)))] [.int _]
  refine zV.istore (lo' := [(0, .retAddr sq), (1, .ref a), (2, .ref (a + 271)), (3, .ref (a + 280)), (4, .ref (a + 281)), (5, .int (nI (4 * k))), (6, _)]) C dL_law_1003 (by decide) rfl rfl rfl ?_
  have R2 := LS_r S p1.1 (zWr_H (A := A))
  refine zV.aload_n C dL_law_1005 rfl rfl ?_
  refine zV.arg (p := 1006) C G T hi hL (c := 1) (by decide) dL_law_1006 dL_law_1007 dL_law_1009 dL_law_1010 dL_law_1011 (by decide) rfl rfl ?_
  refine zV.callV (n := 1) C G dL_law_1012 (s_mscrapChair hzs hst (lwH A (a + 280) h1) (a + 271) (60000 * k) g us sn off rs dt cs t o (xs (4 * k + 1)) R2 hR (by omega)) rfl ⟨cd_X10_scrapChair, lk_L_217, im_X10_scrapChair, se_X10_X10_scrapChair, in_X10⟩ ⟨⟨by decide, by decide⟩, by decide⟩ rfl (zRmL rfl (by omega) (by omega)) rfl R2.1.1 ⟨rfl, by decide⟩ (zafX (fun r3 h3 q3 => ?_)) (zno)
  obtain ⟨e0, e⟩ := q3
  have Sx := LSx_c isD_115 S p1 (zWr_H (A := A)) e
  have e1 : hI h3 435 (a + 271) = nI (anC A (fun Ex => 1)) := by rw [eA]; exact e.1.trans (congrArg nI code_115.symm)
  have e0 : r3 = some (anV A (.int (nI 0))) := by rw [eA]; exact e0.trans (congrArg some chg_m.symm)
  obtain ⟨b, rfl, f1, f2⟩ := fct (d := nI 0) (ob := a + 280) (h1 := h1) ok.1 (fun Ex _ => cfn1 Ex) e0 e1 e.2.1.1.2.2.2.2.2.1
  exact zV.up (kc' := kc + 30) (ks' := ks + 5806) (by omega) (by omega) (L_tail hzs hst C G (p := 1015) dL_law_1015 dL_law_1017 dL_law_1018 dL_law_1021 dL_law_1023 dL_law_1028 dL_law_1030 dL_law_1033 dL_law_1034 dL_law_1035 dL_law_1036 dL_law_1038 dL_law_1039 dL_law_1040 dL_law_1045 (by decide) hc hs (LSx_r Sx) (LSx_ob Sx) f1 f2 (kk _ Sx))
set_option maxHeartbeats 4000000 in
set_option maxRecDepth 100000 in
/-- fold -/
theorem L_c12 {X : zX} {l : Launch} {E : zG} (hzs : zS E) (hst : l.stackTraces = false) (C : zC X cL_law RL 9) (G : zGX X l E room_1) {h : zH} {kc ks sq a k L : Nat} {xs : Nat → Int32} (T : zSc E sq L xs) (hk : k < 512) (hi : 4 * k + 4 ≤ L) (hL : L ≤ 2048) (hc : kc + 30 ≤ 604272) (hs : ks + 5806 ≤ 7174744) (S : lwSx a k h) (kk : ∀ h', lwSx a (k + 1) h' → zV X (kc + 30) (ks + 5806) h' 3182 [(0, .retAddr sq), (1, .ref a), (2, .ref (a + 271)), (3, .ref (a + 280)), (4, .ref (a + 281)), (5, .int (nI (4 * k)))] []) : zV X kc ks h 1048 [(0, .retAddr sq), (1, .ref a), (2, .ref (a + 271)), (3, .ref (a + 280)), (4, .ref (a + 281)), (5, .int (nI (4 * k)))] [] := by
  obtain ⟨g, us, sn, off, rs, dt, cs, t, o, S⟩ := S
  have hw := LS_W S hk
  have hb := LS_big hk
  have hR := S.2.2.2.1
  obtain ⟨A, eA⟩ : ∃ A : zAn, A = chgA g 102 (xs (4 * k + 1)) 0 := ⟨_, rfl⟩
  have ok : okA A (fun Ex => Ex = IOB ∨ Ex = UOE) := by rw [eA]; exact okA_chg isD_102 (fun _ => (Or.inl rfl)) (fun z => absurd z jd_102_2) (fun _ => (Or.inr rfl))
  refine zV.aload_n C dL_law_1048 rfl rfl ?_
  refine zV.arg (p := 1049) C G T hi hL (c := 1) (by decide) dL_law_1049 dL_law_1050 dL_law_1052 dL_law_1053 dL_law_1054 (by decide) rfl rfl ?_
  refine zV.aload_n C dL_law_1055 rfl rfl ?_
  refine zV.callSW (n := 3) C G dL_law_1056 (s_Lfold hzs hst h a (a + 280) (xs (4 * k + 1)) A (chgP h a (a + 282) 102 (xs (4 * k + 1)) 0 g us sn off rs dt cs t o) (by rw [eA]; exact s_fold hzs hst h a (a + 282) (60000 * k) (xs (4 * k + 1)) g us sn off rs dt cs t o S.1.1 hR.1 (by omega)) S.1.1.1.1 (fun h1 p => LS_ob S p.1) ok.1 ok.2) rfl ⟨cd_L_fold, lk_L_218, st_L_fold, in_L⟩ ⟨⟨by decide, by decide⟩, by decide⟩ rfl (zRmL rfl (by omega) (by omega)) rfl (zafX (fun r2 h2 q2 => ?_)) (zno)
  obtain ⟨rfl, h1, p1, rfl⟩ := q2
  show zV X (kc + 1) (ks + 6) (lwH A (a + 280) h1) 1059 [(0, .retAddr sq), (1, .ref a), (2, .ref (a + 271)), (3, .ref (a + 280)), (4, .ref (a + 281)), (5, .int (nI (4 * k)))] [.int _]
  refine zV.istore (lo' := [(0, .retAddr sq), (1, .ref a), (2, .ref (a + 271)), (3, .ref (a + 280)), (4, .ref (a + 281)), (5, .int (nI (4 * k))), (6, _)]) C dL_law_1059 (by decide) rfl rfl rfl ?_
  have R2 := LS_r S p1.1 (zWr_H (A := A))
  refine zV.aload_n C dL_law_1061 rfl rfl ?_
  refine zV.arg (p := 1062) C G T hi hL (c := 1) (by decide) dL_law_1062 dL_law_1063 dL_law_1065 dL_law_1066 dL_law_1067 (by decide) rfl rfl ?_
  refine zV.callV (n := 1) C G dL_law_1068 (s_mfold hzs hst (lwH A (a + 280) h1) (a + 271) (60000 * k) g us sn off rs dt cs t o (xs (4 * k + 1)) R2 hR (by omega)) rfl ⟨cd_X10_fold, lk_L_220, im_X10_fold, se_X10_X10_fold, in_X10⟩ ⟨⟨by decide, by decide⟩, by decide⟩ rfl (zRmL rfl (by omega) (by omega)) rfl R2.1.1 ⟨rfl, by decide⟩ (zafX (fun r3 h3 q3 => ?_)) (zno)
  obtain ⟨e0, e⟩ := q3
  have Sx := LSx_c isD_102 S p1 (zWr_H (A := A)) e
  have e1 : hI h3 435 (a + 271) = nI (anC A (fun Ex => if Ex = IOB then 1 else 2)) := by rw [eA]; exact e.1.trans (congrArg nI code_102.symm)
  have e0 : r3 = some (anV A (.int (nI 0))) := by rw [eA]; exact e0.trans (congrArg some chg_m.symm)
  obtain ⟨b, rfl, f1, f2⟩ := fct (d := nI 0) (ob := a + 280) (h1 := h1) ok.1 (fun Ex _ => cfn2 Ex) e0 e1 e.2.1.1.2.2.2.2.2.1
  exact zV.up (kc' := kc + 30) (ks' := ks + 5806) (by omega) (by omega) (L_tail hzs hst C G (p := 1071) dL_law_1071 dL_law_1073 dL_law_1074 dL_law_1077 dL_law_1079 dL_law_1084 dL_law_1086 dL_law_1089 dL_law_1090 dL_law_1091 dL_law_1092 dL_law_1094 dL_law_1095 dL_law_1096 dL_law_1101 (by decide) hc hs (LSx_r Sx) (LSx_ob Sx) f1 f2 (kk _ Sx))
set_option maxHeartbeats 4000000 in
set_option maxRecDepth 100000 in
/-- unfold -/
theorem L_c13 {X : zX} {l : Launch} {E : zG} (hzs : zS E) (hst : l.stackTraces = false) (C : zC X cL_law RL 9) (G : zGX X l E room_1) {h : zH} {kc ks sq a k L : Nat} {xs : Nat → Int32} (T : zSc E sq L xs) (hk : k < 512) (hi : 4 * k + 4 ≤ L) (hL : L ≤ 2048) (hc : kc + 30 ≤ 604272) (hs : ks + 5806 ≤ 7174744) (S : lwSx a k h) (kk : ∀ h', lwSx a (k + 1) h' → zV X (kc + 30) (ks + 5806) h' 3182 [(0, .retAddr sq), (1, .ref a), (2, .ref (a + 271)), (3, .ref (a + 280)), (4, .ref (a + 281)), (5, .int (nI (4 * k)))] []) : zV X kc ks h 1104 [(0, .retAddr sq), (1, .ref a), (2, .ref (a + 271)), (3, .ref (a + 280)), (4, .ref (a + 281)), (5, .int (nI (4 * k)))] [] := by
  obtain ⟨g, us, sn, off, rs, dt, cs, t, o, S⟩ := S
  have hw := LS_W S hk
  have hb := LS_big hk
  have hR := S.2.2.2.1
  obtain ⟨A, eA⟩ : ∃ A : zAn, A = chgA g 117 (xs (4 * k + 1)) 0 := ⟨_, rfl⟩
  have ok : okA A (fun Ex => Ex = IOB ∨ Ex = UOE) := by rw [eA]; exact okA_chg isD_117 (fun _ => (Or.inl rfl)) (fun z => absurd z jd_117_2) (fun _ => (Or.inr rfl))
  refine zV.aload_n C dL_law_1104 rfl rfl ?_
  refine zV.arg (p := 1105) C G T hi hL (c := 1) (by decide) dL_law_1105 dL_law_1106 dL_law_1108 dL_law_1109 dL_law_1110 (by decide) rfl rfl ?_
  refine zV.aload_n C dL_law_1111 rfl rfl ?_
  refine zV.callSW (n := 3) C G dL_law_1112 (s_Lunfold hzs hst h a (a + 280) (xs (4 * k + 1)) A (chgP h a (a + 282) 117 (xs (4 * k + 1)) 0 g us sn off rs dt cs t o) (by rw [eA]; exact s_unfold hzs hst h a (a + 282) (60000 * k) (xs (4 * k + 1)) g us sn off rs dt cs t o S.1.1 hR.1 (by omega)) S.1.1.1.1 (fun h1 p => LS_ob S p.1) ok.1 ok.2) rfl ⟨cd_L_unfold, lk_L_221, st_L_unfold, in_L⟩ ⟨⟨by decide, by decide⟩, by decide⟩ rfl (zRmL rfl (by omega) (by omega)) rfl (zafX (fun r2 h2 q2 => ?_)) (zno)
  obtain ⟨rfl, h1, p1, rfl⟩ := q2
  show zV X (kc + 1) (ks + 6) (lwH A (a + 280) h1) 1115 [(0, .retAddr sq), (1, .ref a), (2, .ref (a + 271)), (3, .ref (a + 280)), (4, .ref (a + 281)), (5, .int (nI (4 * k)))] [.int _]
  refine zV.istore (lo' := [(0, .retAddr sq), (1, .ref a), (2, .ref (a + 271)), (3, .ref (a + 280)), (4, .ref (a + 281)), (5, .int (nI (4 * k))), (6, _)]) C dL_law_1115 (by decide) rfl rfl rfl ?_
  have R2 := LS_r S p1.1 (zWr_H (A := A))
  refine zV.aload_n C dL_law_1117 rfl rfl ?_
  refine zV.arg (p := 1118) C G T hi hL (c := 1) (by decide) dL_law_1118 dL_law_1119 dL_law_1121 dL_law_1122 dL_law_1123 (by decide) rfl rfl ?_
  refine zV.callV (n := 1) C G dL_law_1124 (s_munfold hzs hst (lwH A (a + 280) h1) (a + 271) (60000 * k) g us sn off rs dt cs t o (xs (4 * k + 1)) R2 hR (by omega)) rfl ⟨cd_X10_unfold, lk_L_223, im_X10_unfold, se_X10_X10_unfold, in_X10⟩ ⟨⟨by decide, by decide⟩, by decide⟩ rfl (zRmL rfl (by omega) (by omega)) rfl R2.1.1 ⟨rfl, by decide⟩ (zafX (fun r3 h3 q3 => ?_)) (zno)
  obtain ⟨e0, e⟩ := q3
  have Sx := LSx_c isD_117 S p1 (zWr_H (A := A)) e
  have e1 : hI h3 435 (a + 271) = nI (anC A (fun Ex => if Ex = IOB then 1 else 2)) := by rw [eA]; exact e.1.trans (congrArg nI code_117.symm)
  have e0 : r3 = some (anV A (.int (nI 0))) := by rw [eA]; exact e0.trans (congrArg some chg_m.symm)
  obtain ⟨b, rfl, f1, f2⟩ := fct (d := nI 0) (ob := a + 280) (h1 := h1) ok.1 (fun Ex _ => cfn2 Ex) e0 e1 e.2.1.1.2.2.2.2.2.1
  exact zV.up (kc' := kc + 30) (ks' := ks + 5806) (by omega) (by omega) (L_tail hzs hst C G (p := 1127) dL_law_1127 dL_law_1129 dL_law_1130 dL_law_1133 dL_law_1135 dL_law_1140 dL_law_1142 dL_law_1145 dL_law_1146 dL_law_1147 dL_law_1148 dL_law_1150 dL_law_1151 dL_law_1152 dL_law_1157 (by decide) hc hs (LSx_r Sx) (LSx_ob Sx) f1 f2 (kk _ Sx))
set_option maxHeartbeats 4000000 in
set_option maxRecDepth 100000 in
/-- moveChair -/
theorem L_c14 {X : zX} {l : Launch} {E : zG} (hzs : zS E) (hst : l.stackTraces = false) (C : zC X cL_law RL 9) (G : zGX X l E room_1) {h : zH} {kc ks sq a k L : Nat} {xs : Nat → Int32} (T : zSc E sq L xs) (hk : k < 512) (hi : 4 * k + 4 ≤ L) (hL : L ≤ 2048) (hc : kc + 30 ≤ 604272) (hs : ks + 5806 ≤ 7174744) (S : lwSx a k h) (kk : ∀ h', lwSx a (k + 1) h' → zV X (kc + 30) (ks + 5806) h' 3182 [(0, .retAddr sq), (1, .ref a), (2, .ref (a + 271)), (3, .ref (a + 280)), (4, .ref (a + 281)), (5, .int (nI (4 * k)))] []) : zV X kc ks h 1160 [(0, .retAddr sq), (1, .ref a), (2, .ref (a + 271)), (3, .ref (a + 280)), (4, .ref (a + 281)), (5, .int (nI (4 * k)))] [] := by
  obtain ⟨g, us, sn, off, rs, dt, cs, t, o, S⟩ := S
  have hw := LS_W S hk
  have hb := LS_big hk
  have hR := S.2.2.2.1
  obtain ⟨A, eA⟩ : ∃ A : zAn, A = chgA g 109 (xs (4 * k + 1)) (xs (4 * k + 2)) := ⟨_, rfl⟩
  have ok : okA A (fun Ex => Ex = IOB ∨ Ex = UOE) := by rw [eA]; exact okA_chg isD_109 (fun _ => (Or.inl rfl)) (fun z => absurd z jd_109_2) (fun _ => (Or.inr rfl))
  refine zV.aload_n C dL_law_1160 rfl rfl ?_
  refine zV.arg (p := 1161) C G T hi hL (c := 1) (by decide) dL_law_1161 dL_law_1162 dL_law_1164 dL_law_1165 dL_law_1166 (by decide) rfl rfl ?_
  refine zV.arg (p := 1167) C G T hi hL (c := 2) (by decide) dL_law_1167 dL_law_1168 dL_law_1170 dL_law_1171 dL_law_1172 (by decide) rfl rfl ?_
  refine zV.aload_n C dL_law_1173 rfl rfl ?_
  refine zV.callSW (n := 4) C G dL_law_1174 (s_LmoveChair hzs hst h a (a + 280) (xs (4 * k + 1)) (xs (4 * k + 2)) A (chgP h a (a + 282) 109 (xs (4 * k + 1)) (xs (4 * k + 2)) g us sn off rs dt cs t o) (by rw [eA]; exact s_moveChair hzs hst h a (a + 282) (60000 * k) (xs (4 * k + 1)) (xs (4 * k + 2)) g us sn off rs dt cs t o S.1.1 hR.1 (by omega)) S.1.1.1.1 (fun h1 p => LS_ob S p.1) ok.1 ok.2) rfl ⟨cd_L_moveChair, lk_L_224, st_L_moveChair, in_L⟩ ⟨⟨by decide, by decide⟩, by decide⟩ rfl (zRmL rfl (by omega) (by omega)) rfl (zafX (fun r2 h2 q2 => ?_)) (zno)
  obtain ⟨rfl, h1, p1, rfl⟩ := q2
  show zV X (kc + 1) (ks + 6) (lwH A (a + 280) h1) 1177 [(0, .retAddr sq), (1, .ref a), (2, .ref (a + 271)), (3, .ref (a + 280)), (4, .ref (a + 281)), (5, .int (nI (4 * k)))] [.int _]
  refine zV.istore (lo' := [(0, .retAddr sq), (1, .ref a), (2, .ref (a + 271)), (3, .ref (a + 280)), (4, .ref (a + 281)), (5, .int (nI (4 * k))), (6, _)]) C dL_law_1177 (by decide) rfl rfl rfl ?_
  have R2 := LS_r S p1.1 (zWr_H (A := A))
  refine zV.aload_n C dL_law_1179 rfl rfl ?_
  refine zV.arg (p := 1180) C G T hi hL (c := 1) (by decide) dL_law_1180 dL_law_1181 dL_law_1183 dL_law_1184 dL_law_1185 (by decide) rfl rfl ?_
  refine zV.arg (p := 1186) C G T hi hL (c := 2) (by decide) dL_law_1186 dL_law_1187 dL_law_1189 dL_law_1190 dL_law_1191 (by decide) rfl rfl ?_
  refine zV.callV (n := 2) C G dL_law_1192 (s_mmoveChair hzs hst (lwH A (a + 280) h1) (a + 271) (60000 * k) g us sn off rs dt cs t o (xs (4 * k + 1)) (xs (4 * k + 2)) R2 hR (by omega)) rfl ⟨cd_X10_moveChair, lk_L_226, im_X10_moveChair, se_X10_X10_moveChair, in_X10⟩ ⟨⟨by decide, by decide⟩, by decide⟩ rfl (zRmL rfl (by omega) (by omega)) rfl R2.1.1 ⟨rfl, by decide⟩ (zafX (fun r3 h3 q3 => ?_)) (zno)
  obtain ⟨e0, e⟩ := q3
  have Sx := LSx_c isD_109 S p1 (zWr_H (A := A)) e
  have e1 : hI h3 435 (a + 271) = nI (anC A (fun Ex => if Ex = IOB then 1 else 2)) := by rw [eA]; exact e.1.trans (congrArg nI code_109.symm)
  have e0 : r3 = some (anV A (.int (nI 0))) := by rw [eA]; exact e0.trans (congrArg some chg_m.symm)
  obtain ⟨b, rfl, f1, f2⟩ := fct (d := nI 0) (ob := a + 280) (h1 := h1) ok.1 (fun Ex _ => cfn2 Ex) e0 e1 e.2.1.1.2.2.2.2.2.1
  exact zV.up (kc' := kc + 30) (ks' := ks + 5806) (by omega) (by omega) (L_tail hzs hst C G (p := 1195) dL_law_1195 dL_law_1197 dL_law_1198 dL_law_1201 dL_law_1203 dL_law_1208 dL_law_1210 dL_law_1213 dL_law_1214 dL_law_1215 dL_law_1216 dL_law_1218 dL_law_1219 dL_law_1220 dL_law_1225 (by decide) hc hs (LSx_r Sx) (LSx_ob Sx) f1 f2 (kk _ Sx))
set_option maxHeartbeats 4000000 in
set_option maxRecDepth 100000 in
/-- migrate -/
theorem L_c15 {X : zX} {l : Launch} {E : zG} (hzs : zS E) (hst : l.stackTraces = false) (C : zC X cL_law RL 9) (G : zGX X l E room_1) {h : zH} {kc ks sq a k L : Nat} {xs : Nat → Int32} (T : zSc E sq L xs) (hk : k < 512) (hi : 4 * k + 4 ≤ L) (hL : L ≤ 2048) (hc : kc + 30 ≤ 604272) (hs : ks + 5806 ≤ 7174744) (S : lwSx a k h) (kk : ∀ h', lwSx a (k + 1) h' → zV X (kc + 30) (ks + 5806) h' 3182 [(0, .retAddr sq), (1, .ref a), (2, .ref (a + 271)), (3, .ref (a + 280)), (4, .ref (a + 281)), (5, .int (nI (4 * k)))] []) : zV X kc ks h 1228 [(0, .retAddr sq), (1, .ref a), (2, .ref (a + 271)), (3, .ref (a + 280)), (4, .ref (a + 281)), (5, .int (nI (4 * k)))] [] := by
  obtain ⟨g, us, sn, off, rs, dt, cs, t, o, S⟩ := S
  have hw := LS_W S hk
  have hb := LS_big hk
  have hR := S.2.2.2.1
  obtain ⟨A, eA⟩ : ∃ A : zAn, A = chgA g 103 (xs (4 * k + 1)) (xs (4 * k + 2)) := ⟨_, rfl⟩
  have ok : okA A (fun Ex => Ex = IOB ∨ Ex = UOE) := by rw [eA]; exact okA_chg isD_103 (fun _ => (Or.inl rfl)) (fun z => absurd z jd_103_2) (fun _ => (Or.inr rfl))
  refine zV.aload_n C dL_law_1228 rfl rfl ?_
  refine zV.arg (p := 1229) C G T hi hL (c := 1) (by decide) dL_law_1229 dL_law_1230 dL_law_1232 dL_law_1233 dL_law_1234 (by decide) rfl rfl ?_
  refine zV.arg (p := 1235) C G T hi hL (c := 2) (by decide) dL_law_1235 dL_law_1236 dL_law_1238 dL_law_1239 dL_law_1240 (by decide) rfl rfl ?_
  refine zV.aload_n C dL_law_1241 rfl rfl ?_
  refine zV.callSW (n := 4) C G dL_law_1242 (s_Lmigrate hzs hst h a (a + 280) (xs (4 * k + 1)) (xs (4 * k + 2)) A (chgP h a (a + 282) 103 (xs (4 * k + 1)) (xs (4 * k + 2)) g us sn off rs dt cs t o) (by rw [eA]; exact s_migrate hzs hst h a (a + 282) (60000 * k) (xs (4 * k + 1)) (xs (4 * k + 2)) g us sn off rs dt cs t o S.1.1 hR.1 (by omega)) S.1.1.1.1 (fun h1 p => LS_ob S p.1) ok.1 ok.2) rfl ⟨cd_L_migrate, lk_L_227, st_L_migrate, in_L⟩ ⟨⟨by decide, by decide⟩, by decide⟩ rfl (zRmL rfl (by omega) (by omega)) rfl (zafX (fun r2 h2 q2 => ?_)) (zno)
  obtain ⟨rfl, h1, p1, rfl⟩ := q2
  show zV X (kc + 1) (ks + 6) (lwH A (a + 280) h1) 1245 [(0, .retAddr sq), (1, .ref a), (2, .ref (a + 271)), (3, .ref (a + 280)), (4, .ref (a + 281)), (5, .int (nI (4 * k)))] [.int _]
  refine zV.istore (lo' := [(0, .retAddr sq), (1, .ref a), (2, .ref (a + 271)), (3, .ref (a + 280)), (4, .ref (a + 281)), (5, .int (nI (4 * k))), (6, _)]) C dL_law_1245 (by decide) rfl rfl rfl ?_
  have R2 := LS_r S p1.1 (zWr_H (A := A))
  refine zV.aload_n C dL_law_1247 rfl rfl ?_
  refine zV.arg (p := 1248) C G T hi hL (c := 1) (by decide) dL_law_1248 dL_law_1249 dL_law_1251 dL_law_1252 dL_law_1253 (by decide) rfl rfl ?_
  refine zV.arg (p := 1254) C G T hi hL (c := 2) (by decide) dL_law_1254 dL_law_1255 dL_law_1257 dL_law_1258 dL_law_1259 (by decide) rfl rfl ?_
  refine zV.callV (n := 2) C G dL_law_1260 (s_mmigrate hzs hst (lwH A (a + 280) h1) (a + 271) (60000 * k) g us sn off rs dt cs t o (xs (4 * k + 1)) (xs (4 * k + 2)) R2 hR (by omega)) rfl ⟨cd_X10_migrate, lk_L_229, im_X10_migrate, se_X10_X10_migrate, in_X10⟩ ⟨⟨by decide, by decide⟩, by decide⟩ rfl (zRmL rfl (by omega) (by omega)) rfl R2.1.1 ⟨rfl, by decide⟩ (zafX (fun r3 h3 q3 => ?_)) (zno)
  obtain ⟨e0, e⟩ := q3
  have Sx := LSx_c isD_103 S p1 (zWr_H (A := A)) e
  have e1 : hI h3 435 (a + 271) = nI (anC A (fun Ex => if Ex = IOB then 1 else 2)) := by rw [eA]; exact e.1.trans (congrArg nI code_103.symm)
  have e0 : r3 = some (anV A (.int (nI 0))) := by rw [eA]; exact e0.trans (congrArg some chg_m.symm)
  obtain ⟨b, rfl, f1, f2⟩ := fct (d := nI 0) (ob := a + 280) (h1 := h1) ok.1 (fun Ex _ => cfn2 Ex) e0 e1 e.2.1.1.2.2.2.2.2.1
  exact zV.up (kc' := kc + 30) (ks' := ks + 5806) (by omega) (by omega) (L_tail hzs hst C G (p := 1263) dL_law_1263 dL_law_1265 dL_law_1266 dL_law_1269 dL_law_1271 dL_law_1276 dL_law_1278 dL_law_1281 dL_law_1282 dL_law_1283 dL_law_1284 dL_law_1286 dL_law_1287 dL_law_1288 dL_law_1293 (by decide) hc hs (LSx_r Sx) (LSx_ob Sx) f1 f2 (kk _ Sx))
