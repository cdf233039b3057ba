/-! the law: its loop -/
theorem and63 (x : Int32) : ∃ c, c < 64 ∧ x &&& nI 63 = nI c := by
  refine ⟨(x.toBitVec &&& 63#32).toNat, ?_, ?_⟩
  · rw [BitVec.toNat_and]
    exact Nat.lt_of_le_of_lt Nat.and_le_right (by decide)
  · refine Int32.toBitVec_inj.mp ?_
    rw [Int32.toBitVec_and]
    show x.toBitVec &&& 63#32 = BitVec.ofNat 32 (x.toBitVec &&& 63#32).toNat
    rw [BitVec.ofNat_toNat, BitVec.setWidth_eq]
theorem fits4 {L k : Nat} (hL : L ≤ 2048) (hk : k ≤ 512) (h : ¬ nI L - nI 4 < nI (4 * k)) : 4 * k + 4 ≤ L := by
  rcases Nat.lt_or_ge L 4 with z | z
  · refine absurd ?_ h
    have hp : (0 : Int32) ≤ nI (4 * k) := nI_pos' (by omega)
    have hn : nI L - nI 4 < 0 := by
      rcases (show L = 0 ∨ L = 1 ∨ L = 2 ∨ L = 3 by omega) with rfl | rfl | rfl | rfl <;> decide
    exact Int32.lt_of_lt_of_le hn hp
  · have e : nI L - nI 4 = nI (L - 4) := by
      have e1 : nI (L - 4) + nI 4 = nI L := by rw [nI_add]; exact congrArg nI (by omega)
      rw [← e1]
      exact Int32.add_sub_cancel _ _
    rw [e] at h
    have h2 : nI (4 * k) ≤ nI (L - 4) := Int32.not_lt.mp h
    have := nle (a := L - 4) (b := 4 * k) (by omega) (by omega) h2
    omega
theorem LSx_mono {a k : Nat} {h : zH} (S : lwSx a k h) : lwSx a (k + 1) h := by
  obtain ⟨g, us, sn, off, rs, dt, cs, t, o, S⟩ := S
  exact ⟨g, us, sn, off, rs, dt, cs, t, o, S.1, S.2.1, S.2.2.1, LI_mono S.2.2.2⟩
set_option maxHeartbeats 4000000 in
set_option maxRecDepth 100000 in
theorem L_disp0 {X : zX} {l : Launch} {E : zG} (hzs : zS E) (hst : l.stackTraces = false) (C : zC X cL_law RL 9) (G : zGX X l E room_1) {h : zH} {kc ks sq a k L : Nat} {xs : Nat → Int32} (T : zSc E sq L xs) (hk : k < 512) (hi : 4 * k + 4 ≤ L) (hL : L ≤ 2048) (hc : kc + 30 ≤ 604272) (hs : ks + 5806 ≤ 7174744) (S : lwSx a k h) (kk : ∀ h', lwSx a (k + 1) h' → zV X (kc + 30) (ks + 5806) h' 3182 [(0, .retAddr sq), (1, .ref a), (2, .ref (a + 271)), (3, .ref (a + 280)), (4, .ref (a + 281)), (5, .int (nI (4 * k)))] []) {c : Nat} (h1 : 0 ≤ c) (h2 : c < 16) : zV X kc ks h 44 [(0, .retAddr sq), (1, .ref a), (2, .ref (a + 271)), (3, .ref (a + 280)), (4, .ref (a + 281)), (5, .int (nI (4 * k)))] [.int (nI c)] := by
  rcases (show c = 0 ∨ c = 1 ∨ c = 2 ∨ c = 3 ∨ c = 4 ∨ c = 5 ∨ c = 6 ∨ c = 7 ∨ c = 8 ∨ c = 9 ∨ c = 10 ∨ c = 11 ∨ c = 12 ∨ c = 13 ∨ c = 14 ∨ c = 15 by omega) with rfl | rfl | rfl | rfl | rfl | rfl | rfl | rfl | rfl | rfl | rfl | rfl | rfl | rfl | rfl | rfl
  · exact zV.tIn (off := 260) 304 C dL_law_44 (by decide) (by decide) (by decide) (by decide) (L_c0 hzs hst C G T hk hi hL hc hs S kk)
  · exact zV.tIn (off := 328) 372 C dL_law_44 (by decide) (by decide) (by decide) (by decide) (L_c1 hzs hst C G T hk hi hL hc hs S kk)
  · exact zV.tIn (off := 396) 440 C dL_law_44 (by decide) (by decide) (by decide) (by decide) (L_c2 hzs hst C G T hk hi hL hc hs S kk)
  · exact zV.tIn (off := 471) 515 C dL_law_44 (by decide) (by decide) (by decide) (by decide) (L_c3 hzs hst C G T hk hi hL hc hs S kk)
  · exact zV.tIn (off := 539) 583 C dL_law_44 (by decide) (by decide) (by decide) (by decide) (L_c4 hzs hst C G T hk hi hL hc hs S kk)
  · exact zV.tIn (off := 607) 651 C dL_law_44 (by decide) (by decide) (by decide) (by decide) (L_c5 hzs hst C G T hk hi hL hc hs S kk)
  · exact zV.tIn (off := 687) 731 C dL_law_44 (by decide) (by decide) (by decide) (by decide) (L_c6 hzs hst C G T hk hi hL hc hs S kk)
  · exact zV.tIn (off := 743) 787 C dL_law_44 (by decide) (by decide) (by decide) (by decide) (L_c7 hzs hst C G T hk hi hL hc hs S kk)
  · exact zV.tIn (off := 756) 800 C dL_law_44 (by decide) (by decide) (by decide) (by decide) (L_c8 hzs hst C G T hk hi hL hc hs S kk)
  · exact zV.tIn (off := 824) 868 C dL_law_44 (by decide) (by decide) (by decide) (by decide) (L_c9 hzs hst C G T hk hi hL hc hs S kk)
  · exact zV.tIn (off := 880) 924 C dL_law_44 (by decide) (by decide) (by decide) (by decide) (L_c10 hzs hst C G T hk hi hL hc hs S kk)
  · exact zV.tIn (off := 948) 992 C dL_law_44 (by decide) (by decide) (by decide) (by decide) (L_c11 hzs hst C G T hk hi hL hc hs S kk)
  · exact zV.tIn (off := 1004) 1048 C dL_law_44 (by decide) (by decide) (by decide) (by decide) (L_c12 hzs hst C G T hk hi hL hc hs S kk)
  · exact zV.tIn (off := 1060) 1104 C dL_law_44 (by decide) (by decide) (by decide) (by decide) (L_c13 hzs hst C G T hk hi hL hc hs S kk)
  · exact zV.tIn (off := 1116) 1160 C dL_law_44 (by decide) (by decide) (by decide) (by decide) (L_c14 hzs hst C G T hk hi hL hc hs S kk)
  · exact zV.tIn (off := 1184) 1228 C dL_law_44 (by decide) (by decide) (by decide) (by decide) (L_c15 hzs hst C G T hk hi hL hc hs S kk)
set_option maxHeartbeats 4000000 in
set_option maxRecDepth 100000 in
theorem L_disp1 {X : zX} {l : Launch} {E : zG} (hzs : zS E) (hst : l.stackTraces = false) (C : zC X cL_law RL 9) (G : zGX X l E room_1) {h : zH} {kc ks sq a k L : Nat} {xs : Nat → Int32} (T : zSc E sq L xs) (hk : k < 512) (hi : 4 * k + 4 ≤ L) (hL : L ≤ 2048) (hc : kc + 30 ≤ 604272) (hs : ks + 5806 ≤ 7174744) (S : lwSx a k h) (kk : ∀ h', lwSx a (k + 1) h' → zV X (kc + 30) (ks + 5806) h' 3182 [(0, .retAddr sq), (1, .ref a), (2, .ref (a + 271)), (3, .ref (a + 280)), (4, .ref (a + 281)), (5, .int (nI (4 * k)))] []) {c : Nat} (h1 : 16 ≤ c) (h2 : c < 32) : zV X kc ks h 44 [(0, .retAddr sq), (1, .ref a), (2, .ref (a + 271)), (3, .ref (a + 280)), (4, .ref (a + 281)), (5, .int (nI (4 * k)))] [.int (nI c)] := by
  rcases (show c = 16 ∨ c = 17 ∨ c = 18 ∨ c = 19 ∨ c = 20 ∨ c = 21 ∨ c = 22 ∨ c = 23 ∨ c = 24 ∨ c = 25 ∨ c = 26 ∨ c = 27 ∨ c = 28 ∨ c = 29 ∨ c = 30 ∨ c = 31 by omega) with rfl | rfl | rfl | rfl | rfl | rfl | rfl | rfl | rfl | rfl | rfl | rfl | rfl | rfl | rfl | rfl
  · exact zV.tIn (off := 1252) 1296 C dL_law_44 (by decide) (by decide) (by decide) (by decide) (L_c16 hzs hst C G T hk hi hL hc hs S kk)
  · exact zV.tIn (off := 1308) 1352 C dL_law_44 (by decide) (by decide) (by decide) (by decide) (L_c17 hzs hst C G T hk hi hL hc hs S kk)
  · exact zV.tIn (off := 1364) 1408 C dL_law_44 (by decide) (by decide) (by decide) (by decide) (L_c18 hzs hst C G T hk hi hL hc hs S kk)
  · exact zV.tIn (off := 1389) 1433 C dL_law_44 (by decide) (by decide) (by decide) (by decide) (L_c19 hzs hst C G T hk hi hL hc hs S kk)
  · exact zV.tIn (off := 1445) 1489 C dL_law_44 (by decide) (by decide) (by decide) (by decide) (L_c20 hzs hst C G T hk hi hL hc hs S kk)
  · exact zV.tIn (off := 1501) 1545 C dL_law_44 (by decide) (by decide) (by decide) (by decide) (L_c21 hzs hst C G T hk hi hL hc hs S kk)
  · exact zV.tIn (off := 1564) 1608 C dL_law_44 (by decide) (by decide) (by decide) (by decide) (L_c22 hzs hst C G T hk hi hL hc hs S kk)
  · exact zV.tIn (off := 1620) 1664 C dL_law_44 (by decide) (by decide) (by decide) (by decide) (L_c23 hzs hst C G T hk hi hL hc hs S kk)
  · exact zV.tIn (off := 1676) 1720 C dL_law_44 (by decide) (by decide) (by decide) (by decide) (L_c24 hzs hst C G T hk hi hL hc hs S kk)
  · exact zV.tIn (off := 1732) 1776 C dL_law_44 (by decide) (by decide) (by decide) (by decide) (L_c25 hzs hst C G T hk hi hL hc hs S kk)
  · exact zV.tIn (off := 1788) 1832 C dL_law_44 (by decide) (by decide) (by decide) (by decide) (L_c26 hzs hst C G T hk hi hL hc hs S kk)
  · exact zV.tIn (off := 1856) 1900 C dL_law_44 (by decide) (by decide) (by decide) (by decide) (L_c27 hzs hst C G T hk hi hL hc hs S kk)
  · exact zV.tIn (off := 1912) 1956 C dL_law_44 (by decide) (by decide) (by decide) (by decide) (L_c28 hzs hst C G T hk hi hL hc hs S kk)
  · exact zV.tIn (off := 1968) 2012 C dL_law_44 (by decide) (by decide) (by decide) (by decide) (L_c29 hzs hst C G T hk hi hL hc hs S kk)
  · exact zV.tIn (off := 2024) 2068 C dL_law_44 (by decide) (by decide) (by decide) (by decide) (L_c30 hzs hst C G T hk hi hL hc hs S kk)
  · exact zV.tIn (off := 2080) 2124 C dL_law_44 (by decide) (by decide) (by decide) (by decide) (L_c31 hzs hst C G T hk hi hL hc hs S kk)
set_option maxHeartbeats 4000000 in
set_option maxRecDepth 100000 in
theorem L_disp2 {X : zX} {l : Launch} {E : zG} (hzs : zS E) (hst : l.stackTraces = false) (C : zC X cL_law RL 9) (G : zGX X l E room_1) {h : zH} {kc ks sq a k L : Nat} {xs : Nat → Int32} (T : zSc E sq L xs) (hk : k < 512) (hi : 4 * k + 4 ≤ L) (hL : L ≤ 2048) (hc : kc + 30 ≤ 604272) (hs : ks + 5806 ≤ 7174744) (S : lwSx a k h) (kk : ∀ h', lwSx a (k + 1) h' → zV X (kc + 30) (ks + 5806) h' 3182 [(0, .retAddr sq), (1, .ref a), (2, .ref (a + 271)), (3, .ref (a + 280)), (4, .ref (a + 281)), (5, .int (nI (4 * k)))] []) {c : Nat} (h1 : 32 ≤ c) (h2 : c < 48) : zV X kc ks h 44 [(0, .retAddr sq), (1, .ref a), (2, .ref (a + 271)), (3, .ref (a + 280)), (4, .ref (a + 281)), (5, .int (nI (4 * k)))] [.int (nI c)] := by
  rcases (show c = 32 ∨ c = 33 ∨ c = 34 ∨ c = 35 ∨ c = 36 ∨ c = 37 ∨ c = 38 ∨ c = 39 ∨ c = 40 ∨ c = 41 ∨ c = 42 ∨ c = 43 ∨ c = 44 ∨ c = 45 ∨ c = 46 ∨ c = 47 by omega) with rfl | rfl | rfl | rfl | rfl | rfl | rfl | rfl | rfl | rfl | rfl | rfl | rfl | rfl | rfl | rfl
  · exact zV.tIn (off := 2093) 2137 C dL_law_44 (by decide) (by decide) (by decide) (by decide) (L_c32 hzs hst C G T hk hi hL hc hs S kk)
  · exact zV.tIn (off := 2106) 2150 C dL_law_44 (by decide) (by decide) (by decide) (by decide) (L_c33 hzs hst C G T hk hi hL hc hs S kk)
  · exact zV.tIn (off := 2162) 2206 C dL_law_44 (by decide) (by decide) (by decide) (by decide) (L_c34 hzs hst C G T hk hi hL hc hs S kk)
  · exact zV.tIn (off := 2218) 2262 C dL_law_44 (by decide) (by decide) (by decide) (by decide) (L_c35 hzs hst C G T hk hi hL hc hs S kk)
  · exact zV.tIn (off := 2274) 2318 C dL_law_44 (by decide) (by decide) (by decide) (by decide) (L_c36 hzs hst C G T hk hi hL hc hs S kk)
  · exact zV.tIn (off := 2287) 2331 C dL_law_44 (by decide) (by decide) (by decide) (by decide) (L_c37 hzs hst C G T hk hi hL hc hs S kk)
  · exact zV.tIn (off := 2300) 2344 C dL_law_44 (by decide) (by decide) (by decide) (by decide) (L_c38 hzs hst C G T hk hi hL hc hs S kk)
  · exact zV.tIn (off := 2313) 2357 C dL_law_44 (by decide) (by decide) (by decide) (by decide) (L_c39 hzs hst C G T hk hi hL hc hs S kk)
  · exact zV.tIn (off := 2326) 2370 C dL_law_44 (by decide) (by decide) (by decide) (by decide) (L_c40 hzs hst C G T hk hi hL hc hs S kk)
  · exact zV.tIn (off := 2339) 2383 C dL_law_44 (by decide) (by decide) (by decide) (by decide) (L_c41 hzs hst C G T hk hi hL hc hs S kk)
  · exact zV.tIn (off := 2352) 2396 C dL_law_44 (by decide) (by decide) (by decide) (by decide) (L_c42 hzs hst C G T hk hi hL hc hs S kk)
  · exact zV.tIn (off := 2365) 2409 C dL_law_44 (by decide) (by decide) (by decide) (by decide) (L_c43 hzs hst C G T hk hi hL hc hs S kk)
  · exact zV.tIn (off := 2378) 2422 C dL_law_44 (by decide) (by decide) (by decide) (by decide) (L_c44 hzs hst C G T hk hi hL hc hs S kk)
  · exact zV.tIn (off := 2391) 2435 C dL_law_44 (by decide) (by decide) (by decide) (by decide) (L_c45 hzs hst C G T hk hi hL hc hs S kk)
  · exact zV.tIn (off := 2447) 2491 C dL_law_44 (by decide) (by decide) (by decide) (by decide) (L_c46 hzs hst C G T hk hi hL hc hs S kk)
  · exact zV.tIn (off := 2503) 2547 C dL_law_44 (by decide) (by decide) (by decide) (by decide) (L_c47 hzs hst C G T hk hi hL hc hs S kk)
set_option maxHeartbeats 4000000 in
set_option maxRecDepth 100000 in
theorem L_disp3 {X : zX} {l : Launch} {E : zG} (hzs : zS E) (hst : l.stackTraces = false) (C : zC X cL_law RL 9) (G : zGX X l E room_1) {h : zH} {kc ks sq a k L : Nat} {xs : Nat → Int32} (T : zSc E sq L xs) (hk : k < 512) (hi : 4 * k + 4 ≤ L) (hL : L ≤ 2048) (hc : kc + 30 ≤ 604272) (hs : ks + 5806 ≤ 7174744) (S : lwSx a k h) (kk : ∀ h', lwSx a (k + 1) h' → zV X (kc + 30) (ks + 5806) h' 3182 [(0, .retAddr sq), (1, .ref a), (2, .ref (a + 271)), (3, .ref (a + 280)), (4, .ref (a + 281)), (5, .int (nI (4 * k)))] []) {c : Nat} (h1 : 48 ≤ c) (h2 : c < 64) : zV X kc ks h 44 [(0, .retAddr sq), (1, .ref a), (2, .ref (a + 271)), (3, .ref (a + 280)), (4, .ref (a + 281)), (5, .int (nI (4 * k)))] [.int (nI c)] := by
  rcases (show c = 48 ∨ c = 49 ∨ c = 50 ∨ c = 51 ∨ c = 52 ∨ c = 53 ∨ c = 54 ∨ c = 55 ∨ c = 56 ∨ c = 57 ∨ c = 58 ∨ c = 59 ∨ c = 60 ∨ c = 61 ∨ c = 62 ∨ c = 63 by omega) with rfl | rfl | rfl | rfl | rfl | rfl | rfl | rfl | rfl | rfl | rfl | rfl | rfl | rfl | rfl | rfl
  · exact zV.tIn (off := 2568) 2612 C dL_law_44 (by decide) (by decide) (by decide) (by decide) (L_c48 hzs hst C G T hk hi hL hc hs S kk)
  · exact zV.tIn (off := 2634) 2678 C dL_law_44 (by decide) (by decide) (by decide) (by decide) (L_c49 hzs hst C G T hk hi hL hc hs S kk)
  · exact zV.tIn (off := 2647) 2691 C dL_law_44 (by decide) (by decide) (by decide) (by decide) (L_c50 hzs hst C G T hk hi hL hc hs S kk)
  · exact zV.tIn (off := 2703) 2747 C dL_law_44 (by decide) (by decide) (by decide) (by decide) (L_c51 hzs hst C G T hk hi hL hc hs S kk)
  · exact zV.tIn (off := 2759) 2803 C dL_law_44 (by decide) (by decide) (by decide) (by decide) (L_c52 hzs hst C G T hk hi hL hc hs S kk)
  · exact zV.tIn (off := 2817) 2861 C dL_law_44 (by decide) (by decide) (by decide) (by decide) (L_c53 hzs hst C G T hk hi hL hc hs S kk)
  · exact zV.tIn (off := 2861) 2905 C dL_law_44 (by decide) (by decide) (by decide) (by decide) (L_c54 hzs hst C G T hk hi hL hc hs S kk)
  · exact zV.tIn (off := 2905) 2949 C dL_law_44 (by decide) (by decide) (by decide) (by decide) (L_c55 hzs hst C G T hk hi hL hc hs S kk)
  · exact zV.tIn (off := 2949) 2993 C dL_law_44 (by decide) (by decide) (by decide) (by decide) (L_c56 hzs hst C G T hk hi hL hc hs S kk)
  · exact zV.tIn (off := 2993) 3037 C dL_law_44 (by decide) (by decide) (by decide) (by decide) (L_c57 hzs hst C G T hk hi hL hc hs S kk)
  · exact zV.tIn (off := 3037) 3081 C dL_law_44 (by decide) (by decide) (by decide) (by decide) (L_c58 hzs hst C G T hk hi hL hc hs S kk)
  · exact zV.tIn (off := 3081) 3125 C dL_law_44 (by decide) (by decide) (by decide) (by decide) (L_c59 hzs hst C G T hk hi hL hc hs S kk)
  · exact zV.tIn (off := 3094) 3138 C dL_law_44 (by decide) (by decide) (by decide) (by decide) (L_c60 hzs hst C G T hk hi hL hc hs S kk)
  · exact zV.tOut 3182 C dL_law_44 (by decide) (by decide) (zV.up (kc' := kc + 30) (ks' := ks + 5806) (by omega) (by omega) (kk _ (LSx_mono S)))
  · exact zV.tOut 3182 C dL_law_44 (by decide) (by decide) (zV.up (kc' := kc + 30) (ks' := ks + 5806) (by omega) (by omega) (kk _ (LSx_mono S)))
  · exact zV.tOut 3182 C dL_law_44 (by decide) (by decide) (zV.up (kc' := kc + 30) (ks' := ks + 5806) (by omega) (by omega) (kk _ (LSx_mono S)))
set_option maxHeartbeats 4000000 in
set_option maxRecDepth 100000 in
theorem L_loop {X : zX} {l : Launch} {E : zG} (hzs : zS E) (hst : l.stackTraces = false) (C : zC X cL_law RL 9) (G : zGX X l E room_1) {sq a L : Nat} {xs : Nat → Int32} (T : zSc E sq L xs) (hL : L ≤ 2048) (fin : ∀ (k : Nat) (h : zH) (kc ks : Nat), kc ≤ 604272 → ks ≤ 7174744 → zV X kc ks h 3188 [(0, .retAddr sq), (1, .ref a), (2, .ref (a + 271)), (3, .ref (a + 280)), (4, .ref (a + 281)), (5, .int (nI (4 * k)))] []) : ∀ (n k : Nat) (h : zH) (kc ks : Nat), k + n = 512 → kc + 30 * n ≤ 604272 → ks + 5806 * n ≤ 7174744 → lwSx a k h → zV X kc ks h 28 [(0, .retAddr sq), (1, .ref a), (2, .ref (a + 271)), (3, .ref (a + 280)), (4, .ref (a + 281)), (5, .int (nI (4 * k)))] [] := by
  intro n
  induction n with
  | zero =>
    intro k h kc ks hn hc hs S
    refine zV.iload C dL_law_28 rfl ?_
    refine zV.aload_n C dL_law_30 rfl rfl ?_
    refine zV.alenRaw C G dL_law_31 T ?_
    refine zV.ic (v := nI 4) C dL_law_32 (by decide) ?_
    refine zV.isub C dL_law_33 ?_
    refine zV.icmp_gt (tgt := 3188) C dL_law_34 (by decide) (fun _ => fin k h kc ks (by omega) (by omega)) (fun q => ?_)
    have := fits4 hL (by omega) q
    omega
  | succ n ih =>
    intro k h kc ks hn hc hs S
    refine zV.iload C dL_law_28 rfl ?_
    refine zV.aload_n C dL_law_30 rfl rfl ?_
    refine zV.alenRaw C G dL_law_31 T ?_
    refine zV.ic (v := nI 4) C dL_law_32 (by decide) ?_
    refine zV.isub C dL_law_33 ?_
    refine zV.icmp_gt (tgt := 3188) C dL_law_34 (by decide) (fun _ => fin k h kc ks (by omega) (by omega)) (fun q => ?_)
    have hi : 4 * k + 4 ≤ L := fits4 hL (by omega) q
    have hk : k < 512 := by omega
    refine zV.arg0 (p := 37) C G T hi hL dL_law_37 dL_law_38 dL_law_40 rfl rfl ?_
    refine zV.bi (v := nI 63) C dL_law_41 (by decide) ?_
    refine zV.iand C dL_law_43 ?_
    obtain ⟨c, hc9, e9⟩ := and63 (xs (4 * k))
    rw [e9]
    have kk : ∀ h', lwSx a (k + 1) h' → zV X (kc + 30) (ks + 5806) h' 3182 [(0, .retAddr sq), (1, .ref a), (2, .ref (a + 271)), (3, .ref (a + 280)), (4, .ref (a + 281)), (5, .int (nI (4 * k)))] [] := by
      intro h' S'
      refine zV.iinc (lo' := [(0, .retAddr sq), (1, .ref a), (2, .ref (a + 271)), (3, .ref (a + 280)), (4, .ref (a + 281)), (5, .int (nI (4 * k) + Int32.ofInt 4))]) C dL_law_3182 rfl (by decide) rfl rfl rfl ?_
      rw [show nI (4 * k) + Int32.ofInt 4 = nI (4 * (k + 1)) from nI_add (4 * k) 4]
      refine zV.goto (tgt := 28) C dL_law_3185 (by decide) ?_
      exact ih (k + 1) h' (kc + 30) (ks + 5806) (by omega) (by omega) (by omega) S'
    show zV X kc ks h 44 [(0, .retAddr sq), (1, .ref a), (2, .ref (a + 271)), (3, .ref (a + 280)), (4, .ref (a + 281)), (5, .int (nI (4 * k)))] [.int (nI c)]
    rcases Nat.lt_or_ge c 16 with z | z
    · exact L_disp0 hzs hst C G T hk hi hL (by omega) (by omega) S kk (Nat.zero_le _) z
    rcases Nat.lt_or_ge c 32 with z2 | z2
    · exact L_disp1 hzs hst C G T hk hi hL (by omega) (by omega) S kk z z2
    rcases Nat.lt_or_ge c 48 with z3 | z3
    · exact L_disp2 hzs hst C G T hk hi hL (by omega) (by omega) S kk z2 z3
    · exact L_disp3 hzs hst C G T hk hi hL (by omega) (by omega) S kk z3 hc9
