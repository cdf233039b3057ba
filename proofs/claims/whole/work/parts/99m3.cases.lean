/-! the law, call by call -/
set_option maxHeartbeats 4000000 in
set_option maxRecDepth 100000 in
/-- season -/
theorem L_c32 {X : zX} {l : Launch} {E : zG} (hzs : zS E) (hst : l.stackTraces = false) (C : zC X cL_law RL 9) (G : zGX X l E room_1) {h : zH} {kc ks sq a k L : Nat} {xs : Nat → Int32} (T : zSc E sq L xs) (hk : k < 512) (hi : 4 * k + 4 ≤ L) (hL : L ≤ 2048) (hc : kc + 30 ≤ 604272) (hs : ks + 5806 ≤ 7174744) (S : lwSx a k h) (kk : ∀ h', lwSx a (k + 1) h' → zV X (kc + 30) (ks + 5806) h' 3182 [(0, .retAddr sq), (1, .ref a), (2, .ref (a + 271)), (3, .ref (a + 280)), (4, .ref (a + 281)), (5, .int (nI (4 * k)))] []) : zV X kc ks h 2137 [(0, .retAddr sq), (1, .ref a), (2, .ref (a + 271)), (3, .ref (a + 280)), (4, .ref (a + 281)), (5, .int (nI (4 * k)))] [] := by
  obtain ⟨g, us, sn, off, rs, dt, cs, t, o, S⟩ := S
  have hw := LS_W S hk
  have hb := LS_big hk
  have hR := S.2.2.2.1
  refine zV.aload_n C dL_law_2137 rfl rfl ?_
  refine zV.callV (n := 0) C G dL_law_2138 (s_season hzs hst h a g S.1.1.1 S.1.1.2.1.1 hw) rfl ⟨cd_X9_season, lk_L_280, im_X9_season, se_X9_X9_season, in_X9⟩ ⟨⟨by decide, by decide⟩, by decide⟩ rfl (zRmL rfl (by omega) (by omega)) rfl S.1.1.1.1 ⟨rfl, by decide⟩ (zaf ?_) (zno)
  have R2 := LS_r S (zXf.refl h a (a + 282)) zWr_0
  refine zV.aload_n C dL_law_2141 rfl rfl ?_
  refine zV.callV (n := 0) C G dL_law_2142 (s_qseason hzs hst h (a + 271) (60000 * k) g R2.1 R2.2.1 hR.1 (by omega)) rfl ⟨cd_X10_season, lk_L_283, im_X10_season, se_X10_X10_season, in_X10⟩ ⟨⟨by decide, by decide⟩, by decide⟩ rfl (zRmL rfl (by omega) (by omega)) rfl R2.1.1 ⟨rfl, by decide⟩ (zaf ?_) (zno)
  have Sx := LSx_q (v := nI 0) S zWr_0
  refine zV.icmp_eq (tgt := 3182) C dL_law_2145 (by decide) (fun _ => ?_) (fun z => absurd rfl z)
  exact zV.up (kc' := kc + 30) (ks' := ks + 5806) (by omega) (by omega) (kk _ Sx)
set_option maxHeartbeats 4000000 in
set_option maxRecDepth 100000 in
/-- daysUntil -/
theorem L_c33 {X : zX} {l : Launch} {E : zG} (hzs : zS E) (hst : l.stackTraces = false) (C : zC X cL_law RL 9) (G : zGX X l E room_1) {h : zH} {kc ks sq a k L : Nat} {xs : Nat → Int32} (T : zSc E sq L xs) (hk : k < 512) (hi : 4 * k + 4 ≤ L) (hL : L ≤ 2048) (hc : kc + 30 ≤ 604272) (hs : ks + 5806 ≤ 7174744) (S : lwSx a k h) (kk : ∀ h', lwSx a (k + 1) h' → zV X (kc + 30) (ks + 5806) h' 3182 [(0, .retAddr sq), (1, .ref a), (2, .ref (a + 271)), (3, .ref (a + 280)), (4, .ref (a + 281)), (5, .int (nI (4 * k)))] []) : zV X kc ks h 2150 [(0, .retAddr sq), (1, .ref a), (2, .ref (a + 271)), (3, .ref (a + 280)), (4, .ref (a + 281)), (5, .int (nI (4 * k)))] [] := by
  obtain ⟨g, us, sn, off, rs, dt, cs, t, o, S⟩ := S
  have hw := LS_W S hk
  have hb := LS_big hk
  have hR := S.2.2.2.1
  obtain ⟨A, eA⟩ : ∃ A : zAn, A = (duA g (xs (4 * k + 1))) := ⟨_, rfl⟩
  have ok : okA A (fun Ex => Ex = IAE) := by rw [eA]; exact okA_du rfl
  refine zV.aload_n C dL_law_2150 rfl rfl ?_
  refine zV.arg (p := 2151) C G T hi hL (c := 1) (by decide) dL_law_2151 dL_law_2152 dL_law_2154 dL_law_2155 dL_law_2156 (by decide) rfl rfl ?_
  refine zV.aload_n C dL_law_2157 rfl rfl ?_
  refine zV.callSW (n := 3) C G dL_law_2158 (s_LdaysUntil hzs hst h a (a + 280) (xs (4 * k + 1)) A (fun h' => h' = h) (by rw [eA]; exact s_daysUntil hzs hst h a g (xs (4 * k + 1)) S.1.1.1 S.1.1.2.1.1 hw) S.1.1.1.1 (fun h1 e => by rw [show h1 = h from e]; exact S.2.1.1) ok.1 ok.2) rfl ⟨cd_L_daysUntil, lk_L_284, st_L_daysUntil, in_L⟩ ⟨⟨by decide, by decide⟩, by decide⟩ rfl (zRmL rfl (by omega) (by omega)) rfl (zafX (fun r2 h2 q2 => ?_)) (zno)
  obtain ⟨rfl, h1, p1, rfl⟩ := q2
  obtain rfl : h = h1 := Eq.symm p1
  show zV X (kc + 1) (ks + 6) (lwH A (a + 280) h) 2161 [(0, .retAddr sq), (1, .ref a), (2, .ref (a + 271)), (3, .ref (a + 280)), (4, .ref (a + 281)), (5, .int (nI (4 * k)))] [.int _]
  refine zV.istore (lo' := [(0, .retAddr sq), (1, .ref a), (2, .ref (a + 271)), (3, .ref (a + 280)), (4, .ref (a + 281)), (5, .int (nI (4 * k))), (6, _)]) C dL_law_2161 (by decide) rfl rfl rfl ?_
  have R2 := LS_r S (zXf.refl h a (a + 282)) (zWr_H (A := A))
  refine zV.aload_n C dL_law_2163 rfl rfl ?_
  refine zV.arg (p := 2164) C G T hi hL (c := 1) (by decide) dL_law_2164 dL_law_2165 dL_law_2167 dL_law_2168 dL_law_2169 (by decide) rfl rfl ?_
  refine zV.callV (n := 1) C G dL_law_2170 (s_qdaysUntil hzs hst (lwH A (a + 280) h) (a + 271) (60000 * k) g R2.1 R2.2.1 hR.1 (by omega) (xs (4 * k + 1))) rfl ⟨cd_X10_daysUntil, lk_L_286, im_X10_daysUntil, se_X10_X10_daysUntil, in_X10⟩ ⟨⟨by decide, by decide⟩, by decide⟩ rfl (zRmL rfl (by omega) (by omega)) rfl R2.1.1 ⟨rfl, by decide⟩ (zafX (fun r3 h3 q3 => ?_)) (zno)
  have q3 : mqQ (lwH A (a + 280) h) (a + 271) A (fun Ex => 1) (.int (nI 0)) r3 h3 := by rw [eA] at q3 ⊢; exact q3
  obtain ⟨e0, rfl⟩ := q3
  have Sx := LSx_q (v := nI (anC A (fun Ex => 1))) S (zWr_H (A := A))
  obtain ⟨b, rfl, f1, f2⟩ := fct (d := nI 0) (ob := a + 280) (h1 := h) ok.1 (fun Ex _ => cfn1 Ex) e0 (hI_sI (h := (lwH A (a + 280) h))) rfl
  exact zV.up (kc' := kc + 30) (ks' := ks + 5806) (by omega) (by omega) (L_tail hzs hst C G (p := 2173) dL_law_2173 dL_law_2175 dL_law_2176 dL_law_2179 dL_law_2181 dL_law_2186 dL_law_2188 dL_law_2191 dL_law_2192 dL_law_2193 dL_law_2194 dL_law_2196 dL_law_2197 dL_law_2198 dL_law_2203 (by decide) hc hs (LSx_r Sx) (LSx_ob Sx) f1 f2 (kk _ Sx))
set_option maxHeartbeats 4000000 in
set_option maxRecDepth 100000 in
/-- wouldCollapse -/
theorem L_c34 {X : zX} {l : Launch} {E : zG} (hzs : zS E) (hst : l.stackTraces = false) (C : zC X cL_law RL 9) (G : zGX X l E room_1) {h : zH} {kc ks sq a k L : Nat} {xs : Nat → Int32} (T : zSc E sq L xs) (hk : k < 512) (hi : 4 * k + 4 ≤ L) (hL : L ≤ 2048) (hc : kc + 30 ≤ 604272) (hs : ks + 5806 ≤ 7174744) (S : lwSx a k h) (kk : ∀ h', lwSx a (k + 1) h' → zV X (kc + 30) (ks + 5806) h' 3182 [(0, .retAddr sq), (1, .ref a), (2, .ref (a + 271)), (3, .ref (a + 280)), (4, .ref (a + 281)), (5, .int (nI (4 * k)))] []) : zV X kc ks h 2206 [(0, .retAddr sq), (1, .ref a), (2, .ref (a + 271)), (3, .ref (a + 280)), (4, .ref (a + 281)), (5, .int (nI (4 * k)))] [] := by
  obtain ⟨g, us, sn, off, rs, dt, cs, t, o, S⟩ := S
  have hw := LS_W S hk
  have hb := LS_big hk
  have hR := S.2.2.2.1
  obtain ⟨A, eA⟩ : ∃ A : zAn, A = wcA g (xs (4 * k + 1)) := ⟨_, rfl⟩
  have ok : okA A (fun Ex => Ex = IAE) := by rw [eA]; exact okA_wc rfl
  refine zV.aload_n C dL_law_2206 rfl rfl ?_
  refine zV.arg (p := 2207) C G T hi hL (c := 1) (by decide) dL_law_2207 dL_law_2208 dL_law_2210 dL_law_2211 dL_law_2212 (by decide) rfl rfl ?_
  refine zV.aload_n C dL_law_2213 rfl rfl ?_
  refine zV.callSW (n := 3) C G dL_law_2214 (s_LwouldCollapse hzs hst h a (a + 280) (xs (4 * k + 1)) A (sm9 h a (a + 282) g us sn off rs dt cs t o) (by rw [eA]; exact s_wouldCollapse hzs hst h a (a + 282) (60000 * k) (xs (4 * k + 1)) g us sn off rs dt cs t o S.1.1 hR.1.1 (by omega)) S.1.1.1.1 (fun h1 p => LS_ob S p.1) ok.1 ok.2) rfl ⟨cd_L_wouldCollapse, lk_L_287, st_L_wouldCollapse, in_L⟩ ⟨⟨by decide, by decide⟩, by decide⟩ rfl (zRmL rfl (by omega) (by omega)) rfl (zafX (fun r2 h2 q2 => ?_)) (zno)
  obtain ⟨rfl, h1, p1, rfl⟩ := q2
  show zV X (kc + 1) (ks + 6) (lwH A (a + 280) h1) 2217 [(0, .retAddr sq), (1, .ref a), (2, .ref (a + 271)), (3, .ref (a + 280)), (4, .ref (a + 281)), (5, .int (nI (4 * k)))] [.int _]
  refine zV.istore (lo' := [(0, .retAddr sq), (1, .ref a), (2, .ref (a + 271)), (3, .ref (a + 280)), (4, .ref (a + 281)), (5, .int (nI (4 * k))), (6, _)]) C dL_law_2217 (by decide) rfl rfl rfl ?_
  have R2 := LS_r S p1.1 (zWr_H (A := A))
  refine zV.aload_n C dL_law_2219 rfl rfl ?_
  refine zV.arg (p := 2220) C G T hi hL (c := 1) (by decide) dL_law_2220 dL_law_2221 dL_law_2223 dL_law_2224 dL_law_2225 (by decide) rfl rfl ?_
  refine zV.callV (n := 1) C G dL_law_2226 (s_qwouldCollapse hzs hst (lwH A (a + 280) h1) (a + 271) (60000 * k) g R2.1 R2.2.1 hR.1 (by omega) (xs (4 * k + 1))) rfl ⟨cd_X10_wouldCollapse, lk_L_289, im_X10_wouldCollapse, se_X10_X10_wouldCollapse, in_X10⟩ ⟨⟨by decide, by decide⟩, by decide⟩ rfl (zRmL rfl (by omega) (by omega)) rfl R2.1.1 ⟨rfl, by decide⟩ (zafX (fun r3 h3 q3 => ?_)) (zno)
  obtain ⟨e0, e1, e2, hg9⟩ := q3
  have Sx := LSx_w S p1 (zWr_H (A := A)) e2 hg9
  have e1 : hI h3 435 (a + 271) = nI (anC A (fun Ex => 1)) := by rw [eA]; exact e1
  have e0 : r3 = some (anV A (.int (nI 0))) := by rw [eA]; exact e0
  obtain ⟨b, rfl, f1, f2⟩ := fct (d := nI 0) (ob := a + 280) (h1 := h1) ok.1 (fun Ex _ => cfn1 Ex) e0 e1 e2.1.2.2.2.2.2.1
  exact zV.up (kc' := kc + 30) (ks' := ks + 5806) (by omega) (by omega) (L_tail hzs hst C G (p := 2229) dL_law_2229 dL_law_2231 dL_law_2232 dL_law_2235 dL_law_2237 dL_law_2242 dL_law_2244 dL_law_2247 dL_law_2248 dL_law_2249 dL_law_2250 dL_law_2252 dL_law_2253 dL_law_2254 dL_law_2259 (by decide) hc hs (LSx_r Sx) (LSx_ob Sx) f1 f2 (kk _ Sx))
set_option maxHeartbeats 4000000 in
set_option maxRecDepth 100000 in
/-- collapseDay -/
theorem L_c35 {X : zX} {l : Launch} {E : zG} (hzs : zS E) (hst : l.stackTraces = false) (C : zC X cL_law RL 9) (G : zGX X l E room_1) {h : zH} {kc ks sq a k L : Nat} {xs : Nat → Int32} (T : zSc E sq L xs) (hk : k < 512) (hi : 4 * k + 4 ≤ L) (hL : L ≤ 2048) (hc : kc + 30 ≤ 604272) (hs : ks + 5806 ≤ 7174744) (S : lwSx a k h) (kk : ∀ h', lwSx a (k + 1) h' → zV X (kc + 30) (ks + 5806) h' 3182 [(0, .retAddr sq), (1, .ref a), (2, .ref (a + 271)), (3, .ref (a + 280)), (4, .ref (a + 281)), (5, .int (nI (4 * k)))] []) : zV X kc ks h 2262 [(0, .retAddr sq), (1, .ref a), (2, .ref (a + 271)), (3, .ref (a + 280)), (4, .ref (a + 281)), (5, .int (nI (4 * k)))] [] := by
  obtain ⟨g, us, sn, off, rs, dt, cs, t, o, S⟩ := S
  have hw := LS_W S hk
  have hb := LS_big hk
  have hR := S.2.2.2.1
  obtain ⟨A, eA⟩ : ∃ A : zAn, A = cdA g (xs (4 * k + 1)) := ⟨_, rfl⟩
  have ok : okA A (fun Ex => Ex = IOB ∨ Ex = NSE) := by rw [eA]; unfold cdA; exact okA_ch (Or.inl rfl) (fun _ _ => okA_op (Or.inr rfl))
  refine zV.aload_n C dL_law_2262 rfl rfl ?_
  refine zV.arg (p := 2263) C G T hi hL (c := 1) (by decide) dL_law_2263 dL_law_2264 dL_law_2266 dL_law_2267 dL_law_2268 (by decide) rfl rfl ?_
  refine zV.aload_n C dL_law_2269 rfl rfl ?_
  refine zV.callSW (n := 3) C G dL_law_2270 (s_LcollapseDay hzs hst h a (a + 280) (xs (4 * k + 1)) A (sm9 h a (a + 282) g us sn off rs dt cs t o) (by rw [eA]; exact s_collapseDay hzs hst h a (a + 282) (60000 * k) (xs (4 * k + 1)) g us sn off rs dt cs t o S.1.1 hR.1.1 (by omega)) S.1.1.1.1 (fun h1 p => LS_ob S p.1) ok.1 ok.2) rfl ⟨cd_L_collapseDay, lk_L_290, st_L_collapseDay, in_L⟩ ⟨⟨by decide, by decide⟩, by decide⟩ rfl (zRmL rfl (by omega) (by omega)) rfl (zafX (fun r2 h2 q2 => ?_)) (zno)
  obtain ⟨rfl, h1, p1, rfl⟩ := q2
  show zV X (kc + 2) (ks + 12) (lwH A (a + 280) h1) 2273 [(0, .retAddr sq), (1, .ref a), (2, .ref (a + 271)), (3, .ref (a + 280)), (4, .ref (a + 281)), (5, .int (nI (4 * k)))] [.int _]
  refine zV.istore (lo' := [(0, .retAddr sq), (1, .ref a), (2, .ref (a + 271)), (3, .ref (a + 280)), (4, .ref (a + 281)), (5, .int (nI (4 * k))), (6, _)]) C dL_law_2273 (by decide) rfl rfl rfl ?_
  have R2 := LS_r S p1.1 (zWr_H (A := A))
  refine zV.aload_n C dL_law_2275 rfl rfl ?_
  refine zV.arg (p := 2276) C G T hi hL (c := 1) (by decide) dL_law_2276 dL_law_2277 dL_law_2279 dL_law_2280 dL_law_2281 (by decide) rfl rfl ?_
  refine zV.callV (n := 1) C G dL_law_2282 (s_qcollapseDay hzs hst (lwH A (a + 280) h1) (a + 271) (60000 * k) g R2.1 R2.2.1 hR.1 (by omega) (xs (4 * k + 1))) rfl ⟨cd_X10_collapseDay, lk_L_292, im_X10_collapseDay, se_X10_X10_collapseDay, in_X10⟩ ⟨⟨by decide, by decide⟩, by decide⟩ rfl (zRmL rfl (by omega) (by omega)) rfl R2.1.1 ⟨rfl, by decide⟩ (zafX (fun r3 h3 q3 => ?_)) (zno)
  obtain ⟨e0, e1, e2, hg9⟩ := q3
  have Sx := LSx_w S p1 (zWr_H (A := A)) e2 hg9
  have e1 : hI h3 435 (a + 271) = nI (anC A (fun Ex => if Ex = IOB then 1 else 2)) := by rw [eA]; exact e1
  have e0 : r3 = some (anV A (.int (nI 0))) := by rw [eA]; exact e0
  obtain ⟨b, rfl, f1, f2⟩ := fct (d := nI 0) (ob := a + 280) (h1 := h1) ok.1 (fun Ex _ => cfn2 Ex) e0 e1 e2.1.2.2.2.2.2.1
  exact zV.up (kc' := kc + 30) (ks' := ks + 5806) (by omega) (by omega) (L_tail hzs hst C G (p := 2285) dL_law_2285 dL_law_2287 dL_law_2288 dL_law_2291 dL_law_2293 dL_law_2298 dL_law_2300 dL_law_2303 dL_law_2304 dL_law_2305 dL_law_2306 dL_law_2308 dL_law_2309 dL_law_2310 dL_law_2315 (by decide) hc hs (LSx_r Sx) (LSx_ob Sx) f1 f2 (kk _ Sx))
set_option maxHeartbeats 4000000 in
set_option maxRecDepth 100000 in
/-- chairCount -/
theorem L_c36 {X : zX} {l : Launch} {E : zG} (hzs : zS E) (hst : l.stackTraces = false) (C : zC X cL_law RL 9) (G : zGX X l E room_1) {h : zH} {kc ks sq a k L : Nat} {xs : Nat → Int32} (T : zSc E sq L xs) (hk : k < 512) (hi : 4 * k + 4 ≤ L) (hL : L ≤ 2048) (hc : kc + 30 ≤ 604272) (hs : ks + 5806 ≤ 7174744) (S : lwSx a k h) (kk : ∀ h', lwSx a (k + 1) h' → zV X (kc + 30) (ks + 5806) h' 3182 [(0, .retAddr sq), (1, .ref a), (2, .ref (a + 271)), (3, .ref (a + 280)), (4, .ref (a + 281)), (5, .int (nI (4 * k)))] []) : zV X kc ks h 2318 [(0, .retAddr sq), (1, .ref a), (2, .ref (a + 271)), (3, .ref (a + 280)), (4, .ref (a + 281)), (5, .int (nI (4 * k)))] [] := by
  obtain ⟨g, us, sn, off, rs, dt, cs, t, o, S⟩ := S
  have hw := LS_W S hk
  have hb := LS_big hk
  have hR := S.2.2.2.1
  refine zV.aload_n C dL_law_2318 rfl rfl ?_
  refine zV.callV (n := 0) C G dL_law_2319 (s_chairCount hzs hst h a g S.1.1.1 S.1.1.2.1.1 hw) rfl ⟨cd_X9_chairCount, lk_L_293, im_X9_chairCount, se_X9_X9_chairCount, in_X9⟩ ⟨⟨by decide, by decide⟩, by decide⟩ rfl (zRmL rfl (by omega) (by omega)) rfl S.1.1.1.1 ⟨rfl, by decide⟩ (zaf ?_) (zno)
  have R2 := LS_r S (zXf.refl h a (a + 282)) zWr_0
  refine zV.aload_n C dL_law_2322 rfl rfl ?_
  refine zV.callV (n := 0) C G dL_law_2323 (s_qchairCount hzs hst h (a + 271) (60000 * k) g R2.1 R2.2.1 hR.1 (by omega)) rfl ⟨cd_X10_chairCount, lk_L_296, im_X10_chairCount, se_X10_X10_chairCount, in_X10⟩ ⟨⟨by decide, by decide⟩, by decide⟩ rfl (zRmL rfl (by omega) (by omega)) rfl R2.1.1 ⟨rfl, by decide⟩ (zaf ?_) (zno)
  have Sx := LSx_q (v := nI 0) S zWr_0
  refine zV.icmp_eq (tgt := 3182) C dL_law_2326 (by decide) (fun _ => ?_) (fun z => absurd rfl z)
  exact zV.up (kc' := kc + 30) (ks' := ks + 5806) (by omega) (by omega) (kk _ Sx)
set_option maxHeartbeats 4000000 in
set_option maxRecDepth 100000 in
/-- foldedCount -/
theorem L_c37 {X : zX} {l : Launch} {E : zG} (hzs : zS E) (hst : l.stackTraces = false) (C : zC X cL_law RL 9) (G : zGX X l E room_1) {h : zH} {kc ks sq a k L : Nat} {xs : Nat → Int32} (T : zSc E sq L xs) (hk : k < 512) (hi : 4 * k + 4 ≤ L) (hL : L ≤ 2048) (hc : kc + 30 ≤ 604272) (hs : ks + 5806 ≤ 7174744) (S : lwSx a k h) (kk : ∀ h', lwSx a (k + 1) h' → zV X (kc + 30) (ks + 5806) h' 3182 [(0, .retAddr sq), (1, .ref a), (2, .ref (a + 271)), (3, .ref (a + 280)), (4, .ref (a + 281)), (5, .int (nI (4 * k)))] []) : zV X kc ks h 2331 [(0, .retAddr sq), (1, .ref a), (2, .ref (a + 271)), (3, .ref (a + 280)), (4, .ref (a + 281)), (5, .int (nI (4 * k)))] [] := by
  obtain ⟨g, us, sn, off, rs, dt, cs, t, o, S⟩ := S
  have hw := LS_W S hk
  have hb := LS_big hk
  have hR := S.2.2.2.1
  refine zV.aload_n C dL_law_2331 rfl rfl ?_
  refine zV.callV (n := 0) C G dL_law_2332 (s_foldedCount hzs hst h a g S.1.1.1 S.1.1.2.1.1 hw) rfl ⟨cd_X9_foldedCount, lk_L_297, im_X9_foldedCount, se_X9_X9_foldedCount, in_X9⟩ ⟨⟨by decide, by decide⟩, by decide⟩ rfl (zRmL rfl (by omega) (by omega)) rfl S.1.1.1.1 ⟨rfl, by decide⟩ (zaf ?_) (zno)
  have R2 := LS_r S (zXf.refl h a (a + 282)) zWr_0
  refine zV.aload_n C dL_law_2335 rfl rfl ?_
  refine zV.callV (n := 0) C G dL_law_2336 (s_qfoldedCount hzs hst h (a + 271) (60000 * k) g R2.1 R2.2.1 hR.1 (by omega)) rfl ⟨cd_X10_foldedCount, lk_L_300, im_X10_foldedCount, se_X10_X10_foldedCount, in_X10⟩ ⟨⟨by decide, by decide⟩, by decide⟩ rfl (zRmL rfl (by omega) (by omega)) rfl R2.1.1 ⟨rfl, by decide⟩ (zaf ?_) (zno)
  have Sx := LSx_q (v := nI 0) S zWr_0
  refine zV.icmp_eq (tgt := 3182) C dL_law_2339 (by decide) (fun _ => ?_) (fun z => absurd rfl z)
  exact zV.up (kc' := kc + 30) (ks' := ks + 5806) (by omega) (by omega) (kk _ Sx)
set_option maxHeartbeats 4000000 in
set_option maxRecDepth 100000 in
/-- oil -/
theorem L_c38 {X : zX} {l : Launch} {E : zG} (hzs : zS E) (hst : l.stackTraces = false) (C : zC X cL_law RL 9) (G : zGX X l E room_1) {h : zH} {kc ks sq a k L : Nat} {xs : Nat → Int32} (T : zSc E sq L xs) (hk : k < 512) (hi : 4 * k + 4 ≤ L) (hL : L ≤ 2048) (hc : kc + 30 ≤ 604272) (hs : ks + 5806 ≤ 7174744) (S : lwSx a k h) (kk : ∀ h', lwSx a (k + 1) h' → zV X (kc + 30) (ks + 5806) h' 3182 [(0, .retAddr sq), (1, .ref a), (2, .ref (a + 271)), (3, .ref (a + 280)), (4, .ref (a + 281)), (5, .int (nI (4 * k)))] []) : zV X kc ks h 2344 [(0, .retAddr sq), (1, .ref a), (2, .ref (a + 271)), (3, .ref (a + 280)), (4, .ref (a + 281)), (5, .int (nI (4 * k)))] [] := by
  obtain ⟨g, us, sn, off, rs, dt, cs, t, o, S⟩ := S
  have hw := LS_W S hk
  have hb := LS_big hk
  have hR := S.2.2.2.1
  refine zV.aload_n C dL_law_2344 rfl rfl ?_
  refine zV.callV (n := 0) C G dL_law_2345 (s_oil hzs hst h a g S.1.1.1 S.1.1.2.1.1 hw) rfl ⟨cd_X9_oil, lk_L_301, im_X9_oil, se_X9_X9_oil, in_X9⟩ ⟨⟨by decide, by decide⟩, by decide⟩ rfl (zRmL rfl (by omega) (by omega)) rfl S.1.1.1.1 ⟨rfl, by decide⟩ (zaf ?_) (zno)
  have R2 := LS_r S (zXf.refl h a (a + 282)) zWr_0
  refine zV.aload_n C dL_law_2348 rfl rfl ?_
  refine zV.callV (n := 0) C G dL_law_2349 (s_qoil hzs hst h (a + 271) (60000 * k) g R2.1 R2.2.1 hR.1 (by omega)) rfl ⟨cd_X10_oil, lk_L_304, im_X10_oil, se_X10_X10_oil, in_X10⟩ ⟨⟨by decide, by decide⟩, by decide⟩ rfl (zRmL rfl (by omega) (by omega)) rfl R2.1.1 ⟨rfl, by decide⟩ (zaf ?_) (zno)
  have Sx := LSx_q (v := nI 0) S zWr_0
  refine zV.icmp_eq (tgt := 3182) C dL_law_2352 (by decide) (fun _ => ?_) (fun z => absurd rfl z)
  exact zV.up (kc' := kc + 30) (ks' := ks + 5806) (by omega) (by omega) (kk _ Sx)
set_option maxHeartbeats 4000000 in
set_option maxRecDepth 100000 in
/-- totalRust -/
theorem L_c39 {X : zX} {l : Launch} {E : zG} (hzs : zS E) (hst : l.stackTraces = false) (C : zC X cL_law RL 9) (G : zGX X l E room_1) {h : zH} {kc ks sq a k L : Nat} {xs : Nat → Int32} (T : zSc E sq L xs) (hk : k < 512) (hi : 4 * k + 4 ≤ L) (hL : L ≤ 2048) (hc : kc + 30 ≤ 604272) (hs : ks + 5806 ≤ 7174744) (S : lwSx a k h) (kk : ∀ h', lwSx a (k + 1) h' → zV X (kc + 30) (ks + 5806) h' 3182 [(0, .retAddr sq), (1, .ref a), (2, .ref (a + 271)), (3, .ref (a + 280)), (4, .ref (a + 281)), (5, .int (nI (4 * k)))] []) : zV X kc ks h 2357 [(0, .retAddr sq), (1, .ref a), (2, .ref (a + 271)), (3, .ref (a + 280)), (4, .ref (a + 281)), (5, .int (nI (4 * k)))] [] := by
  obtain ⟨g, us, sn, off, rs, dt, cs, t, o, S⟩ := S
  have hw := LS_W S hk
  have hb := LS_big hk
  have hR := S.2.2.2.1
  refine zV.aload_n C dL_law_2357 rfl rfl ?_
  refine zV.callV (n := 0) C G dL_law_2358 (s_totalRust hzs hst h a g S.1.1.1 S.1.1.2.1.1 hw) rfl ⟨cd_X9_totalRust, lk_L_305, im_X9_totalRust, se_X9_X9_totalRust, in_X9⟩ ⟨⟨by decide, by decide⟩, by decide⟩ rfl (zRmL rfl (by omega) (by omega)) rfl S.1.1.1.1 ⟨rfl, by decide⟩ (zaf ?_) (zno)
  have R2 := LS_r S (zXf.refl h a (a + 282)) zWr_0
  refine zV.aload_n C dL_law_2361 rfl rfl ?_
  refine zV.callV (n := 0) C G dL_law_2362 (s_qtotalRust hzs hst h (a + 271) (60000 * k) g R2.1 R2.2.1 hR.1 (by omega)) rfl ⟨cd_X10_totalRust, lk_L_308, im_X10_totalRust, se_X10_X10_totalRust, in_X10⟩ ⟨⟨by decide, by decide⟩, by decide⟩ rfl (zRmL rfl (by omega) (by omega)) rfl R2.1.1 ⟨rfl, by decide⟩ (zaf ?_) (zno)
  have Sx := LSx_q (v := nI 0) S zWr_0
  refine zV.icmp_eq (tgt := 3182) C dL_law_2365 (by decide) (fun _ => ?_) (fun z => absurd rfl z)
  exact zV.up (kc' := kc + 30) (ks' := ks + 5806) (by omega) (by omega) (kk _ Sx)
set_option maxHeartbeats 4000000 in
set_option maxRecDepth 100000 in
/-- totalRustByHerds -/
theorem L_c40 {X : zX} {l : Launch} {E : zG} (hzs : zS E) (hst : l.stackTraces = false) (C : zC X cL_law RL 9) (G : zGX X l E room_1) {h : zH} {kc ks sq a k L : Nat} {xs : Nat → Int32} (T : zSc E sq L xs) (hk : k < 512) (hi : 4 * k + 4 ≤ L) (hL : L ≤ 2048) (hc : kc + 30 ≤ 604272) (hs : ks + 5806 ≤ 7174744) (S : lwSx a k h) (kk : ∀ h', lwSx a (k + 1) h' → zV X (kc + 30) (ks + 5806) h' 3182 [(0, .retAddr sq), (1, .ref a), (2, .ref (a + 271)), (3, .ref (a + 280)), (4, .ref (a + 281)), (5, .int (nI (4 * k)))] []) : zV X kc ks h 2370 [(0, .retAddr sq), (1, .ref a), (2, .ref (a + 271)), (3, .ref (a + 280)), (4, .ref (a + 281)), (5, .int (nI (4 * k)))] [] := by
  obtain ⟨g, us, sn, off, rs, dt, cs, t, o, S⟩ := S
  have hw := LS_W S hk
  have hb := LS_big hk
  have hR := S.2.2.2.1
  refine zV.aload_n C dL_law_2370 rfl rfl ?_
  refine zV.callV (n := 0) C G dL_law_2371 (s_totalRustByHerds hzs hst h a g S.1.1.1 S.1.1.2.1.1 hw) rfl ⟨cd_X9_totalRustByHerds, lk_L_309, im_X9_totalRustByHerds, se_X9_X9_totalRustByHerds, in_X9⟩ ⟨⟨by decide, by decide⟩, by decide⟩ rfl (zRmL rfl (by omega) (by omega)) rfl S.1.1.1.1 ⟨rfl, by decide⟩ (zaf ?_) (zno)
  have R2 := LS_r S (zXf.refl h a (a + 282)) zWr_0
  refine zV.aload_n C dL_law_2374 rfl rfl ?_
  refine zV.callV (n := 0) C G dL_law_2375 (s_qtotalRustByHerds hzs hst h (a + 271) (60000 * k) g R2.1 R2.2.1 hR.1 (by omega)) rfl ⟨cd_X10_totalRustByHerds, lk_L_312, im_X10_totalRustByHerds, se_X10_X10_totalRustByHerds, in_X10⟩ ⟨⟨by decide, by decide⟩, by decide⟩ rfl (zRmL rfl (by omega) (by omega)) rfl R2.1.1 ⟨rfl, by decide⟩ (zaf ?_) (zno)
  have Sx := LSx_q (v := nI 0) S zWr_0
  refine zV.icmp_eq (tgt := 3182) C dL_law_2378 (by decide) (fun _ => ?_) (fun z => absurd rfl z)
  exact zV.up (kc' := kc + 30) (ks' := ks + 5806) (by omega) (by omega) (kk _ Sx)
set_option maxHeartbeats 4000000 in
set_option maxRecDepth 100000 in
/-- collapsedChairs -/
theorem L_c41 {X : zX} {l : Launch} {E : zG} (hzs : zS E) (hst : l.stackTraces = false) (C : zC X cL_law RL 9) (G : zGX X l E room_1) {h : zH} {kc ks sq a k L : Nat} {xs : Nat → Int32} (T : zSc E sq L xs) (hk : k < 512) (hi : 4 * k + 4 ≤ L) (hL : L ≤ 2048) (hc : kc + 30 ≤ 604272) (hs : ks + 5806 ≤ 7174744) (S : lwSx a k h) (kk : ∀ h', lwSx a (k + 1) h' → zV X (kc + 30) (ks + 5806) h' 3182 [(0, .retAddr sq), (1, .ref a), (2, .ref (a + 271)), (3, .ref (a + 280)), (4, .ref (a + 281)), (5, .int (nI (4 * k)))] []) : zV X kc ks h 2383 [(0, .retAddr sq), (1, .ref a), (2, .ref (a + 271)), (3, .ref (a + 280)), (4, .ref (a + 281)), (5, .int (nI (4 * k)))] [] := by
  obtain ⟨g, us, sn, off, rs, dt, cs, t, o, S⟩ := S
  have hw := LS_W S hk
  have hb := LS_big hk
  have hR := S.2.2.2.1
  refine zV.aload_n C dL_law_2383 rfl rfl ?_
  refine zV.callV (n := 0) C G dL_law_2384 (s_collapsedChairs hzs hst h a g S.1.1.1 S.1.1.2.1.1 hw) rfl ⟨cd_X9_collapsedChairs, lk_L_313, im_X9_collapsedChairs, se_X9_X9_collapsedChairs, in_X9⟩ ⟨⟨by decide, by decide⟩, by decide⟩ rfl (zRmL rfl (by omega) (by omega)) rfl S.1.1.1.1 ⟨rfl, by decide⟩ (zaf ?_) (zno)
  have R2 := LS_r S (zXf.refl h a (a + 282)) zWr_0
  refine zV.aload_n C dL_law_2387 rfl rfl ?_
  refine zV.callV (n := 0) C G dL_law_2388 (s_qcollapsedChairs hzs hst h (a + 271) (60000 * k) g R2.1 R2.2.1 hR.1 (by omega)) rfl ⟨cd_X10_collapsedChairs, lk_L_316, im_X10_collapsedChairs, se_X10_X10_collapsedChairs, in_X10⟩ ⟨⟨by decide, by decide⟩, by decide⟩ rfl (zRmL rfl (by omega) (by omega)) rfl R2.1.1 ⟨rfl, by decide⟩ (zaf ?_) (zno)
  have Sx := LSx_q (v := nI 0) S zWr_0
  refine zV.icmp_eq (tgt := 3182) C dL_law_2391 (by decide) (fun _ => ?_) (fun z => absurd rfl z)
  exact zV.up (kc' := kc + 30) (ks' := ks + 5806) (by omega) (by omega) (kk _ Sx)
set_option maxHeartbeats 4000000 in
set_option maxRecDepth 100000 in
/-- scrappedChairs -/
theorem L_c42 {X : zX} {l : Launch} {E : zG} (hzs : zS E) (hst : l.stackTraces = false) (C : zC X cL_law RL 9) (G : zGX X l E room_1) {h : zH} {kc ks sq a k L : Nat} {xs : Nat → Int32} (T : zSc E sq L xs) (hk : k < 512) (hi : 4 * k + 4 ≤ L) (hL : L ≤ 2048) (hc : kc + 30 ≤ 604272) (hs : ks + 5806 ≤ 7174744) (S : lwSx a k h) (kk : ∀ h', lwSx a (k + 1) h' → zV X (kc + 30) (ks + 5806) h' 3182 [(0, .retAddr sq), (1, .ref a), (2, .ref (a + 271)), (3, .ref (a + 280)), (4, .ref (a + 281)), (5, .int (nI (4 * k)))] []) : zV X kc ks h 2396 [(0, .retAddr sq), (1, .ref a), (2, .ref (a + 271)), (3, .ref (a + 280)), (4, .ref (a + 281)), (5, .int (nI (4 * k)))] [] := by
  obtain ⟨g, us, sn, off, rs, dt, cs, t, o, S⟩ := S
  have hw := LS_W S hk
  have hb := LS_big hk
  have hR := S.2.2.2.1
  refine zV.aload_n C dL_law_2396 rfl rfl ?_
  refine zV.callV (n := 0) C G dL_law_2397 (s_scrappedChairs hzs hst h a g S.1.1.1 S.1.1.2.1.1 hw) rfl ⟨cd_X9_scrappedChairs, lk_L_317, im_X9_scrappedChairs, se_X9_X9_scrappedChairs, in_X9⟩ ⟨⟨by decide, by decide⟩, by decide⟩ rfl (zRmL rfl (by omega) (by omega)) rfl S.1.1.1.1 ⟨rfl, by decide⟩ (zaf ?_) (zno)
  have R2 := LS_r S (zXf.refl h a (a + 282)) zWr_0
  refine zV.aload_n C dL_law_2400 rfl rfl ?_
  refine zV.callV (n := 0) C G dL_law_2401 (s_qscrappedChairs hzs hst h (a + 271) (60000 * k) g R2.1 R2.2.1 hR.1 (by omega)) rfl ⟨cd_X10_scrappedChairs, lk_L_320, im_X10_scrappedChairs, se_X10_X10_scrappedChairs, in_X10⟩ ⟨⟨by decide, by decide⟩, by decide⟩ rfl (zRmL rfl (by omega) (by omega)) rfl R2.1.1 ⟨rfl, by decide⟩ (zaf ?_) (zno)
  have Sx := LSx_q (v := nI 0) S zWr_0
  refine zV.icmp_eq (tgt := 3182) C dL_law_2404 (by decide) (fun _ => ?_) (fun z => absurd rfl z)
  exact zV.up (kc' := kc + 30) (ks' := ks + 5806) (by omega) (by omega) (kk _ Sx)
set_option maxHeartbeats 4000000 in
set_option maxRecDepth 100000 in
/-- moveCount -/
theorem L_c43 {X : zX} {l : Launch} {E : zG} (hzs : zS E) (hst : l.stackTraces = false) (C : zC X cL_law RL 9) (G : zGX X l E room_1) {h : zH} {kc ks sq a k L : Nat} {xs : Nat → Int32} (T : zSc E sq L xs) (hk : k < 512) (hi : 4 * k + 4 ≤ L) (hL : L ≤ 2048) (hc : kc + 30 ≤ 604272) (hs : ks + 5806 ≤ 7174744) (S : lwSx a k h) (kk : ∀ h', lwSx a (k + 1) h' → zV X (kc + 30) (ks + 5806) h' 3182 [(0, .retAddr sq), (1, .ref a), (2, .ref (a + 271)), (3, .ref (a + 280)), (4, .ref (a + 281)), (5, .int (nI (4 * k)))] []) : zV X kc ks h 2409 [(0, .retAddr sq), (1, .ref a), (2, .ref (a + 271)), (3, .ref (a + 280)), (4, .ref (a + 281)), (5, .int (nI (4 * k)))] [] := by
  obtain ⟨g, us, sn, off, rs, dt, cs, t, o, S⟩ := S
  have hw := LS_W S hk
  have hb := LS_big hk
  have hR := S.2.2.2.1
  refine zV.aload_n C dL_law_2409 rfl rfl ?_
  refine zV.callV (n := 0) C G dL_law_2410 (s_moveCount hzs hst h a g S.1.1.1 S.1.1.2.1.1 hw) rfl ⟨cd_X9_moveCount, lk_L_321, im_X9_moveCount, se_X9_X9_moveCount, in_X9⟩ ⟨⟨by decide, by decide⟩, by decide⟩ rfl (zRmL rfl (by omega) (by omega)) rfl S.1.1.1.1 ⟨rfl, by decide⟩ (zaf ?_) (zno)
  have R2 := LS_r S (zXf.refl h a (a + 282)) zWr_0
  refine zV.aload_n C dL_law_2413 rfl rfl ?_
  refine zV.callV (n := 0) C G dL_law_2414 (s_qmoveCount hzs hst h (a + 271) (60000 * k) g R2.1 R2.2.1 hR.1 (by omega)) rfl ⟨cd_X10_moveCount, lk_L_324, im_X10_moveCount, se_X10_X10_moveCount, in_X10⟩ ⟨⟨by decide, by decide⟩, by decide⟩ rfl (zRmL rfl (by omega) (by omega)) rfl R2.1.1 ⟨rfl, by decide⟩ (zaf ?_) (zno)
  have Sx := LSx_q (v := nI 0) S zWr_0
  refine zV.icmp_eq (tgt := 3182) C dL_law_2417 (by decide) (fun _ => ?_) (fun z => absurd rfl z)
  exact zV.up (kc' := kc + 30) (ks' := ks + 5806) (by omega) (by omega) (kk _ Sx)
set_option maxHeartbeats 4000000 in
set_option maxRecDepth 100000 in
/-- grazedShade -/
theorem L_c44 {X : zX} {l : Launch} {E : zG} (hzs : zS E) (hst : l.stackTraces = false) (C : zC X cL_law RL 9) (G : zGX X l E room_1) {h : zH} {kc ks sq a k L : Nat} {xs : Nat → Int32} (T : zSc E sq L xs) (hk : k < 512) (hi : 4 * k + 4 ≤ L) (hL : L ≤ 2048) (hc : kc + 30 ≤ 604272) (hs : ks + 5806 ≤ 7174744) (S : lwSx a k h) (kk : ∀ h', lwSx a (k + 1) h' → zV X (kc + 30) (ks + 5806) h' 3182 [(0, .retAddr sq), (1, .ref a), (2, .ref (a + 271)), (3, .ref (a + 280)), (4, .ref (a + 281)), (5, .int (nI (4 * k)))] []) : zV X kc ks h 2422 [(0, .retAddr sq), (1, .ref a), (2, .ref (a + 271)), (3, .ref (a + 280)), (4, .ref (a + 281)), (5, .int (nI (4 * k)))] [] := by
  obtain ⟨g, us, sn, off, rs, dt, cs, t, o, S⟩ := S
  have hw := LS_W S hk
  have hb := LS_big hk
  have hR := S.2.2.2.1
  refine zV.aload_n C dL_law_2422 rfl rfl ?_
  refine zV.callV (n := 0) C G dL_law_2423 (s_grazedShade hzs hst h a g S.1.1.1 S.1.1.2.1.1 hw) rfl ⟨cd_X9_grazedShade, lk_L_325, im_X9_grazedShade, se_X9_X9_grazedShade, in_X9⟩ ⟨⟨by decide, by decide⟩, by decide⟩ rfl (zRmL rfl (by omega) (by omega)) rfl S.1.1.1.1 ⟨rfl, by decide⟩ (zaf ?_) (zno)
  have R2 := LS_r S (zXf.refl h a (a + 282)) zWr_0
  refine zV.aload_n C dL_law_2426 rfl rfl ?_
  refine zV.callV (n := 0) C G dL_law_2427 (s_qgrazedShade hzs hst h (a + 271) (60000 * k) g R2.1 R2.2.1 hR.1 (by omega)) rfl ⟨cd_X10_grazedShade, lk_L_328, im_X10_grazedShade, se_X10_X10_grazedShade, in_X10⟩ ⟨⟨by decide, by decide⟩, by decide⟩ rfl (zRmL rfl (by omega) (by omega)) rfl R2.1.1 ⟨rfl, by decide⟩ (zaf ?_) (zno)
  have Sx := LSx_q (v := nI 0) S zWr_0
  refine zV.icmp_eq (tgt := 3182) C dL_law_2430 (by decide) (fun _ => ?_) (fun z => absurd rfl z)
  exact zV.up (kc' := kc + 30) (ks' := ks + 5806) (by omega) (by omega) (kk _ Sx)
set_option maxHeartbeats 4000000 in
set_option maxRecDepth 100000 in
/-- chairByRust -/
theorem L_c45 {X : zX} {l : Launch} {E : zG} (hzs : zS E) (hst : l.stackTraces = false) (C : zC X cL_law RL 9) (G : zGX X l E room_1) {h : zH} {kc ks sq a k L : Nat} {xs : Nat → Int32} (T : zSc E sq L xs) (hk : k < 512) (hi : 4 * k + 4 ≤ L) (hL : L ≤ 2048) (hc : kc + 30 ≤ 604272) (hs : ks + 5806 ≤ 7174744) (S : lwSx a k h) (kk : ∀ h', lwSx a (k + 1) h' → zV X (kc + 30) (ks + 5806) h' 3182 [(0, .retAddr sq), (1, .ref a), (2, .ref (a + 271)), (3, .ref (a + 280)), (4, .ref (a + 281)), (5, .int (nI (4 * k)))] []) : zV X kc ks h 2435 [(0, .retAddr sq), (1, .ref a), (2, .ref (a + 271)), (3, .ref (a + 280)), (4, .ref (a + 281)), (5, .int (nI (4 * k)))] [] := by
  obtain ⟨g, us, sn, off, rs, dt, cs, t, o, S⟩ := S
  have hw := LS_W S hk
  have hb := LS_big hk
  have hR := S.2.2.2.1
  obtain ⟨A, eA⟩ : ∃ A : zAn, A = (elA (rkI (gC g) (xs (4 * k + 1)) (gC g))) := ⟨_, rfl⟩
  have ok : okA A (fun Ex => Ex = NSE) := by rw [eA]; exact okA_el rfl
  refine zV.aload_n C dL_law_2435 rfl rfl ?_
  refine zV.arg (p := 2436) C G T hi hL (c := 1) (by decide) dL_law_2436 dL_law_2437 dL_law_2439 dL_law_2440 dL_law_2441 (by decide) rfl rfl ?_
  refine zV.aload_n C dL_law_2442 rfl rfl ?_
  refine zV.callSW (n := 3) C G dL_law_2443 (s_LchairByRust hzs hst h a (a + 280) (xs (4 * k + 1)) A (fun h' => h' = h) (by rw [eA]; exact s_chairByRust hzs hst h a g (xs (4 * k + 1)) S.1.1.1 S.1.1.2.1.1 hw) S.1.1.1.1 (fun h1 e => by rw [show h1 = h from e]; exact S.2.1.1) ok.1 ok.2) rfl ⟨cd_L_chairByRust, lk_L_329, st_L_chairByRust, in_L⟩ ⟨⟨by decide, by decide⟩, by decide⟩ rfl (zRmL rfl (by omega) (by omega)) rfl (zafX (fun r2 h2 q2 => ?_)) (zno)
  obtain ⟨rfl, h1, p1, rfl⟩ := q2
  obtain rfl : h = h1 := Eq.symm p1
  show zV X (kc + 1) (ks + 6) (lwH A (a + 280) h) 2446 [(0, .retAddr sq), (1, .ref a), (2, .ref (a + 271)), (3, .ref (a + 280)), (4, .ref (a + 281)), (5, .int (nI (4 * k)))] [.int _]
  refine zV.istore (lo' := [(0, .retAddr sq), (1, .ref a), (2, .ref (a + 271)), (3, .ref (a + 280)), (4, .ref (a + 281)), (5, .int (nI (4 * k))), (6, _)]) C dL_law_2446 (by decide) rfl rfl rfl ?_
  have R2 := LS_r S (zXf.refl h a (a + 282)) (zWr_H (A := A))
  refine zV.aload_n C dL_law_2448 rfl rfl ?_
  refine zV.arg (p := 2449) C G T hi hL (c := 1) (by decide) dL_law_2449 dL_law_2450 dL_law_2452 dL_law_2453 dL_law_2454 (by decide) rfl rfl ?_
  refine zV.callV (n := 1) C G dL_law_2455 (s_qchairByRust hzs hst (lwH A (a + 280) h) (a + 271) (60000 * k) g R2.1 R2.2.1 hR.1 (by omega) (xs (4 * k + 1))) rfl ⟨cd_X10_chairByRust, lk_L_331, im_X10_chairByRust, se_X10_X10_chairByRust, in_X10⟩ ⟨⟨by decide, by decide⟩, by decide⟩ rfl (zRmL rfl (by omega) (by omega)) rfl R2.1.1 ⟨rfl, by decide⟩ (zafX (fun r3 h3 q3 => ?_)) (zno)
  have q3 : mqQ (lwH A (a + 280) h) (a + 271) A (fun Ex => 1) (.int (nI 0)) r3 h3 := by rw [eA] at q3 ⊢; exact q3
  obtain ⟨e0, rfl⟩ := q3
  have Sx := LSx_q (v := nI (anC A (fun Ex => 1))) S (zWr_H (A := A))
  obtain ⟨b, rfl, f1, f2⟩ := fct (d := nI 0) (ob := a + 280) (h1 := h) ok.1 (fun Ex _ => cfn1 Ex) e0 (hI_sI (h := (lwH A (a + 280) h))) rfl
  exact zV.up (kc' := kc + 30) (ks' := ks + 5806) (by omega) (by omega) (L_tail hzs hst C G (p := 2458) dL_law_2458 dL_law_2460 dL_law_2461 dL_law_2464 dL_law_2466 dL_law_2471 dL_law_2473 dL_law_2476 dL_law_2477 dL_law_2478 dL_law_2479 dL_law_2481 dL_law_2482 dL_law_2483 dL_law_2488 (by decide) hc hs (LSx_r Sx) (LSx_ob Sx) f1 f2 (kk _ Sx))
set_option maxHeartbeats 4000000 in
set_option maxRecDepth 100000 in
/-- lawnByShade -/
theorem L_c46 {X : zX} {l : Launch} {E : zG} (hzs : zS E) (hst : l.stackTraces = false) (C : zC X cL_law RL 9) (G : zGX X l E room_1) {h : zH} {kc ks sq a k L : Nat} {xs : Nat → Int32} (T : zSc E sq L xs) (hk : k < 512) (hi : 4 * k + 4 ≤ L) (hL : L ≤ 2048) (hc : kc + 30 ≤ 604272) (hs : ks + 5806 ≤ 7174744) (S : lwSx a k h) (kk : ∀ h', lwSx a (k + 1) h' → zV X (kc + 30) (ks + 5806) h' 3182 [(0, .retAddr sq), (1, .ref a), (2, .ref (a + 271)), (3, .ref (a + 280)), (4, .ref (a + 281)), (5, .int (nI (4 * k)))] []) : zV X kc ks h 2491 [(0, .retAddr sq), (1, .ref a), (2, .ref (a + 271)), (3, .ref (a + 280)), (4, .ref (a + 281)), (5, .int (nI (4 * k)))] [] := by
  obtain ⟨g, us, sn, off, rs, dt, cs, t, o, S⟩ := S
  have hw := LS_W S hk
  have hb := LS_big hk
  have hR := S.2.2.2.1
  obtain ⟨A, eA⟩ : ∃ A : zAn, A = (elA (lrF g (xs (4 * k + 1)) 6 0)) := ⟨_, rfl⟩
  have ok : okA A (fun Ex => Ex = NSE) := by rw [eA]; exact okA_el rfl
  refine zV.aload_n C dL_law_2491 rfl rfl ?_
  refine zV.arg (p := 2492) C G T hi hL (c := 1) (by decide) dL_law_2492 dL_law_2493 dL_law_2495 dL_law_2496 dL_law_2497 (by decide) rfl rfl ?_
  refine zV.aload_n C dL_law_2498 rfl rfl ?_
  refine zV.callSW (n := 3) C G dL_law_2499 (s_LlawnByShade hzs hst h a (a + 280) (xs (4 * k + 1)) A (fun h' => h' = h) (by rw [eA]; exact s_lawnByShade hzs hst h a g (xs (4 * k + 1)) S.1.1.1 S.1.1.2.1.1 hw) S.1.1.1.1 (fun h1 e => by rw [show h1 = h from e]; exact S.2.1.1) ok.1 ok.2) rfl ⟨cd_L_lawnByShade, lk_L_332, st_L_lawnByShade, in_L⟩ ⟨⟨by decide, by decide⟩, by decide⟩ rfl (zRmL rfl (by omega) (by omega)) rfl (zafX (fun r2 h2 q2 => ?_)) (zno)
  obtain ⟨rfl, h1, p1, rfl⟩ := q2
  obtain rfl : h = h1 := Eq.symm p1
  show zV X (kc + 1) (ks + 6) (lwH A (a + 280) h) 2502 [(0, .retAddr sq), (1, .ref a), (2, .ref (a + 271)), (3, .ref (a + 280)), (4, .ref (a + 281)), (5, .int (nI (4 * k)))] [.int _]
  refine zV.istore (lo' := [(0, .retAddr sq), (1, .ref a), (2, .ref (a + 271)), (3, .ref (a + 280)), (4, .ref (a + 281)), (5, .int (nI (4 * k))), (6, _)]) C dL_law_2502 (by decide) rfl rfl rfl ?_
  have R2 := LS_r S (zXf.refl h a (a + 282)) (zWr_H (A := A))
  refine zV.aload_n C dL_law_2504 rfl rfl ?_
  refine zV.arg (p := 2505) C G T hi hL (c := 1) (by decide) dL_law_2505 dL_law_2506 dL_law_2508 dL_law_2509 dL_law_2510 (by decide) rfl rfl ?_
  refine zV.callV (n := 1) C G dL_law_2511 (s_qlawnByShade hzs hst (lwH A (a + 280) h) (a + 271) (60000 * k) g R2.1 R2.2.1 hR.1 (by omega) (xs (4 * k + 1))) rfl ⟨cd_X10_lawnByShade, lk_L_334, im_X10_lawnByShade, se_X10_X10_lawnByShade, in_X10⟩ ⟨⟨by decide, by decide⟩, by decide⟩ rfl (zRmL rfl (by omega) (by omega)) rfl R2.1.1 ⟨rfl, by decide⟩ (zafX (fun r3 h3 q3 => ?_)) (zno)
  have q3 : mqQ (lwH A (a + 280) h) (a + 271) A (fun Ex => 1) (.int (nI 0)) r3 h3 := by rw [eA] at q3 ⊢; exact q3
  obtain ⟨e0, rfl⟩ := q3
  have Sx := LSx_q (v := nI (anC A (fun Ex => 1))) S (zWr_H (A := A))
  obtain ⟨b, rfl, f1, f2⟩ := fct (d := nI 0) (ob := a + 280) (h1 := h) ok.1 (fun Ex _ => cfn1 Ex) e0 (hI_sI (h := (lwH A (a + 280) h))) rfl
  exact zV.up (kc' := kc + 30) (ks' := ks + 5806) (by omega) (by omega) (L_tail hzs hst C G (p := 2514) dL_law_2514 dL_law_2516 dL_law_2517 dL_law_2520 dL_law_2522 dL_law_2527 dL_law_2529 dL_law_2532 dL_law_2533 dL_law_2534 dL_law_2535 dL_law_2537 dL_law_2538 dL_law_2539 dL_law_2544 (by decide) hc hs (LSx_r Sx) (LSx_ob Sx) f1 f2 (kk _ Sx))
set_option maxHeartbeats 4000000 in
set_option maxRecDepth 100000 in
/-- meanRust -/
theorem L_c47 {X : zX} {l : Launch} {E : zG} (hzs : zS E) (hst : l.stackTraces = false) (C : zC X cL_law RL 9) (G : zGX X l E room_1) {h : zH} {kc ks sq a k L : Nat} {xs : Nat → Int32} (T : zSc E sq L xs) (hk : k < 512) (hi : 4 * k + 4 ≤ L) (hL : L ≤ 2048) (hc : kc + 30 ≤ 604272) (hs : ks + 5806 ≤ 7174744) (S : lwSx a k h) (kk : ∀ h', lwSx a (k + 1) h' → zV X (kc + 30) (ks + 5806) h' 3182 [(0, .retAddr sq), (1, .ref a), (2, .ref (a + 271)), (3, .ref (a + 280)), (4, .ref (a + 281)), (5, .int (nI (4 * k)))] []) : zV X kc ks h 2547 [(0, .retAddr sq), (1, .ref a), (2, .ref (a + 271)), (3, .ref (a + 280)), (4, .ref (a + 281)), (5, .int (nI (4 * k)))] [] := by
  obtain ⟨g, us, sn, off, rs, dt, cs, t, o, S⟩ := S
  have hw := LS_W S hk
  have hb := LS_big hk
  have hR := S.2.2.2.1
  obtain ⟨A, eA⟩ : ∃ A : zAn, A = mrA g := ⟨_, rfl⟩
  have okv : ∀ v, A = .inr v → ∃ w, v = .double w ∧ Op.cmpValue (FP.dcmp w w) .l = 0 := by
    intro v e
    rw [eA] at e
    unfold mrA at e
    split at e
    · cases e
    · rename_i ne
      cases e
      exact ⟨_, rfl, vdq _ (Nat.lt_succ_of_le (gW_len hw)) (len0 ne) _ (rsum_b hw)⟩
  have okx : ∀ Ex, A = .inl Ex → Ex = ARE := by
    intro Ex e
    rw [eA] at e
    unfold mrA at e
    split at e
    · cases e; rfl
    · cases e
  refine zV.aload_n C dL_law_2547 rfl rfl ?_
  refine zV.aload C dL_law_2548 rfl rfl ?_
  refine zV.callSW (n := 2) C G dL_law_2550 (s_LmeanRust hzs hst h a (a + 281)  A (fun h' => h' = h) (by rw [eA]; exact s_meanRust hzs hst h a g S.1.1.1 S.1.1.2.1.1 hw) S.1.1.1.1 (fun h1 e => by rw [show h1 = h from e]; exact S.2.1.2) (fun v e => by obtain ⟨w, e1, _⟩ := okv v e; exact ⟨w, e1⟩) okx) rfl ⟨cd_L_meanRust, lk_L_335, st_L_meanRust, in_L⟩ ⟨⟨by decide, by decide⟩, by decide⟩ rfl (zRmL rfl (by omega) (by omega)) rfl (zafX (fun r2 h2 q2 => ?_)) (zno)
  obtain ⟨rfl, h1, p1, rfl⟩ := q2
  obtain rfl : h = h1 := Eq.symm p1
  show zV X (kc + 1) (ks + 6) (lwHD A (a + 281) h) 2553 [(0, .retAddr sq), (1, .ref a), (2, .ref (a + 271)), (3, .ref (a + 280)), (4, .ref (a + 281)), (5, .int (nI (4 * k)))] [.int _]
  refine zV.istore (lo' := [(0, .retAddr sq), (1, .ref a), (2, .ref (a + 271)), (3, .ref (a + 280)), (4, .ref (a + 281)), (5, .int (nI (4 * k))), (6, _)]) C dL_law_2553 (by decide) rfl rfl rfl ?_
  have R2 := LS_r S (zXf.refl h a (a + 282)) (zWr_HD (A := A))
  refine zV.aload_n C dL_law_2555 rfl rfl ?_
  refine zV.callV (n := 0) C G dL_law_2556 (s_qmeanRust hzs hst (lwHD A (a + 281) h) (a + 271) (60000 * k) g R2.1 R2.2.1 hR.1 (by omega)) rfl ⟨cd_X10_meanRust, lk_L_338, im_X10_meanRust, se_X10_X10_meanRust, in_X10⟩ ⟨⟨by decide, by decide⟩, by decide⟩ rfl (zRmL rfl (by omega) (by omega)) rfl R2.1.1 ⟨rfl, by decide⟩ (zafX (fun r3 h3 q3 => ?_)) (zno)
  have q3 : mqQ (lwHD A (a + 281) h) (a + 271) A (fun _ => 1) (.double (FP.i2d (nI 0))) r3 h3 := by rw [eA] at q3 ⊢; exact q3
  obtain ⟨e0, rfl⟩ := q3
  have Sx := LSx_q (v := nI (anC A (fun _ => 1))) S (zWr_HD (A := A))
  obtain ⟨w, rfl⟩ : ∃ w, r3 = some (.double w) := by
    rcases A with Ex | v
    · exact ⟨_, e0⟩
    · obtain ⟨w, ew, _⟩ := okv v rfl; exact ⟨w, by rw [e0]; exact congrArg some ew⟩
  obtain ⟨H9, eH⟩ : ∃ H9, H9 = sI (lwHD A (a + 281) h) 435 (a + 271) (nI (anC A (fun _ => 1))) := ⟨_, rfl⟩
  have e1 : hI H9 435 (a + 271) = nI (anC A (fun _ => 1)) := by rw [eH]; exact hI_sI
  have e2 : nI (anC A (fun _ => 1)) = 0 → aD H9 (a + 281) 0 = w ∧ Op.cmpValue (FP.dcmp w w) .l = 0 := by
    intro z
    rcases A with Ex | v
    · exact absurd z (show ¬ nI 1 = 0 by decide)
    · obtain ⟨w9, rfl, ew⟩ := okv v rfl
      cases e0
      rw [eH]
      exact ⟨if_pos ⟨rfl, rfl⟩, ew⟩
  show zV X (kc + 1) (ks + 6) (sI (lwHD A (a + 281) h) 435 (a + 271) (nI (anC A (fun _ => 1)))) 2559 [(0, .retAddr sq), (1, .ref a), (2, .ref (a + 271)), (3, .ref (a + 280)), (4, .ref (a + 281)), (5, .int (nI (4 * k))), (6, .int (nI (anC A (fun _ => 1))))] [.double w]
  rw [← eH]
  have Sx : lwSx a (k + 1) H9 := by rw [eH]; exact Sx
  have hm := LSx_r Sx
  have ho := LSx_od Sx
  have kk := zV.up (kc := kc + 1) (ks := ks + 6) (kc' := kc + 30) (ks' := ks + 5806) (by omega) (by omega) (kk H9 Sx)
  show zV X (kc + 1) (ks + 6) H9 2559 [(0, .retAddr sq), (1, .ref a), (2, .ref (a + 271)), (3, .ref (a + 280)), (4, .ref (a + 281)), (5, .int (nI (4 * k))), (6, .int (nI (anC A (fun _ => 1))))] [.double w]
  clear Sx eH e0
  generalize nI (anC A (fun _ => 1)) = c6 at e1 e2 ⊢
  refine zV.dstore C dL_law_2559 (by decide) (fun _ => rfl) ?_
  refine zV.aload_n C dL_law_2561 rfl rfl ?_
  refine zV.callV (n := 0) C G dL_law_2562 (s_mthrown hzs hst H9 (a + 271) hm) rfl ⟨cd_X10_thrown, lk_L_179, im_X10_thrown, se_X10_X10_thrown, in_X10⟩ ⟨⟨by decide, by decide⟩, by decide⟩ rfl (zRmL rfl (by omega) (by omega)) rfl hm.1 ⟨rfl, by decide⟩ (zaf ?_) (zno)
  refine zV.iload C dL_law_2565 rfl ?_
  refine zV.icmp_eq (tgt := 2572) C dL_law_2567 (by decide) (fun _ => ?_) (fun z => absurd e1 z)
  refine zV.iload C dL_law_2572 rfl ?_
  have kk : zV X (kc + 1) (ks + 6) H9 2609 [(7, .double w), (0, .retAddr sq), (1, .ref a), (2, .ref (a + 271)), (3, .ref (a + 280)), (4, .ref (a + 281)), (5, .int (nI (4 * k))), (6, .int c6)] [] := zV.goto (tgt := 3182) C dL_law_2609 (by decide) (zV.sub [1, 2, 3, 4, 5, 6] rfl kk)
  refine zV.if_ne (tgt := 2609) C dL_law_2574 (by decide) (fun _ => kk) (fun z => ?_)
  refine zV.aload C dL_law_2577 rfl rfl ?_
  refine zV.ic (v := nI 0) C dL_law_2579 (by decide) ?_
  refine zV.dald (j := 0) C dL_law_2580 ho.1 rfl (by rw [ho.2]; decide) (by decide) ?_
  refine zV.dload C dL_law_2581 rfl ?_
  refine zV.dcmp C dL_law_2583 ?_
  refine zV.if_eq (tgt := 2609) C dL_law_2584 (by decide) (fun _ => kk) (fun q => absurd ?_ q)
  rw [(e2 z).1]
  exact (e2 z).2
