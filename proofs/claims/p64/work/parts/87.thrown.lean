/-! the law: commands that are refused; thrown -/
theorem lcmp_self (v : Int64) : lg_cmp v v = 0 := by
  unfold lg_cmp
  rw [if_neg (Int64.lt_irrefl (a := v)), if_pos rfl]
theorem jd_100y {g : zGd} {n : Nat} {y : Int32} (h1 : 1 ≤ n) (h2 : n ≤ 20) : (jd g 100 (nI n) y).1 = 0 := jd_100 (g := g) h1 h2
theorem ex_v {g : zGd} {t : List Nat} {K : List (Nat × Nat × Nat)} {cf : String → Int32} (e : rdS t 61 0 [] = (none, K)) (h : (pfC g K).1 < K.length) : anI (q_execute g t) cf = cf (if (pfC g K).2.2.1 = 3 then UOE else ISE) := by
  unfold q_execute exA
  rw [e]
  dsimp only
  rw [if_pos h]
  split
  · rename_i h3
    rfl
  · rfl
theorem ex_p {h h' : zH} {a lo : Nat} {g : zGd} {us : List zGd} {sn : Option zGd} {off rs dt cs : Int32} {t o : List Nat} {K : List (Nat × Nat × Nat)} (e : rdS t 61 0 [] = (none, K)) (hl : (pfC g K).1 < K.length) (p : exP h a lo g us sn off rs dt cs t o h') : if (pfC g K).2.2.1 = 3 then zXa h' a lo g us sn off (nI 11) (nI (pfC g K).1) (nI (pfC g K).2.2.2.1) [] o else zXa h' a lo g us sn off rs dt cs [] o := by
  have p2 := p.2
  rw [e] at p2
  dsimp only at p2
  rw [if_pos hl] at p2
  exact p2
theorem ex_q {h h' : zH} {a lo : Nat} {g : zGd} {us : List zGd} {sn : Option zGd} {off rs dt cs : Int32} {t o : List Nat} {K : List (Nat × Nat × Nat)} (e : rdS t 61 0 [] = (none, K)) (hl : (pfC g K).1 < K.length) (h3 : (pfC g K).2.2.1 ≠ 3) (p : exP h a lo g us sn off rs dt cs t o h') : zXa h' a lo g us sn off rs dt cs [] o := by
  have q := ex_p e hl p
  rw [if_neg h3] at q
  exact q
theorem ex_e {h h' : zH} {a lo p9 : Nat} {g : zGd} {us : List zGd} {sn : Option zGd} {off rs dt cs : Int32} {t o : List Nat} {K : List (Nat × Nat × Nat)} (e : rdS t 61 0 [] = (some p9, K)) (p : exP h a lo g us sn off rs dt cs t o h') : zXa h' a lo g us sn (nI p9) rs dt cs [] o := by
  have p2 := p.2
  rw [e] at p2
  exact p2
theorem pf_s {g : zGd} (hw : gW g) (hX : gX g ≤ 99) : (pfC g [(100, 1, 0), (115, 99, 0)]).1 = 1 ∧ (pfC g [(100, 1, 0), (115, 99, 0)]).2.2.1 = 1 := by
  have k1 : kc (ap g 100 (nI 1) (nI 0)).1 (nI 99) = none := kc_no (fun c hc => by
    obtain ⟨d, hd, e1, -⟩ := days_sub (nI 1).toNatClampNeg c hc
    have := (hw.1 d hd).1
    exact nI_ne (by omega) (by decide) (by omega))
  have j1 : jd (ap g 100 (nI 1) (nI 0)).1 115 (nI 99) (nI 0) = (1, 0, 0) := by
    show jSc (ap g 100 (nI 1) (nI 0)).1 (nI 99) = _
    unfold jSc
    rw [k1]
  rw [pfC_t (c := (100, 1, 0)) (jd_100y (by decide) (by decide)), pfC_f (c := (115, 99, 0)) (by show (jd (ap g 100 (nI 1) (nI 0)).1 115 (nI 99) (nI 0)).1 ≠ 0; rw [j1]; decide)]
  exact ⟨rfl, congrArg Prod.fst j1⟩
theorem pf_d {g : zGd} (hO : gO g = 3) : (pfC g [(97, 1, 0), (100, 0, 0)]).1 = 1 ∧ (pfC g [(97, 1, 0), (100, 0, 0)]).2.2.1 = 2 := by
  have j0 : (jd g 97 (nI 1) (nI 0)).1 = 0 := by
    show (jAo g (nI 1)).1 = 0
    unfold jAo
    rw [hO]
    decide
  rw [pfC_t (c := (97, 1, 0)) j0, pfC_f (c := (100, 0, 0)) (by show (jDy (nI 0)).1 ≠ 0; decide)]
  exact ⟨rfl, (show (jDy (nI 0)).1 = 2 by decide)⟩
def g2m (g : zGd) : zGd := (ap (ap g 100 (nI 5) (nI 0)).1 104 (nI 0) (nI 9)).1
theorem pf_m3 {g g1 g2 : zGd} {a b c : Nat × Nat × Nat} (h1 : (jd g a.1 (nI a.2.1) (nI a.2.2)).1 = 0) (e1 : (ap g a.1 (nI a.2.1) (nI a.2.2)).1 = g1) (h2 : (jd g1 b.1 (nI b.2.1) (nI b.2.2)).1 = 0) (e2 : (ap g1 b.1 (nI b.2.1) (nI b.2.2)).1 = g2) (h3 : (jd g2 c.1 (nI c.2.1) (nI c.2.2)).1 ≠ 0) : pfC g [a, b, c] = (2, g2, jd g2 c.1 (nI c.2.1) (nI c.2.2)) := by
  subst e1 e2
  rw [pfC_t h1, pfC_t h2, pfC_f h3]
theorem pf_m {g : zGd} {i j : Nat} (h : (jd (g2m g) 109 (nI i) (nI j)).1 ≠ 0) : pfC g [(100, 5, 0), (104, 0, 9), (109, i, j)] = (2, g2m g, jd (g2m g) 109 (nI i) (nI j)) :=
  pf_m3 (a := (100, 5, 0)) (b := (104, 0, 9)) (c := (109, i, j)) (g1 := (ap g 100 (nI 5) (nI 0)).1) (jd_100y (by decide) (by decide)) rfl (jd_104 (by decide) (by decide)) rfl h
theorem sub_100 {g : zGd} {x y : Int32} : sub9 g (ap g 100 x y).1 := days_sub _
theorem sub_104 {g : zGd} {x y : Int32} {i : Nat} (e : ln x = some i) : sub9 g (ap g 104 x y).1 := by
  have e9 : (ap g 104 x y).1 = opSh g i y.toNatClampNeg := by
    show (aL g x (fun i => (opSh g i y.toNatClampNeg, nI (gS g i)))).1 = _
    rw [aL_e e]
  rw [e9]
  intro c hc
  unfold opSh at hc
  rw [p_C_S] at hc
  exact ⟨c, hc, rfl, rfl, rfl⟩
theorem g2_sub {g : zGd} : sub9 g (g2m g) := sub9.trans sub_100 (sub_104 (ln_n 0 (by decide)))
theorem jm_n {g : zGd} {x y : Int32} (k : kc g x = none) : (jd g 109 x y).1 = 1 := by
  show (jMv g x y).1 = 1
  unfold jMv
  rw [k]
theorem ex_mv {h h' : zH} {a lo : Nat} {g g2 : zGd} {us : List zGd} {sn : Option zGd} {off rs dt cs : Int32} {t o : List Nat} {K : List (Nat × Nat × Nat)} {J : zJ} (rd : rdS t 61 0 [] = (none, K)) (hl : K.length = 3) (hpf : pfC g K = (2, g2, J)) (p : exP h a lo g us sn off rs dt cs t o h') : anI (q_execute g t) (fun Ex => if Ex = IAE then -1001 else if Ex = ISE then -1002 else -1003) < 0 := by
  rw [ex_v rd (by rw [hpf, hl]; show 2 < 3; decide)]
  exact cf3 _
theorem ex_mA {h h' : zH} {a lo : Nat} {g g2 : zGd} {us : List zGd} {sn : Option zGd} {off rs dt cs : Int32} {t o : List Nat} {K : List (Nat × Nat × Nat)} {J : zJ} (rd : rdS t 61 0 [] = (none, K)) (hl : K.length = 3) (hpf : pfC g K = (2, g2, J)) (p : exP h a lo g us sn off rs dt cs t o h') (hJ : J.1 = 3) : zXa h' a lo g us sn off (nI 11) (nI 2) (nI J.2.1) [] o := by
  have q := ex_p rd (by rw [hpf, hl]; show 2 < 3; decide) p
  rw [hpf] at q
  rw [if_pos hJ] at q
  exact q
theorem ex_mB {h h' : zH} {a lo : Nat} {g g2 : zGd} {us : List zGd} {sn : Option zGd} {off rs dt cs : Int32} {t o : List Nat} {K : List (Nat × Nat × Nat)} {J : zJ} (rd : rdS t 61 0 [] = (none, K)) (hl : K.length = 3) (hpf : pfC g K = (2, g2, J)) (p : exP h a lo g us sn off rs dt cs t o h') (hJ : J.1 ≠ 3) : zXa h' a lo g us sn off rs dt cs [] o := by
  have q := ex_p rd (by rw [hpf, hl]; show 2 < 3; decide) p
  rw [hpf] at q
  rw [if_neg hJ] at q
  exact q
theorem ex_x {g : zGd} : anI (q_execute g [120]) (fun Ex => if Ex = IAE then -1001 else if Ex = ISE then -1002 else -1003) = -1001 := by
  unfold q_execute exA
  rw [rd_x]
  show ((fun Ex => if Ex = IAE then -1001 else if Ex = ISE then -1002 else -1003) : String → Int32) IAE = -1001
  decide
theorem g2_R {g : zGd} {m : Nat} (hR : gR m g) : gR (m + 600 + 600) (g2m g) := ap_R isD_104 (ap_R isD_100 hR (jd_100y (by decide) (by decide))) (jd_104 (by decide) (by decide))
theorem jm_0 {g : zGd} (hC : gC g = []) : (jd (g2m g) 109 (nI 99) (nI 0)).1 = 1 := by
  have k1 : kc (g2m g) (nI 99) = none := kc_no (fun c hc => by
    obtain ⟨d, hd, -⟩ := g2_sub c hc
    rw [hC] at hd
    cases hd)
  exact jm_n k1
theorem jm_1 {g : zGd} {m i k : Nat} {c : zCh} (hR : gR m g) (hb : m + 50000 ≤ big) (ek : kc g (nI i) = some (k, c)) : (jd (g2m g) 109 (nI i) (nI (chL c))).1 = 1 ∨ (jd (g2m g) 109 (nI i) (nI (chL c)) = (3, 5, nI i) ∧ chF c = true) ∨ (jd (g2m g) 109 (nI i) (nI (chL c)) = (3, 2, nI 0) ∧ ¬ chF c = true) := by
  have hw : gW g := gW_of hR.1.1 hR.1.2.2.2 (Nat.le_trans (Nat.le_add_right _ _) hb)
  have hR2 := g2_R hR
  have hw2 : gW (g2m g) := gW_of hR2.1.1 hR2.1.2.2.2 (Nat.le_trans (by omega) hb)
  rcases e : kc (g2m g) (nI i) with _ | ⟨k2, c2⟩
  · exact Or.inl (jm_n e)
  · obtain ⟨e1, e2⟩ := ch_same hw hw2 g2_sub ek e
    rw [← e1, ← e2]
    by_cases b : chF c2 = true
    · exact Or.inr (Or.inl ⟨jr_109 hw2 e b, b⟩)
    · exact Or.inr (Or.inr ⟨jr_109l hR2.2 hw2 e b, b⟩)
theorem ex_m0 {h h' : zH} {a lo i j : Nat} {g : zGd} {us : List zGd} {sn : Option zGd} {off rs dt cs : Int32} {t o : List Nat} (rd : rdS t 61 0 [] = (none, [(100, 5, 0), (104, 0, 9), (109, i, j)])) (ei : i = 99) (ej : j = 0) (hC : gC g = []) (p : exP h a lo g us sn off rs dt cs t o h') : anI (q_execute g t) (fun Ex => if Ex = IAE then -1001 else if Ex = ISE then -1002 else -1003) < 0 ∧ zXa h' a lo g us sn off rs dt cs [] o := by
  subst ei ej
  have hJ := jm_0 hC
  have hK := pf_m (fun z => by rw [hJ] at z; cases z)
  exact ⟨ex_mv rd rfl hK p, ex_mB rd rfl hK p (fun z => by rw [hJ] at z; cases z)⟩
theorem ex_m1 {h h' : zH} {a lo m i j k : Nat} {c : zCh} {g : zGd} {us : List zGd} {sn : Option zGd} {off rs dt cs : Int32} {t o : List Nat} (rd : rdS t 61 0 [] = (none, [(100, 5, 0), (104, 0, 9), (109, i, j)])) (hR : gR m g) (hb : m + 50000 ≤ big) (ek : kc g (nI i) = some (k, c)) (ej : j = chL c) (h11 : rs ≠ nI 11) (p : exP h a lo g us sn off rs dt cs t o h') : anI (q_execute g t) (fun Ex => if Ex = IAE then -1001 else if Ex = ISE then -1002 else -1003) < 0 ∧ ∃ rs9 dt9 cs9, zXa h' a lo g us sn off rs9 dt9 cs9 [] o ∧ (chF c = true ∨ rs9 ≠ nI 11 ∨ (rs9 = nI 11 ∧ dt9 = nI 2 ∧ cs9 = nI 2)) := by
  have hJ := jm_1 hR hb ek
  rw [← ej] at hJ
  have hJ0 : (jd (g2m g) 109 (nI i) (nI j)).1 ≠ 0 := fun y => by
    rcases hJ with z | ⟨z, -⟩ | ⟨z, -⟩
    · rw [z] at y; cases y
    · rw [z] at y; cases y
    · rw [z] at y; cases y
  have hK := pf_m hJ0
  refine ⟨ex_mv rd rfl hK p, ?_⟩
  rcases hJ with z | ⟨z, b⟩ | ⟨z, b⟩
  · exact ⟨_, _, _, ex_mB rd rfl hK p (fun y => by rw [z] at y; cases y), Or.inr (Or.inl h11)⟩
  · exact ⟨_, _, _, ex_mA rd rfl hK p (by rw [z]), Or.inl b⟩
  · exact ⟨_, _, _, ex_mA rd rfl hK p (by rw [z]), Or.inr (Or.inr ⟨rfl, rfl, by rw [z]⟩)⟩
set_option maxHeartbeats 4000000 in
set_option maxRecDepth 100000 in
theorem L_th6a {X : zX} {l : Launch} {E : zG} {rm : Room} (hzs : zS E) (hst : l.stackTraces = false) (C : zC X cL_thrown RL 9) (G : zGX X l E rm) {h0 : zH} {a lo m : Nat} {g : zGd} {us : List zGd} {sn : Option zGd} (hr : rm = ({ frames := 10, cells := 4000, slots := 100000, locals := 254 } : Room)) (hR : gR m g) (hb : m + 50000 ≤ big) (hX : gX g ≤ 99) (hO : gO g = 3) (hlN : lo ≤ hN h0) {Qx : String → zH → Prop} (F : zF X (some .boolean) 4000 100000 (fun r h' => r = some (.int 1) ∧ zXf h0 h' a lo ∧ ∃ off rs dt cs o, zXa h' a lo g us sn off rs dt cs [] o) Qx) {h8 : zH} {kc ks : Nat} {off rs dt cs : Int32} (f : zXf h0 h8 a lo) (q : zXa h8 a lo g us sn off rs dt cs [] (wl g 5)) (h11 : rs ≠ nI 11) (hk : kc + 1100 ≤ 4000) (hs : ks + 41400 ≤ 100000) (hz : (gC g).length = 0) : zV X kc ks h8 1407 [(0, .ref a), (1, .long (askF g)), (3, .int (nI (gC g).length)), (4, .int (nI 3)), (5, .int (nI 1))] [] := by
  subst hr
  have hw : gW g := gW_of hR.1.1 hR.1.2.2.2 (Nat.le_trans (Nat.le_add_right _ _) hb)
  have h59 : ∀ l, l < 6 → hsz (gC g) l ≤ 5 := hR.1.2.2.1
  have n12 := gW_len hw
  obtain ⟨s380, t380, hq380, hs380⟩ := sc_L_380 hzs
  obtain ⟨s319, t319, hq319, hs319⟩ := sc_L_319 hzs
  obtain ⟨i, ei⟩ : ∃ i : Nat, i = 99 := ⟨_, rfl⟩
  obtain ⟨j, ej⟩ : ∃ j : Nat, j = 0 := ⟨_, rfl⟩
  refine zV.aload_n C dL_thrown_1407 rfl rfl ?_
  refine zV.new C G dL_thrown_1408 zcl_J4 ⟨lk_L_302, it_J4, in_J4⟩ (by decide) (zhc (show _ ≤ 4000 by omega) (show _ ≤ 100000 by omega)) ?_
  refine zV.dup C dL_thrown_1411 rfl ?_
  refine zV.callI (n := 0) C G dL_thrown_1412 (s_TSB hzs hst (hNew h8 2 0) (hN h8) hK_newE rfl (fun f => hI_newE)) rfl ⟨cd_J4_init_da8c8, lk_L_304, im_J4_init_da8c8, in_J4⟩ rfl ⟨⟨by decide, by decide⟩, by decide⟩ rfl (zRm_v 4000 100000 rfl rfl rfl (by omega) (by omega)) rfl (zafRv (fun h1 ⟨w1, n1, x1⟩ => ?_)) (zno)
  have q8 := q
  have f8 := f
  have hl8 : lo ≤ hN h8 := Nat.le_trans hlN f.1
  have hlo := zXa_lo q
  refine zV.ldcSw C G dL_thrown_1415 hq380 ?_
  refine zV.callV (n := 1) C G dL_thrown_1418 (s_TappS hzs hst h1 (hN h8) [] w1 s380 t380 [100, 53, 59, 104, 48, 61, 57, 59, 109] hs380 (by decide) (fun i c hc => (show ∀ c ∈ ([100, 53, 59, 104, 48, 61, 57, 59, 109] : List Nat), c < 128 by decide) c (List.mem_of_getElem? hc)) (by decide)) rfl ⟨cd_J4_append_15ec4, lk_L_307, im_J4_append_15ec4, se_J4_J4_append_15ec4, in_J4⟩ ⟨⟨by decide, by decide⟩, by decide⟩ rfl (zRm_v 4000 100000 rfl rfl rfl (by omega) (by omega)) rfl (w1.1 0).1 ⟨rfl, by decide⟩ (zafR (fun h2 ⟨w2, g2⟩ => ?_)) (zno)
  obtain ⟨o2, e2⟩ : ∃ o : List Nat, o = [] ++ [100, 53, 59, 104, 48, 61, 57, 59, 109] := ⟨_, rfl⟩
  rw [← e2] at w2
  have l2 : o2.length = 9 := by rw [e2]; rfl
  have n2 : hN h2 = hN h8 + 2 := by rw [g2.1, n1]
  have E2 : ∀ c, c < hN h8 → zEq h8 h2 c := fun c hc => ((zEq_new (k := 2) (z := 0) (by omega)).trans (x1.2 c (by omega))).trans (g2.2 c (by omega) (by omega))
  obtain ⟨q, fx⟩ := kept q8 hl8 (by omega) E2
  have f := f8.trans fx
  refine zV.iload_n C dL_thrown_1421 rfl ?_
  refine zV.if_ne (tgt := 1430) C dL_thrown_1422 (by decide) (fun q1422 => ?_) (fun q1422 => ?_)
  · exact absurd (by rw [hz]; rfl) q1422
  · refine zV.bi (v := nI 99) C dL_thrown_1425 (by decide) ?_
    refine zV.goto (tgt := 1435) C dL_thrown_1427 (by decide) ?_
    rw [show nI 99 = nI i by rw [ei]]
    refine zV.callV (n := 1) C G dL_thrown_1435 (s_TappI hzs hst h2 (hN h8) o2 w2 i (by omega) (by have := dcs_t (n := i) (by omega); omega)) rfl ⟨cd_J4_append_bf812, lk_L_310, im_J4_append_bf812, se_J4_J4_append_bf812, in_J4⟩ ⟨⟨by decide, by decide⟩, by decide⟩ rfl (zRm_v 4000 100000 rfl rfl rfl (by omega) (by omega)) rfl (w2.1 0).1 ⟨rfl, by decide⟩ (zafR (fun h3 ⟨w3, g3⟩ => ?_)) (zno)
    obtain ⟨o3, e3⟩ : ∃ o : List Nat, o = o2 ++ dcs i := ⟨_, rfl⟩
    rw [← e3] at w3
    have l3 : o3.length ≤ 11 := by have := dcs_t (n := i) (by omega); rw [e3, List.length_append]; omega
    have n3 : hN h3 = hN h8 + 2 := by rw [g3.1, n2]
    have E3 : ∀ c, c < hN h8 → zEq h8 h3 c := fun c hc => (E2 c hc).trans (g3.2 c (by omega) (by omega))
    obtain ⟨q, fx⟩ := kept q8 hl8 (by omega) E3
    have f := f8.trans fx
    refine zV.ldcSw C G dL_thrown_1438 hq319 ?_
    refine zV.callV (n := 1) C G dL_thrown_1441 (s_TappS hzs hst h3 (hN h8) o3 w3 s319 t319 [62] hs319 (by decide) (fun i c hc => (show ∀ c ∈ ([62] : List Nat), c < 128 by decide) c (List.mem_of_getElem? hc)) (by show o3.length + 1 ≤ 16; omega)) rfl ⟨cd_J4_append_15ec4, lk_L_307, im_J4_append_15ec4, se_J4_J4_append_15ec4, in_J4⟩ ⟨⟨by decide, by decide⟩, by decide⟩ rfl (zRm_v 4000 100000 rfl rfl rfl (by omega) (by omega)) rfl (w3.1 0).1 ⟨rfl, by decide⟩ (zafR (fun h4 ⟨w4, g4⟩ => ?_)) (zno)
    obtain ⟨o4, e4⟩ : ∃ o : List Nat, o = o3 ++ [62] := ⟨_, rfl⟩
    rw [← e4] at w4
    have l4 : o4.length ≤ 12 := by rw [e4, List.length_append]; show o3.length + 1 ≤ 12; omega
    have n4 : hN h4 = hN h8 + 2 := by rw [g4.1, n3]
    have E4 : ∀ c, c < hN h8 → zEq h8 h4 c := fun c hc => (E3 c hc).trans (g4.2 c (by omega) (by omega))
    obtain ⟨q, fx⟩ := kept q8 hl8 (by omega) E4
    have f := f8.trans fx
    refine zV.iload_n C dL_thrown_1444 rfl ?_
    refine zV.if_ne (tgt := 1452) C dL_thrown_1445 (by decide) (fun q1445 => ?_) (fun q1445 => ?_)
    · exact absurd (by rw [hz]; rfl) q1445
    · refine zV.ic (v := nI 0) C dL_thrown_1448 (by decide) ?_
      refine zV.goto (tgt := 1461) C dL_thrown_1449 (by decide) ?_
      rw [show nI 0 = nI j by rw [ej]]
      refine zV.callV (n := 1) C G dL_thrown_1461 (s_TappI hzs hst h4 (hN h8) o4 w4 j (by omega) (by have := dcs_t (n := j) (by omega); omega)) rfl ⟨cd_J4_append_bf812, lk_L_310, im_J4_append_bf812, se_J4_J4_append_bf812, in_J4⟩ ⟨⟨by decide, by decide⟩, by decide⟩ rfl (zRm_v 4000 100000 rfl rfl rfl (by omega) (by omega)) rfl (w4.1 0).1 ⟨rfl, by decide⟩ (zafR (fun h5 ⟨w5, g5⟩ => ?_)) (zno)
      obtain ⟨o5, e5⟩ : ∃ o : List Nat, o = o4 ++ dcs j := ⟨_, rfl⟩
      rw [← e5] at w5
      have l5 : o5.length ≤ 14 := by have := dcs_t (n := j) (by omega); rw [e5, List.length_append]; omega
      have n5 : hN h5 = hN h8 + 2 := by rw [g5.1, n4]
      have E5 : ∀ c, c < hN h8 → zEq h8 h5 c := fun c hc => (E4 c hc).trans (g5.2 c (by omega) (by omega))
      refine zV.callV (n := 0) C G dL_thrown_1464 (s_TtoS hzs hst h5 (hN h8) o5 (by omega) w5 (by omega)) rfl ⟨cd_J4_toString_0e30d, lk_L_313, im_J4_toString_0e30d, se_J4_J4_toString_0e30d, in_J4⟩ ⟨⟨by decide, by decide⟩, by decide⟩ rfl (zRm_v 4000 100000 rfl rfl rfl (by omega) (by omega)) rfl (w5.1 0).1 ⟨rfl, by decide⟩ (zafR (fun h6 ⟨s6, n6, f6⟩ => ?_)) (zno)
      have E6 : ∀ c, c < hN h8 → zEq h8 h6 c := fun c hc => (E5 c hc).trans (f6 c (by omega))
      obtain ⟨q, fx⟩ := kept q8 hl8 (by omega) E6
      have f := f8.trans fx
      have rd5 : rdS o5 61 0 [] = (none, [(100, 5, 0), (104, 0, 9), (109, i, j)]) := by rw [e5, e4, e3, e2]; exact rd_m (by omega) (by omega)
      have hch : ∀ (k c : Nat), o5[k]? = some c → 32 ≤ c ∧ c ≤ 126 := fun k c hc => by
        rw [e5, e4, e3, e2] at hc
        rcases List.mem_append.mp (List.mem_of_getElem? hc) with z | z
        · rcases List.mem_append.mp z with z | z
          · rcases List.mem_append.mp z with z | z
            · exact (show ∀ c ∈ ([] ++ [100, 53, 59, 104, 48, 61, 57, 59, 109] : List Nat), 32 ≤ c ∧ c ≤ 126 by decide) c z
            · have := dcs_c z; omega
          · exact (show ∀ c ∈ ([62] : List Nat), 32 ≤ c ∧ c ≤ 126 by decide) c z
        · have := dcs_c z; omega
      refine zV.callS (n := 2) C G dL_thrown_1467 (s_runsH hzs hst h6 a lo m g us sn off rs dt cs (wl g 5) q hR hb (hN h5) o5 s6 (Or.inr (by omega)) (by omega) hch) rfl ⟨cd_L_runs, lk_L_321, st_L_runs, in_L⟩ ⟨⟨by decide, by decide⟩, by decide⟩ rfl (zRm_v 4000 100000 rfl rfl rfl (by omega) (by omega)) rfl (zafC (fun h9 p9 => ?_)) (zno)
      have f := f.trans p9.1
      obtain ⟨hv, q⟩ := ex_m0 rd5 ei ej (List.length_eq_zero_iff.mp hz) p9
      refine zV.if_ge (tgt := 1510) C dL_thrown_1470 (by decide) (fun q1470 => ?_) (fun q1470 => ?_)
      · exact absurd hv (Int32.not_lt.mpr q1470)
      · refine zV.iload_n C dL_thrown_1473 rfl ?_
        refine zV.if_eq (tgt := 1497) C dL_thrown_1474 (by decide) (fun q1474 => ?_) (fun q1474 => ?_)
        · refine zV.aload_n C dL_thrown_1497 rfl rfl ?_
          refine zV.callS (n := 1) C G dL_thrown_1498 (s_asks hzs hst h9 a lo m g us sn _ _ _ _ [] _ q hR (Nat.le_trans (by omega) hb) (by omega) (Nat.le_trans hlN f.1)) rfl ⟨cd_L_asks, lk_L_325, st_L_asks, in_L⟩ ⟨⟨by decide, by decide⟩, by decide⟩ rfl (zRm_v 4000 100000 rfl rfl rfl (by omega) (by omega)) rfl (zafR (fun h7 p7 => ?_)) (zno)
          refine zV.lload_n C dL_thrown_1501 rfl ?_
          refine zV.lcmp C dL_thrown_1502 ?_
          refine zV.if_ne (tgt := 1510) C dL_thrown_1503 (by decide) (fun q1503 => ?_) (fun q1503 => ?_)
          · exact absurd (lcmp_self _) q1503
          · refine zV.ic (v := nI 1) C dL_thrown_1506 (by decide) ?_
            refine zV.goto (tgt := 1511) C dL_thrown_1507 (by decide) ?_
            refine zV.zret C F dL_thrown_1511 rfl (zhc (by omega) (by omega)) ?_
            exact ⟨rfl, f.trans p7.1, _, _, _, _, _, p7.2⟩
        · exact absurd (by rw [hz]; rfl) q1474
set_option maxHeartbeats 4000000 in
set_option maxRecDepth 100000 in
theorem L_th6b {X : zX} {l : Launch} {E : zG} {rm : Room} (hzs : zS E) (hst : l.stackTraces = false) (C : zC X cL_thrown RL 9) (G : zGX X l E rm) {h0 : zH} {a lo m : Nat} {g : zGd} {us : List zGd} {sn : Option zGd} (hr : rm = ({ frames := 10, cells := 4000, slots := 100000, locals := 254 } : Room)) (hR : gR m g) (hb : m + 50000 ≤ big) (hX : gX g ≤ 99) (hO : gO g = 3) (hlN : lo ≤ hN h0) {Qx : String → zH → Prop} (F : zF X (some .boolean) 4000 100000 (fun r h' => r = some (.int 1) ∧ zXf h0 h' a lo ∧ ∃ off rs dt cs o, zXa h' a lo g us sn off rs dt cs [] o) Qx) {h8 : zH} {kc ks : Nat} {off rs dt cs : Int32} (f : zXf h0 h8 a lo) (q : zXa h8 a lo g us sn off rs dt cs [] (wl g 5)) (h11 : rs ≠ nI 11) (hk : kc + 1100 ≤ 4000) (hs : ks + 41400 ≤ 100000) (hz : 0 < (gC g).length) : zV X kc ks h8 1407 [(0, .ref a), (1, .long (askF g)), (3, .int (nI (gC g).length)), (4, .int (nI 3)), (5, .int (nI 1))] [] := by
  subst hr
  have hw : gW g := gW_of hR.1.1 hR.1.2.2.2 (Nat.le_trans (Nat.le_add_right _ _) hb)
  have h59 : ∀ l, l < 6 → hsz (gC g) l ≤ 5 := hR.1.2.2.1
  have n12 := gW_len hw
  obtain ⟨s380, t380, hq380, hs380⟩ := sc_L_380 hzs
  obtain ⟨s319, t319, hq319, hs319⟩ := sc_L_319 hzs
  obtain ⟨i, ch, k9, c9, -, -, ei, hi99, ek⟩ := br_k hw hX hz
  have h6 := (gW_c hw (kc_some ek).2.1).2.1
  obtain ⟨j, ej⟩ : ∃ j, j = chL c9 := ⟨_, rfl⟩
  rw [← ej] at h6
  refine zV.aload_n C dL_thrown_1407 rfl rfl ?_
  refine zV.new C G dL_thrown_1408 zcl_J4 ⟨lk_L_302, it_J4, in_J4⟩ (by decide) (zhc (show _ ≤ 4000 by omega) (show _ ≤ 100000 by omega)) ?_
  refine zV.dup C dL_thrown_1411 rfl ?_
  refine zV.callI (n := 0) C G dL_thrown_1412 (s_TSB hzs hst (hNew h8 2 0) (hN h8) hK_newE rfl (fun f => hI_newE)) rfl ⟨cd_J4_init_da8c8, lk_L_304, im_J4_init_da8c8, in_J4⟩ rfl ⟨⟨by decide, by decide⟩, by decide⟩ rfl (zRm_v 4000 100000 rfl rfl rfl (by omega) (by omega)) rfl (zafRv (fun h1 ⟨w1, n1, x1⟩ => ?_)) (zno)
  have q8 := q
  have f8 := f
  have hl8 : lo ≤ hN h8 := Nat.le_trans hlN f.1
  have hlo := zXa_lo q
  refine zV.ldcSw C G dL_thrown_1415 hq380 ?_
  refine zV.callV (n := 1) C G dL_thrown_1418 (s_TappS hzs hst h1 (hN h8) [] w1 s380 t380 [100, 53, 59, 104, 48, 61, 57, 59, 109] hs380 (by decide) (fun i c hc => (show ∀ c ∈ ([100, 53, 59, 104, 48, 61, 57, 59, 109] : List Nat), c < 128 by decide) c (List.mem_of_getElem? hc)) (by decide)) rfl ⟨cd_J4_append_15ec4, lk_L_307, im_J4_append_15ec4, se_J4_J4_append_15ec4, in_J4⟩ ⟨⟨by decide, by decide⟩, by decide⟩ rfl (zRm_v 4000 100000 rfl rfl rfl (by omega) (by omega)) rfl (w1.1 0).1 ⟨rfl, by decide⟩ (zafR (fun h2 ⟨w2, g2⟩ => ?_)) (zno)
  obtain ⟨o2, e2⟩ : ∃ o : List Nat, o = [] ++ [100, 53, 59, 104, 48, 61, 57, 59, 109] := ⟨_, rfl⟩
  rw [← e2] at w2
  have l2 : o2.length = 9 := by rw [e2]; rfl
  have n2 : hN h2 = hN h8 + 2 := by rw [g2.1, n1]
  have E2 : ∀ c, c < hN h8 → zEq h8 h2 c := fun c hc => ((zEq_new (k := 2) (z := 0) (by omega)).trans (x1.2 c (by omega))).trans (g2.2 c (by omega) (by omega))
  obtain ⟨q, fx⟩ := kept q8 hl8 (by omega) E2
  have f := f8.trans fx
  refine zV.iload_n C dL_thrown_1421 rfl ?_
  refine zV.if_ne (tgt := 1430) C dL_thrown_1422 (by decide) (fun q1422 => ?_) (fun q1422 => ?_)
  · refine zV.aload_n C dL_thrown_1430 rfl rfl ?_
    refine zV.ic (v := nI 0) C dL_thrown_1431 (by decide) ?_
    refine zV.callSW (n := 2) C G dL_thrown_1432 (w_byRust hzs hst q hw _) rfl ⟨cd_L_byRust, lk_L_280, st_L_byRust, in_L⟩ ⟨⟨by decide, by decide⟩, by decide⟩ rfl (zRm_v 4000 100000 rfl rfl rfl (by omega) (by omega)) rfl (zafQe ei ?_) (zno)
    refine zV.callV (n := 1) C G dL_thrown_1435 (s_TappI hzs hst h2 (hN h8) o2 w2 i (by omega) (by have := dcs_t (n := i) (by omega); omega)) rfl ⟨cd_J4_append_bf812, lk_L_310, im_J4_append_bf812, se_J4_J4_append_bf812, in_J4⟩ ⟨⟨by decide, by decide⟩, by decide⟩ rfl (zRm_v 4000 100000 rfl rfl rfl (by omega) (by omega)) rfl (w2.1 0).1 ⟨rfl, by decide⟩ (zafR (fun h3 ⟨w3, g3⟩ => ?_)) (zno)
    obtain ⟨o3, e3⟩ : ∃ o : List Nat, o = o2 ++ dcs i := ⟨_, rfl⟩
    rw [← e3] at w3
    have l3 : o3.length ≤ 11 := by have := dcs_t (n := i) (by omega); rw [e3, List.length_append]; omega
    have n3 : hN h3 = hN h8 + 2 := by rw [g3.1, n2]
    have E3 : ∀ c, c < hN h8 → zEq h8 h3 c := fun c hc => (E2 c hc).trans (g3.2 c (by omega) (by omega))
    obtain ⟨q, fx⟩ := kept q8 hl8 (by omega) E3
    have f := f8.trans fx
    refine zV.ldcSw C G dL_thrown_1438 hq319 ?_
    refine zV.callV (n := 1) C G dL_thrown_1441 (s_TappS hzs hst h3 (hN h8) o3 w3 s319 t319 [62] hs319 (by decide) (fun i c hc => (show ∀ c ∈ ([62] : List Nat), c < 128 by decide) c (List.mem_of_getElem? hc)) (by show o3.length + 1 ≤ 16; omega)) rfl ⟨cd_J4_append_15ec4, lk_L_307, im_J4_append_15ec4, se_J4_J4_append_15ec4, in_J4⟩ ⟨⟨by decide, by decide⟩, by decide⟩ rfl (zRm_v 4000 100000 rfl rfl rfl (by omega) (by omega)) rfl (w3.1 0).1 ⟨rfl, by decide⟩ (zafR (fun h4 ⟨w4, g4⟩ => ?_)) (zno)
    obtain ⟨o4, e4⟩ : ∃ o : List Nat, o = o3 ++ [62] := ⟨_, rfl⟩
    rw [← e4] at w4
    have l4 : o4.length ≤ 12 := by rw [e4, List.length_append]; show o3.length + 1 ≤ 12; omega
    have n4 : hN h4 = hN h8 + 2 := by rw [g4.1, n3]
    have E4 : ∀ c, c < hN h8 → zEq h8 h4 c := fun c hc => (E3 c hc).trans (g4.2 c (by omega) (by omega))
    obtain ⟨q, fx⟩ := kept q8 hl8 (by omega) E4
    have f := f8.trans fx
    refine zV.iload_n C dL_thrown_1444 rfl ?_
    refine zV.if_ne (tgt := 1452) C dL_thrown_1445 (by decide) (fun q1445 => ?_) (fun q1445 => ?_)
    · refine zV.aload_n C dL_thrown_1452 rfl rfl ?_
      refine zV.aload_n C dL_thrown_1453 rfl rfl ?_
      refine zV.ic (v := nI 0) C dL_thrown_1454 (by decide) ?_
      refine zV.callSW (n := 2) C G dL_thrown_1455 (w_byRust hzs hst q hw _) rfl ⟨cd_L_byRust, lk_L_280, st_L_byRust, in_L⟩ ⟨⟨by decide, by decide⟩, by decide⟩ rfl (zRm_v 4000 100000 rfl rfl rfl (by omega) (by omega)) rfl (zafQe ei ?_) (zno)
      refine zV.callSW (n := 2) C G dL_thrown_1458 (w_lawnOf hzs hst q hw _) rfl ⟨cd_L_lawnOf, lk_L_339, st_L_lawnOf, in_L⟩ ⟨⟨by decide, by decide⟩, by decide⟩ rfl (zRm_v 4000 100000 rfl rfl rfl (by omega) (by omega)) rfl (zafQe (v := nI j) ((lo_v ek).trans (by rw [ej])) ?_) (zno)
      refine zV.callV (n := 1) C G dL_thrown_1461 (s_TappI hzs hst h4 (hN h8) o4 w4 j (by omega) (by have := dcs_t (n := j) (by omega); omega)) rfl ⟨cd_J4_append_bf812, lk_L_310, im_J4_append_bf812, se_J4_J4_append_bf812, in_J4⟩ ⟨⟨by decide, by decide⟩, by decide⟩ rfl (zRm_v 4000 100000 rfl rfl rfl (by omega) (by omega)) rfl (w4.1 0).1 ⟨rfl, by decide⟩ (zafR (fun h5 ⟨w5, g5⟩ => ?_)) (zno)
      obtain ⟨o5, e5⟩ : ∃ o : List Nat, o = o4 ++ dcs j := ⟨_, rfl⟩
      rw [← e5] at w5
      have l5 : o5.length ≤ 14 := by have := dcs_t (n := j) (by omega); rw [e5, List.length_append]; omega
      have n5 : hN h5 = hN h8 + 2 := by rw [g5.1, n4]
      have E5 : ∀ c, c < hN h8 → zEq h8 h5 c := fun c hc => (E4 c hc).trans (g5.2 c (by omega) (by omega))
      refine zV.callV (n := 0) C G dL_thrown_1464 (s_TtoS hzs hst h5 (hN h8) o5 (by omega) w5 (by omega)) rfl ⟨cd_J4_toString_0e30d, lk_L_313, im_J4_toString_0e30d, se_J4_J4_toString_0e30d, in_J4⟩ ⟨⟨by decide, by decide⟩, by decide⟩ rfl (zRm_v 4000 100000 rfl rfl rfl (by omega) (by omega)) rfl (w5.1 0).1 ⟨rfl, by decide⟩ (zafR (fun h6 ⟨s6, n6, f6⟩ => ?_)) (zno)
      have E6 : ∀ c, c < hN h8 → zEq h8 h6 c := fun c hc => (E5 c hc).trans (f6 c (by omega))
      obtain ⟨q, fx⟩ := kept q8 hl8 (by omega) E6
      have f := f8.trans fx
      have rd5 : rdS o5 61 0 [] = (none, [(100, 5, 0), (104, 0, 9), (109, i, j)]) := by rw [e5, e4, e3, e2]; exact rd_m (by omega) (by omega)
      have hch : ∀ (k c : Nat), o5[k]? = some c → 32 ≤ c ∧ c ≤ 126 := fun k c hc => by
        rw [e5, e4, e3, e2] at hc
        rcases List.mem_append.mp (List.mem_of_getElem? hc) with z | z
        · rcases List.mem_append.mp z with z | z
          · rcases List.mem_append.mp z with z | z
            · exact (show ∀ c ∈ ([] ++ [100, 53, 59, 104, 48, 61, 57, 59, 109] : List Nat), 32 ≤ c ∧ c ≤ 126 by decide) c z
            · have := dcs_c z; omega
          · exact (show ∀ c ∈ ([62] : List Nat), 32 ≤ c ∧ c ≤ 126 by decide) c z
        · have := dcs_c z; omega
      refine zV.callS (n := 2) C G dL_thrown_1467 (s_runsH hzs hst h6 a lo m g us sn off rs dt cs (wl g 5) q hR hb (hN h5) o5 s6 (Or.inr (by omega)) (by omega) hch) rfl ⟨cd_L_runs, lk_L_321, st_L_runs, in_L⟩ ⟨⟨by decide, by decide⟩, by decide⟩ rfl (zRm_v 4000 100000 rfl rfl rfl (by omega) (by omega)) rfl (zafC (fun h9 p9 => ?_)) (zno)
      have f := f.trans p9.1
      obtain ⟨hv, rs9, dt9, cs9, q, hj9⟩ := ex_m1 rd5 hR hb ek ej h11 p9
      refine zV.if_ge (tgt := 1510) C dL_thrown_1470 (by decide) (fun q1470 => ?_) (fun q1470 => ?_)
      · exact absurd hv (Int32.not_lt.mpr q1470)
      · refine zV.iload_n C dL_thrown_1473 rfl ?_
        refine zV.if_eq (tgt := 1497) C dL_thrown_1474 (by decide) (fun q1474 => ?_) (fun q1474 => ?_)
        · exact absurd ((n0 (by omega)).mp q1474) (by omega)
        · refine zV.aload_n C dL_thrown_1477 rfl rfl ?_
          refine zV.aload_n C dL_thrown_1478 rfl rfl ?_
          refine zV.ic (v := nI 0) C dL_thrown_1479 (by decide) ?_
          refine zV.callSW (n := 2) C G dL_thrown_1480 (w_byRust hzs hst q hw _) rfl ⟨cd_L_byRust, lk_L_280, st_L_byRust, in_L⟩ ⟨⟨by decide, by decide⟩, by decide⟩ rfl (zRm_v 4000 100000 rfl rfl rfl (by omega) (by omega)) rfl (zafQe ei ?_) (zno)
          refine zV.callSW (n := 2) C G dL_thrown_1483 (w_isFolded hzs hst q hw _) rfl ⟨cd_L_isFolded, lk_L_337, st_L_isFolded, in_L⟩ ⟨⟨by decide, by decide⟩, by decide⟩ rfl (zRm_v 4000 100000 rfl rfl rfl (by omega) (by omega)) rfl (zafBe (fo_v ek) ?_) (zno)
          refine zV.ic (v := nI 1) C dL_thrown_1486 (by decide) ?_
          refine zV.icmp_eq (tgt := 1497) C dL_thrown_1487 (by decide) (fun q1487 => ?_) (fun q1487 => ?_)
          · refine zV.aload_n C dL_thrown_1497 rfl rfl ?_
            refine zV.callS (n := 1) C G dL_thrown_1498 (s_asks hzs hst h9 a lo m g us sn _ _ _ _ [] _ q hR (Nat.le_trans (by omega) hb) (by omega) (Nat.le_trans hlN f.1)) rfl ⟨cd_L_asks, lk_L_325, st_L_asks, in_L⟩ ⟨⟨by decide, by decide⟩, by decide⟩ rfl (zRm_v 4000 100000 rfl rfl rfl (by omega) (by omega)) rfl (zafR (fun h7 p7 => ?_)) (zno)
            refine zV.lload_n C dL_thrown_1501 rfl ?_
            refine zV.lcmp C dL_thrown_1502 ?_
            refine zV.if_ne (tgt := 1510) C dL_thrown_1503 (by decide) (fun q1503 => ?_) (fun q1503 => ?_)
            · exact absurd (lcmp_self _) q1503
            · refine zV.ic (v := nI 1) C dL_thrown_1506 (by decide) ?_
              refine zV.goto (tgt := 1511) C dL_thrown_1507 (by decide) ?_
              refine zV.zret C F dL_thrown_1511 rfl (zhc (by omega) (by omega)) ?_
              exact ⟨rfl, f.trans p7.1, _, _, _, _, _, p7.2⟩
          · have b : ¬ chF c9 = true := fun z => by rw [if_pos z] at q1487; exact q1487 rfl
            refine zV.aload_n C dL_thrown_1490 rfl rfl ?_
            refine zV.callS (n := 1) C G dL_thrown_1491 (s_rejects hzs hst _ a lo g us sn _ _ _ _ [] _ q (hj9.resolve_left b)) rfl ⟨cd_L_rejects, lk_L_382, st_L_rejects, in_L⟩ ⟨⟨by decide, by decide⟩, by decide⟩ rfl (zRm_v 4000 100000 rfl rfl rfl (by omega) (by omega)) rfl (zaf ?_) (zno)
            refine zV.if_eq (tgt := 1510) C dL_thrown_1494 (by decide) (fun q1494 => ?_) (fun q1494 => ?_)
            · exact absurd q1494 (by decide)
            · refine zV.aload_n C dL_thrown_1497 rfl rfl ?_
              refine zV.callS (n := 1) C G dL_thrown_1498 (s_asks hzs hst h9 a lo m g us sn _ _ _ _ [] _ q hR (Nat.le_trans (by omega) hb) (by omega) (Nat.le_trans hlN f.1)) rfl ⟨cd_L_asks, lk_L_325, st_L_asks, in_L⟩ ⟨⟨by decide, by decide⟩, by decide⟩ rfl (zRm_v 4000 100000 rfl rfl rfl (by omega) (by omega)) rfl (zafR (fun h7 p7 => ?_)) (zno)
              refine zV.lload_n C dL_thrown_1501 rfl ?_
              refine zV.lcmp C dL_thrown_1502 ?_
              refine zV.if_ne (tgt := 1510) C dL_thrown_1503 (by decide) (fun q1503 => ?_) (fun q1503 => ?_)
              · exact absurd (lcmp_self _) q1503
              · refine zV.ic (v := nI 1) C dL_thrown_1506 (by decide) ?_
                refine zV.goto (tgt := 1511) C dL_thrown_1507 (by decide) ?_
                refine zV.zret C F dL_thrown_1511 rfl (zhc (by omega) (by omega)) ?_
                exact ⟨rfl, f.trans p7.1, _, _, _, _, _, p7.2⟩
    · exact absurd ((n0 (by omega)).mp q1445) (by omega)
  · exact absurd ((n0 (by omega)).mp q1422) (by omega)
set_option maxHeartbeats 4000000 in
set_option maxRecDepth 100000 in
theorem L_th5 {X : zX} {l : Launch} {E : zG} {rm : Room} (hzs : zS E) (hst : l.stackTraces = false) (C : zC X cL_thrown RL 9) (G : zGX X l E rm) {h0 : zH} {a lo m : Nat} {g : zGd} {us : List zGd} {sn : Option zGd} (hr : rm = ({ frames := 10, cells := 4000, slots := 100000, locals := 254 } : Room)) (hR : gR m g) (hb : m + 50000 ≤ big) (hX : gX g ≤ 99) (hO : gO g = 3) (hlN : lo ≤ hN h0) {Qx : String → zH → Prop} (F : zF X (some .boolean) 4000 100000 (fun r h' => r = some (.int 1) ∧ zXf h0 h' a lo ∧ ∃ off rs dt cs o, zXa h' a lo g us sn off rs dt cs [] o) Qx) {h : zH} {kc ks : Nat} (S9 : thS h0 h a lo g us sn) (hk : kc + 1400 ≤ 4000) (hs : ks + 43000 ≤ 100000) : zV X kc ks h 1326 [(0, .ref a), (1, .long (askF g)), (3, .int (nI (gC g).length)), (4, .int (nI 3)), (5, .int (nI 1))] [] := by
  have hr0 := hr
  subst hr
  have hw : gW g := gW_of hR.1.1 hR.1.2.2.2 (Nat.le_trans (Nat.le_add_right _ _) hb)
  have h59 : ∀ l, l < 6 → hsz (gC g) l ≤ 5 := hR.1.2.2.1
  have n12 := gW_len hw
  obtain ⟨f, off, rs, dt, cs, q, h11⟩ := S9
  obtain ⟨s371, t371, hq371, hs371⟩ := sc_L_371 hzs
  obtain ⟨s376, t376, hq376, hs376⟩ := sc_L_376 hzs
  obtain ⟨s378, t378, hq378, hs378⟩ := sc_L_378 hzs
  refine zV.aload_n C dL_thrown_1326 rfl rfl ?_
  refine zV.callSW (n := 1) C G dL_thrown_1327 (w_reason hzs hst q) rfl ⟨cd_L_reason, lk_L_189, st_L_reason, in_L⟩ ⟨⟨by decide, by decide⟩, by decide⟩ rfl (zRm_v 4000 100000 rfl rfl rfl (by omega) (by omega)) rfl (zafQ ?_) (zno)
  refine zV.jstore (lo' := [(0, _), (1, _), (3, _), (4, _), (5, _), (6, _)]) C dL_thrown_1330 (by decide) rfl rfl rfl ?_
  refine zV.aload_n C dL_thrown_1332 rfl rfl ?_
  refine zV.callSW (n := 1) C G dL_thrown_1333 (w_detail hzs hst q) rfl ⟨cd_L_detail, lk_L_192, st_L_detail, in_L⟩ ⟨⟨by decide, by decide⟩, by decide⟩ rfl (zRm_v 4000 100000 rfl rfl rfl (by omega) (by omega)) rfl (zafQ ?_) (zno)
  refine zV.jstore (lo' := [(0, _), (1, _), (3, _), (4, _), (5, _), (6, _), (7, _)]) C dL_thrown_1336 (by decide) rfl rfl rfl ?_
  refine zV.iload C dL_thrown_1338 rfl ?_
  refine zV.if_eq (tgt := 1510) C dL_thrown_1340 (by decide) (fun q1340 => ?_) (fun q1340 => ?_)
  · exact absurd q1340 (by decide)
  · refine zV.aload_n C dL_thrown_1343 rfl rfl ?_
    refine zV.ldcSw C G dL_thrown_1344 hq371 ?_
    refine zV.callS (n := 2) C G dL_thrown_1347 (s_runsR hzs hst _ a lo m g us sn off rs dt cs (wl g 5) q hR hb s371 t371 [120] hs371 (by decide) (fun i c hc => (show ∀ c ∈ ([120] : List Nat), 32 ≤ c ∧ c ≤ 126 by decide) c (List.mem_of_getElem? hc))) rfl ⟨cd_L_runs, lk_L_321, st_L_runs, in_L⟩ ⟨⟨by decide, by decide⟩, by decide⟩ rfl (zRm_v 4000 100000 rfl rfl rfl (by omega) (by omega)) rfl (zafCe (v := -1001) ex_x (fun h9 p9 => ?_)) (zno)
    have f := f.trans p9.1
    have q := ex_e rd_x p9
    obtain ⟨off, eo⟩ : ∃ off : Int32, off = nI 0 := ⟨_, rfl⟩
    rw [← eo] at q
    refine zV.si (v := (-1001)) C dL_thrown_1350 (by decide) ?_
    refine zV.icmp_ne (tgt := 1510) C dL_thrown_1353 (by decide) (fun q1353 => ?_) (fun q1353 => ?_)
    · exact absurd rfl q1353
    · refine zV.aload_n C dL_thrown_1356 rfl rfl ?_
      refine zV.callSW (n := 1) C G dL_thrown_1357 (w_syntaxError hzs hst q) rfl ⟨cd_L_syntaxError, lk_L_373, st_L_syntaxError, in_L⟩ ⟨⟨by decide, by decide⟩, by decide⟩ rfl (zRm_v 4000 100000 rfl rfl rfl (by omega) (by omega)) rfl (zafQe (v := nI 0) (by rw [eo]; decide) ?_) (zno)
      refine zV.if_ne (tgt := 1510) C dL_thrown_1360 (by decide) (fun q1360 => ?_) (fun q1360 => ?_)
      · exact absurd rfl q1360
      · refine zV.aload_n C dL_thrown_1363 rfl rfl ?_
        refine zV.ldcSw C G dL_thrown_1364 hq376 ?_
        refine zV.callS (n := 2) C G dL_thrown_1367 (s_runsR hzs hst _ a lo m g us sn off rs dt cs (wl g 5) q hR hb s376 t376 [100, 49, 59, 115, 57, 57] hs376 (by decide) (fun i c hc => (show ∀ c ∈ ([100, 49, 59, 115, 57, 57] : List Nat), 32 ≤ c ∧ c ≤ 126 by decide) c (List.mem_of_getElem? hc))) rfl ⟨cd_L_runs, lk_L_321, st_L_runs, in_L⟩ ⟨⟨by decide, by decide⟩, by decide⟩ rfl (zRm_v 4000 100000 rfl rfl rfl (by omega) (by omega)) rfl (zafCe (v := -1002) ((ex_v rd_s (by rw [(pf_s hw hX).1]; decide)).trans (by rw [(pf_s hw hX).2] <;> decide)) (fun h9 p9 => ?_)) (zno)
        have f := f.trans p9.1
        have q := ex_q rd_s (by rw [(pf_s hw hX).1]; decide) (by rw [(pf_s hw hX).2]; decide) p9
        refine zV.si (v := (-1002)) C dL_thrown_1370 (by decide) ?_
        refine zV.icmp_ne (tgt := 1510) C dL_thrown_1373 (by decide) (fun q1373 => ?_) (fun q1373 => ?_)
        · exact absurd rfl q1373
        · refine zV.aload_n C dL_thrown_1376 rfl rfl ?_
          refine zV.ldcSw C G dL_thrown_1377 hq378 ?_
          refine zV.callS (n := 2) C G dL_thrown_1380 (s_runsR hzs hst _ a lo m g us sn off rs dt cs (wl g 5) q hR hb s378 t378 [97, 49, 59, 100, 48] hs378 (by decide) (fun i c hc => (show ∀ c ∈ ([97, 49, 59, 100, 48] : List Nat), 32 ≤ c ∧ c ≤ 126 by decide) c (List.mem_of_getElem? hc))) rfl ⟨cd_L_runs, lk_L_321, st_L_runs, in_L⟩ ⟨⟨by decide, by decide⟩, by decide⟩ rfl (zRm_v 4000 100000 rfl rfl rfl (by omega) (by omega)) rfl (zafCe (v := -1002) ((ex_v rd_d (by rw [(pf_d hO).1]; decide)).trans (by rw [(pf_d hO).2] <;> decide)) (fun h8 p9 => ?_)) (zno)
          have f := f.trans p9.1
          have q := ex_q rd_d (by rw [(pf_d hO).1]; decide) (by rw [(pf_d hO).2]; decide) p9
          refine zV.si (v := (-1002)) C dL_thrown_1383 (by decide) ?_
          refine zV.icmp_ne (tgt := 1510) C dL_thrown_1386 (by decide) (fun q1386 => ?_) (fun q1386 => ?_)
          · exact absurd rfl q1386
          · refine zV.aload_n C dL_thrown_1389 rfl rfl ?_
            refine zV.callSW (n := 1) C G dL_thrown_1390 (w_reason hzs hst q) rfl ⟨cd_L_reason, lk_L_189, st_L_reason, in_L⟩ ⟨⟨by decide, by decide⟩, by decide⟩ rfl (zRm_v 4000 100000 rfl rfl rfl (by omega) (by omega)) rfl (zafQ ?_) (zno)
            refine zV.iload C dL_thrown_1393 rfl ?_
            refine zV.icmp_ne (tgt := 1510) C dL_thrown_1395 (by decide) (fun q1395 => ?_) (fun q1395 => ?_)
            · exact absurd rfl q1395
            · refine zV.aload_n C dL_thrown_1398 rfl rfl ?_
              refine zV.callSW (n := 1) C G dL_thrown_1399 (w_detail hzs hst q) rfl ⟨cd_L_detail, lk_L_192, st_L_detail, in_L⟩ ⟨⟨by decide, by decide⟩, by decide⟩ rfl (zRm_v 4000 100000 rfl rfl rfl (by omega) (by omega)) rfl (zafQ ?_) (zno)
              refine zV.iload C dL_thrown_1402 rfl ?_
              refine zV.icmp_ne (tgt := 1510) C dL_thrown_1404 (by decide) (fun q1404 => ?_) (fun q1404 => ?_)
              · exact absurd rfl q1404
              · refine zV.sub [0, 1, 2, 3, 4] rfl ?_
                rcases Nat.eq_zero_or_pos (gC g).length with hz | hz
                · exact L_th6a hzs hst C G hr0 hR hb hX hO hlN F f q h11 (by omega) (by omega) hz
                · exact L_th6b hzs hst C G hr0 hR hb hX hO hlN F f q h11 (by omega) (by omega) hz
set_option maxHeartbeats 4000000 in
set_option maxRecDepth 100000 in
theorem s_thrown {l : Launch} {E : zG} (hzs : zS E) (hst : l.stackTraces = false) (h : zH) (a lo m : Nat) (g : zGd) (us : List zGd) (sn : Option zGd) (off rs dt cs : Int32) (o : List Nat) (hR : gR m g) (hb : m + 50000 ≤ big) (hX : gX g ≤ 99) (hO : gO g = 3) (hlN : lo ≤ hN h) (h11 : rs ≠ nI 11) (q : zXa h a lo g us sn off rs dt cs [] o) : zMet l E yL_thrown cL_thrown 9 (some .boolean) ({ frames := 10, cells := 4000, slots := 100000, locals := 254 } : Room) 4000 100000 [.ref a] h ((fun r h' => r = some (.int 1) ∧ zXf h h' a lo ∧ ∃ off rs dt cs o, zXa h' a lo g us sn off rs dt cs [] o)) (fun _ _ => False) := by
  refine zM_start hzs hst (by decide) (Nat.le_of_ble_eq_true rfl) (fun X C G F I => ?_)
  show zV X 0 0 _ 0 [(0, _)] []
  have hw : gW g := gW_of hR.1.1 hR.1.2.2.2 (Nat.le_trans (Nat.le_add_right _ _) hb)
  have h59 : ∀ l, l < 6 → hsz (gC g) l ≤ 5 := hR.1.2.2.1
  have n12 := gW_len hw
  refine zV.aload_n C dL_thrown_0 rfl rfl ?_
  refine zV.callS (n := 1) C G dL_thrown_1 (s_asks hzs hst h a lo m g us sn _ _ _ _ [] _ q hR (Nat.le_trans (by omega) hb) (by omega) hlN) rfl ⟨cd_L_asks, lk_L_325, st_L_asks, in_L⟩ ⟨⟨by decide, by decide⟩, by decide⟩ rfl rfl rfl (zafR (fun h9 p9 => ?_)) (zno)
  have f := p9.1
  have q := p9.2
  refine zV.lstore_n (lo' := [(0, _), (1, _)]) C dL_thrown_4 (by decide) rfl rfl rfl ?_
  refine zV.aload_n C dL_thrown_5 rfl rfl ?_
  refine zV.callV (n := 0) C G dL_thrown_6 (s_chairCount hzs hst _ a g q.1 q.2.1.1 hw) rfl ⟨cd_X9_chairCount, lk_L_222, im_X9_chairCount, se_X9_X9_chairCount, in_X9⟩ ⟨⟨by decide, by decide⟩, by decide⟩ rfl rfl rfl q.1.1 ⟨rfl, by decide⟩ (zaf ?_) (zno)
  refine zV.jstore_n (lo' := [(0, _), (1, _), (3, _)]) C dL_thrown_9 (by decide) rfl rfl rfl ?_
  refine zV.aload_n C dL_thrown_10 rfl rfl ?_
  refine zV.callV (n := 0) C G dL_thrown_11 (s_oil hzs hst _ a g q.1 q.2.1.1 hw) rfl ⟨cd_X9_oil, lk_L_251, im_X9_oil, se_X9_X9_oil, in_X9⟩ ⟨⟨by decide, by decide⟩, by decide⟩ rfl rfl rfl q.1.1 ⟨rfl, by decide⟩ (zaf ?_) (zno)
  rw [hO]
  refine zV.jstore (lo' := [(0, _), (1, _), (3, _), (4, _)]) C dL_thrown_14 (by decide) rfl rfl rfl ?_
  refine L_th1 hzs hst C G rfl hR hb hX hO hlN ⟨f, _, _, _, _, q, h11⟩ (by decide) (by decide) (fun h1 S1 => ?_)
  refine zV.iload C dL_thrown_307 rfl ?_
  refine zV.bi (v := nI 10) C dL_thrown_309 (by decide) ?_
  refine zV.icmp_le (tgt := 349) C dL_thrown_311 (by decide) (fun q311 => ?_) (fun q311 => ?_)
  · refine zV.ic (v := nI 0) C dL_thrown_349 (by decide) ?_
    refine zV.jstore (lo' := [(0, _), (1, _), (3, _), (4, _), (5, _), (6, _)]) C dL_thrown_350 (by decide) rfl rfl rfl ?_
    refine L_thA hzs hst C G rfl hR hb hX hO hlN (K := 1900) (KS := 46000) (by decide) (by decide) 6 0 h1 _ _ rfl (by decide) (by decide) S1 (fun h2 S2 => ?_)
    refine zV.ic (v := nI 0) C dL_thrown_707 (by decide) ?_
    refine zV.jstore (lo' := [(0, _), (1, _), (3, _), (4, _), (5, _), (6, _)]) C dL_thrown_708 (by decide) rfl rfl rfl ?_
    refine L_thC hzs hst C G rfl hR hb hX hO hlN (K := 2110) (KS := 47300) (by decide) (by decide) (gC g).length 0 h2 _ _ (Nat.zero_add _) (by omega) (by omega) S2 (fun h3 S3 => ?_)
    refine L_th4 hzs hst C G rfl hR hb hX hO hlN S3 (by decide) (by decide) (fun h4 S4 => ?_)
    exact L_th5 hzs hst C G rfl hR hb hX hO hlN F S4 (by decide) (by decide)
  · exact absurd (by decide) q311
