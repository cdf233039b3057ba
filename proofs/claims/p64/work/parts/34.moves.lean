/-! Garden: scrap, move, migrate -/
theorem zafR {X : zX} {kc ks : Nat} {pc : Nat} {lo : List (Nat × Value)} {rest : List Value} {v : Value} {n : Nat} {Q : zH → Prop} (k : ∀ h', Q h' → zV X kc ks h' pc lo (v :: rest)) : ∀ (r : Option Value) (h' : zH), (r = some v ∧ Q h') → n ≤ hN h' → zV X kc ks h' pc lo (r.toList ++ rest) := fun r h' q _ => by
  obtain ⟨rfl, q⟩ := q
  exact k h' q
theorem zafRv {X : zX} {kc ks : Nat} {pc : Nat} {lo : List (Nat × Value)} {rest : List Value} {n : Nat} {Q : zH → Prop} (k : ∀ h', Q h' → zV X kc ks h' pc lo rest) : ∀ (r : Option Value) (h' : zH), (r = none ∧ Q h') → n ≤ hN h' → zV X kc ks h' pc lo (r.toList ++ rest) := fun r h' q _ => by
  obtain ⟨rfl, q⟩ := q
  exact k h' q
theorem erase_set {α : Type} {cs : List α} {k : Nat} {c : α} : (cs.set k c).eraseIdx k = cs.eraseIdx k := by
  apply List.ext_getElem?
  intro i
  rw [List.getElem?_eraseIdx, List.getElem?_eraseIdx]
  by_cases q : i < k
  · rw [if_pos q, if_pos q, List.getElem?_set_ne (by omega)]
  · rw [if_neg q, if_neg q, List.getElem?_set_ne (by omega)]
/-- the herd that the k-th chair leaves -/
theorem dec1 {h : zH} {b k : Nat} {g : zGd} {c : zCh} (hg : zGa h b g) (hl : (gC g).length ≤ 12) (hc : (gC g)[k]? = some c) (hL : chL c < 6) : ∃ H1, H1 = saI h (b + 6 + 1) (chL c) (aI h (b + 6 + 1) (chL c) + -1) ∧ zGx H1 b g ∧ zSz H1 b (hsz ((gC g).eraseIdx k)) ∧ zFr h H1 b ∧ hI H1 = hI h ∧ ∀ j, cA H1 b j = cA h b j := by
  refine ⟨_, rfl, zGx_size (zGa_x hg), zSz_size (n := hsz ((gC g).eraseIdx k) (chL c)) (zGa_z hg) ?_ rfl (fun i hi => ?_), (zFr.refl h b).saI (by omega) (by omega), rfl, fun _ => rfl⟩
  · have e := hsz_erase hc (chL c)
    rw [if_pos rfl] at e
    show aI h (b + 7) (chL c) + -1 = _
    rw [zGa_h hg _ hL, ← e]
    exact pk_m1 _
  · have e := hsz_erase hc i
    rw [if_neg (fun z => hi z.symm)] at e
    omega
theorem shf1 {h : zH} {b k : Nat} {g : zGd} {c : zCh} {z : Nat → Nat} (hg : zGx h b g) (hz : zSz h b z) (hl : (gC g).length ≤ 12) (hc : (gC g)[k]? = some c) : ∃ H1, H1 = sQ h (b + 8) (fun i => aR h (b + 8) (rot k (gC g).length i)) ∧ zGx H1 b (gwC g (rotL (gC g) k c)) ∧ zSz H1 b z ∧ zFr h H1 b ∧ hI H1 = hI h :=
  ⟨_, rfl, zGx_rot hg hl hc, hz, (zFr.refl h b).sQ (by omega) (by omega), rfl⟩
theorem sc9 {h : zH} {b k : Nat} {g : zGd} {c : zCh} (hg : zGx h b (gwC g (rotL (gC g) k c))) (hz : zSz h b (hsz ((gC g).eraseIdx k))) (hl : (gC g).length ≤ 12) (hc : (gC g)[k]? = some c) : zGa (sI (sI h 196 b (nI ((gC g).length - 1))) 201 b (nI (gU g + 1))) b (opSc g k) := by
  have hk := (List.getElem?_eq_some_iff.mp hc).1
  have le : (gC g).length - 1 = ((gC g).eraseIdx k).length := by rw [List.length_eraseIdx, if_pos hk]
  have hl2 : ((gC g).eraseIdx k).length ≤ 12 := by omega
  rw [le]
  have x1 := zGx_196 (cs := (gC g).eraseIdx k) hg hl2 (zCs_list hg.2.2.2.2.1 (fun i d hd => by
    show (rotL (gC g) k c)[i]? = some d
    unfold rotL
    rw [List.getElem?_append_left ((List.getElem?_eq_some_iff.mp hd).1)]
    exact hd))
  exact zGa_of (zGx_201 x1 hl2) hz
theorem mv9 {h : zH} {b k l9 : Nat} {g : zGd} {c : zCh} (hg : zGx h b (gwC g (rotL ((gC g).set k (wL c l9)) k (wL c l9)))) (hz : zSz h b (hsz ((gC g).eraseIdx k ++ [wL c l9]))) (hl : (gC g).length ≤ 12) (hc : (gC g)[k]? = some c) : zGa (sI h 202 b (nI (gM g + 1))) b (opMv g k c l9) := by
  have hk := (List.getElem?_eq_some_iff.mp hc).1
  have e : rotL ((gC g).set k (wL c l9)) k (wL c l9) = (gC g).eraseIdx k ++ [wL c l9] := by unfold rotL; rw [erase_set]
  have e2 := rotL_len (cs := gC g) (c := wL c l9) hk
  unfold rotL at e2
  rw [e] at hg
  exact zGa_of (zGx_202 hg (by show ((gC g).eraseIdx k ++ [wL c l9]).length ≤ 12; omega)) hz
theorem mv3 {h : zH} {b k l9 : Nat} {g : zGd} {c : zCh} (hg : zGx h b g) (hz : zSz h b (hsz ((gC g).eraseIdx k))) (hl : (gC g).length ≤ 12) (hc : (gC g)[k]? = some c) (hl9 : l9 < 6) : ∃ H3, H3 = saI (sI h 129 (cA h b k) (nI l9)) (b + 6 + 1) l9 (aI (sI h 129 (cA h b k) (nI l9)) (b + 6 + 1) l9 + nI 1) ∧ zGx H3 b (gwC g ((gC g).set k (wL c l9))) ∧ zSz H3 b (hsz ((gC g).eraseIdx k ++ [wL c l9])) ∧ zFr h H3 b := by
  obtain ⟨c1, c2, c3, c4, c5⟩ := hg.2.2.2.2.1.2.2.1 k c hc
  have hk := (List.getElem?_eq_some_iff.mp hc).1
  have cb := (hg.2.2.2.2.1.1 k (by omega)).2
  have x2 : zGx (sI h 129 (cA h b k) (nI l9)) b (gwC g ((gC g).set k (wL c l9))) := zGx_ch hg hl hc ⟨(hI_sI_f (by decide)).trans c1, hI_sI, (hI_sI_f (by decide)).trans c3, (hI_sI_f (by decide)).trans c4, (hI_sI_f (by decide)).trans c5⟩
  have z2 : zSz (sI h 129 (cA h b k) (nI l9)) b (hsz ((gC g).eraseIdx k)) := hz
  have f2 : zFr h (sI h 129 (cA h b k) (nI l9)) b := (zFr.refl h b).sI (by omega) (by omega)
  generalize sI h 129 (cA h b k) (nI l9) = h2 at *
  refine ⟨_, rfl, zGx_size x2, zSz_size (n := hsz ((gC g).eraseIdx k) l9 + 1) z2 ?_ ?_ (fun i hi => ?_), f2.saI (by omega) (by omega)⟩
  · show aI h2 (b + 7) l9 + nI 1 = _
    rw [z2 l9 hl9]; exact nI_1 _
  · rw [hsz_app, hsz_one, if_pos (show chL (wL c l9) = l9 from rfl)]
  · rw [hsz_app, hsz_one, if_neg (fun z => hi (show i = l9 from z.symm))]; rfl
set_option maxHeartbeats 4000000 in
set_option maxRecDepth 100000 in
theorem s_scrap {l : Launch} {E : zG} (hzs : zS E) (hst : l.stackTraces = false) (h : zH) (b : Nat) (g : zGd) (x : Int32) (k : Nat) (c : zCh) (hix : ixF x (gC g) 0 = some k) (hc : (gC g)[k]? = some c) (hg : zGa h b g) (hw : gW g) : zMet l E yX3_scrap cX3_scrap 4 (some .int) ({ frames := 1, cells := 0, slots := 0, locals := 23 } : Room) 0 0 [.ref b, .int x] h (fun r h' => r = some (.int (nI (chR c))) ∧ zGa h' b (opSc g k) ∧ zFr h h' b) (fun _ _ => False) := by
  refine zM_start hzs hst (by decide) (Nat.le_of_ble_eq_true rfl) (fun X C G F I => ?_)
  show zV X 0 0 _ 0 [(0, _), (1, _)] []
  refine zV.aload_n C dX3_scrap_0 rfl rfl ?_
  have hkl := (List.getElem?_eq_some_iff.mp hc).1
  have hl := gW_len hw
  have h12 : k < 12 := by omega
  obtain ⟨c1, c2, c3, c4, c5⟩ := zGa_c hg hc
  obtain ⟨u1, u2, u3, u4⟩ := gW_cb hw hc
  have ck := zGa_k hg h12
  refine zV.iload_n C dX3_scrap_1 rfl ?_
  refine zV.callV (n := 1) C G dX3_scrap_2 (s_indexOf hzs hst h b g x hg hw) rfl ⟨cd_X3_indexOf, lk_X3_129, im_X3_indexOf, se_X3_X3_indexOf, in_X3⟩ ⟨⟨by decide, by decide⟩, by decide⟩ rfl rfl rfl (hg.1.1) ⟨rfl, by decide⟩ (zafe (congrArg (fun o => Value.int (oI o)) hix) ?_) (zno)
  show zV X 0 0 h 5 _ (.int (nI k) :: _)
  refine zV.istore_n (lo' := [(0, _), (1, _), (2, _)]) C dX3_scrap_5 (by decide) rfl rfl rfl ?_
  refine zV.iload_n C dX3_scrap_6 rfl ?_
  refine zV.ic (v := (-1)) C dX3_scrap_7 (by decide) ?_
  refine zV.icmp_ne (tgt := 13) C dX3_scrap_8 (by decide) (fun q8 => ?_) (fun q8 => ?_)
  · refine zV.aload_n C dX3_scrap_13 rfl rfl ?_
    refine zV.gR 195 (k := 3) C dX3_scrap_14 zcl_X3 (by decide) rfl lk_X3_30 (hg.1.1) rfl (hg.1.2.2.2.2.1) ?_
    refine zV.iload_n C dX3_scrap_17 rfl ?_
    refine zV.aaldC (j := k) C dX3_scrap_18 (hg.1.2.2.2.2.2.2.2.2.1.1) (rfl) (Nat.lt_of_lt_of_eq h12 (hg.1.2.2.2.2.2.2.2.2.1.2).symm) (by omega) (zGa_a hg h12) ?_
    refine zV.astore_n (lo' := [(0, _), (1, _), (2, _), (3, _)]) C dX3_scrap_19 rfl (by decide) rfl rfl rfl ?_
    refine zV.aload_n C dX3_scrap_20 rfl rfl ?_
    refine zV.gR 194 (k := 2) C dX3_scrap_21 zcl_X3 (by decide) rfl lk_X3_25 (hg.1.1) rfl (hg.1.2.2.2.1) ?_
    refine zV.aload_n C dX3_scrap_24 rfl rfl ?_
    refine zV.gNIv 129 (k := 1) C dX3_scrap_25 zcl_X0 (by decide) rfl lk_X3_113 ck rfl (c2) ?_
    refine zV.ic (v := (-1)) C dX3_scrap_28 (by decide) ?_
    refine zV.callV (n := 2) C G dX3_scrap_29 (s_LawnRow_grow hzs hst h (b + 6) (chL c) (-1) u2 hg.1.2.2.2.2.2.2.2.1) rfl ⟨cd_X7_grow, lk_X3_126, im_X7_grow, se_X7_X7_grow, in_X7⟩ ⟨⟨by decide, by decide⟩, by decide⟩ rfl rfl rfl (hg.1.2.2.2.2.2.2.2.1.1) ⟨rfl, by decide⟩ (zafv ?_) (zno)
    obtain ⟨H1, e1, x1, z1, f1, i1, -⟩ := dec1 hg hl hc u2
    rw [← e1]
    clear e1
    clear hg
    have hg := x1
    rw [← f1.2.1] at ck
    rw [← i1] at c3
    refine zV.aload_n C dX3_scrap_32 rfl rfl ?_
    refine zV.iload_n C dX3_scrap_33 rfl ?_
    refine zV.callV (n := 1) C G dX3_scrap_34 (s_shiftToEnd hzs hst H1 b k g c hg hl hc) rfl ⟨cd_X3_shiftToEnd, lk_X3_132, im_X3_shiftToEnd, se_X3_X3_shiftToEnd, in_X3⟩ ⟨⟨by decide, by decide⟩, by decide⟩ rfl rfl rfl (hg.1.1) ⟨rfl, by decide⟩ (zafv ?_) (zno)
    obtain ⟨H2, e2, x2, z2, f2, i2⟩ := shf1 hg z1 hl hc
    rw [← e2]
    clear e2
    clear hg
    have hg := x2
    rw [← f2.2.1] at ck
    rw [← i2] at c3
    have hn2 : hI H2 196 b = nI (gC g).length := hg.2.2.2.2.2.1.trans (congrArg nI (rotL_len hkl))
    refine zV.aload_n C dX3_scrap_37 rfl rfl ?_
    refine zV.dup C dX3_scrap_38 rfl ?_
    refine zV.gIv 196 (k := 4) C dX3_scrap_39 zcl_X3 (by decide) rfl lk_X3_50 (hg.1.1) rfl (hn2) ?_
    refine zV.ic (v := nI 1) C dX3_scrap_42 (by decide) ?_
    refine zV.isub C dX3_scrap_43 ?_
    rw [show nI (gC g).length - nI 1 = nI ((gC g).length - 1) from pk_sub (by omega)]
    refine zV.pI 196 (k := 4) C dX3_scrap_44 zcl_X3 (by decide) rfl lk_X3_50 rfl (hg.1.1) rfl ⟨rfl, rfl⟩ ?_
    refine zV.aload_n C dX3_scrap_47 rfl rfl ?_
    refine zV.dup C dX3_scrap_48 rfl ?_
    refine zV.gIv 201 (k := 9) C dX3_scrap_49 zcl_X3 (by decide) rfl lk_X3_65 (kI hg.1.1) rfl ((hI_sI_f (by decide)).trans hg.2.2.2.2.2.2.2.2.2.2.1) ?_
    refine zV.ic (v := nI 1) C dX3_scrap_52 (by decide) ?_
    refine zV.iadd C dX3_scrap_53 ?_
    rw [show nI (gU (gwC g (rotL (gC g) k c))) + nI 1 = nI (gU g + 1) from nI_1 _]
    refine zV.pI 201 (k := 9) C dX3_scrap_54 zcl_X3 (by decide) rfl lk_X3_65 rfl (kI hg.1.1) rfl ⟨rfl, rfl⟩ ?_
    refine zV.aload_n C dX3_scrap_57 rfl rfl ?_
    refine zV.gNIv 130 (k := 2) C dX3_scrap_58 zcl_X0 (by decide) rfl lk_X3_116 (kI (kI ck)) rfl (((hI_sI_f (by decide)).trans ((hI_sI_f (by decide)).trans c3))) ?_
    refine zV.iret C F dX3_scrap_61 rfl ?_
    exact ⟨rfl, sc9 hg z2 hl hc, ((f1.trans f2).sI (by omega) (by omega)).sI (by omega) (by omega)⟩
  · exact absurd q8 (nI_m1 (by omega))
set_option maxHeartbeats 4000000 in
set_option maxRecDepth 100000 in
theorem s_moveAt {l : Launch} {E : zG} (hzs : zS E) (hst : l.stackTraces = false) (h : zH) (b : Nat) (g : zGd) (k l9 : Nat) (c : zCh) (hc : (gC g)[k]? = some c) (hl9 : l9 < 6) (hg : zGa h b g) (hw : gW g) : zMet l E yX3_moveAt cX3_moveAt 4 none ({ frames := 1, cells := 0, slots := 0, locals := 23 } : Room) 0 0 [.ref b, .int (nI k), .int (nI l9)] h (fun r h' => r = none ∧ zGa h' b (opMv g k c l9) ∧ zFr h h' b) (fun _ _ => False) := by
  refine zM_start hzs hst (by decide) (Nat.le_of_ble_eq_true rfl) (fun X C G F I => ?_)
  show zV X 0 0 _ 0 [(0, _), (1, _), (2, _)] []
  have hkl := (List.getElem?_eq_some_iff.mp hc).1
  have hl := gW_len hw
  have h12 : k < 12 := by omega
  obtain ⟨c1, c2, c3, c4, c5⟩ := zGa_c hg hc
  obtain ⟨u1, u2, u3, u4⟩ := gW_cb hw hc
  have ck := zGa_k hg h12
  refine zV.iload_n C dX3_moveAt_0 rfl ?_
  refine zV.if_lt (tgt := 12) C dX3_moveAt_1 (by decide) (fun q1 => ?_) (fun q1 => ?_)
  · exact absurd q1 (nI_pos (by omega))
  · refine zV.iload_n C dX3_moveAt_4 rfl ?_
    refine zV.aload_n C dX3_moveAt_5 rfl rfl ?_
    refine zV.gIv 196 (k := 4) C dX3_moveAt_6 zcl_X3 (by decide) rfl lk_X3_50 (hg.1.1) rfl ((zGa_len hg)) ?_
    refine zV.icmp_lt (tgt := 13) C dX3_moveAt_9 (by decide) (fun q9 => ?_) (fun q9 => ?_)
    · refine zV.aload_n C dX3_moveAt_13 rfl rfl ?_
      refine zV.gR 195 (k := 3) C dX3_moveAt_14 zcl_X3 (by decide) rfl lk_X3_30 (hg.1.1) rfl (hg.1.2.2.2.2.1) ?_
      refine zV.iload_n C dX3_moveAt_17 rfl ?_
      refine zV.aaldC (j := k) C dX3_moveAt_18 (hg.1.2.2.2.2.2.2.2.2.1.1) (rfl) (Nat.lt_of_lt_of_eq h12 (hg.1.2.2.2.2.2.2.2.2.1.2).symm) (by omega) (zGa_a hg h12) ?_
      refine zV.astore_n (lo' := [(0, _), (1, _), (2, _), (3, _)]) C dX3_moveAt_19 rfl (by decide) rfl rfl rfl ?_
      refine zV.aload_n C dX3_moveAt_20 rfl rfl ?_
      refine zV.gR 194 (k := 2) C dX3_moveAt_21 zcl_X3 (by decide) rfl lk_X3_25 (hg.1.1) rfl (hg.1.2.2.2.1) ?_
      refine zV.aload_n C dX3_moveAt_24 rfl rfl ?_
      refine zV.gNIv 129 (k := 1) C dX3_moveAt_25 zcl_X0 (by decide) rfl lk_X3_113 ck rfl (c2) ?_
      refine zV.ic (v := (-1)) C dX3_moveAt_28 (by decide) ?_
      refine zV.callV (n := 2) C G dX3_moveAt_29 (s_LawnRow_grow hzs hst h (b + 6) (chL c) (-1) u2 hg.1.2.2.2.2.2.2.2.1) rfl ⟨cd_X7_grow, lk_X3_126, im_X7_grow, se_X7_X7_grow, in_X7⟩ ⟨⟨by decide, by decide⟩, by decide⟩ rfl rfl rfl (hg.1.2.2.2.2.2.2.2.1.1) ⟨rfl, by decide⟩ (zafv ?_) (zno)
      obtain ⟨H1, e1, x1, z1, f1, i1, a1⟩ := dec1 hg hl hc u2
      rw [← e1, ← a1 k]
      clear e1
      clear hg
      have hg := x1
      rw [← f1.2.1, ← a1 k] at ck
      refine zV.aload_n C dX3_moveAt_32 rfl rfl ?_
      refine zV.iload_n C dX3_moveAt_33 rfl ?_
      refine zV.pNI 129 (k := 1) C dX3_moveAt_34 zcl_X0 (by decide) rfl lk_X3_113 rfl ck rfl ⟨rfl, rfl⟩ ?_
      refine zV.aload_n C dX3_moveAt_37 rfl rfl ?_
      refine zV.gR 194 (k := 2) C dX3_moveAt_38 zcl_X3 (by decide) rfl lk_X3_25 (kI hg.1.1) rfl (rI hg.1.2.2.2.1) ?_
      refine zV.iload_n C dX3_moveAt_41 rfl ?_
      refine zV.ic (v := nI 1) C dX3_moveAt_42 (by decide) ?_
      refine zV.callV (n := 2) C G dX3_moveAt_43 (s_LawnRow_grow hzs hst (sI H1 129 (cA H1 b k) (nI l9)) (b + 6) l9 (nI 1) hl9 (lI hg.1.2.2.2.2.2.2.2.1)) rfl ⟨cd_X7_grow, lk_X3_126, im_X7_grow, se_X7_X7_grow, in_X7⟩ ⟨⟨by decide, by decide⟩, by decide⟩ rfl rfl rfl ((lI hg.1.2.2.2.2.2.2.2.1).1) ⟨rfl, by decide⟩ (zafv ?_) (zno)
      obtain ⟨H3, e3, x3, z3, f3⟩ := mv3 hg z1 hl hc hl9
      rw [← e3]
      clear e3
      clear hg
      have hg := x3
      have hl3 : (gC (gwC g ((gC g).set k (wL c l9)))).length ≤ 12 := by show ((gC g).set k (wL c l9)).length ≤ 12; rw [List.length_set]; exact hl
      have hc3 : (gC (gwC g ((gC g).set k (wL c l9))))[k]? = some (wL c l9) := List.getElem?_set_self hkl
      refine zV.aload_n C dX3_moveAt_46 rfl rfl ?_
      refine zV.iload_n C dX3_moveAt_47 rfl ?_
      refine zV.callV (n := 1) C G dX3_moveAt_48 (s_shiftToEnd hzs hst H3 b k _ (wL c l9) hg hl3 hc3) rfl ⟨cd_X3_shiftToEnd, lk_X3_132, im_X3_shiftToEnd, se_X3_X3_shiftToEnd, in_X3⟩ ⟨⟨by decide, by decide⟩, by decide⟩ rfl rfl rfl (hg.1.1) ⟨rfl, by decide⟩ (zafv ?_) (zno)
      obtain ⟨H4, e4, x4, z4, f4, -⟩ := shf1 hg z3 hl3 hc3
      rw [← e4]
      clear e4
      clear hg
      have hg : zGx H4 b (gwC g (rotL ((gC g).set k (wL c l9)) k (wL c l9))) := x4
      refine zV.aload_n C dX3_moveAt_51 rfl rfl ?_
      refine zV.dup C dX3_moveAt_52 rfl ?_
      refine zV.gIv 202 (k := 10) C dX3_moveAt_53 zcl_X3 (by decide) rfl lk_X3_68 (hg.1.1) rfl (hg.2.2.2.2.2.2.2.2.2.2.2.1) ?_
      refine zV.ic (v := nI 1) C dX3_moveAt_56 (by decide) ?_
      refine zV.iadd C dX3_moveAt_57 ?_
      rw [show nI (gM (gwC g (rotL ((gC g).set k (wL c l9)) k (wL c l9)))) + nI 1 = nI (gM g + 1) from nI_1 _]
      refine zV.pI 202 (k := 10) C dX3_moveAt_58 zcl_X3 (by decide) rfl lk_X3_68 rfl (hg.1.1) rfl ⟨rfl, rfl⟩ ?_
      refine zV.vret C F dX3_moveAt_61 rfl ?_
      exact ⟨rfl, mv9 hg z4 hl hc, ((f1.trans f3).trans f4).sI (by omega) (by omega)⟩
    · exact absurd (nI_lt hkl (by omega)) q9
