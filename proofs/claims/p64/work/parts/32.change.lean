/-! Garden: changes -/
theorem kI {h : zH} {f a x n : Nat} {v : Int32} (q : hK h x = n) : hK (sI h f a v) x = n := q
theorem kA {h : zH} {a i x n : Nat} {v : Int32} (q : hK h x = n) : hK (saI h a i v) x = n := q
theorem kR {h : zH} {a i x n : Nat} {v : Option Nat} (q : hK h x = n) : hK (saR h a i v) x = n := q
theorem rI {h : zH} {f a g x : Nat} {v : Int32} {n : Option Nat} (q : hR h g x = n) : hR (sI h f a v) g x = n := q
theorem rA {h : zH} {a i g x : Nat} {v : Int32} {n : Option Nat} (q : hR h g x = n) : hR (saI h a i v) g x = n := q
theorem iA {h : zH} {a i f x : Nat} {v n : Int32} (q : hI h f x = n) : hI (saI h a i v) f x = n := q
theorem lI {h : zH} {f a x : Nat} {v : Int32} (q : zLs h x) : zLs (sI h f a v) x := q
theorem lA {h : zH} {a i x : Nat} {v : Int32} (q : zLs h x) : zLs (saI h a i v) x := q
set_option maxHeartbeats 4000000 in
set_option maxRecDepth 100000 in
theorem s_changeShade {l : Launch} {E : zG} (hzs : zS E) (hst : l.stackTraces = false) (h : zH) (b : Nat) (g : zGd) (l9 s9 : Nat) (hl9 : l9 < 6) (hg : zGa h b g) (hw : gW g) : zMet l E yX3_changeShade cX3_changeShade 4 (some .int) ({ frames := 1, cells := 0, slots := 0, locals := 22 } : Room) 0 0 [.ref b, .int (nI l9), .int (nI s9)] h (fun r h' => r = some (.int (nI (gS g l9))) ∧ zGa h' b (opSh g l9 s9) ∧ zFr h h' b) (fun _ _ => False) := by
  refine zM_start hzs hst (by decide) (Nat.le_of_ble_eq_true rfl) (fun X C G F I => ?_)
  show zV X 0 0 _ 0 [(0, _), (1, _), (2, _)] []
  refine zV.aload_n C dX3_changeShade_0 rfl rfl ?_
  refine zV.gR 193 (k := 1) C dX3_changeShade_1 zcl_X3 (by decide) rfl lk_X3_21 (hg.1.1) rfl (hg.1.2.2.1) ?_
  refine zV.iload_n C dX3_changeShade_4 rfl ?_
  refine zV.callV (n := 1) C G dX3_changeShade_5 (s_LawnRow_at hzs hst h (b + 4) l9 hl9 hg.1.2.2.2.2.2.2.1) rfl ⟨cd_X7_at, lk_X3_107, im_X7_at, se_X7_X7_at, in_X7⟩ ⟨⟨by decide, by decide⟩, by decide⟩ rfl rfl rfl (hg.1.2.2.2.2.2.2.1.1) ⟨rfl, by decide⟩ (zaf ?_) (zno)
  rw [zGa_s hg l9 hl9]
  refine zV.istore_n (lo' := [(0, _), (1, _), (2, _), (3, _)]) C dX3_changeShade_8 (by decide) rfl rfl rfl ?_
  refine zV.aload_n C dX3_changeShade_9 rfl rfl ?_
  refine zV.gR 193 (k := 1) C dX3_changeShade_10 zcl_X3 (by decide) rfl lk_X3_21 (hg.1.1) rfl (hg.1.2.2.1) ?_
  refine zV.iload_n C dX3_changeShade_13 rfl ?_
  refine zV.iload_n C dX3_changeShade_14 rfl ?_
  refine zV.callV (n := 2) C G dX3_changeShade_15 (s_LawnRow_set hzs hst h (b + 4) l9 (nI s9) hl9 hg.1.2.2.2.2.2.2.1) rfl ⟨cd_X7_set, lk_X3_38, im_X7_set, se_X7_X7_set, in_X7⟩ ⟨⟨by decide, by decide⟩, by decide⟩ rfl rfl rfl (hg.1.2.2.2.2.2.2.1.1) ⟨rfl, by decide⟩ (zafv ?_) (zno)
  refine zV.iload_n C dX3_changeShade_18 rfl ?_
  refine zV.iret C F dX3_changeShade_19 rfl ?_
  exact ⟨rfl, zGa_of (zGx_shade (zGa_x hg)) (zSz_shade (zGa_z (g := g) hg)), (zFr.refl h b).saI (by omega) (by omega)⟩
theorem max3 : ∀ r, r < 12 → (if nI 0 < nI r - nI 3 then nI r - nI 3 else nI 0) = nI (r - 3) := by decide
theorem cA_lt {h : zH} {b : Nat} {g : zGd} (q : zGa h b g) {k : Nat} (hk : k < 12) : b ≤ cA h b k ∧ cA h b k < b + 21 := by
  have := (zGa_cs q).1 k hk
  omega
theorem cA_ne {h : zH} {b : Nat} {g : zGd} (q : zGa h b g) {k : Nat} (hk : k < 12) : b ≠ cA h b k := by
  have := (zGa_cs q).1 k hk
  omega
set_option maxHeartbeats 4000000 in
set_option maxRecDepth 100000 in
theorem s_useOil {l : Launch} {E : zG} (hzs : zS E) (hst : l.stackTraces = false) (h : zH) (b : Nat) (g : zGd) (x : Int32) (k : Nat) (c : zCh) (hix : ixF x (gC g) 0 = some k) (hc : (gC g)[k]? = some c) (hO : 0 < gO g) (hg : zGa h b g) (hw : gW g) : zMet l E yX3_useOil cX3_useOil 3 (some .int) ({ frames := 2, cells := 0, slots := 0, locals := 44 } : Room) 0 0 [.ref b, .int x] h (fun r h' => r = some (.int (nI (chR c - 3))) ∧ zGa h' b (opOi g k c) ∧ zFr h h' b) (fun _ _ => False) := by
  refine zM_start hzs hst (by decide) (Nat.le_of_ble_eq_true rfl) (fun X C G F I => ?_)
  show zV X 0 0 _ 0 [(0, _), (1, _)] []
  refine zV.aload_n C dX3_useOil_0 rfl rfl ?_
  have hkl := (List.getElem?_eq_some_iff.mp hc).1
  have hl := gW_len hw
  have h12 : k < 12 := by omega
  obtain ⟨c1, c2, c3, c4, c5⟩ := zGa_c hg hc
  obtain ⟨u1, u2, u3, u4⟩ := gW_cb hw hc
  have cb := cA_lt hg h12
  refine zV.iload_n C dX3_useOil_1 rfl ?_
  refine zV.callV (n := 1) C G dX3_useOil_2 (s_find hzs hst h b g x hg hw) rfl ⟨cd_X3_find, lk_X3_136, im_X3_find, se_X3_X3_find, in_X3⟩ ⟨⟨by decide, by decide⟩, by decide⟩ rfl rfl rfl (hg.1.1) ⟨rfl, by decide⟩ (zafe (congrArg (zfo h b) hix) ?_) (zno)
  show zV X 0 0 h 5 _ (.ref (cA h b k) :: _)
  refine zV.astore_n (lo' := [(0, _), (1, _), (2, _)]) C dX3_useOil_5 rfl (by decide) rfl rfl rfl ?_
  refine zV.aload_n C dX3_useOil_6 rfl rfl ?_
  refine zV.ifnonnull (tgt := 12) C dX3_useOil_7 (by decide) rfl (fun q7 => ?_) (fun q7 => ?_)
  · refine zV.aload_n C dX3_useOil_12 rfl rfl ?_
    refine zV.ic (v := nI 0) C dX3_useOil_13 (by decide) ?_
    refine zV.aload_n C dX3_useOil_14 rfl rfl ?_
    refine zV.gNIv 130 (k := 2) C dX3_useOil_15 zcl_X0 (by decide) rfl lk_X3_116 (zGa_k hg h12) rfl (c3) ?_
    refine zV.ic (v := nI 3) C dX3_useOil_18 (by decide) ?_
    refine zV.isub C dX3_useOil_19 ?_
    refine zV.mmax C G dX3_useOil_20 ⟨lk_X3_144, st_J9_max_7cf53, in_J9, cd_J9_max_7cf53⟩ rfl ?_
    rw [max3 (chR c) (by omega)]
    refine zV.pNI 130 (k := 2) C dX3_useOil_23 zcl_X0 (by decide) rfl lk_X3_116 rfl (zGa_k hg h12) rfl ⟨rfl, rfl⟩ ?_
    refine zV.aload_n C dX3_useOil_26 rfl rfl ?_
    refine zV.dup C dX3_useOil_27 rfl ?_
    refine zV.gIv 199 (k := 7) C dX3_useOil_28 zcl_X3 (by decide) rfl lk_X3_34 (hg.1.1) rfl ((hI_sI_f (by decide)).trans (zGa_n hg).2.2.2.1) ?_
    refine zV.ic (v := nI 1) C dX3_useOil_31 (by decide) ?_
    refine zV.isub C dX3_useOil_32 ?_
    rw [show nI (gO g) - nI 1 = nI (gO g - 1) from pk_sub hO]
    refine zV.pI 199 (k := 7) C dX3_useOil_33 zcl_X3 (by decide) rfl lk_X3_34 rfl (hg.1.1) rfl ⟨rfl, rfl⟩ ?_
    refine zV.aload_n C dX3_useOil_36 rfl rfl ?_
    refine zV.gNIv 130 (k := 2) C dX3_useOil_37 zcl_X0 (by decide) rfl lk_X3_116 (zGa_k hg h12) rfl ((hI_sI_f (by decide)).trans hI_sI) ?_
    refine zV.iret C F dX3_useOil_40 rfl ?_
    refine ⟨rfl, zGa_of (zGx_199 (zGx_ch (zGa_x hg) hl hc ?_) (by show ((gC g).set k _).length ≤ 12; rw [List.length_set]; exact hl)) (fun i hi => ?_), ((zFr.refl h b).sI cb.1 cb.2).sI (by omega) (by omega)⟩
    · exact ⟨(hI_sI_f (by decide)).trans c1, (hI_sI_f (by decide)).trans c2, hI_sI, (hI_sI_f (by decide)).trans c4, (hI_sI_f (by decide)).trans c5⟩
    · show aI h (b + 7) i = nI (hsz ((gC g).set k _) i)
      rw [hsz_set hc (show chL (wR c (chR c - 3)) = chL c from rfl)]
      exact zGa_h hg i hi
  · exact absurd q7 (by intro z; cases z)
theorem b01b {v : Bool} : narrow .boolean (.int (nI (b2 v))) = .int (nI (b2 v)) ∧ fits .boolean (.int (nI (b2 v))) = true := by cases v <;> exact ⟨rfl, rfl⟩
theorem zGa_fo {h : zH} {b : Nat} {g : zGd} {k : Nat} {c : zCh} {v : Bool} (hg : zGa h b g) (hl : (gC g).length ≤ 12) (hc : (gC g)[k]? = some c) : zGa (sI h 132 (cA h b k) (nI (b2 v))) b (opFo g k c v) := by
  obtain ⟨c1, c2, c3, c4, c5⟩ := zGa_c hg hc
  refine zGa_of (zGx_ch (zGa_x hg) hl hc ?_) (fun i hi => ?_)
  · exact ⟨(hI_sI_f (by decide)).trans c1, (hI_sI_f (by decide)).trans c2, (hI_sI_f (by decide)).trans c3, (hI_sI_f (by decide)).trans c4, hI_sI⟩
  · show aI h (b + 7) i = nI (hsz ((gC g).set k _) i)
    rw [hsz_set hc (show chL (wF c v) = chL c from rfl)]
    exact zGa_h hg i hi
theorem gW_fo {g : zGd} {k : Nat} {c : zCh} {v : Bool} (hw : gW g) (hc : (gC g)[k]? = some c) : gW (opFo g k c v) := gW_of (gW0_set (gW_0 hw) hc rfl (gW_c hw hc).2.1 (gW_c hw hc).2.2.1 rfl) (gV_big (g := g) hw) (Nat.le_refl _)
set_option maxHeartbeats 4000000 in
set_option maxRecDepth 100000 in
theorem s_setFolded {l : Launch} {E : zG} (hzs : zS E) (hst : l.stackTraces = false) (h : zH) (b : Nat) (g : zGd) (x : Int32) (v : Bool) (k : Nat) (c : zCh) (hix : ixF x (gC g) 0 = some k) (hc : (gC g)[k]? = some c) (hg : zGa h b g) (hw : gW g) : zMet l E yX3_setFolded cX3_setFolded 4 (some .int) ({ frames := 2, cells := 0, slots := 0, locals := 44 } : Room) 0 0 [.ref b, .int x, .int (nI (b2 v))] h (fun r h' => r = some (.int (nI ((gC (opFo g k c v)).countP chF))) ∧ zGa h' b (opFo g k c v) ∧ zFr h h' b) (fun _ _ => False) := by
  refine zM_start hzs hst (by decide) (Nat.le_of_ble_eq_true rfl) (fun X C G F I => ?_)
  show zV X 0 0 _ 0 [(0, _), (1, _), (2, _)] []
  refine zV.aload_n C dX3_setFolded_0 rfl rfl ?_
  have hkl := (List.getElem?_eq_some_iff.mp hc).1
  have hl := gW_len hw
  have h12 : k < 12 := by omega
  obtain ⟨c1, c2, c3, c4, c5⟩ := zGa_c hg hc
  obtain ⟨u1, u2, u3, u4⟩ := gW_cb hw hc
  have cb := cA_lt hg h12
  refine zV.iload_n C dX3_setFolded_1 rfl ?_
  refine zV.callV (n := 1) C G dX3_setFolded_2 (s_find hzs hst h b g x hg hw) rfl ⟨cd_X3_find, lk_X3_136, im_X3_find, se_X3_X3_find, in_X3⟩ ⟨⟨by decide, by decide⟩, by decide⟩ rfl rfl rfl (hg.1.1) ⟨rfl, by decide⟩ (zafe (congrArg (zfo h b) hix) ?_) (zno)
  show zV X 0 0 h 5 _ (.ref (cA h b k) :: _)
  refine zV.astore_n (lo' := [(0, _), (1, _), (2, _), (3, _)]) C dX3_setFolded_5 rfl (by decide) rfl rfl rfl ?_
  refine zV.aload_n C dX3_setFolded_6 rfl rfl ?_
  refine zV.ifnull (tgt := 15) C dX3_setFolded_7 (by decide) rfl (fun q7 => ?_) (fun q7 => ?_)
  · exact absurd q7 (by intro z; cases z)
  · refine zV.aload_n C dX3_setFolded_10 rfl rfl ?_
    refine zV.iload_n C dX3_setFolded_11 rfl ?_
    refine zV.pNI 132 (k := 4) C dX3_setFolded_12 zcl_X0 (by decide) rfl lk_X3_122 rfl (zGa_k hg h12) rfl b01b ?_
    refine zV.aload_n C dX3_setFolded_15 rfl rfl ?_
    refine zV.callV (n := 0) C G dX3_setFolded_16 (s_countFolded hzs hst (sI h 132 (cA h b k) (nI (b2 v))) b _ (zGa_fo hg hl hc) (gW_fo hw hc)) rfl ⟨cd_X3_countFolded, lk_X3_140, im_X3_countFolded, se_X3_X3_countFolded, in_X3⟩ ⟨⟨by decide, by decide⟩, by decide⟩ rfl rfl rfl (hg.1.1) ⟨rfl, by decide⟩ (zaf ?_) (zno)
    refine zV.iret C F dX3_setFolded_19 rfl ?_
    exact ⟨rfl, zGa_fo hg hl hc, (zFr.refl h b).sI cb.1 cb.2⟩
theorem st5 {h : zH} {b : Nat} {g : zGd} {l9 r9 : Nat} (hg : zGa h b g) (hl : (gC g).length ≤ 12) (hn : (gC g).length < 12) : zGx (sI (sI (sI (sI (sI h 128 (cA h b (gC g).length) (nI (gX g))) 129 (cA h b (gC g).length) (nI l9)) 130 (cA h b (gC g).length) (nI r9)) 131 (cA h b (gC g).length) (nI (gD g))) 132 (cA h b (gC g).length) (nI 0)) b g ∧ zCs (sI (sI (sI (sI (sI h 128 (cA h b (gC g).length) (nI (gX g))) 129 (cA h b (gC g).length) (nI l9)) 130 (cA h b (gC g).length) (nI r9)) 131 (cA h b (gC g).length) (nI (gD g))) 132 (cA h b (gC g).length) (nI 0)) b (gC g ++ [(gX g, l9, r9, gD g, false)]) ∧ zSz (sI (sI (sI (sI (sI h 128 (cA h b (gC g).length) (nI (gX g))) 129 (cA h b (gC g).length) (nI l9)) 130 (cA h b (gC g).length) (nI r9)) 131 (cA h b (gC g).length) (nI (gD g))) 132 (cA h b (gC g).length) (nI 0)) b (hsz (gC g)) ∧ zFr h (sI (sI (sI (sI (sI h 128 (cA h b (gC g).length) (nI (gX g))) 129 (cA h b (gC g).length) (nI l9)) 130 (cA h b (gC g).length) (nI r9)) 131 (cA h b (gC g).length) (nI (gD g))) 132 (cA h b (gC g).length) (nI 0)) b ∧ hI (sI (sI (sI (sI (sI h 128 (cA h b (gC g).length) (nI (gX g))) 129 (cA h b (gC g).length) (nI l9)) 130 (cA h b (gC g).length) (nI r9)) 131 (cA h b (gC g).length) (nI (gD g))) 132 (cA h b (gC g).length) (nI 0)) 128 (cA h b (gC g).length) = nI (gX g) := by
  have ne := cA_ne hg hn
  obtain ⟨q1, q2, q3, q4, q5, q6⟩ := zGa_x hg
  have cb := (q5.1 _ hn).2
  have at9 : chAt (sI (sI (sI (sI (sI h 128 (cA h b (gC g).length) (nI (gX g))) 129 (cA h b (gC g).length) (nI l9)) 130 (cA h b (gC g).length) (nI r9)) 131 (cA h b (gC g).length) (nI (gD g))) 132 (cA h b (gC g).length) (nI 0)) (cA h b (gC g).length) (gX g, l9, r9, gD g, false) := ⟨(hI_sI_f (by decide)).trans ((hI_sI_f (by decide)).trans ((hI_sI_f (by decide)).trans ((hI_sI_f (by decide)).trans hI_sI))), (hI_sI_f (by decide)).trans ((hI_sI_f (by decide)).trans ((hI_sI_f (by decide)).trans hI_sI)), (hI_sI_f (by decide)).trans ((hI_sI_f (by decide)).trans hI_sI), (hI_sI_f (by decide)).trans hI_sI, hI_sI⟩
  have hne : ∀ f a, a ≠ cA h b (gC g).length → hI (sI (sI (sI (sI (sI h 128 (cA h b (gC g).length) (nI (gX g))) 129 (cA h b (gC g).length) (nI l9)) 130 (cA h b (gC g).length) (nI r9)) 131 (cA h b (gC g).length) (nI (gD g))) 132 (cA h b (gC g).length) (nI 0)) f a = hI h f a := fun f a z => (hI_sI_a z).trans ((hI_sI_a z).trans ((hI_sI_a z).trans ((hI_sI_a z).trans (hI_sI_a z))))
  have fr : zFr h (sI (sI (sI (sI (sI h 128 (cA h b (gC g).length) (nI (gX g))) 129 (cA h b (gC g).length) (nI l9)) 130 (cA h b (gC g).length) (nI r9)) 131 (cA h b (gC g).length) (nI (gD g))) 132 (cA h b (gC g).length) (nI 0)) b := ((((((zFr.refl h b).sI (by omega) (by omega)).sI (by omega) (by omega)).sI (by omega) (by omega)).sI (by omega) (by omega)).sI (by omega) (by omega))
  have er : ∀ k, aR (sI (sI (sI (sI (sI h 128 (cA h b (gC g).length) (nI (gX g))) 129 (cA h b (gC g).length) (nI l9)) 130 (cA h b (gC g).length) (nI r9)) 131 (cA h b (gC g).length) (nI (gD g))) 132 (cA h b (gC g).length) (nI 0)) (b + 8) k = aR h (b + 8) k := fun _ => rfl
  have ei : ∀ a j, aI (sI (sI (sI (sI (sI h 128 (cA h b (gC g).length) (nI (gX g))) 129 (cA h b (gC g).length) (nI l9)) 130 (cA h b (gC g).length) (nI r9)) 131 (cA h b (gC g).length) (nI (gD g))) 132 (cA h b (gC g).length) (nI 0)) a j = aI h a j := fun _ _ => rfl
  generalize (sI (sI (sI (sI (sI h 128 (cA h b (gC g).length) (nI (gX g))) 129 (cA h b (gC g).length) (nI l9)) 130 (cA h b (gC g).length) (nI r9)) 131 (cA h b (gC g).length) (nI (gD g))) 132 (cA h b (gC g).length) (nI 0)) = h5 at *
  refine ⟨⟨zGs_same q1 fr.2.1 fr.2.2.1 fr.2.2.2.1, zPa_same q2 fr.2.1 fr.2.2.1 fr.2.2.2.1 (fun _ => ei _ _), (hne 353 (b + 1) (by omega)).trans q3, fun j hj => (ei _ _).trans (q4 j hj), zCs_put q5 (k := (gC g).length) hn hl er hne at9 (fun j d _ w => w) (fun d w => ?_), zNs_same q6 (fun f => hne f b ne)⟩, ?_, fun j hj => (ei _ _).trans (zGa_h hg j hj), fr, at9.1⟩
  · rw [List.getElem?_eq_none (Nat.le_refl _)] at w
    cases w
  · refine zCs_put q5 (k := (gC g).length) hn (by rw [List.length_append]; simp; omega) er hne at9 (fun j d z w => ?_) (fun d w => ?_)
    · rcases Nat.lt_or_ge j (gC g).length with e | e
      · rw [List.getElem?_append_left e] at w; exact w
      · rw [List.getElem?_eq_none (by rw [List.length_append]; simp; omega)] at w; cases w
    · rw [List.getElem?_concat_length] at w; exact (Option.some.inj w).symm
theorem st6 {h5 : zH} {b : Nat} {g : zGd} {l9 r9 : Nat} (x1 : zGx h5 b g) (x2 : zCs h5 b (gC g ++ [(gX g, l9, r9, gD g, false)])) (x3 : zSz h5 b (hsz (gC g))) (hl9 : l9 < 6) (hn : (gC g).length < 12) : zGa (saI (sI (sI h5 196 b (nI ((gC g).length + 1))) 197 b (nI (gX g + 1))) (b + 6 + 1) l9 (aI (sI (sI h5 196 b (nI ((gC g).length + 1))) 197 b (nI (gX g + 1))) (b + 6 + 1) l9 + nI 1)) b (opSt g l9 r9) := by
  have hl2 : (gC g ++ [(gX g, l9, r9, gD g, false)]).length ≤ 12 := by rw [List.length_append]; simp; omega
  have e9 : (gC g).length + 1 = (gC g ++ [(gX g, l9, r9, gD g, false)]).length := by rw [List.length_append]; rfl
  have y3 := zGx_196 x1 hl2 x2
  rw [← e9] at y3
  have y4 := zGx_197 (v := gX g + 1) y3 hl2
  have y5 : zSz (sI (sI h5 196 b (nI ((gC g).length + 1))) 197 b (nI (gX g + 1))) b (hsz (gC g)) := x3
  have ev : aI (sI (sI h5 196 b (nI ((gC g).length + 1))) 197 b (nI (gX g + 1))) (b + 6 + 1) l9 = nI (hsz (gC g) l9) := x3 l9 hl9
  rw [ev, show nI (hsz (gC g) l9) + nI 1 = nI (hsz (gC g) l9 + 1) from nI_1 _]
  generalize (sI (sI h5 196 b (nI ((gC g).length + 1))) 197 b (nI (gX g + 1))) = h6 at *
  refine zGa_of (zGx_size y4) (zSz_size (n := hsz (gC g) l9 + 1) y5 rfl ?_ ?_)
  · show hsz (gC g ++ [(gX g, l9, r9, gD g, false)]) l9 = _
    rw [hsz_app, hsz_one, if_pos (show chL (gX g, l9, r9, gD g, false) = l9 from rfl)]
  · intro i hi
    show hsz (gC g ++ [(gX g, l9, r9, gD g, false)]) i = _
    rw [hsz_app, hsz_one, if_neg (fun z => hi (show i = l9 from z.symm))]; rfl
set_option maxHeartbeats 4000000 in
set_option maxRecDepth 100000 in
theorem s_settle {l : Launch} {E : zG} (hzs : zS E) (hst : l.stackTraces = false) (h : zH) (b : Nat) (g : zGd) (l9 r9 : Nat) (hl9 : l9 < 6) (hr9 : r9 ≤ 9) (hn : (gC g).length < 12) (hg : zGa h b g) (hw : gW g) : zMet l E yX3_settle cX3_settle 4 (some .int) ({ frames := 1, cells := 0, slots := 0, locals := 22 } : Room) 0 0 [.ref b, .int (nI l9), .int (nI r9)] h (fun r h' => r = some (.int (nI (gX g))) ∧ zGa h' b (opSt g l9 r9) ∧ zFr h h' b) (fun _ _ => False) := by
  refine zM_start hzs hst (by decide) (Nat.le_of_ble_eq_true rfl) (fun X C G F I => ?_)
  show zV X 0 0 _ 0 [(0, _), (1, _), (2, _)] []
  refine zV.aload_n C dX3_settle_0 rfl rfl ?_
  have cb := cA_lt hg hn
  refine zV.gIv 196 (k := 4) C dX3_settle_1 zcl_X3 (by decide) rfl lk_X3_50 (hg.1.1) rfl ((zGa_len hg)) ?_
  refine zV.bi (v := nI 12) C dX3_settle_4 (by decide) ?_
  refine zV.icmp_lt (tgt := 11) C dX3_settle_6 (by decide) (fun q6 => ?_) (fun q6 => ?_)
  · refine zV.aload_n C dX3_settle_11 rfl rfl ?_
    refine zV.gR 195 (k := 3) C dX3_settle_12 zcl_X3 (by decide) rfl lk_X3_30 (hg.1.1) rfl (hg.1.2.2.2.2.1) ?_
    refine zV.aload_n C dX3_settle_15 rfl rfl ?_
    refine zV.gIv 196 (k := 4) C dX3_settle_16 zcl_X3 (by decide) rfl lk_X3_50 (hg.1.1) rfl ((zGa_len hg)) ?_
    refine zV.aaldC (j := (gC g).length) C dX3_settle_19 (hg.1.2.2.2.2.2.2.2.2.1.1) (rfl) (Nat.lt_of_lt_of_eq hn (hg.1.2.2.2.2.2.2.2.2.1.2).symm) (by omega) (zGa_a hg hn) ?_
    refine zV.astore_n (lo' := [(0, _), (1, _), (2, _), (3, _)]) C dX3_settle_20 rfl (by decide) rfl rfl rfl ?_
    refine zV.aload_n C dX3_settle_21 rfl rfl ?_
    refine zV.aload_n C dX3_settle_22 rfl rfl ?_
    refine zV.gIv 197 (k := 5) C dX3_settle_23 zcl_X3 (by decide) rfl lk_X3_56 (hg.1.1) rfl ((zGa_n hg).2.1) ?_
    refine zV.pNI 128 (k := 0) C dX3_settle_26 zcl_X0 (by decide) rfl lk_X3_110 rfl (zGa_k hg hn) rfl ⟨rfl, rfl⟩ ?_
    refine zV.aload_n C dX3_settle_29 rfl rfl ?_
    refine zV.iload_n C dX3_settle_30 rfl ?_
    refine zV.pNI 129 (k := 1) C dX3_settle_31 zcl_X0 (by decide) rfl lk_X3_113 rfl (zGa_k hg hn) rfl ⟨rfl, rfl⟩ ?_
    refine zV.aload_n C dX3_settle_34 rfl rfl ?_
    refine zV.iload_n C dX3_settle_35 rfl ?_
    refine zV.pNI 130 (k := 2) C dX3_settle_36 zcl_X0 (by decide) rfl lk_X3_116 rfl (zGa_k hg hn) rfl ⟨rfl, rfl⟩ ?_
    refine zV.aload_n C dX3_settle_39 rfl rfl ?_
    refine zV.aload_n C dX3_settle_40 rfl rfl ?_
    refine zV.gIv 198 (k := 6) C dX3_settle_41 zcl_X3 (by decide) rfl lk_X3_59 (hg.1.1) rfl ((((hI_sI_f (by decide)).trans ((hI_sI_f (by decide)).trans ((hI_sI_f (by decide)).trans (zGa_n hg).2.2.1))))) ?_
    refine zV.pNI 131 (k := 3) C dX3_settle_44 zcl_X0 (by decide) rfl lk_X3_119 rfl (zGa_k hg hn) rfl ⟨rfl, rfl⟩ ?_
    refine zV.aload_n C dX3_settle_47 rfl rfl ?_
    refine zV.ic (v := nI 0) C dX3_settle_48 (by decide) ?_
    refine zV.pNI 132 (k := 4) C dX3_settle_49 zcl_X0 (by decide) rfl lk_X3_122 rfl (zGa_k hg hn) rfl ⟨rfl, rfl⟩ ?_
    obtain ⟨y1, x1, x2, x3, x4⟩ := st5 (l9 := l9) (r9 := r9) hg (gW_len hw) hn
    have x5 : hK (sI (sI (sI (sI (sI h 128 (cA h b (gC g).length) (nI (gX g))) 129 (cA h b (gC g).length) (nI l9)) 130 (cA h b (gC g).length) (nI r9)) 131 (cA h b (gC g).length) (nI (gD g))) 132 (cA h b (gC g).length) (nI 0)) (cA h b (gC g).length) = 5 := zGa_k hg hn
    clear hg
    have hg := y1
    clear y1
    generalize (sI (sI (sI (sI (sI h 128 (cA h b (gC g).length) (nI (gX g))) 129 (cA h b (gC g).length) (nI l9)) 130 (cA h b (gC g).length) (nI r9)) 131 (cA h b (gC g).length) (nI (gD g))) 132 (cA h b (gC g).length) (nI 0)) = h5 at *
    refine zV.aload_n C dX3_settle_52 rfl rfl ?_
    refine zV.dup C dX3_settle_53 rfl ?_
    refine zV.gIv 196 (k := 4) C dX3_settle_54 zcl_X3 (by decide) rfl lk_X3_50 (hg.1.1) rfl (hg.2.2.2.2.2.1) ?_
    refine zV.ic (v := nI 1) C dX3_settle_57 (by decide) ?_
    refine zV.iadd C dX3_settle_58 ?_
    rw [show nI (gC g).length + nI 1 = nI ((gC g).length + 1) from nI_1 _]
    refine zV.pI 196 (k := 4) C dX3_settle_59 zcl_X3 (by decide) rfl lk_X3_50 rfl hg.1.1 rfl ⟨rfl, rfl⟩ ?_
    refine zV.aload_n C dX3_settle_62 rfl rfl ?_
    refine zV.dup C dX3_settle_63 rfl ?_
    refine zV.gIv 197 (k := 5) C dX3_settle_64 zcl_X3 (by decide) rfl lk_X3_56 (kI hg.1.1) rfl ((hI_sI_f (by decide)).trans hg.2.2.2.2.2.2.1) ?_
    refine zV.ic (v := nI 1) C dX3_settle_67 (by decide) ?_
    refine zV.iadd C dX3_settle_68 ?_
    rw [show nI (gX g) + nI 1 = nI (gX g + 1) from nI_1 _]
    refine zV.pI 197 (k := 5) C dX3_settle_69 zcl_X3 (by decide) rfl lk_X3_56 rfl (kI hg.1.1) rfl ⟨rfl, rfl⟩ ?_
    refine zV.aload_n C dX3_settle_72 rfl rfl ?_
    refine zV.gR 194 (k := 2) C dX3_settle_73 zcl_X3 (by decide) rfl lk_X3_25 (kI (kI hg.1.1)) rfl (rI (rI hg.1.2.2.2.1)) ?_
    refine zV.iload_n C dX3_settle_76 rfl ?_
    refine zV.ic (v := nI 1) C dX3_settle_77 (by decide) ?_
    refine zV.callV (n := 2) C G dX3_settle_78 (s_LawnRow_grow hzs hst (sI (sI h5 196 b (nI ((gC g).length + 1))) 197 b (nI (gX g + 1))) (b + 6) l9 (nI 1) hl9 (lI (lI hg.1.2.2.2.2.2.2.2.1))) rfl ⟨cd_X7_grow, lk_X3_126, im_X7_grow, se_X7_X7_grow, in_X7⟩ ⟨⟨by decide, by decide⟩, by decide⟩ rfl rfl rfl ((lI (lI hg.1.2.2.2.2.2.2.2.1)).1) ⟨rfl, by decide⟩ (zafv ?_) (zno)
    refine zV.aload_n C dX3_settle_81 rfl rfl ?_
    refine zV.gNIv 128 (k := 0) C dX3_settle_82 zcl_X0 (by decide) rfl lk_X3_110 (kA (kI (kI x5))) rfl ((iA ((hI_sI_f (by decide)).trans ((hI_sI_f (by decide)).trans x4)))) ?_
    refine zV.iret C F dX3_settle_85 rfl ?_
    exact ⟨rfl, st6 hg x1 x2 hl9 hn, ((x3.sI (by omega) (by omega)).sI (by omega) (by omega)).saI (by omega) (by omega)⟩
  · exact absurd (nI_lt hn (by decide)) q6
