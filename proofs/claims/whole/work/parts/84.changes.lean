/-! the reference: the twelve changes -/
/-- the code of a change's end -/
def cod (J : zJ) (a b c : Nat) : Nat := if J.1 = 0 then 0 else if J.1 = 1 then a else if J.1 = 2 then b else c
/-- the gardens that may come back keep the bounds -/
def rIv (m : Nat) (g : zGd) (us : List zGd) (sn : Option zGd) : Prop := gR m g ∧ (∀ u ∈ us, gR m u) ∧ ∀ s, sn = some s → gR m s
def mchP (h : zH) (r : Nat) (J : zJ) (g' : zGd) (c1 c2 c3 : Nat) (g : zGd) (us : List zGd) (sn : Option zGd) (off rs dt cs : Int32) (t o : List Nat) (h' : zH) : Prop := hI h' 435 r = nI (cod J c1 c2 c3) ∧ rE h h' r [420, 431, 432, 433, 434, 435] [1, 2, 4] ∧ (if J.1 = 0 then rSt h' r g' (kp us g) sn off rs dt cs t o else if J.1 = 3 then rSt h' r g us sn off (nI J.2.1) J.2.2 0 t o else rSt h' r g us sn off rs dt cs t o)
def mchQ (h : zH) (r : Nat) (J : zJ) (A : zGd × Int32) (c1 c2 c3 : Nat) (g : zGd) (us : List zGd) (sn : Option zGd) (off rs dt cs : Int32) (t o : List Nat) : Option Value → zH → Prop := fun v h' => v = some (.int (if J.1 = 0 then A.2 else nI 0)) ∧ mchP h r J A.1 c1 c2 c3 g us sn off rs dt cs t o h'
theorem tr_st {h : zH} {r m : Nat} {g : zGd} (hm : zMs h r) (hg : rG (aI h (r + 1)) g) (hR : gR m g) : ∃ H1, H1 = sRow (sI h 435 r (nI 0)) (r + 2) (cpF (aI h (r + 1)) (aI h (r + 2)) 116) ∧ rE h H1 r [435] [2] ∧ zMs H1 r ∧ rG (aI H1 (r + 1)) g ∧ rG (aI H1 (r + 2)) g ∧ hI H1 435 r = nI 0 := by
  have E1 : rE h (sRow (sI h 435 r (nI 0)) (r + 2) (cpF (aI h (r + 1)) (aI h (r + 2)) 116)) r [435] [2] := (rE.i.trans rE.a).mono (by simp) (by simp)
  refine ⟨_, rfl, E1, E1.m hm, by rw [E1.r (by decide)]; exact hg, ?_, hI_sI⟩
  rw [show aI (sRow (sI h 435 r (nI 0)) (r + 2) (cpF (aI h (r + 1)) (aI h (r + 2)) 116)) (r + 2) = cpF (aI h (r + 1)) (aI h (r + 2)) 116 from aI_sRow]
  exact rG_d hg hR (fun j hj => cpF_y hj)
/-- nothing but the places for trying is other -/
theorem rSt_x {h h' : zH} {r : Nat} {g : zGd} {us : List zGd} {sn : Option zGd} {off rs dt cs : Int32} {t o : List Nat} {F A : List Nat} (q : rSt h r g us sn off rs dt cs t o) (e : rE h h' r F A) (hF : 420 ∉ F ∧ 422 ∉ F ∧ 430 ∉ F ∧ 431 ∉ F ∧ 432 ∉ F ∧ 433 ∉ F ∧ 426 ∉ F ∧ 424 ∉ F) (hA : 1 ∉ A ∧ 4 ∉ A ∧ 5 ∉ A ∧ 6 ∉ A ∧ 7 ∉ A) : rSt h' r g us sn off rs dt cs t o := by
  obtain ⟨q1, q2, q3, q4, q5, q6, q7⟩ := q
  exact ⟨e.m q1, by rw [e.r hA.1]; exact q2, rKp_e q3 e hF.1 hA.2.1, rSv_e q4 e hF.2.1 hA.2.2.1, rNm_e q5 e ⟨hF.2.2.1, hF.2.2.2.1, hF.2.2.2.2.1, hF.2.2.2.2.2.1⟩, rTx_e q6 e hF.2.2.2.2.2.2.1 hA.2.2.2.2, rOt_e q7 e hF.2.2.2.2.2.2.2 hA.2.2.2.1⟩
theorem mch_0 {h H1 h' : zH} {r c1 c2 c3 : Nat} {g : zGd} {us : List zGd} {sn : Option zGd} {off rs dt cs : Int32} {t o : List Nat} {J : zJ} {A : zGd × Int32} {f1 : Nat → Int32} (q : rSt h r g us sn off rs dt cs t o) (E1 : rE h H1 r [435] [2]) (t1 : hI H1 435 r = nI 0) (e : J.1 = 0) (p : rG f1 A.1) (E2 : rE (sI (sRow H1 (r + 1) f1) 434 r A.2) h' r [420] [4]) (k : rKp h' r (kp us g)) : mchQ h r J A c1 c2 c3 g us sn off rs dt cs t o (some (.int A.2)) h' := by
  have E3 : rE h (sI (sRow H1 (r + 1) f1) 434 r A.2) r [435, 434] [2, 1] := ((E1.trans rE.a).trans rE.i).mono (by simp) (by simp)
  have E4 : rE h h' r [435, 434, 420] [2, 1, 4] := (E3.trans E2).mono (by simp) (by simp)
  obtain ⟨q1, q2, q3, q4, q5, q6, q7⟩ := q
  refine ⟨by rw [if_pos e], ?_, E4.mono (by simp) (by simp), ?_⟩
  · rw [show cod J c1 c2 c3 = 0 from if_pos e, E2.f (by decide)]
    exact (hI_sI_f (by decide)).trans t1
  · rw [if_pos e]
    refine ⟨E4.m q1, ?_, k, rSv_e q4 E4 (by decide) (by decide), rNm_e q5 E4 (by decide), rTx_e q6 E4 (by decide) (by decide), rOt_e q7 E4 (by decide) (by decide)⟩
    rw [E2.r (by decide), show aI (sI (sRow H1 (r + 1) f1) 434 r A.2) (r + 1) = f1 from aI_sRow]
    exact p
theorem mch_x {h H1 : zH} {r c1 c2 c3 : Nat} {g : zGd} {us : List zGd} {sn : Option zGd} {off rs dt cs : Int32} {t o : List Nat} {J : zJ} {A : zGd × Int32} {c : Int32} (q : rSt h r g us sn off rs dt cs t o) (E1 : rE h H1 r [435] [2]) (e0 : J.1 ≠ 0) (e3 : J.1 ≠ 3) (hc : c = nI (cod J c1 c2 c3)) : mchQ h r J A c1 c2 c3 g us sn off rs dt cs t o (some (.int (nI 0))) (sI H1 435 r c) := by
  have E2 : rE h (sI H1 435 r c) r [435] [2] := (E1.trans rE.i).mono (by simp) (by simp)
  refine ⟨by rw [if_neg e0], hI_sI.trans hc, E2.mono (by simp) (by simp), ?_⟩
  rw [if_neg e0, if_neg e3]
  exact rSt_x q E2 (by decide) (by decide)
theorem mch_3 {h H1 : zH} {r c1 c2 c3 : Nat} {g : zGd} {us : List zGd} {sn : Option zGd} {off rs dt cs : Int32} {t o : List Nat} {J : zJ} {A : zGd × Int32} (q : rSt h r g us sn off rs dt cs t o) (E1 : rE h H1 r [435] [2]) (e3 : J.1 = 3) : mchQ h r J A c1 c2 c3 g us sn off rs dt cs t o (some (.int (nI 0))) (sI (rjM H1 r (nI J.2.1) J.2.2) 435 r (nI c3)) := by
  have E2 : rE h (sI (rjM H1 r (nI J.2.1) J.2.2) 435 r (nI c3)) r [435, 431, 432, 433] [2] := ((((E1.trans rE.i).trans rE.i).trans rE.i).trans rE.i).mono (by simp) (by simp)
  have e0 : J.1 ≠ 0 := by omega
  obtain ⟨q1, q2, q3, q4, q5, q6, q7⟩ := q
  refine ⟨by rw [if_neg e0], ?_, E2.mono (by simp) (by simp), ?_⟩
  · rw [show cod J c1 c2 c3 = c3 from by unfold cod; rw [if_neg e0, if_neg (by omega), if_neg (by omega)]]
    exact hI_sI
  · rw [if_neg e0, if_pos e3]
    refine ⟨E2.m q1, by rw [E2.r (by decide)]; exact q2, rKp_e q3 E2 (by decide) (by decide), rSv_e q4 E2 (by decide) (by decide), ⟨?_, ?_, ?_, ?_⟩, rTx_e q6 E2 (by decide) (by decide), rOt_e q7 E2 (by decide) (by decide)⟩
    · exact (E2.f (by decide)).trans q5.1
    · exact (hI_sI_f (by decide)).trans ((hI_sI_f (by decide)).trans ((hI_sI_f (by decide)).trans hI_sI))
    · exact (hI_sI_f (by decide)).trans ((hI_sI_f (by decide)).trans hI_sI)
    · exact (hI_sI_f (by decide)).trans hI_sI
set_option maxHeartbeats 4000000 in
set_option maxRecDepth 100000 in
theorem s_maddPath {l : Launch} {E : zG} (hzs : zS E) (hst : l.stackTraces = false) (h : zH) (r m : Nat) (g : zGd) (us : List zGd) (sn : Option zGd) (off rs dt cs : Int32) (t o : List Nat) (x y : Int32) (q : rSt h r g us sn off rs dt cs t o) (hI_ : rIv m g us sn) (hb : m + 3000 ≤ big) : zMet l E yX10_addPath cX10_addPath 3 (some .int) ({ frames := 3, cells := 0, slots := 0, locals := 66 } : Room) 0 0 [.ref r, .int x, .int y] h (mchQ h r (jd g 112 x y) (ap g 112 x y) 1 2 3 g us sn off rs dt cs t o) (fun _ _ => False) := by
  refine zM_start hzs hst (by decide) (Nat.le_of_ble_eq_true rfl) (fun X C G F I => ?_)
  show zV X 0 0 _ 0 [(0, _), (1, _), (2, _)] []
  refine zV.aload_n C dX10_addPath_0 rfl rfl ?_
  refine zV.callV (n := 0) C G dX10_addPath_1 (s_mtries hzs hst h r q.1) rfl ⟨cd_X10_tries, lk_X10_103, im_X10_tries, se_X10_X10_tries, in_X10⟩ ⟨⟨by decide, by decide⟩, by decide⟩ rfl rfl rfl q.1.1 ⟨rfl, by decide⟩ (zafv ?_) (zno)
  obtain ⟨H1, hH1, E1, m1, g1, g2, t1⟩ := tr_st q.1 q.2.1 hI_.1
  rw [← hH1]
  refine zV.aload_n C dX10_addPath_4 rfl rfl ?_
  refine zV.aload_n C dX10_addPath_5 rfl rfl ?_
  refine zV.iload_n C dX10_addPath_6 rfl ?_
  refine zV.iload_n C dX10_addPath_7 rfl ?_
  refine zV.callV (n := 2) C G dX10_addPath_8 (s_mpaves hzs hst H1 r m g m1 g1 hI_.1 hb x y) rfl ⟨cd_X10_paves, lk_X10_106, im_X10_paves, se_X10_X10_paves, in_X10⟩ ⟨⟨by decide, by decide⟩, by decide⟩ rfl rfl rfl m1.1 ⟨rfl, by decide⟩ (zafX (fun v1 h1 q1 => ?_)) (zno)
  rcases q1 with ⟨e1, rfl, f1, rfl, p1⟩ | ⟨e1, rfl, e9⟩ | ⟨e1, rfl, e9⟩ | ⟨e1, rfl, rfl⟩
  · show zV X 0 0 _ 11 _ [.int (nI 0), .ref r]
    have E3 : rE h (sI (sRow H1 (r + 1) f1) 434 r (ap g 112 x y).2) r [435, 434] [2, 1] := ((E1.trans rE.a).trans rE.i).mono (by simp) (by simp)
    refine zV.ic (v := nI 1) C dX10_addPath_11 (by decide) ?_
    refine zV.ic (v := nI 2) C dX10_addPath_12 (by decide) ?_
    refine zV.ic (v := nI 3) C dX10_addPath_13 (by decide) ?_
    refine zV.callV (n := 4) C G dX10_addPath_14 (s_mends0 hzs hst (sI (sRow H1 (r + 1) f1) 434 r (ap g 112 x y).2) r m us g (ap g 112 x y).2 (nI 1) (nI 2) (nI 3) (E3.m q.1) (rKp_e q.2.2.1 E3 (by decide) (by decide)) hI_.2.1 (by rw [show aI (sI (sRow H1 (r + 1) f1) 434 r (ap g 112 x y).2) (r + 2) = aI H1 (r + 2) from aI_sRow_a (by omega)]; exact g2) hI_.1 hI_sI) rfl ⟨cd_X10_ends, lk_X10_109, im_X10_ends, se_X10_X10_ends, in_X10⟩ ⟨⟨by decide, by decide⟩, by decide⟩ rfl rfl rfl (E3.m q.1).1 ⟨rfl, by decide⟩ (zafR (fun h2 ⟨E2, k2⟩ => ?_)) (zno)
    refine zV.iret C F dX10_addPath_17 rfl ?_
    exact mch_0 q E1 t1 e1 p1 E2 k2
  · obtain rfl := e9.symm
    have e1 : (jd g 112 x y).1 = 1 := e1
    show zV X 0 0 _ 11 _ [.int (nI 1), .ref r]
    refine zV.ic (v := nI 1) C dX10_addPath_11 (by decide) ?_
    refine zV.ic (v := nI 2) C dX10_addPath_12 (by decide) ?_
    refine zV.ic (v := nI 3) C dX10_addPath_13 (by decide) ?_
    refine zV.callV (n := 4) C G dX10_addPath_14 (s_mends1 hzs hst H1 r (nI 1) (nI 2) (nI 3) m1) rfl ⟨cd_X10_ends, lk_X10_109, im_X10_ends, se_X10_X10_ends, in_X10⟩ ⟨⟨by decide, by decide⟩, by decide⟩ rfl rfl rfl m1.1 ⟨rfl, by decide⟩ (zaf ?_) (zno)
    refine zV.iret C F dX10_addPath_17 rfl ?_
    exact mch_x q E1 (by omega) (by omega) (by unfold cod; rw [if_neg (by omega), if_pos e1])
  · obtain rfl := e9.symm
    have e1 : (jd g 112 x y).1 = 2 := e1
    show zV X 0 0 _ 11 _ [.int (nI 2), .ref r]
    refine zV.ic (v := nI 1) C dX10_addPath_11 (by decide) ?_
    refine zV.ic (v := nI 2) C dX10_addPath_12 (by decide) ?_
    refine zV.ic (v := nI 3) C dX10_addPath_13 (by decide) ?_
    refine zV.callV (n := 4) C G dX10_addPath_14 (s_mends2 hzs hst H1 r (nI 1) (nI 2) (nI 3) m1) rfl ⟨cd_X10_ends, lk_X10_109, im_X10_ends, se_X10_X10_ends, in_X10⟩ ⟨⟨by decide, by decide⟩, by decide⟩ rfl rfl rfl m1.1 ⟨rfl, by decide⟩ (zaf ?_) (zno)
    refine zV.iret C F dX10_addPath_17 rfl ?_
    exact mch_x q E1 (by omega) (by omega) (by unfold cod; rw [if_neg (by omega), if_neg (by omega), if_pos e1])
  · show zV X 0 0 _ 11 _ [.int (-1), .ref r]
    refine zV.ic (v := nI 1) C dX10_addPath_11 (by decide) ?_
    refine zV.ic (v := nI 2) C dX10_addPath_12 (by decide) ?_
    refine zV.ic (v := nI 3) C dX10_addPath_13 (by decide) ?_
    refine zV.callV (n := 4) C G dX10_addPath_14 (s_mends3 hzs hst (rjM H1 r (nI (jd g 112 x y).2.1) (jd g 112 x y).2.2) r (nI 1) (nI 2) (nI 3) m1) rfl ⟨cd_X10_ends, lk_X10_109, im_X10_ends, se_X10_X10_ends, in_X10⟩ ⟨⟨by decide, by decide⟩, by decide⟩ rfl rfl rfl m1.1 ⟨rfl, by decide⟩ (zaf ?_) (zno)
    refine zV.iret C F dX10_addPath_17 rfl ?_
    exact mch_3 q E1 e1
set_option maxHeartbeats 4000000 in
set_option maxRecDepth 100000 in
theorem s_mremovePath {l : Launch} {E : zG} (hzs : zS E) (hst : l.stackTraces = false) (h : zH) (r m : Nat) (g : zGd) (us : List zGd) (sn : Option zGd) (off rs dt cs : Int32) (t o : List Nat) (x y : Int32) (q : rSt h r g us sn off rs dt cs t o) (hI_ : rIv m g us sn) (hb : m + 3000 ≤ big) : zMet l E yX10_removePath cX10_removePath 3 (some .int) ({ frames := 3, cells := 0, slots := 0, locals := 70 } : Room) 0 0 [.ref r, .int x, .int y] h (mchQ h r (jd g 113 x y) (ap g 113 x y) 1 2 3 g us sn off rs dt cs t o) (fun _ _ => False) := by
  refine zM_start hzs hst (by decide) (Nat.le_of_ble_eq_true rfl) (fun X C G F I => ?_)
  show zV X 0 0 _ 0 [(0, _), (1, _), (2, _)] []
  refine zV.aload_n C dX10_removePath_0 rfl rfl ?_
  refine zV.callV (n := 0) C G dX10_removePath_1 (s_mtries hzs hst h r q.1) rfl ⟨cd_X10_tries, lk_X10_103, im_X10_tries, se_X10_X10_tries, in_X10⟩ ⟨⟨by decide, by decide⟩, by decide⟩ rfl rfl rfl q.1.1 ⟨rfl, by decide⟩ (zafv ?_) (zno)
  obtain ⟨H1, hH1, E1, m1, g1, g2, t1⟩ := tr_st q.1 q.2.1 hI_.1
  rw [← hH1]
  refine zV.aload_n C dX10_removePath_4 rfl rfl ?_
  refine zV.aload_n C dX10_removePath_5 rfl rfl ?_
  refine zV.iload_n C dX10_removePath_6 rfl ?_
  refine zV.iload_n C dX10_removePath_7 rfl ?_
  refine zV.callV (n := 2) C G dX10_removePath_8 (s_mdigs hzs hst H1 r m g m1 g1 hI_.1 hb x y) rfl ⟨cd_X10_digs, lk_X10_116, im_X10_digs, se_X10_X10_digs, in_X10⟩ ⟨⟨by decide, by decide⟩, by decide⟩ rfl rfl rfl m1.1 ⟨rfl, by decide⟩ (zafX (fun v1 h1 q1 => ?_)) (zno)
  rcases q1 with ⟨e1, rfl, f1, rfl, p1⟩ | ⟨e1, rfl, e9⟩ | ⟨e1, rfl, e9⟩ | ⟨e1, rfl, rfl⟩
  · show zV X 0 0 _ 11 _ [.int (nI 0), .ref r]
    have E3 : rE h (sI (sRow H1 (r + 1) f1) 434 r (ap g 113 x y).2) r [435, 434] [2, 1] := ((E1.trans rE.a).trans rE.i).mono (by simp) (by simp)
    refine zV.ic (v := nI 1) C dX10_removePath_11 (by decide) ?_
    refine zV.ic (v := nI 2) C dX10_removePath_12 (by decide) ?_
    refine zV.ic (v := nI 3) C dX10_removePath_13 (by decide) ?_
    refine zV.callV (n := 4) C G dX10_removePath_14 (s_mends0 hzs hst (sI (sRow H1 (r + 1) f1) 434 r (ap g 113 x y).2) r m us g (ap g 113 x y).2 (nI 1) (nI 2) (nI 3) (E3.m q.1) (rKp_e q.2.2.1 E3 (by decide) (by decide)) hI_.2.1 (by rw [show aI (sI (sRow H1 (r + 1) f1) 434 r (ap g 113 x y).2) (r + 2) = aI H1 (r + 2) from aI_sRow_a (by omega)]; exact g2) hI_.1 hI_sI) rfl ⟨cd_X10_ends, lk_X10_109, im_X10_ends, se_X10_X10_ends, in_X10⟩ ⟨⟨by decide, by decide⟩, by decide⟩ rfl rfl rfl (E3.m q.1).1 ⟨rfl, by decide⟩ (zafR (fun h2 ⟨E2, k2⟩ => ?_)) (zno)
    refine zV.iret C F dX10_removePath_17 rfl ?_
    exact mch_0 q E1 t1 e1 p1 E2 k2
  · obtain rfl := e9.symm
    have e1 : (jd g 113 x y).1 = 1 := e1
    show zV X 0 0 _ 11 _ [.int (nI 1), .ref r]
    refine zV.ic (v := nI 1) C dX10_removePath_11 (by decide) ?_
    refine zV.ic (v := nI 2) C dX10_removePath_12 (by decide) ?_
    refine zV.ic (v := nI 3) C dX10_removePath_13 (by decide) ?_
    refine zV.callV (n := 4) C G dX10_removePath_14 (s_mends1 hzs hst H1 r (nI 1) (nI 2) (nI 3) m1) rfl ⟨cd_X10_ends, lk_X10_109, im_X10_ends, se_X10_X10_ends, in_X10⟩ ⟨⟨by decide, by decide⟩, by decide⟩ rfl rfl rfl m1.1 ⟨rfl, by decide⟩ (zaf ?_) (zno)
    refine zV.iret C F dX10_removePath_17 rfl ?_
    exact mch_x q E1 (by omega) (by omega) (by unfold cod; rw [if_neg (by omega), if_pos e1])
  · obtain rfl := e9.symm
    have e1 : (jd g 113 x y).1 = 2 := e1
    show zV X 0 0 _ 11 _ [.int (nI 2), .ref r]
    refine zV.ic (v := nI 1) C dX10_removePath_11 (by decide) ?_
    refine zV.ic (v := nI 2) C dX10_removePath_12 (by decide) ?_
    refine zV.ic (v := nI 3) C dX10_removePath_13 (by decide) ?_
    refine zV.callV (n := 4) C G dX10_removePath_14 (s_mends2 hzs hst H1 r (nI 1) (nI 2) (nI 3) m1) rfl ⟨cd_X10_ends, lk_X10_109, im_X10_ends, se_X10_X10_ends, in_X10⟩ ⟨⟨by decide, by decide⟩, by decide⟩ rfl rfl rfl m1.1 ⟨rfl, by decide⟩ (zaf ?_) (zno)
    refine zV.iret C F dX10_removePath_17 rfl ?_
    exact mch_x q E1 (by omega) (by omega) (by unfold cod; rw [if_neg (by omega), if_neg (by omega), if_pos e1])
  · show zV X 0 0 _ 11 _ [.int (-1), .ref r]
    refine zV.ic (v := nI 1) C dX10_removePath_11 (by decide) ?_
    refine zV.ic (v := nI 2) C dX10_removePath_12 (by decide) ?_
    refine zV.ic (v := nI 3) C dX10_removePath_13 (by decide) ?_
    refine zV.callV (n := 4) C G dX10_removePath_14 (s_mends3 hzs hst (rjM H1 r (nI (jd g 113 x y).2.1) (jd g 113 x y).2.2) r (nI 1) (nI 2) (nI 3) m1) rfl ⟨cd_X10_ends, lk_X10_109, im_X10_ends, se_X10_X10_ends, in_X10⟩ ⟨⟨by decide, by decide⟩, by decide⟩ rfl rfl rfl m1.1 ⟨rfl, by decide⟩ (zaf ?_) (zno)
    refine zV.iret C F dX10_removePath_17 rfl ?_
    exact mch_3 q E1 e1
set_option maxHeartbeats 4000000 in
set_option maxRecDepth 100000 in
theorem s_msetShade {l : Launch} {E : zG} (hzs : zS E) (hst : l.stackTraces = false) (h : zH) (r m : Nat) (g : zGd) (us : List zGd) (sn : Option zGd) (off rs dt cs : Int32) (t o : List Nat) (x y : Int32) (q : rSt h r g us sn off rs dt cs t o) (hI_ : rIv m g us sn) (hb : m + 3000 ≤ big) : zMet l E yX10_setShade cX10_setShade 3 (some .int) ({ frames := 3, cells := 0, slots := 0, locals := 65 } : Room) 0 0 [.ref r, .int x, .int y] h (mchQ h r (jd g 104 x y) (ap g 104 x y) 1 2 0 g us sn off rs dt cs t o) (fun _ _ => False) := by
  refine zM_start hzs hst (by decide) (Nat.le_of_ble_eq_true rfl) (fun X C G F I => ?_)
  show zV X 0 0 _ 0 [(0, _), (1, _), (2, _)] []
  refine zV.aload_n C dX10_setShade_0 rfl rfl ?_
  refine zV.callV (n := 0) C G dX10_setShade_1 (s_mtries hzs hst h r q.1) rfl ⟨cd_X10_tries, lk_X10_103, im_X10_tries, se_X10_X10_tries, in_X10⟩ ⟨⟨by decide, by decide⟩, by decide⟩ rfl rfl rfl q.1.1 ⟨rfl, by decide⟩ (zafv ?_) (zno)
  obtain ⟨H1, hH1, E1, m1, g1, g2, t1⟩ := tr_st q.1 q.2.1 hI_.1
  rw [← hH1]
  refine zV.aload_n C dX10_setShade_4 rfl rfl ?_
  refine zV.aload_n C dX10_setShade_5 rfl rfl ?_
  refine zV.iload_n C dX10_setShade_6 rfl ?_
  refine zV.iload_n C dX10_setShade_7 rfl ?_
  refine zV.callV (n := 2) C G dX10_setShade_8 (s_mshades hzs hst H1 r m g m1 g1 hI_.1 hb x y) rfl ⟨cd_X10_shades, lk_X10_119, im_X10_shades, se_X10_X10_shades, in_X10⟩ ⟨⟨by decide, by decide⟩, by decide⟩ rfl rfl rfl m1.1 ⟨rfl, by decide⟩ (zafX (fun v1 h1 q1 => ?_)) (zno)
  rcases q1 with ⟨e1, rfl, f1, rfl, p1⟩ | ⟨e1, rfl, e9⟩ | ⟨e1, rfl, e9⟩ | ⟨e1, rfl, rfl⟩
  · show zV X 0 0 _ 11 _ [.int (nI 0), .ref r]
    have E3 : rE h (sI (sRow H1 (r + 1) f1) 434 r (ap g 104 x y).2) r [435, 434] [2, 1] := ((E1.trans rE.a).trans rE.i).mono (by simp) (by simp)
    refine zV.ic (v := nI 1) C dX10_setShade_11 (by decide) ?_
    refine zV.ic (v := nI 2) C dX10_setShade_12 (by decide) ?_
    refine zV.ic (v := nI 0) C dX10_setShade_13 (by decide) ?_
    refine zV.callV (n := 4) C G dX10_setShade_14 (s_mends0 hzs hst (sI (sRow H1 (r + 1) f1) 434 r (ap g 104 x y).2) r m us g (ap g 104 x y).2 (nI 1) (nI 2) (nI 0) (E3.m q.1) (rKp_e q.2.2.1 E3 (by decide) (by decide)) hI_.2.1 (by rw [show aI (sI (sRow H1 (r + 1) f1) 434 r (ap g 104 x y).2) (r + 2) = aI H1 (r + 2) from aI_sRow_a (by omega)]; exact g2) hI_.1 hI_sI) rfl ⟨cd_X10_ends, lk_X10_109, im_X10_ends, se_X10_X10_ends, in_X10⟩ ⟨⟨by decide, by decide⟩, by decide⟩ rfl rfl rfl (E3.m q.1).1 ⟨rfl, by decide⟩ (zafR (fun h2 ⟨E2, k2⟩ => ?_)) (zno)
    refine zV.iret C F dX10_setShade_17 rfl ?_
    exact mch_0 q E1 t1 e1 p1 E2 k2
  · obtain rfl := e9.symm
    have e1 : (jd g 104 x y).1 = 1 := e1
    show zV X 0 0 _ 11 _ [.int (nI 1), .ref r]
    refine zV.ic (v := nI 1) C dX10_setShade_11 (by decide) ?_
    refine zV.ic (v := nI 2) C dX10_setShade_12 (by decide) ?_
    refine zV.ic (v := nI 0) C dX10_setShade_13 (by decide) ?_
    refine zV.callV (n := 4) C G dX10_setShade_14 (s_mends1 hzs hst H1 r (nI 1) (nI 2) (nI 0) m1) rfl ⟨cd_X10_ends, lk_X10_109, im_X10_ends, se_X10_X10_ends, in_X10⟩ ⟨⟨by decide, by decide⟩, by decide⟩ rfl rfl rfl m1.1 ⟨rfl, by decide⟩ (zaf ?_) (zno)
    refine zV.iret C F dX10_setShade_17 rfl ?_
    exact mch_x q E1 (by omega) (by omega) (by unfold cod; rw [if_neg (by omega), if_pos e1])
  · obtain rfl := e9.symm
    have e1 : (jd g 104 x y).1 = 2 := e1
    show zV X 0 0 _ 11 _ [.int (nI 2), .ref r]
    refine zV.ic (v := nI 1) C dX10_setShade_11 (by decide) ?_
    refine zV.ic (v := nI 2) C dX10_setShade_12 (by decide) ?_
    refine zV.ic (v := nI 0) C dX10_setShade_13 (by decide) ?_
    refine zV.callV (n := 4) C G dX10_setShade_14 (s_mends2 hzs hst H1 r (nI 1) (nI 2) (nI 0) m1) rfl ⟨cd_X10_ends, lk_X10_109, im_X10_ends, se_X10_X10_ends, in_X10⟩ ⟨⟨by decide, by decide⟩, by decide⟩ rfl rfl rfl m1.1 ⟨rfl, by decide⟩ (zaf ?_) (zno)
    refine zV.iret C F dX10_setShade_17 rfl ?_
    exact mch_x q E1 (by omega) (by omega) (by unfold cod; rw [if_neg (by omega), if_neg (by omega), if_pos e1])
  · show zV X 0 0 _ 11 _ [.int (-1), .ref r]
    refine zV.ic (v := nI 1) C dX10_setShade_11 (by decide) ?_
    refine zV.ic (v := nI 2) C dX10_setShade_12 (by decide) ?_
    refine zV.ic (v := nI 0) C dX10_setShade_13 (by decide) ?_
    refine zV.callV (n := 4) C G dX10_setShade_14 (s_mends3 hzs hst (rjM H1 r (nI (jd g 104 x y).2.1) (jd g 104 x y).2.2) r (nI 1) (nI 2) (nI 0) m1) rfl ⟨cd_X10_ends, lk_X10_109, im_X10_ends, se_X10_X10_ends, in_X10⟩ ⟨⟨by decide, by decide⟩, by decide⟩ rfl rfl rfl m1.1 ⟨rfl, by decide⟩ (zaf ?_) (zno)
    refine zV.iret C F dX10_setShade_17 rfl ?_
    exact mch_3 q E1 e1
set_option maxHeartbeats 4000000 in
set_option maxRecDepth 100000 in
theorem s_maddChair {l : Launch} {E : zG} (hzs : zS E) (hst : l.stackTraces = false) (h : zH) (r m : Nat) (g : zGd) (us : List zGd) (sn : Option zGd) (off rs dt cs : Int32) (t o : List Nat) (x y : Int32) (q : rSt h r g us sn off rs dt cs t o) (hI_ : rIv m g us sn) (hb : m + 3000 ≤ big) : zMet l E yX10_addChair cX10_addChair 3 (some .int) ({ frames := 3, cells := 0, slots := 0, locals := 69 } : Room) 0 0 [.ref r, .int x, .int y] h (mchQ h r (jd g 99 x y) (ap g 99 x y) 1 2 3 g us sn off rs dt cs t o) (fun _ _ => False) := by
  refine zM_start hzs hst (by decide) (Nat.le_of_ble_eq_true rfl) (fun X C G F I => ?_)
  show zV X 0 0 _ 0 [(0, _), (1, _), (2, _)] []
  refine zV.aload_n C dX10_addChair_0 rfl rfl ?_
  refine zV.callV (n := 0) C G dX10_addChair_1 (s_mtries hzs hst h r q.1) rfl ⟨cd_X10_tries, lk_X10_103, im_X10_tries, se_X10_X10_tries, in_X10⟩ ⟨⟨by decide, by decide⟩, by decide⟩ rfl rfl rfl q.1.1 ⟨rfl, by decide⟩ (zafv ?_) (zno)
  obtain ⟨H1, hH1, E1, m1, g1, g2, t1⟩ := tr_st q.1 q.2.1 hI_.1
  rw [← hH1]
  refine zV.aload_n C dX10_addChair_4 rfl rfl ?_
  refine zV.aload_n C dX10_addChair_5 rfl rfl ?_
  refine zV.iload_n C dX10_addChair_6 rfl ?_
  refine zV.iload_n C dX10_addChair_7 rfl ?_
  refine zV.callV (n := 2) C G dX10_addChair_8 (s_mcomes hzs hst H1 r m g m1 g1 hI_.1 hb x y) rfl ⟨cd_X10_comes, lk_X10_126, im_X10_comes, se_X10_X10_comes, in_X10⟩ ⟨⟨by decide, by decide⟩, by decide⟩ rfl rfl rfl m1.1 ⟨rfl, by decide⟩ (zafX (fun v1 h1 q1 => ?_)) (zno)
  rcases q1 with ⟨e1, rfl, f1, rfl, p1⟩ | ⟨e1, rfl, e9⟩ | ⟨e1, rfl, e9⟩ | ⟨e1, rfl, rfl⟩
  · show zV X 0 0 _ 11 _ [.int (nI 0), .ref r]
    have E3 : rE h (sI (sRow H1 (r + 1) f1) 434 r (ap g 99 x y).2) r [435, 434] [2, 1] := ((E1.trans rE.a).trans rE.i).mono (by simp) (by simp)
    refine zV.ic (v := nI 1) C dX10_addChair_11 (by decide) ?_
    refine zV.ic (v := nI 2) C dX10_addChair_12 (by decide) ?_
    refine zV.ic (v := nI 3) C dX10_addChair_13 (by decide) ?_
    refine zV.callV (n := 4) C G dX10_addChair_14 (s_mends0 hzs hst (sI (sRow H1 (r + 1) f1) 434 r (ap g 99 x y).2) r m us g (ap g 99 x y).2 (nI 1) (nI 2) (nI 3) (E3.m q.1) (rKp_e q.2.2.1 E3 (by decide) (by decide)) hI_.2.1 (by rw [show aI (sI (sRow H1 (r + 1) f1) 434 r (ap g 99 x y).2) (r + 2) = aI H1 (r + 2) from aI_sRow_a (by omega)]; exact g2) hI_.1 hI_sI) rfl ⟨cd_X10_ends, lk_X10_109, im_X10_ends, se_X10_X10_ends, in_X10⟩ ⟨⟨by decide, by decide⟩, by decide⟩ rfl rfl rfl (E3.m q.1).1 ⟨rfl, by decide⟩ (zafR (fun h2 ⟨E2, k2⟩ => ?_)) (zno)
    refine zV.iret C F dX10_addChair_17 rfl ?_
    exact mch_0 q E1 t1 e1 p1 E2 k2
  · obtain rfl := e9.symm
    have e1 : (jd g 99 x y).1 = 1 := e1
    show zV X 0 0 _ 11 _ [.int (nI 1), .ref r]
    refine zV.ic (v := nI 1) C dX10_addChair_11 (by decide) ?_
    refine zV.ic (v := nI 2) C dX10_addChair_12 (by decide) ?_
    refine zV.ic (v := nI 3) C dX10_addChair_13 (by decide) ?_
    refine zV.callV (n := 4) C G dX10_addChair_14 (s_mends1 hzs hst H1 r (nI 1) (nI 2) (nI 3) m1) rfl ⟨cd_X10_ends, lk_X10_109, im_X10_ends, se_X10_X10_ends, in_X10⟩ ⟨⟨by decide, by decide⟩, by decide⟩ rfl rfl rfl m1.1 ⟨rfl, by decide⟩ (zaf ?_) (zno)
    refine zV.iret C F dX10_addChair_17 rfl ?_
    exact mch_x q E1 (by omega) (by omega) (by unfold cod; rw [if_neg (by omega), if_pos e1])
  · obtain rfl := e9.symm
    have e1 : (jd g 99 x y).1 = 2 := e1
    show zV X 0 0 _ 11 _ [.int (nI 2), .ref r]
    refine zV.ic (v := nI 1) C dX10_addChair_11 (by decide) ?_
    refine zV.ic (v := nI 2) C dX10_addChair_12 (by decide) ?_
    refine zV.ic (v := nI 3) C dX10_addChair_13 (by decide) ?_
    refine zV.callV (n := 4) C G dX10_addChair_14 (s_mends2 hzs hst H1 r (nI 1) (nI 2) (nI 3) m1) rfl ⟨cd_X10_ends, lk_X10_109, im_X10_ends, se_X10_X10_ends, in_X10⟩ ⟨⟨by decide, by decide⟩, by decide⟩ rfl rfl rfl m1.1 ⟨rfl, by decide⟩ (zaf ?_) (zno)
    refine zV.iret C F dX10_addChair_17 rfl ?_
    exact mch_x q E1 (by omega) (by omega) (by unfold cod; rw [if_neg (by omega), if_neg (by omega), if_pos e1])
  · show zV X 0 0 _ 11 _ [.int (-1), .ref r]
    refine zV.ic (v := nI 1) C dX10_addChair_11 (by decide) ?_
    refine zV.ic (v := nI 2) C dX10_addChair_12 (by decide) ?_
    refine zV.ic (v := nI 3) C dX10_addChair_13 (by decide) ?_
    refine zV.callV (n := 4) C G dX10_addChair_14 (s_mends3 hzs hst (rjM H1 r (nI (jd g 99 x y).2.1) (jd g 99 x y).2.2) r (nI 1) (nI 2) (nI 3) m1) rfl ⟨cd_X10_ends, lk_X10_109, im_X10_ends, se_X10_X10_ends, in_X10⟩ ⟨⟨by decide, by decide⟩, by decide⟩ rfl rfl rfl m1.1 ⟨rfl, by decide⟩ (zaf ?_) (zno)
    refine zV.iret C F dX10_addChair_17 rfl ?_
    exact mch_3 q E1 e1
set_option maxHeartbeats 4000000 in
set_option maxRecDepth 100000 in
theorem s_mscrapChair {l : Launch} {E : zG} (hzs : zS E) (hst : l.stackTraces = false) (h : zH) (r m : Nat) (g : zGd) (us : List zGd) (sn : Option zGd) (off rs dt cs : Int32) (t o : List Nat) (x : Int32) (q : rSt h r g us sn off rs dt cs t o) (hI_ : rIv m g us sn) (hb : m + 3000 ≤ big) : zMet l E yX10_scrapChair cX10_scrapChair 2 (some .int) ({ frames := 4, cells := 0, slots := 0, locals := 91 } : Room) 0 0 [.ref r, .int x] h (mchQ h r (jd g 115 x 0) (ap g 115 x 0) 1 0 0 g us sn off rs dt cs t o) (fun _ _ => False) := by
  refine zM_start hzs hst (by decide) (Nat.le_of_ble_eq_true rfl) (fun X C G F I => ?_)
  show zV X 0 0 _ 0 [(0, _), (1, _)] []
  refine zV.aload_n C dX10_scrapChair_0 rfl rfl ?_
  refine zV.callV (n := 0) C G dX10_scrapChair_1 (s_mtries hzs hst h r q.1) rfl ⟨cd_X10_tries, lk_X10_103, im_X10_tries, se_X10_X10_tries, in_X10⟩ ⟨⟨by decide, by decide⟩, by decide⟩ rfl rfl rfl q.1.1 ⟨rfl, by decide⟩ (zafv ?_) (zno)
  obtain ⟨H1, hH1, E1, m1, g1, g2, t1⟩ := tr_st q.1 q.2.1 hI_.1
  rw [← hH1]
  refine zV.aload_n C dX10_scrapChair_4 rfl rfl ?_
  refine zV.aload_n C dX10_scrapChair_5 rfl rfl ?_
  refine zV.iload_n C dX10_scrapChair_6 rfl ?_
  refine zV.callV (n := 1) C G dX10_scrapChair_7 (s_mscraps hzs hst H1 r m g m1 g1 hI_.1 hb x) rfl ⟨cd_X10_scraps, lk_X10_135, im_X10_scraps, se_X10_X10_scraps, in_X10⟩ ⟨⟨by decide, by decide⟩, by decide⟩ rfl rfl rfl m1.1 ⟨rfl, by decide⟩ (zafX (fun v1 h1 q1 => ?_)) (zno)
  rcases q1 with ⟨e1, rfl, f1, rfl, p1⟩ | ⟨e1, rfl, e9⟩ | ⟨e1, rfl, e9⟩ | ⟨e1, rfl, rfl⟩
  · show zV X 0 0 _ 10 _ [.int (nI 0), .ref r]
    have E3 : rE h (sI (sRow H1 (r + 1) f1) 434 r (ap g 115 x 0).2) r [435, 434] [2, 1] := ((E1.trans rE.a).trans rE.i).mono (by simp) (by simp)
    refine zV.ic (v := nI 1) C dX10_scrapChair_10 (by decide) ?_
    refine zV.ic (v := nI 0) C dX10_scrapChair_11 (by decide) ?_
    refine zV.ic (v := nI 0) C dX10_scrapChair_12 (by decide) ?_
    refine zV.callV (n := 4) C G dX10_scrapChair_13 (s_mends0 hzs hst (sI (sRow H1 (r + 1) f1) 434 r (ap g 115 x 0).2) r m us g (ap g 115 x 0).2 (nI 1) (nI 0) (nI 0) (E3.m q.1) (rKp_e q.2.2.1 E3 (by decide) (by decide)) hI_.2.1 (by rw [show aI (sI (sRow H1 (r + 1) f1) 434 r (ap g 115 x 0).2) (r + 2) = aI H1 (r + 2) from aI_sRow_a (by omega)]; exact g2) hI_.1 hI_sI) rfl ⟨cd_X10_ends, lk_X10_109, im_X10_ends, se_X10_X10_ends, in_X10⟩ ⟨⟨by decide, by decide⟩, by decide⟩ rfl rfl rfl (E3.m q.1).1 ⟨rfl, by decide⟩ (zafR (fun h2 ⟨E2, k2⟩ => ?_)) (zno)
    refine zV.iret C F dX10_scrapChair_16 rfl ?_
    exact mch_0 q E1 t1 e1 p1 E2 k2
  · obtain rfl := e9.symm
    have e1 : (jd g 115 x 0).1 = 1 := e1
    show zV X 0 0 _ 10 _ [.int (nI 1), .ref r]
    refine zV.ic (v := nI 1) C dX10_scrapChair_10 (by decide) ?_
    refine zV.ic (v := nI 0) C dX10_scrapChair_11 (by decide) ?_
    refine zV.ic (v := nI 0) C dX10_scrapChair_12 (by decide) ?_
    refine zV.callV (n := 4) C G dX10_scrapChair_13 (s_mends1 hzs hst H1 r (nI 1) (nI 0) (nI 0) m1) rfl ⟨cd_X10_ends, lk_X10_109, im_X10_ends, se_X10_X10_ends, in_X10⟩ ⟨⟨by decide, by decide⟩, by decide⟩ rfl rfl rfl m1.1 ⟨rfl, by decide⟩ (zaf ?_) (zno)
    refine zV.iret C F dX10_scrapChair_16 rfl ?_
    exact mch_x q E1 (by omega) (by omega) (by unfold cod; rw [if_neg (by omega), if_pos e1])
  · obtain rfl := e9.symm
    have e1 : (jd g 115 x 0).1 = 2 := e1
    show zV X 0 0 _ 10 _ [.int (nI 2), .ref r]
    refine zV.ic (v := nI 1) C dX10_scrapChair_10 (by decide) ?_
    refine zV.ic (v := nI 0) C dX10_scrapChair_11 (by decide) ?_
    refine zV.ic (v := nI 0) C dX10_scrapChair_12 (by decide) ?_
    refine zV.callV (n := 4) C G dX10_scrapChair_13 (s_mends2 hzs hst H1 r (nI 1) (nI 0) (nI 0) m1) rfl ⟨cd_X10_ends, lk_X10_109, im_X10_ends, se_X10_X10_ends, in_X10⟩ ⟨⟨by decide, by decide⟩, by decide⟩ rfl rfl rfl m1.1 ⟨rfl, by decide⟩ (zaf ?_) (zno)
    refine zV.iret C F dX10_scrapChair_16 rfl ?_
    exact mch_x q E1 (by omega) (by omega) (by unfold cod; rw [if_neg (by omega), if_neg (by omega), if_pos e1])
  · show zV X 0 0 _ 10 _ [.int (-1), .ref r]
    refine zV.ic (v := nI 1) C dX10_scrapChair_10 (by decide) ?_
    refine zV.ic (v := nI 0) C dX10_scrapChair_11 (by decide) ?_
    refine zV.ic (v := nI 0) C dX10_scrapChair_12 (by decide) ?_
    refine zV.callV (n := 4) C G dX10_scrapChair_13 (s_mends3 hzs hst (rjM H1 r (nI (jd g 115 x 0).2.1) (jd g 115 x 0).2.2) r (nI 1) (nI 0) (nI 0) m1) rfl ⟨cd_X10_ends, lk_X10_109, im_X10_ends, se_X10_X10_ends, in_X10⟩ ⟨⟨by decide, by decide⟩, by decide⟩ rfl rfl rfl m1.1 ⟨rfl, by decide⟩ (zaf ?_) (zno)
    refine zV.iret C F dX10_scrapChair_16 rfl ?_
    exact mch_3 q E1 e1
set_option maxHeartbeats 4000000 in
set_option maxRecDepth 100000 in
theorem s_mfold {l : Launch} {E : zG} (hzs : zS E) (hst : l.stackTraces = false) (h : zH) (r m : Nat) (g : zGd) (us : List zGd) (sn : Option zGd) (off rs dt cs : Int32) (t o : List Nat) (x : Int32) (q : rSt h r g us sn off rs dt cs t o) (hI_ : rIv m g us sn) (hb : m + 3000 ≤ big) : zMet l E yX10_fold cX10_fold 2 (some .int) ({ frames := 3, cells := 0, slots := 0, locals := 67 } : Room) 0 0 [.ref r, .int x] h (mchQ h r (jd g 102 x 0) (ap g 102 x 0) 1 0 2 g us sn off rs dt cs t o) (fun _ _ => False) := by
  refine zM_start hzs hst (by decide) (Nat.le_of_ble_eq_true rfl) (fun X C G F I => ?_)
  show zV X 0 0 _ 0 [(0, _), (1, _)] []
  refine zV.aload_n C dX10_fold_0 rfl rfl ?_
  refine zV.callV (n := 0) C G dX10_fold_1 (s_mtries hzs hst h r q.1) rfl ⟨cd_X10_tries, lk_X10_103, im_X10_tries, se_X10_X10_tries, in_X10⟩ ⟨⟨by decide, by decide⟩, by decide⟩ rfl rfl rfl q.1.1 ⟨rfl, by decide⟩ (zafv ?_) (zno)
  obtain ⟨H1, hH1, E1, m1, g1, g2, t1⟩ := tr_st q.1 q.2.1 hI_.1
  rw [← hH1]
  refine zV.aload_n C dX10_fold_4 rfl rfl ?_
  refine zV.aload_n C dX10_fold_5 rfl rfl ?_
  refine zV.iload_n C dX10_fold_6 rfl ?_
  refine zV.ic (v := nI 1) C dX10_fold_7 (by decide) ?_
  refine zV.callV (n := 2) C G dX10_fold_8 (s_mfold1 hzs hst H1 r m g m1 g1 hI_.1 hb x) rfl ⟨cd_X10_folds, lk_X10_141, im_X10_folds, se_X10_X10_folds, in_X10⟩ ⟨⟨by decide, by decide⟩, by decide⟩ rfl rfl rfl m1.1 ⟨rfl, by decide⟩ (zafX (fun v1 h1 q1 => ?_)) (zno)
  rcases q1 with ⟨e1, rfl, f1, rfl, p1⟩ | ⟨e1, rfl, e9⟩ | ⟨e1, rfl, e9⟩ | ⟨e1, rfl, rfl⟩
  · show zV X 0 0 _ 11 _ [.int (nI 0), .ref r]
    have E3 : rE h (sI (sRow H1 (r + 1) f1) 434 r (ap g 102 x 0).2) r [435, 434] [2, 1] := ((E1.trans rE.a).trans rE.i).mono (by simp) (by simp)
    refine zV.ic (v := nI 1) C dX10_fold_11 (by decide) ?_
    refine zV.ic (v := nI 0) C dX10_fold_12 (by decide) ?_
    refine zV.ic (v := nI 2) C dX10_fold_13 (by decide) ?_
    refine zV.callV (n := 4) C G dX10_fold_14 (s_mends0 hzs hst (sI (sRow H1 (r + 1) f1) 434 r (ap g 102 x 0).2) r m us g (ap g 102 x 0).2 (nI 1) (nI 0) (nI 2) (E3.m q.1) (rKp_e q.2.2.1 E3 (by decide) (by decide)) hI_.2.1 (by rw [show aI (sI (sRow H1 (r + 1) f1) 434 r (ap g 102 x 0).2) (r + 2) = aI H1 (r + 2) from aI_sRow_a (by omega)]; exact g2) hI_.1 hI_sI) rfl ⟨cd_X10_ends, lk_X10_109, im_X10_ends, se_X10_X10_ends, in_X10⟩ ⟨⟨by decide, by decide⟩, by decide⟩ rfl rfl rfl (E3.m q.1).1 ⟨rfl, by decide⟩ (zafR (fun h2 ⟨E2, k2⟩ => ?_)) (zno)
    refine zV.iret C F dX10_fold_17 rfl ?_
    exact mch_0 q E1 t1 e1 p1 E2 k2
  · obtain rfl := e9.symm
    have e1 : (jd g 102 x 0).1 = 1 := e1
    show zV X 0 0 _ 11 _ [.int (nI 1), .ref r]
    refine zV.ic (v := nI 1) C dX10_fold_11 (by decide) ?_
    refine zV.ic (v := nI 0) C dX10_fold_12 (by decide) ?_
    refine zV.ic (v := nI 2) C dX10_fold_13 (by decide) ?_
    refine zV.callV (n := 4) C G dX10_fold_14 (s_mends1 hzs hst H1 r (nI 1) (nI 0) (nI 2) m1) rfl ⟨cd_X10_ends, lk_X10_109, im_X10_ends, se_X10_X10_ends, in_X10⟩ ⟨⟨by decide, by decide⟩, by decide⟩ rfl rfl rfl m1.1 ⟨rfl, by decide⟩ (zaf ?_) (zno)
    refine zV.iret C F dX10_fold_17 rfl ?_
    exact mch_x q E1 (by omega) (by omega) (by unfold cod; rw [if_neg (by omega), if_pos e1])
  · obtain rfl := e9.symm
    have e1 : (jd g 102 x 0).1 = 2 := e1
    show zV X 0 0 _ 11 _ [.int (nI 2), .ref r]
    refine zV.ic (v := nI 1) C dX10_fold_11 (by decide) ?_
    refine zV.ic (v := nI 0) C dX10_fold_12 (by decide) ?_
    refine zV.ic (v := nI 2) C dX10_fold_13 (by decide) ?_
    refine zV.callV (n := 4) C G dX10_fold_14 (s_mends2 hzs hst H1 r (nI 1) (nI 0) (nI 2) m1) rfl ⟨cd_X10_ends, lk_X10_109, im_X10_ends, se_X10_X10_ends, in_X10⟩ ⟨⟨by decide, by decide⟩, by decide⟩ rfl rfl rfl m1.1 ⟨rfl, by decide⟩ (zaf ?_) (zno)
    refine zV.iret C F dX10_fold_17 rfl ?_
    exact mch_x q E1 (by omega) (by omega) (by unfold cod; rw [if_neg (by omega), if_neg (by omega), if_pos e1])
  · show zV X 0 0 _ 11 _ [.int (-1), .ref r]
    refine zV.ic (v := nI 1) C dX10_fold_11 (by decide) ?_
    refine zV.ic (v := nI 0) C dX10_fold_12 (by decide) ?_
    refine zV.ic (v := nI 2) C dX10_fold_13 (by decide) ?_
    refine zV.callV (n := 4) C G dX10_fold_14 (s_mends3 hzs hst (rjM H1 r (nI (jd g 102 x 0).2.1) (jd g 102 x 0).2.2) r (nI 1) (nI 0) (nI 2) m1) rfl ⟨cd_X10_ends, lk_X10_109, im_X10_ends, se_X10_X10_ends, in_X10⟩ ⟨⟨by decide, by decide⟩, by decide⟩ rfl rfl rfl m1.1 ⟨rfl, by decide⟩ (zaf ?_) (zno)
    refine zV.iret C F dX10_fold_17 rfl ?_
    exact mch_3 q E1 e1
set_option maxHeartbeats 4000000 in
set_option maxRecDepth 100000 in
theorem s_munfold {l : Launch} {E : zG} (hzs : zS E) (hst : l.stackTraces = false) (h : zH) (r m : Nat) (g : zGd) (us : List zGd) (sn : Option zGd) (off rs dt cs : Int32) (t o : List Nat) (x : Int32) (q : rSt h r g us sn off rs dt cs t o) (hI_ : rIv m g us sn) (hb : m + 3000 ≤ big) : zMet l E yX10_unfold cX10_unfold 2 (some .int) ({ frames := 3, cells := 0, slots := 0, locals := 67 } : Room) 0 0 [.ref r, .int x] h (mchQ h r (jd g 117 x 0) (ap g 117 x 0) 1 0 2 g us sn off rs dt cs t o) (fun _ _ => False) := by
  refine zM_start hzs hst (by decide) (Nat.le_of_ble_eq_true rfl) (fun X C G F I => ?_)
  show zV X 0 0 _ 0 [(0, _), (1, _)] []
  refine zV.aload_n C dX10_unfold_0 rfl rfl ?_
  refine zV.callV (n := 0) C G dX10_unfold_1 (s_mtries hzs hst h r q.1) rfl ⟨cd_X10_tries, lk_X10_103, im_X10_tries, se_X10_X10_tries, in_X10⟩ ⟨⟨by decide, by decide⟩, by decide⟩ rfl rfl rfl q.1.1 ⟨rfl, by decide⟩ (zafv ?_) (zno)
  obtain ⟨H1, hH1, E1, m1, g1, g2, t1⟩ := tr_st q.1 q.2.1 hI_.1
  rw [← hH1]
  refine zV.aload_n C dX10_unfold_4 rfl rfl ?_
  refine zV.aload_n C dX10_unfold_5 rfl rfl ?_
  refine zV.iload_n C dX10_unfold_6 rfl ?_
  refine zV.ic (v := nI 0) C dX10_unfold_7 (by decide) ?_
  refine zV.callV (n := 2) C G dX10_unfold_8 (s_mfold0 hzs hst H1 r m g m1 g1 hI_.1 hb x) rfl ⟨cd_X10_folds, lk_X10_141, im_X10_folds, se_X10_X10_folds, in_X10⟩ ⟨⟨by decide, by decide⟩, by decide⟩ rfl rfl rfl m1.1 ⟨rfl, by decide⟩ (zafX (fun v1 h1 q1 => ?_)) (zno)
  rcases q1 with ⟨e1, rfl, f1, rfl, p1⟩ | ⟨e1, rfl, e9⟩ | ⟨e1, rfl, e9⟩ | ⟨e1, rfl, rfl⟩
  · show zV X 0 0 _ 11 _ [.int (nI 0), .ref r]
    have E3 : rE h (sI (sRow H1 (r + 1) f1) 434 r (ap g 117 x 0).2) r [435, 434] [2, 1] := ((E1.trans rE.a).trans rE.i).mono (by simp) (by simp)
    refine zV.ic (v := nI 1) C dX10_unfold_11 (by decide) ?_
    refine zV.ic (v := nI 0) C dX10_unfold_12 (by decide) ?_
    refine zV.ic (v := nI 2) C dX10_unfold_13 (by decide) ?_
    refine zV.callV (n := 4) C G dX10_unfold_14 (s_mends0 hzs hst (sI (sRow H1 (r + 1) f1) 434 r (ap g 117 x 0).2) r m us g (ap g 117 x 0).2 (nI 1) (nI 0) (nI 2) (E3.m q.1) (rKp_e q.2.2.1 E3 (by decide) (by decide)) hI_.2.1 (by rw [show aI (sI (sRow H1 (r + 1) f1) 434 r (ap g 117 x 0).2) (r + 2) = aI H1 (r + 2) from aI_sRow_a (by omega)]; exact g2) hI_.1 hI_sI) rfl ⟨cd_X10_ends, lk_X10_109, im_X10_ends, se_X10_X10_ends, in_X10⟩ ⟨⟨by decide, by decide⟩, by decide⟩ rfl rfl rfl (E3.m q.1).1 ⟨rfl, by decide⟩ (zafR (fun h2 ⟨E2, k2⟩ => ?_)) (zno)
    refine zV.iret C F dX10_unfold_17 rfl ?_
    exact mch_0 q E1 t1 e1 p1 E2 k2
  · obtain rfl := e9.symm
    have e1 : (jd g 117 x 0).1 = 1 := e1
    show zV X 0 0 _ 11 _ [.int (nI 1), .ref r]
    refine zV.ic (v := nI 1) C dX10_unfold_11 (by decide) ?_
    refine zV.ic (v := nI 0) C dX10_unfold_12 (by decide) ?_
    refine zV.ic (v := nI 2) C dX10_unfold_13 (by decide) ?_
    refine zV.callV (n := 4) C G dX10_unfold_14 (s_mends1 hzs hst H1 r (nI 1) (nI 0) (nI 2) m1) rfl ⟨cd_X10_ends, lk_X10_109, im_X10_ends, se_X10_X10_ends, in_X10⟩ ⟨⟨by decide, by decide⟩, by decide⟩ rfl rfl rfl m1.1 ⟨rfl, by decide⟩ (zaf ?_) (zno)
    refine zV.iret C F dX10_unfold_17 rfl ?_
    exact mch_x q E1 (by omega) (by omega) (by unfold cod; rw [if_neg (by omega), if_pos e1])
  · obtain rfl := e9.symm
    have e1 : (jd g 117 x 0).1 = 2 := e1
    show zV X 0 0 _ 11 _ [.int (nI 2), .ref r]
    refine zV.ic (v := nI 1) C dX10_unfold_11 (by decide) ?_
    refine zV.ic (v := nI 0) C dX10_unfold_12 (by decide) ?_
    refine zV.ic (v := nI 2) C dX10_unfold_13 (by decide) ?_
    refine zV.callV (n := 4) C G dX10_unfold_14 (s_mends2 hzs hst H1 r (nI 1) (nI 0) (nI 2) m1) rfl ⟨cd_X10_ends, lk_X10_109, im_X10_ends, se_X10_X10_ends, in_X10⟩ ⟨⟨by decide, by decide⟩, by decide⟩ rfl rfl rfl m1.1 ⟨rfl, by decide⟩ (zaf ?_) (zno)
    refine zV.iret C F dX10_unfold_17 rfl ?_
    exact mch_x q E1 (by omega) (by omega) (by unfold cod; rw [if_neg (by omega), if_neg (by omega), if_pos e1])
  · show zV X 0 0 _ 11 _ [.int (-1), .ref r]
    refine zV.ic (v := nI 1) C dX10_unfold_11 (by decide) ?_
    refine zV.ic (v := nI 0) C dX10_unfold_12 (by decide) ?_
    refine zV.ic (v := nI 2) C dX10_unfold_13 (by decide) ?_
    refine zV.callV (n := 4) C G dX10_unfold_14 (s_mends3 hzs hst (rjM H1 r (nI (jd g 117 x 0).2.1) (jd g 117 x 0).2.2) r (nI 1) (nI 0) (nI 2) m1) rfl ⟨cd_X10_ends, lk_X10_109, im_X10_ends, se_X10_X10_ends, in_X10⟩ ⟨⟨by decide, by decide⟩, by decide⟩ rfl rfl rfl m1.1 ⟨rfl, by decide⟩ (zaf ?_) (zno)
    refine zV.iret C F dX10_unfold_17 rfl ?_
    exact mch_3 q E1 e1
set_option maxHeartbeats 4000000 in
set_option maxRecDepth 100000 in
theorem s_mmoveChair {l : Launch} {E : zG} (hzs : zS E) (hst : l.stackTraces = false) (h : zH) (r m : Nat) (g : zGd) (us : List zGd) (sn : Option zGd) (off rs dt cs : Int32) (t o : List Nat) (x y : Int32) (q : rSt h r g us sn off rs dt cs t o) (hI_ : rIv m g us sn) (hb : m + 3000 ≤ big) : zMet l E yX10_moveChair cX10_moveChair 3 (some .int) ({ frames := 3, cells := 0, slots := 0, locals := 72 } : Room) 0 0 [.ref r, .int x, .int y] h (mchQ h r (jd g 109 x y) (ap g 109 x y) 1 0 2 g us sn off rs dt cs t o) (fun _ _ => False) := by
  refine zM_start hzs hst (by decide) (Nat.le_of_ble_eq_true rfl) (fun X C G F I => ?_)
  show zV X 0 0 _ 0 [(0, _), (1, _), (2, _)] []
  refine zV.aload_n C dX10_moveChair_0 rfl rfl ?_
  refine zV.callV (n := 0) C G dX10_moveChair_1 (s_mtries hzs hst h r q.1) rfl ⟨cd_X10_tries, lk_X10_103, im_X10_tries, se_X10_X10_tries, in_X10⟩ ⟨⟨by decide, by decide⟩, by decide⟩ rfl rfl rfl q.1.1 ⟨rfl, by decide⟩ (zafv ?_) (zno)
  obtain ⟨H1, hH1, E1, m1, g1, g2, t1⟩ := tr_st q.1 q.2.1 hI_.1
  rw [← hH1]
  refine zV.aload_n C dX10_moveChair_4 rfl rfl ?_
  refine zV.aload_n C dX10_moveChair_5 rfl rfl ?_
  refine zV.iload_n C dX10_moveChair_6 rfl ?_
  refine zV.iload_n C dX10_moveChair_7 rfl ?_
  refine zV.callV (n := 2) C G dX10_moveChair_8 (s_mmoves hzs hst H1 r m g m1 g1 hI_.1 hb x y) rfl ⟨cd_X10_moves, lk_X10_144, im_X10_moves, se_X10_X10_moves, in_X10⟩ ⟨⟨by decide, by decide⟩, by decide⟩ rfl rfl rfl m1.1 ⟨rfl, by decide⟩ (zafX (fun v1 h1 q1 => ?_)) (zno)
  rcases q1 with ⟨e1, rfl, f1, rfl, p1⟩ | ⟨e1, rfl, e9⟩ | ⟨e1, rfl, e9⟩ | ⟨e1, rfl, rfl⟩
  · show zV X 0 0 _ 11 _ [.int (nI 0), .ref r]
    have E3 : rE h (sI (sRow H1 (r + 1) f1) 434 r (ap g 109 x y).2) r [435, 434] [2, 1] := ((E1.trans rE.a).trans rE.i).mono (by simp) (by simp)
    refine zV.ic (v := nI 1) C dX10_moveChair_11 (by decide) ?_
    refine zV.ic (v := nI 0) C dX10_moveChair_12 (by decide) ?_
    refine zV.ic (v := nI 2) C dX10_moveChair_13 (by decide) ?_
    refine zV.callV (n := 4) C G dX10_moveChair_14 (s_mends0 hzs hst (sI (sRow H1 (r + 1) f1) 434 r (ap g 109 x y).2) r m us g (ap g 109 x y).2 (nI 1) (nI 0) (nI 2) (E3.m q.1) (rKp_e q.2.2.1 E3 (by decide) (by decide)) hI_.2.1 (by rw [show aI (sI (sRow H1 (r + 1) f1) 434 r (ap g 109 x y).2) (r + 2) = aI H1 (r + 2) from aI_sRow_a (by omega)]; exact g2) hI_.1 hI_sI) rfl ⟨cd_X10_ends, lk_X10_109, im_X10_ends, se_X10_X10_ends, in_X10⟩ ⟨⟨by decide, by decide⟩, by decide⟩ rfl rfl rfl (E3.m q.1).1 ⟨rfl, by decide⟩ (zafR (fun h2 ⟨E2, k2⟩ => ?_)) (zno)
    refine zV.iret C F dX10_moveChair_17 rfl ?_
    exact mch_0 q E1 t1 e1 p1 E2 k2
  · obtain rfl := e9.symm
    have e1 : (jd g 109 x y).1 = 1 := e1
    show zV X 0 0 _ 11 _ [.int (nI 1), .ref r]
    refine zV.ic (v := nI 1) C dX10_moveChair_11 (by decide) ?_
    refine zV.ic (v := nI 0) C dX10_moveChair_12 (by decide) ?_
    refine zV.ic (v := nI 2) C dX10_moveChair_13 (by decide) ?_
    refine zV.callV (n := 4) C G dX10_moveChair_14 (s_mends1 hzs hst H1 r (nI 1) (nI 0) (nI 2) m1) rfl ⟨cd_X10_ends, lk_X10_109, im_X10_ends, se_X10_X10_ends, in_X10⟩ ⟨⟨by decide, by decide⟩, by decide⟩ rfl rfl rfl m1.1 ⟨rfl, by decide⟩ (zaf ?_) (zno)
    refine zV.iret C F dX10_moveChair_17 rfl ?_
    exact mch_x q E1 (by omega) (by omega) (by unfold cod; rw [if_neg (by omega), if_pos e1])
  · obtain rfl := e9.symm
    have e1 : (jd g 109 x y).1 = 2 := e1
    show zV X 0 0 _ 11 _ [.int (nI 2), .ref r]
    refine zV.ic (v := nI 1) C dX10_moveChair_11 (by decide) ?_
    refine zV.ic (v := nI 0) C dX10_moveChair_12 (by decide) ?_
    refine zV.ic (v := nI 2) C dX10_moveChair_13 (by decide) ?_
    refine zV.callV (n := 4) C G dX10_moveChair_14 (s_mends2 hzs hst H1 r (nI 1) (nI 0) (nI 2) m1) rfl ⟨cd_X10_ends, lk_X10_109, im_X10_ends, se_X10_X10_ends, in_X10⟩ ⟨⟨by decide, by decide⟩, by decide⟩ rfl rfl rfl m1.1 ⟨rfl, by decide⟩ (zaf ?_) (zno)
    refine zV.iret C F dX10_moveChair_17 rfl ?_
    exact mch_x q E1 (by omega) (by omega) (by unfold cod; rw [if_neg (by omega), if_neg (by omega), if_pos e1])
  · show zV X 0 0 _ 11 _ [.int (-1), .ref r]
    refine zV.ic (v := nI 1) C dX10_moveChair_11 (by decide) ?_
    refine zV.ic (v := nI 0) C dX10_moveChair_12 (by decide) ?_
    refine zV.ic (v := nI 2) C dX10_moveChair_13 (by decide) ?_
    refine zV.callV (n := 4) C G dX10_moveChair_14 (s_mends3 hzs hst (rjM H1 r (nI (jd g 109 x y).2.1) (jd g 109 x y).2.2) r (nI 1) (nI 0) (nI 2) m1) rfl ⟨cd_X10_ends, lk_X10_109, im_X10_ends, se_X10_X10_ends, in_X10⟩ ⟨⟨by decide, by decide⟩, by decide⟩ rfl rfl rfl m1.1 ⟨rfl, by decide⟩ (zaf ?_) (zno)
    refine zV.iret C F dX10_moveChair_17 rfl ?_
    exact mch_3 q E1 e1
set_option maxHeartbeats 4000000 in
set_option maxRecDepth 100000 in
theorem s_mmigrate {l : Launch} {E : zG} (hzs : zS E) (hst : l.stackTraces = false) (h : zH) (r m : Nat) (g : zGd) (us : List zGd) (sn : Option zGd) (off rs dt cs : Int32) (t o : List Nat) (x y : Int32) (q : rSt h r g us sn off rs dt cs t o) (hI_ : rIv m g us sn) (hb : m + 3000 ≤ big) : zMet l E yX10_migrate cX10_migrate 3 (some .int) ({ frames := 4, cells := 0, slots := 0, locals := 92 } : Room) 0 0 [.ref r, .int x, .int y] h (mchQ h r (jd g 103 x y) (ap g 103 x y) 1 0 2 g us sn off rs dt cs t o) (fun _ _ => False) := by
  refine zM_start hzs hst (by decide) (Nat.le_of_ble_eq_true rfl) (fun X C G F I => ?_)
  show zV X 0 0 _ 0 [(0, _), (1, _), (2, _)] []
  refine zV.aload_n C dX10_migrate_0 rfl rfl ?_
  refine zV.callV (n := 0) C G dX10_migrate_1 (s_mtries hzs hst h r q.1) rfl ⟨cd_X10_tries, lk_X10_103, im_X10_tries, se_X10_X10_tries, in_X10⟩ ⟨⟨by decide, by decide⟩, by decide⟩ rfl rfl rfl q.1.1 ⟨rfl, by decide⟩ (zafv ?_) (zno)
  obtain ⟨H1, hH1, E1, m1, g1, g2, t1⟩ := tr_st q.1 q.2.1 hI_.1
  rw [← hH1]
  refine zV.aload_n C dX10_migrate_4 rfl rfl ?_
  refine zV.aload_n C dX10_migrate_5 rfl rfl ?_
  refine zV.iload_n C dX10_migrate_6 rfl ?_
  refine zV.iload_n C dX10_migrate_7 rfl ?_
  refine zV.callV (n := 2) C G dX10_migrate_8 (s_mwanders hzs hst H1 r m g m1 g1 hI_.1 hb x y) rfl ⟨cd_X10_wanders, lk_X10_153, im_X10_wanders, se_X10_X10_wanders, in_X10⟩ ⟨⟨by decide, by decide⟩, by decide⟩ rfl rfl rfl m1.1 ⟨rfl, by decide⟩ (zafX (fun v1 h1 q1 => ?_)) (zno)
  rcases q1 with ⟨e1, rfl, f1, rfl, p1⟩ | ⟨e1, rfl, e9⟩ | ⟨e1, rfl, e9⟩ | ⟨e1, rfl, rfl⟩
  · show zV X 0 0 _ 11 _ [.int (nI 0), .ref r]
    have E3 : rE h (sI (sRow H1 (r + 1) f1) 434 r (ap g 103 x y).2) r [435, 434] [2, 1] := ((E1.trans rE.a).trans rE.i).mono (by simp) (by simp)
    refine zV.ic (v := nI 1) C dX10_migrate_11 (by decide) ?_
    refine zV.ic (v := nI 0) C dX10_migrate_12 (by decide) ?_
    refine zV.ic (v := nI 2) C dX10_migrate_13 (by decide) ?_
    refine zV.callV (n := 4) C G dX10_migrate_14 (s_mends0 hzs hst (sI (sRow H1 (r + 1) f1) 434 r (ap g 103 x y).2) r m us g (ap g 103 x y).2 (nI 1) (nI 0) (nI 2) (E3.m q.1) (rKp_e q.2.2.1 E3 (by decide) (by decide)) hI_.2.1 (by rw [show aI (sI (sRow H1 (r + 1) f1) 434 r (ap g 103 x y).2) (r + 2) = aI H1 (r + 2) from aI_sRow_a (by omega)]; exact g2) hI_.1 hI_sI) rfl ⟨cd_X10_ends, lk_X10_109, im_X10_ends, se_X10_X10_ends, in_X10⟩ ⟨⟨by decide, by decide⟩, by decide⟩ rfl rfl rfl (E3.m q.1).1 ⟨rfl, by decide⟩ (zafR (fun h2 ⟨E2, k2⟩ => ?_)) (zno)
    refine zV.iret C F dX10_migrate_17 rfl ?_
    exact mch_0 q E1 t1 e1 p1 E2 k2
  · obtain rfl := e9.symm
    have e1 : (jd g 103 x y).1 = 1 := e1
    show zV X 0 0 _ 11 _ [.int (nI 1), .ref r]
    refine zV.ic (v := nI 1) C dX10_migrate_11 (by decide) ?_
    refine zV.ic (v := nI 0) C dX10_migrate_12 (by decide) ?_
    refine zV.ic (v := nI 2) C dX10_migrate_13 (by decide) ?_
    refine zV.callV (n := 4) C G dX10_migrate_14 (s_mends1 hzs hst H1 r (nI 1) (nI 0) (nI 2) m1) rfl ⟨cd_X10_ends, lk_X10_109, im_X10_ends, se_X10_X10_ends, in_X10⟩ ⟨⟨by decide, by decide⟩, by decide⟩ rfl rfl rfl m1.1 ⟨rfl, by decide⟩ (zaf ?_) (zno)
    refine zV.iret C F dX10_migrate_17 rfl ?_
    exact mch_x q E1 (by omega) (by omega) (by unfold cod; rw [if_neg (by omega), if_pos e1])
  · obtain rfl := e9.symm
    have e1 : (jd g 103 x y).1 = 2 := e1
    show zV X 0 0 _ 11 _ [.int (nI 2), .ref r]
    refine zV.ic (v := nI 1) C dX10_migrate_11 (by decide) ?_
    refine zV.ic (v := nI 0) C dX10_migrate_12 (by decide) ?_
    refine zV.ic (v := nI 2) C dX10_migrate_13 (by decide) ?_
    refine zV.callV (n := 4) C G dX10_migrate_14 (s_mends2 hzs hst H1 r (nI 1) (nI 0) (nI 2) m1) rfl ⟨cd_X10_ends, lk_X10_109, im_X10_ends, se_X10_X10_ends, in_X10⟩ ⟨⟨by decide, by decide⟩, by decide⟩ rfl rfl rfl m1.1 ⟨rfl, by decide⟩ (zaf ?_) (zno)
    refine zV.iret C F dX10_migrate_17 rfl ?_
    exact mch_x q E1 (by omega) (by omega) (by unfold cod; rw [if_neg (by omega), if_neg (by omega), if_pos e1])
  · show zV X 0 0 _ 11 _ [.int (-1), .ref r]
    refine zV.ic (v := nI 1) C dX10_migrate_11 (by decide) ?_
    refine zV.ic (v := nI 0) C dX10_migrate_12 (by decide) ?_
    refine zV.ic (v := nI 2) C dX10_migrate_13 (by decide) ?_
    refine zV.callV (n := 4) C G dX10_migrate_14 (s_mends3 hzs hst (rjM H1 r (nI (jd g 103 x y).2.1) (jd g 103 x y).2.2) r (nI 1) (nI 0) (nI 2) m1) rfl ⟨cd_X10_ends, lk_X10_109, im_X10_ends, se_X10_X10_ends, in_X10⟩ ⟨⟨by decide, by decide⟩, by decide⟩ rfl rfl rfl m1.1 ⟨rfl, by decide⟩ (zaf ?_) (zno)
    refine zV.iret C F dX10_migrate_17 rfl ?_
    exact mch_3 q E1 e1
set_option maxHeartbeats 4000000 in
set_option maxRecDepth 100000 in
theorem s_moilChair {l : Launch} {E : zG} (hzs : zS E) (hst : l.stackTraces = false) (h : zH) (r m : Nat) (g : zGd) (us : List zGd) (sn : Option zGd) (off rs dt cs : Int32) (t o : List Nat) (x : Int32) (q : rSt h r g us sn off rs dt cs t o) (hI_ : rIv m g us sn) (hb : m + 3000 ≤ big) : zMet l E yX10_oilChair cX10_oilChair 2 (some .int) ({ frames := 3, cells := 0, slots := 0, locals := 66 } : Room) 0 0 [.ref r, .int x] h (mchQ h r (jd g 111 x 0) (ap g 111 x 0) 1 0 2 g us sn off rs dt cs t o) (fun _ _ => False) := by
  refine zM_start hzs hst (by decide) (Nat.le_of_ble_eq_true rfl) (fun X C G F I => ?_)
  show zV X 0 0 _ 0 [(0, _), (1, _)] []
  refine zV.aload_n C dX10_oilChair_0 rfl rfl ?_
  refine zV.callV (n := 0) C G dX10_oilChair_1 (s_mtries hzs hst h r q.1) rfl ⟨cd_X10_tries, lk_X10_103, im_X10_tries, se_X10_X10_tries, in_X10⟩ ⟨⟨by decide, by decide⟩, by decide⟩ rfl rfl rfl q.1.1 ⟨rfl, by decide⟩ (zafv ?_) (zno)
  obtain ⟨H1, hH1, E1, m1, g1, g2, t1⟩ := tr_st q.1 q.2.1 hI_.1
  rw [← hH1]
  refine zV.aload_n C dX10_oilChair_4 rfl rfl ?_
  refine zV.aload_n C dX10_oilChair_5 rfl rfl ?_
  refine zV.iload_n C dX10_oilChair_6 rfl ?_
  refine zV.callV (n := 1) C G dX10_oilChair_7 (s_moils hzs hst H1 r m g m1 g1 hI_.1 hb x) rfl ⟨cd_X10_oils, lk_X10_161, im_X10_oils, se_X10_X10_oils, in_X10⟩ ⟨⟨by decide, by decide⟩, by decide⟩ rfl rfl rfl m1.1 ⟨rfl, by decide⟩ (zafX (fun v1 h1 q1 => ?_)) (zno)
  rcases q1 with ⟨e1, rfl, f1, rfl, p1⟩ | ⟨e1, rfl, e9⟩ | ⟨e1, rfl, e9⟩ | ⟨e1, rfl, rfl⟩
  · show zV X 0 0 _ 10 _ [.int (nI 0), .ref r]
    have E3 : rE h (sI (sRow H1 (r + 1) f1) 434 r (ap g 111 x 0).2) r [435, 434] [2, 1] := ((E1.trans rE.a).trans rE.i).mono (by simp) (by simp)
    refine zV.ic (v := nI 1) C dX10_oilChair_10 (by decide) ?_
    refine zV.ic (v := nI 0) C dX10_oilChair_11 (by decide) ?_
    refine zV.ic (v := nI 2) C dX10_oilChair_12 (by decide) ?_
    refine zV.callV (n := 4) C G dX10_oilChair_13 (s_mends0 hzs hst (sI (sRow H1 (r + 1) f1) 434 r (ap g 111 x 0).2) r m us g (ap g 111 x 0).2 (nI 1) (nI 0) (nI 2) (E3.m q.1) (rKp_e q.2.2.1 E3 (by decide) (by decide)) hI_.2.1 (by rw [show aI (sI (sRow H1 (r + 1) f1) 434 r (ap g 111 x 0).2) (r + 2) = aI H1 (r + 2) from aI_sRow_a (by omega)]; exact g2) hI_.1 hI_sI) rfl ⟨cd_X10_ends, lk_X10_109, im_X10_ends, se_X10_X10_ends, in_X10⟩ ⟨⟨by decide, by decide⟩, by decide⟩ rfl rfl rfl (E3.m q.1).1 ⟨rfl, by decide⟩ (zafR (fun h2 ⟨E2, k2⟩ => ?_)) (zno)
    refine zV.iret C F dX10_oilChair_16 rfl ?_
    exact mch_0 q E1 t1 e1 p1 E2 k2
  · obtain rfl := e9.symm
    have e1 : (jd g 111 x 0).1 = 1 := e1
    show zV X 0 0 _ 10 _ [.int (nI 1), .ref r]
    refine zV.ic (v := nI 1) C dX10_oilChair_10 (by decide) ?_
    refine zV.ic (v := nI 0) C dX10_oilChair_11 (by decide) ?_
    refine zV.ic (v := nI 2) C dX10_oilChair_12 (by decide) ?_
    refine zV.callV (n := 4) C G dX10_oilChair_13 (s_mends1 hzs hst H1 r (nI 1) (nI 0) (nI 2) m1) rfl ⟨cd_X10_ends, lk_X10_109, im_X10_ends, se_X10_X10_ends, in_X10⟩ ⟨⟨by decide, by decide⟩, by decide⟩ rfl rfl rfl m1.1 ⟨rfl, by decide⟩ (zaf ?_) (zno)
    refine zV.iret C F dX10_oilChair_16 rfl ?_
    exact mch_x q E1 (by omega) (by omega) (by unfold cod; rw [if_neg (by omega), if_pos e1])
  · obtain rfl := e9.symm
    have e1 : (jd g 111 x 0).1 = 2 := e1
    show zV X 0 0 _ 10 _ [.int (nI 2), .ref r]
    refine zV.ic (v := nI 1) C dX10_oilChair_10 (by decide) ?_
    refine zV.ic (v := nI 0) C dX10_oilChair_11 (by decide) ?_
    refine zV.ic (v := nI 2) C dX10_oilChair_12 (by decide) ?_
    refine zV.callV (n := 4) C G dX10_oilChair_13 (s_mends2 hzs hst H1 r (nI 1) (nI 0) (nI 2) m1) rfl ⟨cd_X10_ends, lk_X10_109, im_X10_ends, se_X10_X10_ends, in_X10⟩ ⟨⟨by decide, by decide⟩, by decide⟩ rfl rfl rfl m1.1 ⟨rfl, by decide⟩ (zaf ?_) (zno)
    refine zV.iret C F dX10_oilChair_16 rfl ?_
    exact mch_x q E1 (by omega) (by omega) (by unfold cod; rw [if_neg (by omega), if_neg (by omega), if_pos e1])
  · show zV X 0 0 _ 10 _ [.int (-1), .ref r]
    refine zV.ic (v := nI 1) C dX10_oilChair_10 (by decide) ?_
    refine zV.ic (v := nI 0) C dX10_oilChair_11 (by decide) ?_
    refine zV.ic (v := nI 2) C dX10_oilChair_12 (by decide) ?_
    refine zV.callV (n := 4) C G dX10_oilChair_13 (s_mends3 hzs hst (rjM H1 r (nI (jd g 111 x 0).2.1) (jd g 111 x 0).2.2) r (nI 1) (nI 0) (nI 2) m1) rfl ⟨cd_X10_ends, lk_X10_109, im_X10_ends, se_X10_X10_ends, in_X10⟩ ⟨⟨by decide, by decide⟩, by decide⟩ rfl rfl rfl m1.1 ⟨rfl, by decide⟩ (zaf ?_) (zno)
    refine zV.iret C F dX10_oilChair_16 rfl ?_
    exact mch_3 q E1 e1
set_option maxHeartbeats 4000000 in
set_option maxRecDepth 100000 in
theorem s_maddOil {l : Launch} {E : zG} (hzs : zS E) (hst : l.stackTraces = false) (h : zH) (r m : Nat) (g : zGd) (us : List zGd) (sn : Option zGd) (off rs dt cs : Int32) (t o : List Nat) (x : Int32) (q : rSt h r g us sn off rs dt cs t o) (hI_ : rIv m g us sn) (hb : m + 3000 ≤ big) : zMet l E yX10_addOil cX10_addOil 2 (some .int) ({ frames := 2, cells := 0, slots := 0, locals := 46 } : Room) 0 0 [.ref r, .int x] h (mchQ h r (jd g 97 x 0) (ap g 97 x 0) 0 1 2 g us sn off rs dt cs t o) (fun _ _ => False) := by
  refine zM_start hzs hst (by decide) (Nat.le_of_ble_eq_true rfl) (fun X C G F I => ?_)
  show zV X 0 0 _ 0 [(0, _), (1, _)] []
  refine zV.aload_n C dX10_addOil_0 rfl rfl ?_
  refine zV.callV (n := 0) C G dX10_addOil_1 (s_mtries hzs hst h r q.1) rfl ⟨cd_X10_tries, lk_X10_103, im_X10_tries, se_X10_X10_tries, in_X10⟩ ⟨⟨by decide, by decide⟩, by decide⟩ rfl rfl rfl q.1.1 ⟨rfl, by decide⟩ (zafv ?_) (zno)
  obtain ⟨H1, hH1, E1, m1, g1, g2, t1⟩ := tr_st q.1 q.2.1 hI_.1
  rw [← hH1]
  refine zV.aload_n C dX10_addOil_4 rfl rfl ?_
  refine zV.aload_n C dX10_addOil_5 rfl rfl ?_
  refine zV.iload_n C dX10_addOil_6 rfl ?_
  refine zV.callV (n := 1) C G dX10_addOil_7 (s_mstores hzs hst H1 r m g m1 g1 hI_.1 hb x) rfl ⟨cd_X10_stores, lk_X10_164, im_X10_stores, se_X10_X10_stores, in_X10⟩ ⟨⟨by decide, by decide⟩, by decide⟩ rfl rfl rfl m1.1 ⟨rfl, by decide⟩ (zafX (fun v1 h1 q1 => ?_)) (zno)
  rcases q1 with ⟨e1, rfl, f1, rfl, p1⟩ | ⟨e1, rfl, e9⟩ | ⟨e1, rfl, e9⟩ | ⟨e1, rfl, rfl⟩
  · show zV X 0 0 _ 10 _ [.int (nI 0), .ref r]
    have E3 : rE h (sI (sRow H1 (r + 1) f1) 434 r (ap g 97 x 0).2) r [435, 434] [2, 1] := ((E1.trans rE.a).trans rE.i).mono (by simp) (by simp)
    refine zV.ic (v := nI 0) C dX10_addOil_10 (by decide) ?_
    refine zV.ic (v := nI 1) C dX10_addOil_11 (by decide) ?_
    refine zV.ic (v := nI 2) C dX10_addOil_12 (by decide) ?_
    refine zV.callV (n := 4) C G dX10_addOil_13 (s_mends0 hzs hst (sI (sRow H1 (r + 1) f1) 434 r (ap g 97 x 0).2) r m us g (ap g 97 x 0).2 (nI 0) (nI 1) (nI 2) (E3.m q.1) (rKp_e q.2.2.1 E3 (by decide) (by decide)) hI_.2.1 (by rw [show aI (sI (sRow H1 (r + 1) f1) 434 r (ap g 97 x 0).2) (r + 2) = aI H1 (r + 2) from aI_sRow_a (by omega)]; exact g2) hI_.1 hI_sI) rfl ⟨cd_X10_ends, lk_X10_109, im_X10_ends, se_X10_X10_ends, in_X10⟩ ⟨⟨by decide, by decide⟩, by decide⟩ rfl rfl rfl (E3.m q.1).1 ⟨rfl, by decide⟩ (zafR (fun h2 ⟨E2, k2⟩ => ?_)) (zno)
    refine zV.iret C F dX10_addOil_16 rfl ?_
    exact mch_0 q E1 t1 e1 p1 E2 k2
  · obtain rfl := e9.symm
    have e1 : (jd g 97 x 0).1 = 1 := e1
    show zV X 0 0 _ 10 _ [.int (nI 1), .ref r]
    refine zV.ic (v := nI 0) C dX10_addOil_10 (by decide) ?_
    refine zV.ic (v := nI 1) C dX10_addOil_11 (by decide) ?_
    refine zV.ic (v := nI 2) C dX10_addOil_12 (by decide) ?_
    refine zV.callV (n := 4) C G dX10_addOil_13 (s_mends1 hzs hst H1 r (nI 0) (nI 1) (nI 2) m1) rfl ⟨cd_X10_ends, lk_X10_109, im_X10_ends, se_X10_X10_ends, in_X10⟩ ⟨⟨by decide, by decide⟩, by decide⟩ rfl rfl rfl m1.1 ⟨rfl, by decide⟩ (zaf ?_) (zno)
    refine zV.iret C F dX10_addOil_16 rfl ?_
    exact mch_x q E1 (by omega) (by omega) (by unfold cod; rw [if_neg (by omega), if_pos e1])
  · obtain rfl := e9.symm
    have e1 : (jd g 97 x 0).1 = 2 := e1
    show zV X 0 0 _ 10 _ [.int (nI 2), .ref r]
    refine zV.ic (v := nI 0) C dX10_addOil_10 (by decide) ?_
    refine zV.ic (v := nI 1) C dX10_addOil_11 (by decide) ?_
    refine zV.ic (v := nI 2) C dX10_addOil_12 (by decide) ?_
    refine zV.callV (n := 4) C G dX10_addOil_13 (s_mends2 hzs hst H1 r (nI 0) (nI 1) (nI 2) m1) rfl ⟨cd_X10_ends, lk_X10_109, im_X10_ends, se_X10_X10_ends, in_X10⟩ ⟨⟨by decide, by decide⟩, by decide⟩ rfl rfl rfl m1.1 ⟨rfl, by decide⟩ (zaf ?_) (zno)
    refine zV.iret C F dX10_addOil_16 rfl ?_
    exact mch_x q E1 (by omega) (by omega) (by unfold cod; rw [if_neg (by omega), if_neg (by omega), if_pos e1])
  · show zV X 0 0 _ 10 _ [.int (-1), .ref r]
    refine zV.ic (v := nI 0) C dX10_addOil_10 (by decide) ?_
    refine zV.ic (v := nI 1) C dX10_addOil_11 (by decide) ?_
    refine zV.ic (v := nI 2) C dX10_addOil_12 (by decide) ?_
    refine zV.callV (n := 4) C G dX10_addOil_13 (s_mends3 hzs hst (rjM H1 r (nI (jd g 97 x 0).2.1) (jd g 97 x 0).2.2) r (nI 0) (nI 1) (nI 2) m1) rfl ⟨cd_X10_ends, lk_X10_109, im_X10_ends, se_X10_X10_ends, in_X10⟩ ⟨⟨by decide, by decide⟩, by decide⟩ rfl rfl rfl m1.1 ⟨rfl, by decide⟩ (zaf ?_) (zno)
    refine zV.iret C F dX10_addOil_16 rfl ?_
    exact mch_3 q E1 e1
set_option maxHeartbeats 4000000 in
set_option maxRecDepth 100000 in
theorem s_mpassDays {l : Launch} {E : zG} (hzs : zS E) (hst : l.stackTraces = false) (h : zH) (r m : Nat) (g : zGd) (us : List zGd) (sn : Option zGd) (off rs dt cs : Int32) (t o : List Nat) (x : Int32) (q : rSt h r g us sn off rs dt cs t o) (hI_ : rIv m g us sn) (hb : m + 3000 ≤ big) : zMet l E yX10_passDays cX10_passDays 2 (some .int) ({ frames := 5, cells := 0, slots := 0, locals := 118 } : Room) 0 0 [.ref r, .int x] h (mchQ h r (jd g 100 x 0) (ap g 100 x 0) 0 1 0 g us sn off rs dt cs t o) (fun _ _ => False) := by
  refine zM_start hzs hst (by decide) (Nat.le_of_ble_eq_true rfl) (fun X C G F I => ?_)
  show zV X 0 0 _ 0 [(0, _), (1, _)] []
  refine zV.aload_n C dX10_passDays_0 rfl rfl ?_
  refine zV.callV (n := 0) C G dX10_passDays_1 (s_mtries hzs hst h r q.1) rfl ⟨cd_X10_tries, lk_X10_103, im_X10_tries, se_X10_X10_tries, in_X10⟩ ⟨⟨by decide, by decide⟩, by decide⟩ rfl rfl rfl q.1.1 ⟨rfl, by decide⟩ (zafv ?_) (zno)
  obtain ⟨H1, hH1, E1, m1, g1, g2, t1⟩ := tr_st q.1 q.2.1 hI_.1
  rw [← hH1]
  refine zV.aload_n C dX10_passDays_4 rfl rfl ?_
  refine zV.aload_n C dX10_passDays_5 rfl rfl ?_
  refine zV.iload_n C dX10_passDays_6 rfl ?_
  refine zV.callV (n := 1) C G dX10_passDays_7 (s_mpasses hzs hst H1 r m g m1 g1 hI_.1 hb x) rfl ⟨cd_X10_passes, lk_X10_173, im_X10_passes, se_X10_X10_passes, in_X10⟩ ⟨⟨by decide, by decide⟩, by decide⟩ rfl rfl rfl m1.1 ⟨rfl, by decide⟩ (zafX (fun v1 h1 q1 => ?_)) (zno)
  rcases q1 with ⟨e1, rfl, f1, rfl, p1⟩ | ⟨e1, rfl, e9⟩ | ⟨e1, rfl, e9⟩ | ⟨e1, rfl, rfl⟩
  · show zV X 0 0 _ 10 _ [.int (nI 0), .ref r]
    have E3 : rE h (sI (sRow H1 (r + 1) f1) 434 r (ap g 100 x 0).2) r [435, 434] [2, 1] := ((E1.trans rE.a).trans rE.i).mono (by simp) (by simp)
    refine zV.ic (v := nI 0) C dX10_passDays_10 (by decide) ?_
    refine zV.ic (v := nI 1) C dX10_passDays_11 (by decide) ?_
    refine zV.ic (v := nI 0) C dX10_passDays_12 (by decide) ?_
    refine zV.callV (n := 4) C G dX10_passDays_13 (s_mends0 hzs hst (sI (sRow H1 (r + 1) f1) 434 r (ap g 100 x 0).2) r m us g (ap g 100 x 0).2 (nI 0) (nI 1) (nI 0) (E3.m q.1) (rKp_e q.2.2.1 E3 (by decide) (by decide)) hI_.2.1 (by rw [show aI (sI (sRow H1 (r + 1) f1) 434 r (ap g 100 x 0).2) (r + 2) = aI H1 (r + 2) from aI_sRow_a (by omega)]; exact g2) hI_.1 hI_sI) rfl ⟨cd_X10_ends, lk_X10_109, im_X10_ends, se_X10_X10_ends, in_X10⟩ ⟨⟨by decide, by decide⟩, by decide⟩ rfl rfl rfl (E3.m q.1).1 ⟨rfl, by decide⟩ (zafR (fun h2 ⟨E2, k2⟩ => ?_)) (zno)
    refine zV.iret C F dX10_passDays_16 rfl ?_
    exact mch_0 q E1 t1 e1 p1 E2 k2
  · obtain rfl := e9.symm
    have e1 : (jd g 100 x 0).1 = 1 := e1
    show zV X 0 0 _ 10 _ [.int (nI 1), .ref r]
    refine zV.ic (v := nI 0) C dX10_passDays_10 (by decide) ?_
    refine zV.ic (v := nI 1) C dX10_passDays_11 (by decide) ?_
    refine zV.ic (v := nI 0) C dX10_passDays_12 (by decide) ?_
    refine zV.callV (n := 4) C G dX10_passDays_13 (s_mends1 hzs hst H1 r (nI 0) (nI 1) (nI 0) m1) rfl ⟨cd_X10_ends, lk_X10_109, im_X10_ends, se_X10_X10_ends, in_X10⟩ ⟨⟨by decide, by decide⟩, by decide⟩ rfl rfl rfl m1.1 ⟨rfl, by decide⟩ (zaf ?_) (zno)
    refine zV.iret C F dX10_passDays_16 rfl ?_
    exact mch_x q E1 (by omega) (by omega) (by unfold cod; rw [if_neg (by omega), if_pos e1])
  · obtain rfl := e9.symm
    have e1 : (jd g 100 x 0).1 = 2 := e1
    show zV X 0 0 _ 10 _ [.int (nI 2), .ref r]
    refine zV.ic (v := nI 0) C dX10_passDays_10 (by decide) ?_
    refine zV.ic (v := nI 1) C dX10_passDays_11 (by decide) ?_
    refine zV.ic (v := nI 0) C dX10_passDays_12 (by decide) ?_
    refine zV.callV (n := 4) C G dX10_passDays_13 (s_mends2 hzs hst H1 r (nI 0) (nI 1) (nI 0) m1) rfl ⟨cd_X10_ends, lk_X10_109, im_X10_ends, se_X10_X10_ends, in_X10⟩ ⟨⟨by decide, by decide⟩, by decide⟩ rfl rfl rfl m1.1 ⟨rfl, by decide⟩ (zaf ?_) (zno)
    refine zV.iret C F dX10_passDays_16 rfl ?_
    exact mch_x q E1 (by omega) (by omega) (by unfold cod; rw [if_neg (by omega), if_neg (by omega), if_pos e1])
  · show zV X 0 0 _ 10 _ [.int (-1), .ref r]
    refine zV.ic (v := nI 0) C dX10_passDays_10 (by decide) ?_
    refine zV.ic (v := nI 1) C dX10_passDays_11 (by decide) ?_
    refine zV.ic (v := nI 0) C dX10_passDays_12 (by decide) ?_
    refine zV.callV (n := 4) C G dX10_passDays_13 (s_mends3 hzs hst (rjM H1 r (nI (jd g 100 x 0).2.1) (jd g 100 x 0).2.2) r (nI 0) (nI 1) (nI 0) m1) rfl ⟨cd_X10_ends, lk_X10_109, im_X10_ends, se_X10_X10_ends, in_X10⟩ ⟨⟨by decide, by decide⟩, by decide⟩ rfl rfl rfl m1.1 ⟨rfl, by decide⟩ (zaf ?_) (zno)
    refine zV.iret C F dX10_passDays_16 rfl ?_
    exact mch_3 q E1 e1
