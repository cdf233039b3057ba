/-! StringBuilder, Judge and ChairMigration made -/
/-- a field of the object a set to a part that was made at n -/
def zStg (h H : zH) (a n n' f : Nat) : Prop := hN H = n' ∧ (∀ c, c < n → c ≠ a → zEq h H c) ∧ hK H a = hK h a ∧ (∀ g, hI H g a = hI h g a) ∧ (∀ g, g ≠ f → hR H g a = hR h g a) ∧ hR H f a = some n
theorem zStg_of {h h1 : zH} {a n n' f k z : Nat} (hn : hN h = n) (ha : a < n) (x : zEx (hNew h k z) h1 n) (n1 : hN h1 = n') : zStg h (sR h1 f a (some n)) a n n' f ∧ ∀ c, n ≤ c → zEq h1 (sR h1 f a (some n)) c := by
  have e : ∀ c, c < n → zEq h h1 c := fun c hc => (zEq_new (by omega)).trans (x.2 c hc)
  exact ⟨⟨n1, fun c h1 h2 => (e c h1).trans (zEq_sR h2), (e a ha).1, fun g => (e a ha).2.2.2.1 g, fun g hg => (hR_sR_f hg).trans ((e a ha).2.2.1 g), hR_sR⟩, fun c hc => zEq_sR (by omega)⟩
theorem zOv_e {h h' : zH} {a v lo : Nat} {o : List Nat} (q : zOv h a v lo o) (hn : hN h ≤ hN h') (ea : zEq h h' a) (ev : zEq h h' v) : zOv h' a v lo o := by
  obtain ⟨q1, q2, q3, q4, q5, q6, q7, q8, q9, q10, q11⟩ := q
  exact ⟨ea.1.trans q1, (ea.2.2.2.1 _).trans q2, (ea.2.2.2.1 _).trans q3, (ea.2.2.1 _).trans q4, q5, by omega, ev.1.trans q7, by rw [ev.2.1]; exact q8, by rw [ev.2.1]; exact q9, fun i c hc => ⟨(congrFun ev.2.2.2.2.1 i).trans (q10 i c hc).1, (q10 i c hc).2⟩, by rw [ev.2.2.2.2.1]; exact q11⟩
theorem sbm {h : zH} {a lo : Nat} (hk : hK h a = 2) (hn : hN h = a + 1) (h9 : ∀ f, hI h f a = 0) : zOv (sI (sR (hNew h 101 16) 32 a (some (hN h))) 33 a (nI 0)) a (a + 1) lo [] ∧ hN (sI (sR (hNew h 101 16) 32 a (some (hN h))) 33 a (nI 0)) = a + 2 ∧ zEx h (sI (sR (hNew h 101 16) 32 a (some (hN h))) 33 a (nI 0)) a := by
  rw [← hn]
  have ea : aI (hNew h 101 16) (hN h) = fun _ => 0 := funext fun i => aI_newE (k := 101) (z := 16)
  refine ⟨⟨(hK_new (k := 101) (z := 16) (a := a) (by omega)).trans hk, hI_sI, (hI_sI_f (by decide)).trans ((hI_new (k := 101) (z := 16) (a := a) (by omega)).trans (h9 _)), hR_sR, Or.inl hn, Nat.lt_succ_self _, hK_newE (k := 101) (z := 16), Nat.zero_le _, ?_, (fun i c hc => by cases hc), ?_⟩, congrArg (· + 1) hn, (((zEx.refl h a).new (by omega)).sR (Nat.le_refl _)).sI (Nat.le_refl _)⟩
  · show hL (hNew h 101 16) (hN h) ≤ 200
    rw [hL_newE]; decide
  · show sb_Fit (aI (hNew h 101 16) (hN h))
    rw [ea]; exact sb_fit0
set_option maxHeartbeats 4000000 in
set_option maxRecDepth 100000 in
theorem s_SB5 {l : Launch} {E : zG} (hzs : zS E) (hst : l.stackTraces = false) (h : zH) (a : Nat) (hk : hK h a = 2) (hn : hN h = a + 1) (h9 : ∀ f, hI h f a = 0) : zMet l E yJ5_init_d00df cJ5_init_d00df 2 none ({ frames := 1, cells := 1, slots := 16, locals := 20 } : Room) 1 16 [.ref a, .int (nI 16)] h (fun r h' => r = none ∧ (∀ lo, zOv h' a (a + 1) lo []) ∧ hN h' = a + 2 ∧ zEx h h' a) (fun _ _ => False) := by
  refine zM_start hzs hst (by decide) (Nat.le_of_ble_eq_true rfl) (fun X C G F I => ?_)
  show zV X 0 0 _ 0 [(0, _), (1, _)] []
  have I := I rfl
  refine zV.aload_n C dJ5_init_d00df_0 rfl rfl ?_
  refine zV.obj C G dJ5_init_d00df_1 ⟨lk_J5_3, im_Oinit, cd_Oinit⟩ rfl rfl ?_
  refine zV.gstI C G dJ5_init_d00df_4 (st_compact hzs) lk_J5_18 ?_
  refine zV.if_eq (tgt := 25) C dJ5_init_d00df_7 (by decide) (fun q7 => ?_) (fun q7 => ?_)
  · exact absurd q7 (by decide)
  · refine zV.aload_n C dJ5_init_d00df_10 rfl rfl ?_
    refine zV.iload_n C dJ5_init_d00df_11 rfl ?_
    refine zV.newB (n := 16) C G dJ5_init_d00df_12 ac_byte (rfl) (by decide) rfl ?_
    refine zV.pR 32 (k := 0) C dJ5_init_d00df_14 zcl_J4 (by decide) rfl lk_J5_15 rfl ((hK_new (k := 101) (z := 16) (a := a) (by omega)).trans hk) rfl (fun _ => ⟨rfl, rfl⟩) ?_
    refine zV.aload_n C dJ5_init_d00df_17 rfl rfl ?_
    refine zV.ic (v := nI 0) C dJ5_init_d00df_18 (by decide) ?_
    refine zV.pI 33 (k := 1) C dJ5_init_d00df_19 zcl_J4 (by decide) rfl lk_J5_22 rfl ((hK_new (k := 101) (z := 16) (a := a) (by omega)).trans hk) rfl ⟨rfl, rfl⟩ ?_
    refine zV.goto (tgt := 38) C dJ5_init_d00df_22 (by decide) ?_
    refine zV.vret C F dJ5_init_d00df_38 rfl ?_
    exact ⟨rfl, fun lo => (sbm hk hn h9).1, (sbm (lo := 0) hk hn h9).2⟩
set_option maxHeartbeats 4000000 in
set_option maxRecDepth 100000 in
theorem s_SB {l : Launch} {E : zG} (hzs : zS E) (hst : l.stackTraces = false) (h : zH) (a : Nat) (hk : hK h a = 2) (hn : hN h = a + 1) (h9 : ∀ f, hI h f a = 0) : zMet l E yJ4_init_da8c8 cJ4_init_da8c8 1 none ({ frames := 2, cells := 1, slots := 16, locals := 41 } : Room) 1 16 [.ref a] h (fun r h' => r = none ∧ (∀ lo, zOv h' a (a + 1) lo []) ∧ hN h' = a + 2 ∧ zEx h h' a) (fun _ _ => False) := by
  refine zM_start hzs hst (by decide) (Nat.le_of_ble_eq_true rfl) (fun X C G F I => ?_)
  show zV X 0 0 _ 0 [(0, _)] []
  have I := I rfl
  refine zV.aload_n C dJ4_init_da8c8_0 rfl rfl ?_
  refine zV.bi (v := nI 16) C dJ4_init_da8c8_1 (by decide) ?_
  refine zV.callI (n := 1) C G dJ4_init_da8c8_3 (s_SB5 hzs hst h a hk hn h9) rfl ⟨cd_J5_init_d00df, lk_J4_1, im_J5_init_d00df, in_J5⟩ rfl ⟨⟨by decide, by decide⟩, by decide⟩ rfl rfl rfl (zafRv (fun h1 p1 => ?_)) (zno)
  refine zV.vret C F dJ4_init_da8c8_6 rfl ?_
  exact ⟨rfl, p1⟩
set_option maxHeartbeats 4000000 in
set_option maxRecDepth 100000 in
theorem s_Jinit {l : Launch} {E : zG} (hzs : zS E) (hst : l.stackTraces = false) (h : zH) (a : Nat) : zMet l E yX6_init cX6_init 1 none ({ frames := 1, cells := 0, slots := 0, locals := 20 } : Room) 0 0 [.ref a] h (fun r h' => r = none ∧ h' = h) (fun _ _ => False) := by
  refine zM_start hzs hst (by decide) (Nat.le_of_ble_eq_true rfl) (fun X C G F I => ?_)
  show zV X 0 0 _ 0 [(0, _)] []
  have I := I rfl
  refine zV.aload_n C dX6_init_0 rfl rfl ?_
  refine zV.obj C G dX6_init_1 ⟨lk_X6_3, im_Oinit, cd_Oinit⟩ rfl rfl ?_
  refine zV.vret C F dX6_init_4 rfl ?_
  exact ⟨rfl, rfl⟩
set_option maxHeartbeats 4000000 in
set_option maxRecDepth 100000 in
theorem s_init {l : Launch} {E : zG} (hzs : zS E) (hst : l.stackTraces = false) (h : zH) (a : Nat) (hk : hK h a = 13) (hn : hN h = a + 1) (h9 : ∀ f, hI h f a = 0) : zMet l E yX9_init cX9_init 1 none ({ frames := 5, cells := 270, slots := 1607, locals := 102 } : Room) 270 1607 [.ref a] h (fun r h' => r = none ∧ (∀ lo, a + 271 ≤ lo → zXa h' a lo g00 [] none (-1) 0 0 0 [] []) ∧ hN h' = a + 271 ∧ zEx h h' a) (fun _ _ => False) := by
  refine zM_start hzs hst (by decide) (Nat.le_of_ble_eq_true rfl) (fun X C G F I => ?_)
  show zV X 0 0 _ 0 [(0, _)] []
  have I := I rfl
  refine zV.aload_n C dX9_init_0 rfl rfl ?_
  refine zV.obj C G dX9_init_1 ⟨lk_X9_1, im_Oinit, cd_Oinit⟩ rfl rfl ?_
  refine zV.aload_n C dX9_init_4 rfl rfl ?_
  refine zV.new C G dX9_init_5 zcl_X3 ⟨lk_X9_7, it_X3, in_X3⟩ (by decide) rfl ?_
  refine zV.dup C dX9_init_8 rfl ?_
  rw [show hN h = a + 1 from hn]
  refine zV.callI (n := 0) C G dX9_init_9 (s_Ginit hzs hst (hNew h 7 0) (a + 1) (hn ▸ hK_newE) (congrArg (· + 1) hn) (fun f => hn ▸ hI_newE)) rfl ⟨cd_X3_init, lk_X9_9, im_X3_init, in_X3⟩ rfl ⟨⟨by decide, by decide⟩, by decide⟩ rfl rfl rfl (zafRv (fun h0_ ⟨p0, n0, x0⟩ => ?_)) (zno)
  refine zV.pFR 384 (k := 0) C dX9_init_12 zcl_X9 (by decide) rfl lk_X9_10 rfl I rfl ((x0.2 a (by omega)).1.trans ((hK_new (h := h) (k := 7) (z := 0) (a := a) (by rw [hn]; omega)).trans hk)) rfl (fun _ => ⟨rfl, rfl⟩) ?_
  obtain ⟨S0, T0⟩ := zStg_of (a := a) (n := a + 1) (f := 384) (n' := a + 22) hn (by omega) x0 n0
  have g0 := zGa_e p0 (by decide) (fun c h1 h2 => T0 c (by omega))
  have K0 : hK _ a = 13 := S0.2.2.1.trans hk
  generalize hgg : sR h0_ 384 a (some (a + 1)) = H0_ at *
  clear hgg T0
  refine zV.aload_n C dX9_init_15 rfl rfl ?_
  refine zV.new C G dX9_init_16 zcl_X3 ⟨lk_X9_7, it_X3, in_X3⟩ (by decide) rfl ?_
  refine zV.dup C dX9_init_19 rfl ?_
  rw [show hN H0_ = a + 22 from S0.1]
  refine zV.callI (n := 0) C G dX9_init_20 (s_Ginit hzs hst (hNew H0_ 7 0) (a + 22) (S0.1 ▸ hK_newE) (congrArg (· + 1) S0.1) (fun f => S0.1 ▸ hI_newE)) rfl ⟨cd_X3_init, lk_X9_9, im_X3_init, in_X3⟩ rfl ⟨⟨by decide, by decide⟩, by decide⟩ rfl rfl rfl (zafRv (fun h1_ ⟨p1, n1, x1⟩ => ?_)) (zno)
  refine zV.pFR 385 (k := 1) C dX9_init_23 zcl_X9 (by decide) rfl lk_X9_16 rfl I rfl ((x1.2 a (by omega)).1.trans ((hK_new (h := H0_) (k := 7) (z := 0) (a := a) (by rw [S0.1]; omega)).trans K0)) rfl (fun _ => ⟨rfl, rfl⟩) ?_
  obtain ⟨S1, T1⟩ := zStg_of (a := a) (n := a + 22) (f := 385) (n' := a + 43) S0.1 (by omega) x1 n1
  have g0 := zGa_e g0 (by decide) (fun c h1 h2 => S1.2.1 c (by omega) (by omega))
  have g1 := zGa_e p1 (by decide) (fun c h1 h2 => T1 c (by omega))
  have K1 : hK _ a = 13 := S1.2.2.1.trans K0
  generalize hgg : sR h1_ 385 a (some (a + 22)) = H1_ at *
  clear hgg T1
  refine zV.aload_n C dX9_init_26 rfl rfl ?_
  refine zV.new C G dX9_init_27 zcl_X3 ⟨lk_X9_7, it_X3, in_X3⟩ (by decide) rfl ?_
  refine zV.dup C dX9_init_30 rfl ?_
  rw [show hN H1_ = a + 43 from S1.1]
  refine zV.callI (n := 0) C G dX9_init_31 (s_Ginit hzs hst (hNew H1_ 7 0) (a + 43) (S1.1 ▸ hK_newE) (congrArg (· + 1) S1.1) (fun f => S1.1 ▸ hI_newE)) rfl ⟨cd_X3_init, lk_X9_9, im_X3_init, in_X3⟩ rfl ⟨⟨by decide, by decide⟩, by decide⟩ rfl rfl rfl (zafRv (fun h2_ ⟨p2, n2, x2⟩ => ?_)) (zno)
  refine zV.pFR 386 (k := 2) C dX9_init_34 zcl_X9 (by decide) rfl lk_X9_19 rfl I rfl ((x2.2 a (by omega)).1.trans ((hK_new (h := H1_) (k := 7) (z := 0) (a := a) (by rw [S1.1]; omega)).trans K1)) rfl (fun _ => ⟨rfl, rfl⟩) ?_
  obtain ⟨S2, T2⟩ := zStg_of (a := a) (n := a + 43) (f := 386) (n' := a + 64) S1.1 (by omega) x2 n2
  have g0 := zGa_e g0 (by decide) (fun c h1 h2 => S2.2.1 c (by omega) (by omega))
  have g1 := zGa_e g1 (by decide) (fun c h1 h2 => S2.2.1 c (by omega) (by omega))
  have g2 := zGa_e p2 (by decide) (fun c h1 h2 => T2 c (by omega))
  have K2 : hK _ a = 13 := S2.2.2.1.trans K1
  generalize hgg : sR h2_ 386 a (some (a + 43)) = H2_ at *
  clear hgg T2
  refine zV.aload_n C dX9_init_37 rfl rfl ?_
  refine zV.new C G dX9_init_38 zcl_X3 ⟨lk_X9_7, it_X3, in_X3⟩ (by decide) rfl ?_
  refine zV.dup C dX9_init_41 rfl ?_
  rw [show hN H2_ = a + 64 from S2.1]
  refine zV.callI (n := 0) C G dX9_init_42 (s_Ginit hzs hst (hNew H2_ 7 0) (a + 64) (S2.1 ▸ hK_newE) (congrArg (· + 1) S2.1) (fun f => S2.1 ▸ hI_newE)) rfl ⟨cd_X3_init, lk_X9_9, im_X3_init, in_X3⟩ rfl ⟨⟨by decide, by decide⟩, by decide⟩ rfl rfl rfl (zafRv (fun h3_ ⟨p3, n3, x3⟩ => ?_)) (zno)
  refine zV.pFR 387 (k := 3) C dX9_init_45 zcl_X9 (by decide) rfl lk_X9_22 rfl I rfl ((x3.2 a (by omega)).1.trans ((hK_new (h := H2_) (k := 7) (z := 0) (a := a) (by rw [S2.1]; omega)).trans K2)) rfl (fun _ => ⟨rfl, rfl⟩) ?_
  obtain ⟨S3, T3⟩ := zStg_of (a := a) (n := a + 64) (f := 387) (n' := a + 85) S2.1 (by omega) x3 n3
  have g0 := zGa_e g0 (by decide) (fun c h1 h2 => S3.2.1 c (by omega) (by omega))
  have g1 := zGa_e g1 (by decide) (fun c h1 h2 => S3.2.1 c (by omega) (by omega))
  have g2 := zGa_e g2 (by decide) (fun c h1 h2 => S3.2.1 c (by omega) (by omega))
  have g3 := zGa_e p3 (by decide) (fun c h1 h2 => T3 c (by omega))
  have K3 : hK _ a = 13 := S3.2.2.1.trans K2
  generalize hgg : sR h3_ 387 a (some (a + 64)) = H3_ at *
  clear hgg T3
  refine zV.aload_n C dX9_init_48 rfl rfl ?_
  refine zV.new C G dX9_init_49 zcl_X4 ⟨lk_X9_25, it_X4, in_X4⟩ (by decide) rfl ?_
  refine zV.dup C dX9_init_52 rfl ?_
  rw [show hN H3_ = a + 85 from S3.1]
  refine zV.callI (n := 0) C G dX9_init_53 (s_Hinit hzs hst (hNew H3_ 8 0) (a + 85) (S3.1 ▸ hK_newE) (congrArg (· + 1) S3.1) (fun f => S3.1 ▸ hI_newE)) rfl ⟨cd_X4_init, lk_X9_27, im_X4_init, in_X4⟩ rfl ⟨⟨by decide, by decide⟩, by decide⟩ rfl rfl rfl (zafRv (fun h4_ ⟨p4, n4, x4⟩ => ?_)) (zno)
  refine zV.pFR 388 (k := 4) C dX9_init_56 zcl_X9 (by decide) rfl lk_X9_28 rfl I rfl ((x4.2 a (by omega)).1.trans ((hK_new (h := H3_) (k := 8) (z := 0) (a := a) (by rw [S3.1]; omega)).trans K3)) rfl (fun _ => ⟨rfl, rfl⟩) ?_
  obtain ⟨S4, T4⟩ := zStg_of (a := a) (n := a + 85) (f := 388) (n' := a + 255) S3.1 (by omega) x4 n4
  have g0 := zGa_e g0 (by decide) (fun c h1 h2 => S4.2.1 c (by omega) (by omega))
  have g1 := zGa_e g1 (by decide) (fun c h1 h2 => S4.2.1 c (by omega) (by omega))
  have g2 := zGa_e g2 (by decide) (fun c h1 h2 => S4.2.1 c (by omega) (by omega))
  have g3 := zGa_e g3 (by decide) (fun c h1 h2 => S4.2.1 c (by omega) (by omega))
  have H4 := zHi_e p4 (fun c h1 h2 => T4 c (by omega))
  have K4 : hK _ a = 13 := S4.2.2.1.trans K3
  generalize hgg : sR h4_ 388 a (some (a + 85)) = H4_ at *
  clear hgg T4
  refine zV.aload_n C dX9_init_59 rfl rfl ?_
  refine zV.new C G dX9_init_60 zcl_X5 ⟨lk_X9_32, it_X5, in_X5⟩ (by decide) rfl ?_
  refine zV.dup C dX9_init_63 rfl ?_
  rw [show hN H4_ = a + 255 from S4.1]
  refine zV.callIN (n := 0) C G dX9_init_64 (s_Iinit hzs hst (hNew H4_ 9 0) (a + 255) (S4.1 ▸ hK_newE) (congrArg (· + 1) S4.1)) rfl ⟨cd_X5_init, lk_X9_34, im_X5_init, in_X5⟩ rfl ⟨⟨by decide, by decide⟩, by decide⟩ rfl rfl rfl (zafRv (fun h5_ ⟨p5, n5, x5⟩ => ?_)) (zno)
  refine zV.pFR 389 (k := 5) C dX9_init_67 zcl_X9 (by decide) rfl lk_X9_35 rfl I rfl ((x5.2 a (by omega)).1.trans ((hK_new (h := H4_) (k := 9) (z := 0) (a := a) (by rw [S4.1]; omega)).trans K4)) rfl (fun _ => ⟨rfl, rfl⟩) ?_
  obtain ⟨S5, T5⟩ := zStg_of (a := a) (n := a + 255) (f := 389) (n' := a + 263) S4.1 (by omega) x5 n5
  have g0 := zGa_e g0 (by decide) (fun c h1 h2 => S5.2.1 c (by omega) (by omega))
  have g1 := zGa_e g1 (by decide) (fun c h1 h2 => S5.2.1 c (by omega) (by omega))
  have g2 := zGa_e g2 (by decide) (fun c h1 h2 => S5.2.1 c (by omega) (by omega))
  have g3 := zGa_e g3 (by decide) (fun c h1 h2 => S5.2.1 c (by omega) (by omega))
  have H4 := zHi_e H4 (fun c h1 h2 => S5.2.1 c (by omega) (by omega))
  have I5 := zIs_e p5 (fun c h1 h2 => T5 c (by omega))
  have K5 : hK _ a = 13 := S5.2.2.1.trans K4
  generalize hgg : sR h5_ 389 a (some (a + 255)) = H5_ at *
  clear hgg T5
  refine zV.aload_n C dX9_init_70 rfl rfl ?_
  refine zV.new C G dX9_init_71 zcl_X6 ⟨lk_X9_39, it_X6, in_X6⟩ (by decide) rfl ?_
  refine zV.dup C dX9_init_74 rfl ?_
  rw [show hN H5_ = a + 263 from S5.1]
  refine zV.callIN (n := 0) C G dX9_init_75 (s_Jinit hzs hst (hNew H5_ 10 0) (a + 263)) rfl ⟨cd_X6_init, lk_X9_41, im_X6_init, in_X6⟩ rfl ⟨⟨by decide, by decide⟩, by decide⟩ rfl rfl rfl (zafv ?_) (zno)
  have n6 : hN (hNew H5_ 10 0) = a + 264 := congrArg (· + 1) S5.1
  have x6 : zEx (hNew H5_ 10 0) (hNew H5_ 10 0) (a + 263) := zEx.refl _ _
  refine zV.pFR 390 (k := 6) C dX9_init_78 zcl_X9 (by decide) rfl lk_X9_42 rfl I rfl ((x6.2 a (by omega)).1.trans ((hK_new (h := H5_) (k := 10) (z := 0) (a := a) (by rw [S5.1]; omega)).trans K5)) rfl (fun _ => ⟨rfl, rfl⟩) ?_
  obtain ⟨S6, T6⟩ := zStg_of (a := a) (n := a + 263) (f := 390) (n' := a + 264) S5.1 (by omega) x6 n6
  have g0 := zGa_e g0 (by decide) (fun c h1 h2 => S6.2.1 c (by omega) (by omega))
  have g1 := zGa_e g1 (by decide) (fun c h1 h2 => S6.2.1 c (by omega) (by omega))
  have g2 := zGa_e g2 (by decide) (fun c h1 h2 => S6.2.1 c (by omega) (by omega))
  have g3 := zGa_e g3 (by decide) (fun c h1 h2 => S6.2.1 c (by omega) (by omega))
  have H4 := zHi_e H4 (fun c h1 h2 => S6.2.1 c (by omega) (by omega))
  have I5 := zIs_e I5 (fun c h1 h2 => S6.2.1 c (by omega) (by omega))
  have J6 : hK _ (a + 263) = 10 := (T6 (a + 263) (by omega)).1.trans (S5.1 ▸ hK_newE)
  have K6 : hK _ a = 13 := S6.2.2.1.trans K5
  generalize hgg : sR (hNew H5_ 10 0) 390 a (some (a + 263)) = H6_ at *
  clear hgg T6
  refine zV.aload_n C dX9_init_81 rfl rfl ?_
  refine zV.new C G dX9_init_82 zcl_X1 ⟨lk_X9_46, it_X1, in_X1⟩ (by decide) rfl ?_
  refine zV.dup C dX9_init_85 rfl ?_
  rw [show hN H6_ = a + 264 from S6.1]
  refine zV.callIN (n := 0) C G dX9_init_86 (s_InInit hzs hst (hNew H6_ 6 0) (a + 264) (S6.1 ▸ hK_newE) (congrArg (· + 1) S6.1) (S6.1 ▸ hI_newE)) rfl ⟨cd_X1_init, lk_X9_48, im_X1_init, in_X1⟩ rfl ⟨⟨by decide, by decide⟩, by decide⟩ rfl rfl rfl (zafRv (fun h7_ ⟨p7, n7, x7⟩ => ?_)) (zno)
  refine zV.pFR 391 (k := 7) C dX9_init_89 zcl_X9 (by decide) rfl lk_X9_49 rfl I rfl ((x7.2 a (by omega)).1.trans ((hK_new (h := H6_) (k := 6) (z := 0) (a := a) (by rw [S6.1]; omega)).trans K6)) rfl (fun _ => ⟨rfl, rfl⟩) ?_
  obtain ⟨S7, T7⟩ := zStg_of (a := a) (n := a + 264) (f := 391) (n' := a + 269) S6.1 (by omega) x7 n7
  have g0 := zGa_e g0 (by decide) (fun c h1 h2 => S7.2.1 c (by omega) (by omega))
  have g1 := zGa_e g1 (by decide) (fun c h1 h2 => S7.2.1 c (by omega) (by omega))
  have g2 := zGa_e g2 (by decide) (fun c h1 h2 => S7.2.1 c (by omega) (by omega))
  have g3 := zGa_e g3 (by decide) (fun c h1 h2 => S7.2.1 c (by omega) (by omega))
  have H4 := zHi_e H4 (fun c h1 h2 => S7.2.1 c (by omega) (by omega))
  have I5 := zIs_e I5 (fun c h1 h2 => S7.2.1 c (by omega) (by omega))
  have J6 := (S7.2.1 (a + 263) (by omega) (by omega)).1.trans J6
  have N7 := zIn_e p7 (fun c h1 h2 => T7 c (by omega))
  have K7 : hK _ a = 13 := S7.2.2.1.trans K6
  generalize hgg : sR h7_ 391 a (some (a + 264)) = H7_ at *
  clear hgg T7
  refine zV.aload_n C dX9_init_92 rfl rfl ?_
  refine zV.new C G dX9_init_93 zcl_J4 ⟨lk_X9_53, it_J4, in_J4⟩ (by decide) rfl ?_
  refine zV.dup C dX9_init_96 rfl ?_
  rw [show hN H7_ = a + 269 from S7.1]
  refine zV.callI (n := 0) C G dX9_init_97 (s_SB hzs hst (hNew H7_ 2 0) (a + 269) (S7.1 ▸ hK_newE) (congrArg (· + 1) S7.1) (fun f => S7.1 ▸ hI_newE)) rfl ⟨cd_J4_init_da8c8, lk_X9_55, im_J4_init_da8c8, in_J4⟩ rfl ⟨⟨by decide, by decide⟩, by decide⟩ rfl rfl rfl (zafRv (fun h8_ ⟨p8, n8, x8⟩ => ?_)) (zno)
  refine zV.pFR 392 (k := 8) C dX9_init_100 zcl_X9 (by decide) rfl lk_X9_56 rfl I rfl ((x8.2 a (by omega)).1.trans ((hK_new (h := H7_) (k := 2) (z := 0) (a := a) (by rw [S7.1]; omega)).trans K7)) rfl (fun _ => ⟨rfl, rfl⟩) ?_
  obtain ⟨S8, T8⟩ := zStg_of (a := a) (n := a + 269) (f := 392) (n' := a + 271) S7.1 (by omega) x8 n8
  have g0 := zGa_e g0 (by decide) (fun c h1 h2 => S8.2.1 c (by omega) (by omega))
  have g1 := zGa_e g1 (by decide) (fun c h1 h2 => S8.2.1 c (by omega) (by omega))
  have g2 := zGa_e g2 (by decide) (fun c h1 h2 => S8.2.1 c (by omega) (by omega))
  have g3 := zGa_e g3 (by decide) (fun c h1 h2 => S8.2.1 c (by omega) (by omega))
  have H4 := zHi_e H4 (fun c h1 h2 => S8.2.1 c (by omega) (by omega))
  have I5 := zIs_e I5 (fun c h1 h2 => S8.2.1 c (by omega) (by omega))
  have J6 := (S8.2.1 (a + 263) (by omega) (by omega)).1.trans J6
  have N7 := zIn_e N7 (fun c h1 h2 => S8.2.1 c (by omega) (by omega))
  have O8 := fun lo => zOv_e (h' := sR h8_ 392 a (some (a + 269))) (p8 lo) (Nat.le_refl _) (T8 (a + 269) (by omega)) (T8 (a + 269 + 1) (by omega))
  have K8 : hK _ a = 13 := S8.2.2.1.trans K7
  generalize hgg : sR h8_ 392 a (some (a + 269)) = H8_ at *
  clear hgg T8
  refine zV.aload_n C dX9_init_103 rfl rfl ?_
  refine zV.ic (v := (-1)) C dX9_init_104 (by decide) ?_
  refine zV.pI 394 (k := 10) C dX9_init_105 zcl_X9 (by decide) rfl lk_X9_60 rfl K8 rfl ⟨rfl, rfl⟩ ?_
  refine zV.vret C F dX9_init_108 rfl ?_
  have ez : ∀ c, c ≠ a → zEq H8_ (sI H8_ 394 a (-1)) c := fun c hc => zEq_sI hc
  refine ⟨rfl, fun lo hlo => ⟨⟨K8, ((S8.2.2.2.2.1 _ (by decide)).trans (((S7.2.2.2.2.1 _ (by decide)).trans (((S6.2.2.2.2.1 _ (by decide)).trans (((S5.2.2.2.2.1 _ (by decide)).trans (((S4.2.2.2.2.1 _ (by decide)).trans (((S3.2.2.2.2.1 _ (by decide)).trans (((S2.2.2.2.2.1 _ (by decide)).trans (((S1.2.2.2.2.1 _ (by decide)).trans (S0.2.2.2.2.2)))))))))))))))), ((S8.2.2.2.2.1 _ (by decide)).trans (((S7.2.2.2.2.1 _ (by decide)).trans (((S6.2.2.2.2.1 _ (by decide)).trans (((S5.2.2.2.2.1 _ (by decide)).trans (((S4.2.2.2.2.1 _ (by decide)).trans (((S3.2.2.2.2.1 _ (by decide)).trans (((S2.2.2.2.2.1 _ (by decide)).trans (S1.2.2.2.2.2)))))))))))))), ((S8.2.2.2.2.1 _ (by decide)).trans (((S7.2.2.2.2.1 _ (by decide)).trans (((S6.2.2.2.2.1 _ (by decide)).trans (((S5.2.2.2.2.1 _ (by decide)).trans (((S4.2.2.2.2.1 _ (by decide)).trans (((S3.2.2.2.2.1 _ (by decide)).trans (S2.2.2.2.2.2)))))))))))), ((S8.2.2.2.2.1 _ (by decide)).trans (((S7.2.2.2.2.1 _ (by decide)).trans (((S6.2.2.2.2.1 _ (by decide)).trans (((S5.2.2.2.2.1 _ (by decide)).trans (((S4.2.2.2.2.1 _ (by decide)).trans (S3.2.2.2.2.2)))))))))), ((S8.2.2.2.2.1 _ (by decide)).trans (((S7.2.2.2.2.1 _ (by decide)).trans (((S6.2.2.2.2.1 _ (by decide)).trans (((S5.2.2.2.2.1 _ (by decide)).trans (S4.2.2.2.2.2)))))))), ((S8.2.2.2.2.1 _ (by decide)).trans (((S7.2.2.2.2.1 _ (by decide)).trans (((S6.2.2.2.2.1 _ (by decide)).trans (S5.2.2.2.2.2)))))), ((S8.2.2.2.2.1 _ (by decide)).trans (((S7.2.2.2.2.1 _ (by decide)).trans (S6.2.2.2.2.2)))), ((S8.2.2.2.2.1 _ (by decide)).trans (S7.2.2.2.2.2)), S8.2.2.2.2.2⟩, ⟨zGa_e g0 (by decide) (fun c h1 h2 => zEq_sI (by omega)), zGa_t (zGa_e g1 (by decide) (fun c h1 h2 => zEq_sI (by omega))), zGa_t (zGa_e g2 (by decide) (fun c h1 h2 => zEq_sI (by omega)))⟩, ⟨zGa_t (zGa_e g3 (by decide) (fun c h1 h2 => zEq_sI (by omega))), fun s hs => by cases hs⟩, zHi_e H4 (fun c h1 h2 => zEq_sI (by omega)), zIs_e I5 (fun c h1 h2 => zEq_sI (by omega)), J6, zIn_e N7 (fun c h1 h2 => zEq_sI (by omega)), zOv_u (zOv_e (O8 lo) (Nat.le_refl _) (ez _ (by omega)) (ez _ (by omega))), ⟨((hI_sI_f (by decide)).trans (((S8.2.2.2.1 _).trans (((S7.2.2.2.1 _).trans (((S6.2.2.2.1 _).trans (((S5.2.2.2.1 _).trans (((S4.2.2.2.1 _).trans (((S3.2.2.2.1 _).trans (((S2.2.2.2.1 _).trans (((S1.2.2.2.1 _).trans (((S0.2.2.2.1 _).trans (h9 393)))))))))))))))))))), hI_sI, ((hI_sI_f (by decide)).trans (((S8.2.2.2.1 _).trans (((S7.2.2.2.1 _).trans (((S6.2.2.2.1 _).trans (((S5.2.2.2.1 _).trans (((S4.2.2.2.1 _).trans (((S3.2.2.2.1 _).trans (((S2.2.2.2.1 _).trans (((S1.2.2.2.1 _).trans (((S0.2.2.2.1 _).trans (h9 395)))))))))))))))))))), ((hI_sI_f (by decide)).trans (((S8.2.2.2.1 _).trans (((S7.2.2.2.1 _).trans (((S6.2.2.2.1 _).trans (((S5.2.2.2.1 _).trans (((S4.2.2.2.1 _).trans (((S3.2.2.2.1 _).trans (((S2.2.2.2.1 _).trans (((S1.2.2.2.1 _).trans (((S0.2.2.2.1 _).trans (h9 396)))))))))))))))))))), ((hI_sI_f (by decide)).trans (((S8.2.2.2.1 _).trans (((S7.2.2.2.1 _).trans (((S6.2.2.2.1 _).trans (((S5.2.2.2.1 _).trans (((S4.2.2.2.1 _).trans (((S3.2.2.2.1 _).trans (((S2.2.2.2.1 _).trans (((S1.2.2.2.1 _).trans (((S0.2.2.2.1 _).trans (h9 397))))))))))))))))))))⟩, hlo, Nat.zero_le _⟩, S8.1, ?_⟩
  refine ⟨by show hN h ≤ hN H8_; rw [S8.1]; omega, fun c hc => ?_⟩
  exact (((((((((S0.2.1 c (by omega) (by omega)).trans (S1.2.1 c (by omega) (by omega))).trans (S2.2.1 c (by omega) (by omega))).trans (S3.2.1 c (by omega) (by omega))).trans (S4.2.1 c (by omega) (by omega))).trans (S5.2.1 c (by omega) (by omega))).trans (S6.2.1 c (by omega) (by omega))).trans (S7.2.1 c (by omega) (by omega))).trans (S8.2.1 c (by omega) (by omega))).trans (ez c (by omega))
