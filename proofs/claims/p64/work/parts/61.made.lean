/-! CommandInput made -/
/-- an array made, and kept in a field of a -/
def inS (h : zH) (a k z f : Nat) : zH := sR (hNew h k z) f a (some (hN h))
theorem inS_p {h : zH} {a k z f : Nat} (ha : a < hN h) : hN (inS h a k z f) = hN h + 1 ∧ (∀ c, c < hN h → c ≠ a → zEq h (inS h a k z f) c) ∧ (hK (inS h a k z f) (hN h) = k ∧ hL (inS h a k z f) (hN h) = z) ∧ hR (inS h a k z f) f a = some (hN h) ∧ (∀ g, g ≠ f → hR (inS h a k z f) g a = hR h g a) ∧ hK (inS h a k z f) a = hK h a ∧ ∀ g, hI (inS h a k z f) g a = hI h g a :=
  ⟨rfl, fun c h1 h2 => (zEq_new (Nat.ne_of_lt h1)).trans (zEq_sR h2), ⟨if_pos rfl, if_pos rfl⟩, hR_sR, fun g hg => (hR_sR_f hg).trans (if_neg (Nat.ne_of_lt ha)), if_neg (Nat.ne_of_lt ha), fun g => if_neg (Nat.ne_of_lt ha)⟩
theorem in4 {h : zH} {a : Nat} (hk : hK h a = 6) (hn : hN h = a + 1) (h0 : hI h 164 a = 0) : zIn (inS (inS (inS (inS h a 102 60 160) a 102 60 161) a 103 60 162) a 103 60 163) a [] ∧ hN (inS (inS (inS (inS h a 102 60 160) a 102 60 161) a 103 60 162) a 103 60 163) = a + 5 ∧ zEx h (inS (inS (inS (inS h a 102 60 160) a 102 60 161) a 103 60 162) a 103 60 163) a := by
  have p1 := inS_p (h := h) (a := a) (k := 102) (z := 60) (f := 160) (by omega)
  generalize inS h a 102 60 160 = h1 at p1 ⊢
  obtain ⟨a1, a2, a3, a4, a5, a6, a7⟩ := p1
  have p2 := inS_p (h := h1) (a := a) (k := 102) (z := 60) (f := 161) (by omega)
  generalize inS h1 a 102 60 161 = h2 at p2 ⊢
  obtain ⟨b1, b2, b3, b4, b5, b6, b7⟩ := p2
  have p3 := inS_p (h := h2) (a := a) (k := 103) (z := 60) (f := 162) (by omega)
  generalize inS h2 a 103 60 162 = h3 at p3 ⊢
  obtain ⟨c1, c2, c3, c4, c5, c6, c7⟩ := p3
  have p4 := inS_p (h := h3) (a := a) (k := 103) (z := 60) (f := 163) (by omega)
  generalize inS h3 a 103 60 163 = h4 at p4 ⊢
  obtain ⟨d1, d2, d3, d4, d5, d6, d7⟩ := p4
  have n1 : hN h1 = a + 2 := by omega
  have n2 : hN h2 = a + 3 := by omega
  have n3 : hN h3 = a + 4 := by omega
  rw [hn] at a3 a4
  rw [n1] at b3 b4
  rw [n2] at c3 c4
  rw [n3] at d3 d4
  have e1 := ((b2 (a + 1) (by omega) (by omega)).trans (c2 (a + 1) (by omega) (by omega))).trans (d2 (a + 1) (by omega) (by omega))
  have e2 := (c2 (a + 2) (by omega) (by omega)).trans (d2 (a + 2) (by omega) (by omega))
  have e3 := d2 (a + 3) (by omega) (by omega)
  refine ⟨⟨⟨d6.trans (c6.trans (b6.trans (a6.trans hk))), ?_, ?_, ?_, d4, ⟨e1.1.trans a3.1, e1.2.1.trans a3.2⟩, ⟨e2.1.trans b3.1, e2.2.1.trans b3.2⟩, ⟨e3.1.trans c3.1, e3.2.1.trans c3.2⟩, d3⟩, ?_, Nat.zero_le _, fun i c hc => by cases i <;> cases hc⟩, by omega, ⟨by omega, fun c hc => (((a2 c (by omega) (by omega)).trans (b2 c (by omega) (by omega))).trans (c2 c (by omega) (by omega))).trans (d2 c (by omega) (by omega))⟩⟩
  · exact (d5 _ (by decide)).trans ((c5 _ (by decide)).trans ((b5 _ (by decide)).trans a4))
  · exact (d5 _ (by decide)).trans ((c5 _ (by decide)).trans b4)
  · exact (d5 _ (by decide)).trans c4
  · exact (d7 _).trans ((c7 _).trans ((b7 _).trans ((a7 _).trans h0)))
set_option maxHeartbeats 4000000 in
set_option maxRecDepth 100000 in
theorem s_InInit {l : Launch} {E : zG} (hzs : zS E) (hst : l.stackTraces = false) (h : zH) (a : Nat) (hk : hK h a = 6) (hn : hN h = a + 1) (h0 : hI h 164 a = 0) : zMet l E yX1_init cX1_init 1 none ({ frames := 1, cells := 4, slots := 240, locals := 20 } : Room) 4 240 [.ref a] h (fun r h' => r = none ∧ zIn h' a [] ∧ hN h' = a + 5 ∧ zEx h h' a) (fun _ _ => False) := by
  refine zM_start hzs hst (by decide) (Nat.le_of_ble_eq_true rfl) (fun X C G F I => ?_)
  show zV X 0 0 _ 0 [(0, _)] []
  have I := I rfl
  refine zV.aload_n C dX1_init_0 rfl rfl ?_
  refine zV.obj C G dX1_init_1 ⟨lk_X1_3, im_Oinit, cd_Oinit⟩ rfl rfl ?_
  refine zV.aload_n C dX1_init_4 rfl rfl ?_
  refine zV.bi (v := nI 60) C dX1_init_5 (by decide) ?_
  refine zV.newC (n := 60) C G dX1_init_7 ac_char (rfl) (by decide) rfl ?_
  have k1 : hK (hNew h 102 60) a = hK h a := if_neg (by omega)
  have m1 := inS_p (h := h) (a := a) (k := 102) (z := 60) (f := 160) (by omega)
  refine zV.pFR 160 (k := 0) C dX1_init_9 zcl_X1 (by decide) rfl lk_X1_9 rfl I rfl (k1.trans hk) rfl (fun _ => ⟨rfl, rfl⟩) ?_
  refine zV.aload_n C dX1_init_12 rfl rfl ?_
  refine zV.bi (v := nI 60) C dX1_init_13 (by decide) ?_
  refine zV.newC (n := 60) C G dX1_init_15 ac_char (rfl) (by decide) rfl ?_
  show zV X 2 120 (hNew (inS h a 102 60 160) 102 60) 17 _ _
  have k2 : hK (hNew (inS h a 102 60 160) 102 60) a = hK h a := (if_neg (by omega)).trans m1.2.2.2.2.2.1
  have m2 := inS_p (h := inS h a 102 60 160) (a := a) (k := 102) (z := 60) (f := 161) (by omega)
  refine zV.pFR 161 (k := 1) C dX1_init_17 zcl_X1 (by decide) rfl lk_X1_15 rfl I rfl (k2.trans hk) rfl (fun _ => ⟨rfl, rfl⟩) ?_
  refine zV.aload_n C dX1_init_20 rfl rfl ?_
  refine zV.bi (v := nI 60) C dX1_init_21 (by decide) ?_
  refine zV.newI (n := 60) C G dX1_init_23 ac_int (rfl) (by decide) rfl ?_
  show zV X 3 180 (hNew (inS (inS h a 102 60 160) a 102 60 161) 103 60) 25 _ _
  have k3 : hK (hNew (inS (inS h a 102 60 160) a 102 60 161) 103 60) a = hK h a := (if_neg (by omega)).trans (m2.2.2.2.2.2.1.trans m1.2.2.2.2.2.1)
  have m3 := inS_p (h := inS (inS h a 102 60 160) a 102 60 161) (a := a) (k := 103) (z := 60) (f := 162) (by omega)
  refine zV.pFR 162 (k := 2) C dX1_init_25 zcl_X1 (by decide) rfl lk_X1_18 rfl I rfl (k3.trans hk) rfl (fun _ => ⟨rfl, rfl⟩) ?_
  refine zV.aload_n C dX1_init_28 rfl rfl ?_
  refine zV.bi (v := nI 60) C dX1_init_29 (by decide) ?_
  refine zV.newI (n := 60) C G dX1_init_31 ac_int (rfl) (by decide) rfl ?_
  show zV X 4 240 (hNew (inS (inS (inS h a 102 60 160) a 102 60 161) a 103 60 162) 103 60) 33 _ _
  have k4 : hK (hNew (inS (inS (inS h a 102 60 160) a 102 60 161) a 103 60 162) 103 60) a = hK h a := (if_neg (by omega)).trans (m3.2.2.2.2.2.1.trans (m2.2.2.2.2.2.1.trans m1.2.2.2.2.2.1))
  refine zV.pFR 163 (k := 3) C dX1_init_33 zcl_X1 (by decide) rfl lk_X1_22 rfl I rfl (k4.trans hk) rfl (fun _ => ⟨rfl, rfl⟩) ?_
  refine zV.vret C F dX1_init_36 rfl ?_
  exact ⟨rfl, in4 hk hn h0⟩
