/-! ChairMigration: means -/
theorem vdd : ∀ n, n < 13 → n ≠ 0 → ∀ r, r < 133 → vf_n64 (FP.ddiv (FP.i2d (nI r)) (FP.i2d (nI n))) := by unfold vf_n64; decide +kernel
theorem vfd : ∀ n, n < 13 → n ≠ 0 → ∀ r, r < 13 → vf_n32 (FP.fdiv (FP.i2f (nI r)) (FP.i2f (nI n))) := by unfold vf_n32; decide +kernel
def mrA (g : zGd) : zAn := if gC g = [] then .inl ARE else .inr (.double (FP.ddiv (FP.i2d (nI (rsum (gC g)))) (FP.i2d (nI (gC g).length))))
def fsA (g : zGd) : zAn := if gC g = [] then .inl ARE else .inr (.float (FP.fdiv (FP.i2f (nI ((gC g).countP chF))) (FP.i2f (nI (gC g).length))))
theorem len0 {g : zGd} (h : gC g ≠ []) : (gC g).length ≠ 0 := fun z => h (List.length_eq_zero_iff.mp z)
theorem rsum_b {g : zGd} (w : gW g) : rsum (gC g) < 133 := by
  have h1 := rsum_le (cs := gC g) (fun c hc => (w.1 c hc).2.2.1)
  have h2 := gW_len w
  omega
set_option maxHeartbeats 4000000 in
set_option maxRecDepth 100000 in
theorem s_meanRust {l : Launch} {E : zG} (hzs : zS E) (hst : l.stackTraces = false) (h : zH) (a : Nat) (g : zGd) (hx : zXs h a) (hg : zGa h (a + 1) g) (hw : gW g) : zMet l E yX9_meanRust cX9_meanRust 1 (some .double) ({ frames := 7, cells := 1, slots := 6, locals := 115 } : Room) 1 6 [.ref a] h (aQ h (mrA g)) (aX h (mrA g)) := by
  refine zM_start hzs hst (by decide) (Nat.le_of_ble_eq_true rfl) (fun X C G F I => ?_)
  show zV X 0 0 _ 0 [(0, _)] []
  refine zV.aload_n C dX9_meanRust_0 rfl rfl ?_
  refine zV.callV (n := 0) C G dX9_meanRust_1 (s_demandChairs hzs hst h a g hx hg hw) rfl ⟨cd_X9_demandChairs, lk_X9_236, im_X9_demandChairs, se_X9_X9_demandChairs, in_X9⟩ ⟨⟨by decide, by decide⟩, by decide⟩ rfl rfl rfl hx.1 ⟨rfl, by decide⟩ (drj_ok (fun e9 => ?_)) (fun Ex h9 q9 _ => by
  obtain ⟨rfl, rfl, e9⟩ := q9
  exact zVX.out C F ⟨if_pos e9, rfl⟩ ⟨by decide, by decide⟩)
  refine zV.aload_n C dX9_meanRust_4 rfl rfl ?_
  refine zV.gR 384 (k := 0) C dX9_meanRust_5 zcl_X9 (by decide) rfl lk_X9_10 (hx.1) rfl (hx.2.1) ?_
  refine zV.callV (n := 0) C G dX9_meanRust_8 (s_sumOfRust hzs hst h (a + 1) g hg hw) rfl ⟨cd_X3_sumOfRust, lk_X9_212, im_X3_sumOfRust, se_X3_X3_sumOfRust, in_X3⟩ ⟨⟨by decide, by decide⟩, by decide⟩ rfl rfl rfl hg.1.1 ⟨rfl, by decide⟩ (zaf ?_) (zno)
  refine zV.i2d C dX9_meanRust_11 ?_
  refine zV.aload_n C dX9_meanRust_12 rfl rfl ?_
  refine zV.gR 384 (k := 0) C dX9_meanRust_13 zcl_X9 (by decide) rfl lk_X9_10 (hx.1) rfl (hx.2.1) ?_
  refine zV.gNIv 196 (k := 4) C dX9_meanRust_16 zcl_X3 (by decide) rfl lk_X9_203 (hg.1.1) rfl ((zGa_len hg)) ?_
  refine zV.i2d C dX9_meanRust_19 ?_
  have hl := gW_len hw
  refine zV.ddiv C dX9_meanRust_20 (vdd _ (Nat.lt_succ_of_le (gW_len hw)) (len0 e9) _ (rsum_b hw)) ?_
  refine zV.dret C F dX9_meanRust_21 rfl ?_
  exact aQ_of (if_neg e9)
set_option maxHeartbeats 4000000 in
set_option maxRecDepth 100000 in
theorem s_foldedShare {l : Launch} {E : zG} (hzs : zS E) (hst : l.stackTraces = false) (h : zH) (a : Nat) (g : zGd) (hx : zXs h a) (hg : zGa h (a + 1) g) (hw : gW g) : zMet l E yX9_foldedShare cX9_foldedShare 1 (some .float) ({ frames := 7, cells := 1, slots := 6, locals := 115 } : Room) 1 6 [.ref a] h (aQ h (fsA g)) (aX h (fsA g)) := by
  refine zM_start hzs hst (by decide) (Nat.le_of_ble_eq_true rfl) (fun X C G F I => ?_)
  show zV X 0 0 _ 0 [(0, _)] []
  refine zV.aload_n C dX9_foldedShare_0 rfl rfl ?_
  refine zV.callV (n := 0) C G dX9_foldedShare_1 (s_demandChairs hzs hst h a g hx hg hw) rfl ⟨cd_X9_demandChairs, lk_X9_236, im_X9_demandChairs, se_X9_X9_demandChairs, in_X9⟩ ⟨⟨by decide, by decide⟩, by decide⟩ rfl rfl rfl hx.1 ⟨rfl, by decide⟩ (drj_ok (fun e9 => ?_)) (fun Ex h9 q9 _ => by
  obtain ⟨rfl, rfl, e9⟩ := q9
  exact zVX.out C F ⟨if_pos e9, rfl⟩ ⟨by decide, by decide⟩)
  refine zV.aload_n C dX9_foldedShare_4 rfl rfl ?_
  refine zV.gR 384 (k := 0) C dX9_foldedShare_5 zcl_X9 (by decide) rfl lk_X9_10 (hx.1) rfl (hx.2.1) ?_
  refine zV.callV (n := 0) C G dX9_foldedShare_8 (s_countFolded hzs hst h (a + 1) g hg hw) rfl ⟨cd_X3_countFolded, lk_X9_206, im_X3_countFolded, se_X3_X3_countFolded, in_X3⟩ ⟨⟨by decide, by decide⟩, by decide⟩ rfl rfl rfl hg.1.1 ⟨rfl, by decide⟩ (zaf ?_) (zno)
  refine zV.i2f C dX9_foldedShare_11 ?_
  refine zV.aload_n C dX9_foldedShare_12 rfl rfl ?_
  refine zV.gR 384 (k := 0) C dX9_foldedShare_13 zcl_X9 (by decide) rfl lk_X9_10 (hx.1) rfl (hx.2.1) ?_
  refine zV.gNIv 196 (k := 4) C dX9_foldedShare_16 zcl_X3 (by decide) rfl lk_X9_203 (hg.1.1) rfl ((zGa_len hg)) ?_
  refine zV.i2f C dX9_foldedShare_19 ?_
  have hl := gW_len hw
  refine zV.fdiv C dX9_foldedShare_20 (vfd _ (Nat.lt_succ_of_le (gW_len hw)) (len0 e9) _ (by have := List.countP_le_length (p := chF) (l := gC g); omega)) ?_
  refine zV.fret C F dX9_foldedShare_21 rfl ?_
  exact aQ_of (if_neg e9)
