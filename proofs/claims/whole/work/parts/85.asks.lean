/-! the reference: questions -/
/-- what a question answers: the value, and the code in thrown -/
def mqQ (h : zH) (r : Nat) (A : zAn) (cf : String → Nat) (d : Value) : Option Value → zH → Prop := fun v h' => v = some (match A with | .inl _ => d | .inr w => w) ∧ h' = sI h 435 r (nI (match A with | .inl Ex => cf Ex | .inr _ => 0))
theorem mq_r {h : zH} {r : Nat} {A : zAn} {cf : String → Nat} {d w : Value} (e : A = .inr w) : mqQ h r A cf d (some w) (sI h 435 r (nI 0)) := by rw [e]; exact ⟨rfl, rfl⟩
theorem mq_x {h : zH} {r k : Nat} {A : zAn} {cf : String → Nat} {d : Value} {Ex : String} (e : A = .inl Ex) (ek : cf Ex = k) : mqQ h r A cf d (some d) (sI h 435 r (nI k)) := by rw [e, ← ek]; exact ⟨rfl, rfl⟩
theorem sI2 {h : zH} {f a : Nat} {v w : Int32} : sI (sI h f a v) f a w = sI h f a w := by
  unfold sI
  rw [show up2 (hI (hN h, hK h, hL h, up2 (hI h) f a v, hR h, aI h, aR h, aJ h, aD h)) f a w = up2 (hI h) f a w from ?_]
  · rfl
  · funext x y
    show up2 (up2 (hI h) f a v) f a w x y = _
    by_cases e : x = f ∧ y = a
    · obtain ⟨rfl, rfl⟩ := e; rw [up2_eq, up2_eq]
    · rw [up2_ne e, up2_ne e, up2_ne e]
theorem mq_y {h : zH} {r k : Nat} {A : zAn} {cf : String → Nat} {d : Value} {Ex : String} {z : Int32} (e : A = .inl Ex) (ek : cf Ex = k) : mqQ h r A cf d (some d) (sI (sI h 435 r z) 435 r (nI k)) := by rw [sI2]; exact mq_x e ek
def c1 : String → Nat := fun _ => 1
def c12 : String → Nat := fun Ex => if Ex = IOB then 1 else 2
theorem c12_1 : c12 IOB = 1 := if_pos rfl
theorem c12_n : c12 NSE = 2 := by unfold c12; rw [if_neg (by decide)]
theorem elA_n {o : Option Nat} (h : o = none) : elA (oI o) = .inl NSE := by rw [h]; unfold elA; rfl
theorem elA_s {o : Option Nat} {k : Nat} (h : o = some k) (hk : k < 2 ^ 31) : elA (oI o) = .inr (.int (nI k)) := by
  rw [h]
  unfold elA
  exact if_neg (nI_m1 hk)
set_option maxHeartbeats 4000000 in
set_option maxRecDepth 100000 in
theorem s_qisPath {l : Launch} {E : zG} (hzs : zS E) (hst : l.stackTraces = false) (h : zH) (r m : Nat) (g : zGd) (hm : zMs h r) (hg : rG (aI h (r + 1)) g) (hR : gR m g) (hb : m + 3000 ≤ big) (x y : Int32) : zMet l E yX10_isPath cX10_isPath 3 (some .boolean) ({ frames := 2, cells := 0, slots := 0, locals := 44 } : Room) 0 0 [.ref r, .int x, .int y] h (mqQ h r (lawA x (fun i => lawA y (fun j => .inr (.int (nI (if (gN g i).testBit j then 1 else 0)))))) c1 (.int (nI 0))) (fun _ _ => False) := by
  refine zM_start hzs hst (by decide) (Nat.le_of_ble_eq_true rfl) (fun X C G F I => ?_)
  show zV X 0 0 _ 0 [(0, _), (1, _), (2, _)] []
  obtain ⟨cs, hp, hsrt, hf⟩ := hg
  have hw := rG_W hR (by omega) hp
  have hN := hR.2.1
  have hls := hf.2.2.1
  rcases e1 : ln x with _ | i
  · refine zV.aload_n C dX10_isPath_0 rfl rfl ?_
    refine zV.iload_n C dX10_isPath_1 rfl ?_
    refine zV.callS (n := 1) C G dX10_isPath_2 (s_misLawn hzs hst h x) rfl ⟨cd_X10_isLawn, lk_X10_85, st_X10_isLawn, in_X10⟩ ⟨⟨by decide, by decide⟩, by decide⟩ rfl rfl rfl (zaf ?_) (zno)
    rw [e1]
    show zV X _ _ h 5 _ (.int (nI 0) :: _)
    refine zV.if_eq (tgt := 19) C dX10_isPath_5 (by decide) (fun q5 => ?_) (fun q5 => ?_)
    · refine zV.ic (v := nI 1) C dX10_isPath_19 (by decide) ?_
      refine zV.pI 435 (k := 19) C dX10_isPath_20 zcl_X10 (by decide) rfl lk_X10_39 rfl hm.1 rfl ⟨rfl, rfl⟩ ?_
      refine zV.aload_n C dX10_isPath_23 rfl rfl ?_
      refine zV.gIv 435 (k := 19) C dX10_isPath_24 zcl_X10 (by decide) rfl lk_X10_39 hm.1 rfl (hI_sI) ?_
      refine zV.if_ne (tgt := 43) C dX10_isPath_27 (by decide) (fun q27 => ?_) (fun q27 => ?_)
      · refine zV.ic (v := nI 0) C dX10_isPath_43 (by decide) ?_
        refine zV.zret C F dX10_isPath_44 rfl rfl ?_
        exact mq_x (lawA_n e1) rfl
      · exact absurd q27 (by decide)
    · exact absurd rfl q5
  · obtain ⟨hi, rfl⟩ := ln_some e1
    rcases e2 : ln y with _ | j
    · refine zV.aload_n C dX10_isPath_0 rfl rfl ?_
      refine zV.iload_n C dX10_isPath_1 rfl ?_
      refine zV.callS (n := 1) C G dX10_isPath_2 (s_misLawn hzs hst h (nI i)) rfl ⟨cd_X10_isLawn, lk_X10_85, st_X10_isLawn, in_X10⟩ ⟨⟨by decide, by decide⟩, by decide⟩ rfl rfl rfl (zaf ?_) (zno)
      rw [e1]
      show zV X _ _ h 5 _ (.int (nI 1) :: _)
      refine zV.if_eq (tgt := 19) C dX10_isPath_5 (by decide) (fun q5 => ?_) (fun q5 => ?_)
      · exact absurd q5 (by decide)
      · refine zV.iload_n C dX10_isPath_8 rfl ?_
        refine zV.callS (n := 1) C G dX10_isPath_9 (s_misLawn hzs hst h y) rfl ⟨cd_X10_isLawn, lk_X10_85, st_X10_isLawn, in_X10⟩ ⟨⟨by decide, by decide⟩, by decide⟩ rfl rfl rfl (zaf ?_) (zno)
        rw [e2]
        show zV X _ _ h 12 _ (.int (nI 0) :: _)
        refine zV.if_eq (tgt := 19) C dX10_isPath_12 (by decide) (fun q12 => ?_) (fun q12 => ?_)
        · refine zV.ic (v := nI 1) C dX10_isPath_19 (by decide) ?_
          refine zV.pI 435 (k := 19) C dX10_isPath_20 zcl_X10 (by decide) rfl lk_X10_39 rfl hm.1 rfl ⟨rfl, rfl⟩ ?_
          refine zV.aload_n C dX10_isPath_23 rfl rfl ?_
          refine zV.gIv 435 (k := 19) C dX10_isPath_24 zcl_X10 (by decide) rfl lk_X10_39 hm.1 rfl (hI_sI) ?_
          refine zV.if_ne (tgt := 43) C dX10_isPath_27 (by decide) (fun q27 => ?_) (fun q27 => ?_)
          · refine zV.ic (v := nI 0) C dX10_isPath_43 (by decide) ?_
            refine zV.zret C F dX10_isPath_44 rfl rfl ?_
            exact mq_x ((lawA_s e1).trans (lawA_n e2)) rfl
          · exact absurd q27 (by decide)
        · exact absurd rfl q12
    · obtain ⟨hj, rfl⟩ := ln_some e2
      refine zV.aload_n C dX10_isPath_0 rfl rfl ?_
      refine zV.iload_n C dX10_isPath_1 rfl ?_
      refine zV.callS (n := 1) C G dX10_isPath_2 (s_misLawn hzs hst h (nI i)) rfl ⟨cd_X10_isLawn, lk_X10_85, st_X10_isLawn, in_X10⟩ ⟨⟨by decide, by decide⟩, by decide⟩ rfl rfl rfl (zaf ?_) (zno)
      rw [e1]
      show zV X _ _ h 5 _ (.int (nI 1) :: _)
      refine zV.if_eq (tgt := 19) C dX10_isPath_5 (by decide) (fun q5 => ?_) (fun q5 => ?_)
      · exact absurd q5 (by decide)
      · refine zV.iload_n C dX10_isPath_8 rfl ?_
        refine zV.callS (n := 1) C G dX10_isPath_9 (s_misLawn hzs hst h (nI j)) rfl ⟨cd_X10_isLawn, lk_X10_85, st_X10_isLawn, in_X10⟩ ⟨⟨by decide, by decide⟩, by decide⟩ rfl rfl rfl (zaf ?_) (zno)
        rw [e2]
        show zV X _ _ h 12 _ (.int (nI 1) :: _)
        refine zV.if_eq (tgt := 19) C dX10_isPath_12 (by decide) (fun q12 => ?_) (fun q12 => ?_)
        · exact absurd q12 (by decide)
        · refine zV.ic (v := nI 0) C dX10_isPath_15 (by decide) ?_
          refine zV.goto (tgt := 20) C dX10_isPath_16 (by decide) ?_
          refine zV.pI 435 (k := 19) C dX10_isPath_20 zcl_X10 (by decide) rfl lk_X10_39 rfl hm.1 rfl ⟨rfl, rfl⟩ ?_
          refine zV.aload_n C dX10_isPath_23 rfl rfl ?_
          refine zV.gIv 435 (k := 19) C dX10_isPath_24 zcl_X10 (by decide) rfl lk_X10_39 hm.1 rfl (hI_sI) ?_
          refine zV.if_ne (tgt := 43) C dX10_isPath_27 (by decide) (fun q27 => ?_) (fun q27 => ?_)
          · exact absurd rfl q27
          · refine zV.aload_n C dX10_isPath_30 rfl rfl ?_
            refine zV.iload_n C dX10_isPath_31 rfl ?_
            refine zV.iload_n C dX10_isPath_32 rfl ?_
            refine zV.callV (n := 2) C G dX10_isPath_33 (s_misPath hzs hst (sI h 435 r (nI 0)) r g hm hls hN i j hi hj) rfl ⟨cd_X10_isPathBetween, lk_X10_89, im_X10_isPathBetween, se_X10_X10_isPathBetween, in_X10⟩ ⟨⟨by decide, by decide⟩, by decide⟩ rfl rfl rfl (hm.1) ⟨rfl, by decide⟩ (zaf ?_) (zno)
            refine zV.if_eq (tgt := 43) C dX10_isPath_36 (by decide) (fun q36 => ?_) (fun q36 => ?_)
            · have eb : ¬ (gN g i).testBit j = true := b01.mp q36
              refine zV.ic (v := nI 0) C dX10_isPath_43 (by decide) ?_
              refine zV.zret C F dX10_isPath_44 rfl rfl ?_
              first
                | exact mq_r ((lawA_s e1).trans ((lawA_s e2).trans (by rw [if_pos eb])))
                | exact mq_r ((lawA_s e1).trans ((lawA_s e2).trans (by rw [if_neg eb])))
            · have eb : (gN g i).testBit j = true := Decidable.not_not.mp (fun z => q36 (b01.mpr z))
              refine zV.ic (v := nI 1) C dX10_isPath_39 (by decide) ?_
              refine zV.goto (tgt := 44) C dX10_isPath_40 (by decide) ?_
              refine zV.zret C F dX10_isPath_44 rfl rfl ?_
              first
                | exact mq_r ((lawA_s e1).trans ((lawA_s e2).trans (by rw [if_pos eb])))
                | exact mq_r ((lawA_s e1).trans ((lawA_s e2).trans (by rw [if_neg eb])))
set_option maxHeartbeats 4000000 in
set_option maxRecDepth 100000 in
theorem s_qdistance {l : Launch} {E : zG} (hzs : zS E) (hst : l.stackTraces = false) (h : zH) (r m : Nat) (g : zGd) (hm : zMs h r) (hg : rG (aI h (r + 1)) g) (hR : gR m g) (hb : m + 3000 ≤ big) (x y : Int32) : zMet l E yX10_distance cX10_distance 4 (some .int) ({ frames := 2, cells := 0, slots := 0, locals := 48 } : Room) 0 0 [.ref r, .int x, .int y] h (mqQ h r (lawA x (fun i => lawA y (fun j => elA (oI (far (gN g) i j))))) c12 (.int (nI 0))) (fun _ _ => False) := by
  refine zM_start hzs hst (by decide) (Nat.le_of_ble_eq_true rfl) (fun X C G F I => ?_)
  show zV X 0 0 _ 0 [(0, _), (1, _), (2, _)] []
  obtain ⟨cs, hp, hsrt, hf⟩ := hg
  have hw := rG_W hR (by omega) hp
  have hN := hR.2.1
  have hls := hf.2.2.1
  rcases e1 : ln x with _ | i
  · refine zV.aload_n C dX10_distance_0 rfl rfl ?_
    refine zV.ic (v := nI 0) C dX10_distance_1 (by decide) ?_
    refine zV.pI 435 (k := 19) C dX10_distance_2 zcl_X10 (by decide) rfl lk_X10_39 rfl hm.1 rfl ⟨rfl, rfl⟩ ?_
    refine zV.iload_n C dX10_distance_5 rfl ?_
    refine zV.callS (n := 1) C G dX10_distance_6 (s_misLawn hzs hst (sI h 435 r (nI 0)) x) rfl ⟨cd_X10_isLawn, lk_X10_85, st_X10_isLawn, in_X10⟩ ⟨⟨by decide, by decide⟩, by decide⟩ rfl rfl rfl (zaf ?_) (zno)
    rw [e1]
    show zV X _ _ (sI h 435 r (nI 0)) 9 _ (.int (nI 0) :: _)
    refine zV.if_eq (tgt := 19) C dX10_distance_9 (by decide) (fun q9 => ?_) (fun q9 => ?_)
    · refine zV.aload_n C dX10_distance_19 rfl rfl ?_
      refine zV.ic (v := nI 1) C dX10_distance_20 (by decide) ?_
      refine zV.callV (n := 1) C G dX10_distance_21 (s_mraises hzs hst (sI h 435 r (nI 0)) r hm (nI 1)) rfl ⟨cd_X10_raises, lk_X10_54, im_X10_raises, se_X10_X10_raises, in_X10⟩ ⟨⟨by decide, by decide⟩, by decide⟩ rfl rfl rfl (hm.1) ⟨rfl, by decide⟩ (zaf ?_) (zno)
      refine zV.iret C F dX10_distance_24 rfl ?_
      exact mq_y (lawA_n e1) c12_1
    · exact absurd rfl q9
  · obtain ⟨hi, rfl⟩ := ln_some e1
    rcases e2 : ln y with _ | j
    · refine zV.aload_n C dX10_distance_0 rfl rfl ?_
      refine zV.ic (v := nI 0) C dX10_distance_1 (by decide) ?_
      refine zV.pI 435 (k := 19) C dX10_distance_2 zcl_X10 (by decide) rfl lk_X10_39 rfl hm.1 rfl ⟨rfl, rfl⟩ ?_
      refine zV.iload_n C dX10_distance_5 rfl ?_
      refine zV.callS (n := 1) C G dX10_distance_6 (s_misLawn hzs hst (sI h 435 r (nI 0)) (nI i)) rfl ⟨cd_X10_isLawn, lk_X10_85, st_X10_isLawn, in_X10⟩ ⟨⟨by decide, by decide⟩, by decide⟩ rfl rfl rfl (zaf ?_) (zno)
      rw [e1]
      show zV X _ _ (sI h 435 r (nI 0)) 9 _ (.int (nI 1) :: _)
      refine zV.if_eq (tgt := 19) C dX10_distance_9 (by decide) (fun q9 => ?_) (fun q9 => ?_)
      · exact absurd q9 (by decide)
      · refine zV.iload_n C dX10_distance_12 rfl ?_
        refine zV.callS (n := 1) C G dX10_distance_13 (s_misLawn hzs hst (sI h 435 r (nI 0)) y) rfl ⟨cd_X10_isLawn, lk_X10_85, st_X10_isLawn, in_X10⟩ ⟨⟨by decide, by decide⟩, by decide⟩ rfl rfl rfl (zaf ?_) (zno)
        rw [e2]
        show zV X _ _ (sI h 435 r (nI 0)) 16 _ (.int (nI 0) :: _)
        refine zV.if_ne (tgt := 25) C dX10_distance_16 (by decide) (fun q16 => ?_) (fun q16 => ?_)
        · exact absurd rfl q16
        · refine zV.aload_n C dX10_distance_19 rfl rfl ?_
          refine zV.ic (v := nI 1) C dX10_distance_20 (by decide) ?_
          refine zV.callV (n := 1) C G dX10_distance_21 (s_mraises hzs hst (sI h 435 r (nI 0)) r hm (nI 1)) rfl ⟨cd_X10_raises, lk_X10_54, im_X10_raises, se_X10_X10_raises, in_X10⟩ ⟨⟨by decide, by decide⟩, by decide⟩ rfl rfl rfl (hm.1) ⟨rfl, by decide⟩ (zaf ?_) (zno)
          refine zV.iret C F dX10_distance_24 rfl ?_
          exact mq_y ((lawA_s e1).trans (lawA_n e2)) c12_1
    · obtain ⟨hj, rfl⟩ := ln_some e2
      rcases e3 : far (gN g) i j with _ | d
      · refine zV.aload_n C dX10_distance_0 rfl rfl ?_
        refine zV.ic (v := nI 0) C dX10_distance_1 (by decide) ?_
        refine zV.pI 435 (k := 19) C dX10_distance_2 zcl_X10 (by decide) rfl lk_X10_39 rfl hm.1 rfl ⟨rfl, rfl⟩ ?_
        refine zV.iload_n C dX10_distance_5 rfl ?_
        refine zV.callS (n := 1) C G dX10_distance_6 (s_misLawn hzs hst (sI h 435 r (nI 0)) (nI i)) rfl ⟨cd_X10_isLawn, lk_X10_85, st_X10_isLawn, in_X10⟩ ⟨⟨by decide, by decide⟩, by decide⟩ rfl rfl rfl (zaf ?_) (zno)
        rw [e1]
        show zV X _ _ (sI h 435 r (nI 0)) 9 _ (.int (nI 1) :: _)
        refine zV.if_eq (tgt := 19) C dX10_distance_9 (by decide) (fun q9 => ?_) (fun q9 => ?_)
        · exact absurd q9 (by decide)
        · refine zV.iload_n C dX10_distance_12 rfl ?_
          refine zV.callS (n := 1) C G dX10_distance_13 (s_misLawn hzs hst (sI h 435 r (nI 0)) (nI j)) rfl ⟨cd_X10_isLawn, lk_X10_85, st_X10_isLawn, in_X10⟩ ⟨⟨by decide, by decide⟩, by decide⟩ rfl rfl rfl (zaf ?_) (zno)
          rw [e2]
          show zV X _ _ (sI h 435 r (nI 0)) 16 _ (.int (nI 1) :: _)
          refine zV.if_ne (tgt := 25) C dX10_distance_16 (by decide) (fun q16 => ?_) (fun q16 => ?_)
          · refine zV.aload_n C dX10_distance_25 rfl rfl ?_
            refine zV.iload_n C dX10_distance_26 rfl ?_
            refine zV.iload_n C dX10_distance_27 rfl ?_
            refine zV.callV (n := 2) C G dX10_distance_28 (s_mfar hzs hst (sI h 435 r (nI 0)) r g hm hls hN i j hi hj) rfl ⟨cd_X10_far, lk_X10_113, im_X10_far, se_X10_X10_far, in_X10⟩ ⟨⟨by decide, by decide⟩, by decide⟩ rfl rfl rfl (hm.1) ⟨rfl, by decide⟩ (zaf ?_) (zno)
            rw [e3]
            show zV X _ _ _ 31 _ (.int (-1) :: _)
            refine zV.istore_n (lo' := [(0, _), (1, _), (2, _), (3, _)]) C dX10_distance_31 (by decide) rfl rfl rfl ?_
            refine zV.iload_n C dX10_distance_32 rfl ?_
            refine zV.if_ge (tgt := 44) C dX10_distance_33 (by decide) (fun q33 => ?_) (fun q33 => ?_)
            · exact absurd q33 (by decide)
            · refine zV.aload_n C dX10_distance_36 rfl rfl ?_
              refine zV.ic (v := nI 2) C dX10_distance_37 (by decide) ?_
              refine zV.callV (n := 1) C G dX10_distance_38 (s_mraises hzs hst (sI h 435 r (nI 0)) r hm (nI 2)) rfl ⟨cd_X10_raises, lk_X10_54, im_X10_raises, se_X10_X10_raises, in_X10⟩ ⟨⟨by decide, by decide⟩, by decide⟩ rfl rfl rfl (hm.1) ⟨rfl, by decide⟩ (zaf ?_) (zno)
              refine zV.goto (tgt := 45) C dX10_distance_41 (by decide) ?_
              refine zV.iret C F dX10_distance_45 rfl ?_
              exact mq_y ((lawA_s e1).trans ((lawA_s e2).trans (elA_n e3))) c12_n
          · exact absurd q16 (by decide)
      · have d5 := (far_some e3).1
        refine zV.aload_n C dX10_distance_0 rfl rfl ?_
        refine zV.ic (v := nI 0) C dX10_distance_1 (by decide) ?_
        refine zV.pI 435 (k := 19) C dX10_distance_2 zcl_X10 (by decide) rfl lk_X10_39 rfl hm.1 rfl ⟨rfl, rfl⟩ ?_
        refine zV.iload_n C dX10_distance_5 rfl ?_
        refine zV.callS (n := 1) C G dX10_distance_6 (s_misLawn hzs hst (sI h 435 r (nI 0)) (nI i)) rfl ⟨cd_X10_isLawn, lk_X10_85, st_X10_isLawn, in_X10⟩ ⟨⟨by decide, by decide⟩, by decide⟩ rfl rfl rfl (zaf ?_) (zno)
        rw [e1]
        show zV X _ _ (sI h 435 r (nI 0)) 9 _ (.int (nI 1) :: _)
        refine zV.if_eq (tgt := 19) C dX10_distance_9 (by decide) (fun q9 => ?_) (fun q9 => ?_)
        · exact absurd q9 (by decide)
        · refine zV.iload_n C dX10_distance_12 rfl ?_
          refine zV.callS (n := 1) C G dX10_distance_13 (s_misLawn hzs hst (sI h 435 r (nI 0)) (nI j)) rfl ⟨cd_X10_isLawn, lk_X10_85, st_X10_isLawn, in_X10⟩ ⟨⟨by decide, by decide⟩, by decide⟩ rfl rfl rfl (zaf ?_) (zno)
          rw [e2]
          show zV X _ _ (sI h 435 r (nI 0)) 16 _ (.int (nI 1) :: _)
          refine zV.if_ne (tgt := 25) C dX10_distance_16 (by decide) (fun q16 => ?_) (fun q16 => ?_)
          · refine zV.aload_n C dX10_distance_25 rfl rfl ?_
            refine zV.iload_n C dX10_distance_26 rfl ?_
            refine zV.iload_n C dX10_distance_27 rfl ?_
            refine zV.callV (n := 2) C G dX10_distance_28 (s_mfar hzs hst (sI h 435 r (nI 0)) r g hm hls hN i j hi hj) rfl ⟨cd_X10_far, lk_X10_113, im_X10_far, se_X10_X10_far, in_X10⟩ ⟨⟨by decide, by decide⟩, by decide⟩ rfl rfl rfl (hm.1) ⟨rfl, by decide⟩ (zaf ?_) (zno)
            rw [e3]
            show zV X _ _ _ 31 _ (.int (nI d) :: _)
            refine zV.istore_n (lo' := [(0, _), (1, _), (2, _), (3, _)]) C dX10_distance_31 (by decide) rfl rfl rfl ?_
            refine zV.iload_n C dX10_distance_32 rfl ?_
            refine zV.if_ge (tgt := 44) C dX10_distance_33 (by decide) (fun q33 => ?_) (fun q33 => ?_)
            · refine zV.iload_n C dX10_distance_44 rfl ?_
              refine zV.iret C F dX10_distance_45 rfl ?_
              exact mq_r ((lawA_s e1).trans ((lawA_s e2).trans (elA_s e3 (by omega))))
            · exact absurd (nI_le (Nat.zero_le _) (by omega)) q33
          · exact absurd q16 (by decide)
set_option maxHeartbeats 4000000 in
set_option maxRecDepth 100000 in
theorem s_qshadeOf {l : Launch} {E : zG} (hzs : zS E) (hst : l.stackTraces = false) (h : zH) (r m : Nat) (g : zGd) (hm : zMs h r) (hg : rG (aI h (r + 1)) g) (hR : gR m g) (hb : m + 3000 ≤ big) (x : Int32) : zMet l E yX10_shadeOf cX10_shadeOf 2 (some .int) ({ frames := 2, cells := 0, slots := 0, locals := 42 } : Room) 0 0 [.ref r, .int x] h (mqQ h r (lawA x (fun i => .inr (.int (nI (gS g i))))) c1 (.int (nI 0))) (fun _ _ => False) := by
  refine zM_start hzs hst (by decide) (Nat.le_of_ble_eq_true rfl) (fun X C G F I => ?_)
  show zV X 0 0 _ 0 [(0, _), (1, _)] []
  obtain ⟨cs, hp, hsrt, hf⟩ := hg
  have hw := rG_W hR (by omega) hp
  have hN := hR.2.1
  have hls := hf.2.2.1
  rcases e1 : ln x with _ | i
  · refine zV.aload_n C dX10_shadeOf_0 rfl rfl ?_
    refine zV.iload_n C dX10_shadeOf_1 rfl ?_
    refine zV.callS (n := 1) C G dX10_shadeOf_2 (s_misLawn hzs hst h x) rfl ⟨cd_X10_isLawn, lk_X10_85, st_X10_isLawn, in_X10⟩ ⟨⟨by decide, by decide⟩, by decide⟩ rfl rfl rfl (zaf ?_) (zno)
    rw [e1]
    show zV X _ _ h 5 _ (.int (nI 0) :: _)
    refine zV.if_eq (tgt := 12) C dX10_shadeOf_5 (by decide) (fun q5 => ?_) (fun q5 => ?_)
    · refine zV.ic (v := nI 1) C dX10_shadeOf_12 (by decide) ?_
      refine zV.pI 435 (k := 19) C dX10_shadeOf_13 zcl_X10 (by decide) rfl lk_X10_39 rfl hm.1 rfl ⟨rfl, rfl⟩ ?_
      refine zV.aload_n C dX10_shadeOf_16 rfl rfl ?_
      refine zV.gIv 435 (k := 19) C dX10_shadeOf_17 zcl_X10 (by decide) rfl lk_X10_39 hm.1 rfl (hI_sI) ?_
      refine zV.if_ne (tgt := 32) C dX10_shadeOf_20 (by decide) (fun q20 => ?_) (fun q20 => ?_)
      · refine zV.ic (v := nI 0) C dX10_shadeOf_32 (by decide) ?_
        refine zV.iret C F dX10_shadeOf_33 rfl ?_
        exact mq_x (lawA_n e1) rfl
      · exact absurd q20 (by decide)
    · exact absurd rfl q5
  · obtain ⟨hi, rfl⟩ := ln_some e1
    refine zV.aload_n C dX10_shadeOf_0 rfl rfl ?_
    refine zV.iload_n C dX10_shadeOf_1 rfl ?_
    refine zV.callS (n := 1) C G dX10_shadeOf_2 (s_misLawn hzs hst h (nI i)) rfl ⟨cd_X10_isLawn, lk_X10_85, st_X10_isLawn, in_X10⟩ ⟨⟨by decide, by decide⟩, by decide⟩ rfl rfl rfl (zaf ?_) (zno)
    rw [e1]
    show zV X _ _ h 5 _ (.int (nI 1) :: _)
    refine zV.if_eq (tgt := 12) C dX10_shadeOf_5 (by decide) (fun q5 => ?_) (fun q5 => ?_)
    · exact absurd q5 (by decide)
    · refine zV.ic (v := nI 0) C dX10_shadeOf_8 (by decide) ?_
      refine zV.goto (tgt := 13) C dX10_shadeOf_9 (by decide) ?_
      refine zV.pI 435 (k := 19) C dX10_shadeOf_13 zcl_X10 (by decide) rfl lk_X10_39 rfl hm.1 rfl ⟨rfl, rfl⟩ ?_
      refine zV.aload_n C dX10_shadeOf_16 rfl rfl ?_
      refine zV.gIv 435 (k := 19) C dX10_shadeOf_17 zcl_X10 (by decide) rfl lk_X10_39 hm.1 rfl (hI_sI) ?_
      refine zV.if_ne (tgt := 32) C dX10_shadeOf_20 (by decide) (fun q20 => ?_) (fun q20 => ?_)
      · exact absurd rfl q20
      · refine zV.aload_n C dX10_shadeOf_23 rfl rfl ?_
        refine zV.iload_n C dX10_shadeOf_24 rfl ?_
        refine zV.ic (v := nI 0) C dX10_shadeOf_25 (by decide) ?_
        refine zV.callV (n := 2) C G dX10_shadeOf_26 (s_mlawn hzs hst (sI h 435 r (nI 0)) r hm i 0 hi (by decide)) rfl ⟨cd_X10_lawn, lk_X10_69, im_X10_lawn, se_X10_X10_lawn, in_X10⟩ ⟨⟨by decide, by decide⟩, by decide⟩ rfl rfl rfl (hm.1) ⟨rfl, by decide⟩ (zaf ?_) (zno)
        rw [show aI (sI h 435 r (nI 0)) (r + 1) (8 + 8 * i + 0) = nI (gS g i) from (hls i hi).1]
        refine zV.goto (tgt := 33) C dX10_shadeOf_29 (by decide) ?_
        refine zV.iret C F dX10_shadeOf_33 rfl ?_
        exact mq_r (lawA_s e1)
set_option maxHeartbeats 4000000 in
set_option maxRecDepth 100000 in
theorem s_qherdSize {l : Launch} {E : zG} (hzs : zS E) (hst : l.stackTraces = false) (h : zH) (r m : Nat) (g : zGd) (hm : zMs h r) (hg : rG (aI h (r + 1)) g) (hR : gR m g) (hb : m + 3000 ≤ big) (x : Int32) : zMet l E yX10_herdSize cX10_herdSize 2 (some .int) ({ frames := 2, cells := 0, slots := 0, locals := 42 } : Room) 0 0 [.ref r, .int x] h (mqQ h r (lawA x (fun i => .inr (.int (nI (hsz (gC g) i))))) c1 (.int (nI 0))) (fun _ _ => False) := by
  refine zM_start hzs hst (by decide) (Nat.le_of_ble_eq_true rfl) (fun X C G F I => ?_)
  show zV X 0 0 _ 0 [(0, _), (1, _)] []
  obtain ⟨cs, hp, hsrt, hf⟩ := hg
  have hw := rG_W hR (by omega) hp
  have hN := hR.2.1
  have hls := hf.2.2.1
  rcases e1 : ln x with _ | i
  · refine zV.aload_n C dX10_herdSize_0 rfl rfl ?_
    refine zV.iload_n C dX10_herdSize_1 rfl ?_
    refine zV.callS (n := 1) C G dX10_herdSize_2 (s_misLawn hzs hst h x) rfl ⟨cd_X10_isLawn, lk_X10_85, st_X10_isLawn, in_X10⟩ ⟨⟨by decide, by decide⟩, by decide⟩ rfl rfl rfl (zaf ?_) (zno)
    rw [e1]
    show zV X _ _ h 5 _ (.int (nI 0) :: _)
    refine zV.if_eq (tgt := 12) C dX10_herdSize_5 (by decide) (fun q5 => ?_) (fun q5 => ?_)
    · refine zV.ic (v := nI 1) C dX10_herdSize_12 (by decide) ?_
      refine zV.pI 435 (k := 19) C dX10_herdSize_13 zcl_X10 (by decide) rfl lk_X10_39 rfl hm.1 rfl ⟨rfl, rfl⟩ ?_
      refine zV.aload_n C dX10_herdSize_16 rfl rfl ?_
      refine zV.gIv 435 (k := 19) C dX10_herdSize_17 zcl_X10 (by decide) rfl lk_X10_39 hm.1 rfl (hI_sI) ?_
      refine zV.if_ne (tgt := 32) C dX10_herdSize_20 (by decide) (fun q20 => ?_) (fun q20 => ?_)
      · refine zV.ic (v := nI 0) C dX10_herdSize_32 (by decide) ?_
        refine zV.iret C F dX10_herdSize_33 rfl ?_
        exact mq_x (lawA_n e1) rfl
      · exact absurd q20 (by decide)
    · exact absurd rfl q5
  · obtain ⟨hi, rfl⟩ := ln_some e1
    refine zV.aload_n C dX10_herdSize_0 rfl rfl ?_
    refine zV.iload_n C dX10_herdSize_1 rfl ?_
    refine zV.callS (n := 1) C G dX10_herdSize_2 (s_misLawn hzs hst h (nI i)) rfl ⟨cd_X10_isLawn, lk_X10_85, st_X10_isLawn, in_X10⟩ ⟨⟨by decide, by decide⟩, by decide⟩ rfl rfl rfl (zaf ?_) (zno)
    rw [e1]
    show zV X _ _ h 5 _ (.int (nI 1) :: _)
    refine zV.if_eq (tgt := 12) C dX10_herdSize_5 (by decide) (fun q5 => ?_) (fun q5 => ?_)
    · exact absurd q5 (by decide)
    · refine zV.ic (v := nI 0) C dX10_herdSize_8 (by decide) ?_
      refine zV.goto (tgt := 13) C dX10_herdSize_9 (by decide) ?_
      refine zV.pI 435 (k := 19) C dX10_herdSize_13 zcl_X10 (by decide) rfl lk_X10_39 rfl hm.1 rfl ⟨rfl, rfl⟩ ?_
      refine zV.aload_n C dX10_herdSize_16 rfl rfl ?_
      refine zV.gIv 435 (k := 19) C dX10_herdSize_17 zcl_X10 (by decide) rfl lk_X10_39 hm.1 rfl (hI_sI) ?_
      refine zV.if_ne (tgt := 32) C dX10_herdSize_20 (by decide) (fun q20 => ?_) (fun q20 => ?_)
      · exact absurd rfl q20
      · refine zV.aload_n C dX10_herdSize_23 rfl rfl ?_
        refine zV.iload_n C dX10_herdSize_24 rfl ?_
        refine zV.ic (v := nI 2) C dX10_herdSize_25 (by decide) ?_
        refine zV.callV (n := 2) C G dX10_herdSize_26 (s_mlawn hzs hst (sI h 435 r (nI 0)) r hm i 2 hi (by decide)) rfl ⟨cd_X10_lawn, lk_X10_69, im_X10_lawn, se_X10_X10_lawn, in_X10⟩ ⟨⟨by decide, by decide⟩, by decide⟩ rfl rfl rfl (hm.1) ⟨rfl, by decide⟩ (zaf ?_) (zno)
        rw [show aI (sI h 435 r (nI 0)) (r + 1) (8 + 8 * i + 2) = nI (hsz (gC g) i) from (hf.2.1 i hi).1.trans (by rw [hrd_len])]
        refine zV.goto (tgt := 33) C dX10_herdSize_29 (by decide) ?_
        refine zV.iret C F dX10_herdSize_33 rfl ?_
        exact mq_r (lawA_s e1)
set_option maxHeartbeats 4000000 in
set_option maxRecDepth 100000 in
theorem s_qhungryChairs {l : Launch} {E : zG} (hzs : zS E) (hst : l.stackTraces = false) (h : zH) (r m : Nat) (g : zGd) (hm : zMs h r) (hg : rG (aI h (r + 1)) g) (hR : gR m g) (hb : m + 3000 ≤ big) (x : Int32) : zMet l E yX10_hungryChairs cX10_hungryChairs 2 (some .int) ({ frames := 3, cells := 0, slots := 0, locals := 67 } : Room) 0 0 [.ref r, .int x] h (mqQ h r (lawA x (fun i => .inr (.int (nI ((gC g).countP (chGr i) - gS g i))))) c1 (.int (nI 0))) (fun _ _ => False) := by
  refine zM_start hzs hst (by decide) (Nat.le_of_ble_eq_true rfl) (fun X C G F I => ?_)
  show zV X 0 0 _ 0 [(0, _), (1, _)] []
  obtain ⟨cs, hp, hsrt, hf⟩ := hg
  have hw := rG_W hR (by omega) hp
  have hN := hR.2.1
  have hls := hf.2.2.1
  have hgw := gQ_W hR.1 (by omega : m ≤ big)
  rcases e1 : ln x with _ | i
  · refine zV.aload_n C dX10_hungryChairs_0 rfl rfl ?_
    refine zV.iload_n C dX10_hungryChairs_1 rfl ?_
    refine zV.callS (n := 1) C G dX10_hungryChairs_2 (s_misLawn hzs hst h x) rfl ⟨cd_X10_isLawn, lk_X10_85, st_X10_isLawn, in_X10⟩ ⟨⟨by decide, by decide⟩, by decide⟩ rfl rfl rfl (zaf ?_) (zno)
    rw [e1]
    show zV X _ _ h 5 _ (.int (nI 0) :: _)
    refine zV.if_eq (tgt := 12) C dX10_hungryChairs_5 (by decide) (fun q5 => ?_) (fun q5 => ?_)
    · refine zV.ic (v := nI 1) C dX10_hungryChairs_12 (by decide) ?_
      refine zV.pI 435 (k := 19) C dX10_hungryChairs_13 zcl_X10 (by decide) rfl lk_X10_39 rfl hm.1 rfl ⟨rfl, rfl⟩ ?_
      refine zV.aload_n C dX10_hungryChairs_16 rfl rfl ?_
      refine zV.gIv 435 (k := 19) C dX10_hungryChairs_17 zcl_X10 (by decide) rfl lk_X10_39 hm.1 rfl (hI_sI) ?_
      refine zV.if_ne (tgt := 42) C dX10_hungryChairs_20 (by decide) (fun q20 => ?_) (fun q20 => ?_)
      · refine zV.ic (v := nI 0) C dX10_hungryChairs_42 (by decide) ?_
        refine zV.iret C F dX10_hungryChairs_43 rfl ?_
        exact mq_x (lawA_n e1) rfl
      · exact absurd q20 (by decide)
    · exact absurd rfl q5
  · obtain ⟨hi, rfl⟩ := ln_some e1
    refine zV.aload_n C dX10_hungryChairs_0 rfl rfl ?_
    refine zV.iload_n C dX10_hungryChairs_1 rfl ?_
    refine zV.callS (n := 1) C G dX10_hungryChairs_2 (s_misLawn hzs hst h (nI i)) rfl ⟨cd_X10_isLawn, lk_X10_85, st_X10_isLawn, in_X10⟩ ⟨⟨by decide, by decide⟩, by decide⟩ rfl rfl rfl (zaf ?_) (zno)
    rw [e1]
    show zV X _ _ h 5 _ (.int (nI 1) :: _)
    refine zV.if_eq (tgt := 12) C dX10_hungryChairs_5 (by decide) (fun q5 => ?_) (fun q5 => ?_)
    · exact absurd q5 (by decide)
    · refine zV.ic (v := nI 0) C dX10_hungryChairs_8 (by decide) ?_
      refine zV.goto (tgt := 13) C dX10_hungryChairs_9 (by decide) ?_
      refine zV.pI 435 (k := 19) C dX10_hungryChairs_13 zcl_X10 (by decide) rfl lk_X10_39 rfl hm.1 rfl ⟨rfl, rfl⟩ ?_
      refine zV.aload_n C dX10_hungryChairs_16 rfl rfl ?_
      refine zV.gIv 435 (k := 19) C dX10_hungryChairs_17 zcl_X10 (by decide) rfl lk_X10_39 hm.1 rfl (hI_sI) ?_
      refine zV.if_ne (tgt := 42) C dX10_hungryChairs_20 (by decide) (fun q20 => ?_) (fun q20 => ?_)
      · exact absurd rfl q20
      · refine zV.ic (v := nI 0) C dX10_hungryChairs_23 (by decide) ?_
        refine zV.aload_n C dX10_hungryChairs_24 rfl rfl ?_
        refine zV.iload_n C dX10_hungryChairs_25 rfl ?_
        refine zV.callV (n := 1) C G dX10_hungryChairs_26 (s_mopen hzs hst (sI h 435 r (nI 0)) r g cs (hrd (gC g)) hm hf hw i hi) rfl ⟨cd_X10_open, lk_X10_150, im_X10_open, se_X10_X10_open, in_X10⟩ ⟨⟨by decide, by decide⟩, by decide⟩ rfl rfl rfl (hm.1) ⟨rfl, by decide⟩ (zaf ?_) (zno)
        rw [opn_gr hgw.2.1 hp]
        refine zV.aload_n C dX10_hungryChairs_29 rfl rfl ?_
        refine zV.iload_n C dX10_hungryChairs_30 rfl ?_
        refine zV.ic (v := nI 0) C dX10_hungryChairs_31 (by decide) ?_
        refine zV.callV (n := 2) C G dX10_hungryChairs_32 (s_mlawn hzs hst (sI h 435 r (nI 0)) r hm i 0 hi (by decide)) rfl ⟨cd_X10_lawn, lk_X10_69, im_X10_lawn, se_X10_X10_lawn, in_X10⟩ ⟨⟨by decide, by decide⟩, by decide⟩ rfl rfl rfl (hm.1) ⟨rfl, by decide⟩ (zaf ?_) (zno)
        rw [show aI (sI h 435 r (nI 0)) (r + 1) (8 + 8 * i + 0) = nI (gS g i) from (hls i hi).1]
        refine zV.isub C dX10_hungryChairs_35 ?_
        refine zV.mmax C G dX10_hungryChairs_36 ⟨lk_X10_156, st_J9_max_7cf53, in_J9, cd_J9_max_7cf53⟩ rfl ?_
        refine zV.goto (tgt := 43) C dX10_hungryChairs_39 (by decide) ?_
        refine zV.iret C F dX10_hungryChairs_43 rfl ?_
        rw [max0 (by have h1 := gW_len hgw; have h2 : (gC g).countP (chGr i) ≤ (gC g).length := List.countP_le_length; omega) (hgw.2.2.2.1 i hi)]
        exact mq_r (lawA_s e1)
set_option maxHeartbeats 4000000 in
set_option maxRecDepth 100000 in
theorem s_qpathCount {l : Launch} {E : zG} (hzs : zS E) (hst : l.stackTraces = false) (h : zH) (r m : Nat) (g : zGd) (hm : zMs h r) (hg : rG (aI h (r + 1)) g) (hR : gR m g) (hb : m + 3000 ≤ big) : zMet l E yX10_pathCount cX10_pathCount 1 (some .int) ({ frames := 2, cells := 0, slots := 0, locals := 44 } : Room) 0 0 [.ref r] h (fun v h' => v = some (.int (nI (gP g))) ∧ h' = sI h 435 r (nI 0)) (fun _ _ => False) := by
  refine zM_start hzs hst (by decide) (Nat.le_of_ble_eq_true rfl) (fun X C G F I => ?_)
  show zV X 0 0 _ 0 [(0, _)] []
  obtain ⟨cs, hp, hsrt, hf⟩ := hg
  have hw := rG_W hR (by omega) hp
  have hN := hR.2.1
  have hls := hf.2.2.1
  refine zV.aload_n C dX10_pathCount_0 rfl rfl ?_
  refine zV.ic (v := nI 0) C dX10_pathCount_1 (by decide) ?_
  refine zV.pI 435 (k := 19) C dX10_pathCount_2 zcl_X10 (by decide) rfl lk_X10_39 rfl hm.1 rfl ⟨rfl, rfl⟩ ?_
  refine zV.aload_n C dX10_pathCount_5 rfl rfl ?_
  refine zV.callV (n := 0) C G dX10_pathCount_6 (s_mpaths hzs hst (sI h 435 r (nI 0)) r g hm hls hN hR.2) rfl ⟨cd_X10_paths, lk_X10_93, im_X10_paths, se_X10_X10_paths, in_X10⟩ ⟨⟨by decide, by decide⟩, by decide⟩ rfl rfl rfl (hm.1) ⟨rfl, by decide⟩ (zaf ?_) (zno)
  refine zV.iret C F dX10_pathCount_9 rfl ?_
  exact ⟨rfl, rfl⟩
set_option maxHeartbeats 4000000 in
set_option maxRecDepth 100000 in
theorem s_qday {l : Launch} {E : zG} (hzs : zS E) (hst : l.stackTraces = false) (h : zH) (r m : Nat) (g : zGd) (hm : zMs h r) (hg : rG (aI h (r + 1)) g) (hR : gR m g) (hb : m + 3000 ≤ big) : zMet l E yX10_day cX10_day 1 (some .int) ({ frames := 0, cells := 0, slots := 0, locals := 0 } : Room) 0 0 [.ref r] h (fun v h' => v = some (.int (nI (gD g))) ∧ h' = sI h 435 r (nI 0)) (fun _ _ => False) := by
  refine zM_start hzs hst (by decide) (Nat.le_of_ble_eq_true rfl) (fun X C G F I => ?_)
  show zV X 0 0 _ 0 [(0, _)] []
  obtain ⟨cs, hp, hsrt, hf⟩ := hg
  have hw := rG_W hR (by omega) hp
  have hN := hR.2.1
  have hls := hf.2.2.1
  refine zV.aload_n C dX10_day_0 rfl rfl ?_
  refine zV.ic (v := nI 0) C dX10_day_1 (by decide) ?_
  refine zV.pI 435 (k := 19) C dX10_day_2 zcl_X10 (by decide) rfl lk_X10_39 rfl hm.1 rfl ⟨rfl, rfl⟩ ?_
  refine zV.aload_n C dX10_day_5 rfl rfl ?_
  refine zV.gR 416 (k := 0) C dX10_day_6 zcl_X10 (by decide) rfl lk_X10_9 (hm.1) rfl (hm.2.1) ?_
  refine zV.ic (v := nI 2) C dX10_day_9 (by decide) ?_
  refine zV.ialdv (j := 2) C dX10_day_10 (hm.2.2.2.2.2.2.2.2.2.1.1) (rfl) (Nat.lt_of_lt_of_eq (show 2 < 116 by decide) (hm.2.2.2.2.2.2.2.2.2.1.2).symm) (by omega) (hf.2.2.2.2.1) ?_
  refine zV.iret C F dX10_day_11 rfl ?_
  exact ⟨rfl, rfl⟩
set_option maxHeartbeats 4000000 in
set_option maxRecDepth 100000 in
theorem s_qoil {l : Launch} {E : zG} (hzs : zS E) (hst : l.stackTraces = false) (h : zH) (r m : Nat) (g : zGd) (hm : zMs h r) (hg : rG (aI h (r + 1)) g) (hR : gR m g) (hb : m + 3000 ≤ big) : zMet l E yX10_oil cX10_oil 1 (some .int) ({ frames := 0, cells := 0, slots := 0, locals := 0 } : Room) 0 0 [.ref r] h (fun v h' => v = some (.int (nI (gO g))) ∧ h' = sI h 435 r (nI 0)) (fun _ _ => False) := by
  refine zM_start hzs hst (by decide) (Nat.le_of_ble_eq_true rfl) (fun X C G F I => ?_)
  show zV X 0 0 _ 0 [(0, _)] []
  obtain ⟨cs, hp, hsrt, hf⟩ := hg
  have hw := rG_W hR (by omega) hp
  have hN := hR.2.1
  have hls := hf.2.2.1
  refine zV.aload_n C dX10_oil_0 rfl rfl ?_
  refine zV.ic (v := nI 0) C dX10_oil_1 (by decide) ?_
  refine zV.pI 435 (k := 19) C dX10_oil_2 zcl_X10 (by decide) rfl lk_X10_39 rfl hm.1 rfl ⟨rfl, rfl⟩ ?_
  refine zV.aload_n C dX10_oil_5 rfl rfl ?_
  refine zV.gR 416 (k := 0) C dX10_oil_6 zcl_X10 (by decide) rfl lk_X10_9 (hm.1) rfl (hm.2.1) ?_
  refine zV.ic (v := nI 3) C dX10_oil_9 (by decide) ?_
  refine zV.ialdv (j := 3) C dX10_oil_10 (hm.2.2.2.2.2.2.2.2.2.1.1) (rfl) (Nat.lt_of_lt_of_eq (show 3 < 116 by decide) (hm.2.2.2.2.2.2.2.2.2.1.2).symm) (by omega) (hf.2.2.2.2.2.1) ?_
  refine zV.iret C F dX10_oil_11 rfl ?_
  exact ⟨rfl, rfl⟩
set_option maxHeartbeats 4000000 in
set_option maxRecDepth 100000 in
theorem s_qcollapsedChairs {l : Launch} {E : zG} (hzs : zS E) (hst : l.stackTraces = false) (h : zH) (r m : Nat) (g : zGd) (hm : zMs h r) (hg : rG (aI h (r + 1)) g) (hR : gR m g) (hb : m + 3000 ≤ big) : zMet l E yX10_collapsedChairs cX10_collapsedChairs 1 (some .int) ({ frames := 0, cells := 0, slots := 0, locals := 0 } : Room) 0 0 [.ref r] h (fun v h' => v = some (.int (nI (gF g))) ∧ h' = sI h 435 r (nI 0)) (fun _ _ => False) := by
  refine zM_start hzs hst (by decide) (Nat.le_of_ble_eq_true rfl) (fun X C G F I => ?_)
  show zV X 0 0 _ 0 [(0, _)] []
  obtain ⟨cs, hp, hsrt, hf⟩ := hg
  have hw := rG_W hR (by omega) hp
  have hN := hR.2.1
  have hls := hf.2.2.1
  refine zV.aload_n C dX10_collapsedChairs_0 rfl rfl ?_
  refine zV.ic (v := nI 0) C dX10_collapsedChairs_1 (by decide) ?_
  refine zV.pI 435 (k := 19) C dX10_collapsedChairs_2 zcl_X10 (by decide) rfl lk_X10_39 rfl hm.1 rfl ⟨rfl, rfl⟩ ?_
  refine zV.aload_n C dX10_collapsedChairs_5 rfl rfl ?_
  refine zV.gR 416 (k := 0) C dX10_collapsedChairs_6 zcl_X10 (by decide) rfl lk_X10_9 (hm.1) rfl (hm.2.1) ?_
  refine zV.ic (v := nI 4) C dX10_collapsedChairs_9 (by decide) ?_
  refine zV.ialdv (j := 4) C dX10_collapsedChairs_10 (hm.2.2.2.2.2.2.2.2.2.1.1) (rfl) (Nat.lt_of_lt_of_eq (show 4 < 116 by decide) (hm.2.2.2.2.2.2.2.2.2.1.2).symm) (by omega) (hf.2.2.2.2.2.2.1) ?_
  refine zV.iret C F dX10_collapsedChairs_11 rfl ?_
  exact ⟨rfl, rfl⟩
set_option maxHeartbeats 4000000 in
set_option maxRecDepth 100000 in
theorem s_qscrappedChairs {l : Launch} {E : zG} (hzs : zS E) (hst : l.stackTraces = false) (h : zH) (r m : Nat) (g : zGd) (hm : zMs h r) (hg : rG (aI h (r + 1)) g) (hR : gR m g) (hb : m + 3000 ≤ big) : zMet l E yX10_scrappedChairs cX10_scrappedChairs 1 (some .int) ({ frames := 0, cells := 0, slots := 0, locals := 0 } : Room) 0 0 [.ref r] h (fun v h' => v = some (.int (nI (gU g))) ∧ h' = sI h 435 r (nI 0)) (fun _ _ => False) := by
  refine zM_start hzs hst (by decide) (Nat.le_of_ble_eq_true rfl) (fun X C G F I => ?_)
  show zV X 0 0 _ 0 [(0, _)] []
  obtain ⟨cs, hp, hsrt, hf⟩ := hg
  have hw := rG_W hR (by omega) hp
  have hN := hR.2.1
  have hls := hf.2.2.1
  refine zV.aload_n C dX10_scrappedChairs_0 rfl rfl ?_
  refine zV.ic (v := nI 0) C dX10_scrappedChairs_1 (by decide) ?_
  refine zV.pI 435 (k := 19) C dX10_scrappedChairs_2 zcl_X10 (by decide) rfl lk_X10_39 rfl hm.1 rfl ⟨rfl, rfl⟩ ?_
  refine zV.aload_n C dX10_scrappedChairs_5 rfl rfl ?_
  refine zV.gR 416 (k := 0) C dX10_scrappedChairs_6 zcl_X10 (by decide) rfl lk_X10_9 (hm.1) rfl (hm.2.1) ?_
  refine zV.ic (v := nI 5) C dX10_scrappedChairs_9 (by decide) ?_
  refine zV.ialdv (j := 5) C dX10_scrappedChairs_10 (hm.2.2.2.2.2.2.2.2.2.1.1) (rfl) (Nat.lt_of_lt_of_eq (show 5 < 116 by decide) (hm.2.2.2.2.2.2.2.2.2.1.2).symm) (by omega) (hf.2.2.2.2.2.2.2.1) ?_
  refine zV.iret C F dX10_scrappedChairs_11 rfl ?_
  exact ⟨rfl, rfl⟩
set_option maxHeartbeats 4000000 in
set_option maxRecDepth 100000 in
theorem s_qmoveCount {l : Launch} {E : zG} (hzs : zS E) (hst : l.stackTraces = false) (h : zH) (r m : Nat) (g : zGd) (hm : zMs h r) (hg : rG (aI h (r + 1)) g) (hR : gR m g) (hb : m + 3000 ≤ big) : zMet l E yX10_moveCount cX10_moveCount 1 (some .int) ({ frames := 0, cells := 0, slots := 0, locals := 0 } : Room) 0 0 [.ref r] h (fun v h' => v = some (.int (nI (gM g))) ∧ h' = sI h 435 r (nI 0)) (fun _ _ => False) := by
  refine zM_start hzs hst (by decide) (Nat.le_of_ble_eq_true rfl) (fun X C G F I => ?_)
  show zV X 0 0 _ 0 [(0, _)] []
  obtain ⟨cs, hp, hsrt, hf⟩ := hg
  have hw := rG_W hR (by omega) hp
  have hN := hR.2.1
  have hls := hf.2.2.1
  refine zV.aload_n C dX10_moveCount_0 rfl rfl ?_
  refine zV.ic (v := nI 0) C dX10_moveCount_1 (by decide) ?_
  refine zV.pI 435 (k := 19) C dX10_moveCount_2 zcl_X10 (by decide) rfl lk_X10_39 rfl hm.1 rfl ⟨rfl, rfl⟩ ?_
  refine zV.aload_n C dX10_moveCount_5 rfl rfl ?_
  refine zV.gR 416 (k := 0) C dX10_moveCount_6 zcl_X10 (by decide) rfl lk_X10_9 (hm.1) rfl (hm.2.1) ?_
  refine zV.bi (v := nI 6) C dX10_moveCount_9 (by decide) ?_
  refine zV.ialdv (j := 6) C dX10_moveCount_11 (hm.2.2.2.2.2.2.2.2.2.1.1) (rfl) (Nat.lt_of_lt_of_eq (show 6 < 116 by decide) (hm.2.2.2.2.2.2.2.2.2.1.2).symm) (by omega) (hf.2.2.2.2.2.2.2.2.1) ?_
  refine zV.iret C F dX10_moveCount_12 rfl ?_
  exact ⟨rfl, rfl⟩
set_option maxHeartbeats 4000000 in
set_option maxRecDepth 100000 in
theorem s_qgrazedShade {l : Launch} {E : zG} (hzs : zS E) (hst : l.stackTraces = false) (h : zH) (r m : Nat) (g : zGd) (hm : zMs h r) (hg : rG (aI h (r + 1)) g) (hR : gR m g) (hb : m + 3000 ≤ big) : zMet l E yX10_grazedShade cX10_grazedShade 1 (some .int) ({ frames := 0, cells := 0, slots := 0, locals := 0 } : Room) 0 0 [.ref r] h (fun v h' => v = some (.int (nI (gZ g))) ∧ h' = sI h 435 r (nI 0)) (fun _ _ => False) := by
  refine zM_start hzs hst (by decide) (Nat.le_of_ble_eq_true rfl) (fun X C G F I => ?_)
  show zV X 0 0 _ 0 [(0, _)] []
  obtain ⟨cs, hp, hsrt, hf⟩ := hg
  have hw := rG_W hR (by omega) hp
  have hN := hR.2.1
  have hls := hf.2.2.1
  refine zV.aload_n C dX10_grazedShade_0 rfl rfl ?_
  refine zV.ic (v := nI 0) C dX10_grazedShade_1 (by decide) ?_
  refine zV.pI 435 (k := 19) C dX10_grazedShade_2 zcl_X10 (by decide) rfl lk_X10_39 rfl hm.1 rfl ⟨rfl, rfl⟩ ?_
  refine zV.aload_n C dX10_grazedShade_5 rfl rfl ?_
  refine zV.gR 416 (k := 0) C dX10_grazedShade_6 zcl_X10 (by decide) rfl lk_X10_9 (hm.1) rfl (hm.2.1) ?_
  refine zV.bi (v := nI 7) C dX10_grazedShade_9 (by decide) ?_
  refine zV.ialdv (j := 7) C dX10_grazedShade_11 (hm.2.2.2.2.2.2.2.2.2.1.1) (rfl) (Nat.lt_of_lt_of_eq (show 7 < 116 by decide) (hm.2.2.2.2.2.2.2.2.2.1.2).symm) (by omega) (hf.2.2.2.2.2.2.2.2.2) ?_
  refine zV.iret C F dX10_grazedShade_12 rfl ?_
  exact ⟨rfl, rfl⟩
set_option maxHeartbeats 4000000 in
set_option maxRecDepth 100000 in
theorem s_qchairCount {l : Launch} {E : zG} (hzs : zS E) (hst : l.stackTraces = false) (h : zH) (r m : Nat) (g : zGd) (hm : zMs h r) (hg : rG (aI h (r + 1)) g) (hR : gR m g) (hb : m + 3000 ≤ big) : zMet l E yX10_chairCount cX10_chairCount 1 (some .int) ({ frames := 0, cells := 0, slots := 0, locals := 0 } : Room) 0 0 [.ref r] h (fun v h' => v = some (.int (nI (gC g).length)) ∧ h' = sI h 435 r (nI 0)) (fun _ _ => False) := by
  refine zM_start hzs hst (by decide) (Nat.le_of_ble_eq_true rfl) (fun X C G F I => ?_)
  show zV X 0 0 _ 0 [(0, _)] []
  obtain ⟨cs, hp, hsrt, hf⟩ := hg
  have hw := rG_W hR (by omega) hp
  have hN := hR.2.1
  have hls := hf.2.2.1
  refine zV.aload_n C dX10_chairCount_0 rfl rfl ?_
  refine zV.ic (v := nI 0) C dX10_chairCount_1 (by decide) ?_
  refine zV.pI 435 (k := 19) C dX10_chairCount_2 zcl_X10 (by decide) rfl lk_X10_39 rfl hm.1 rfl ⟨rfl, rfl⟩ ?_
  refine zV.aload_n C dX10_chairCount_5 rfl rfl ?_
  refine zV.gR 416 (k := 0) C dX10_chairCount_6 zcl_X10 (by decide) rfl lk_X10_9 (hm.1) rfl (hm.2.1) ?_
  refine zV.ic (v := nI 0) C dX10_chairCount_9 (by decide) ?_
  refine zV.ialdv (j := 0) C dX10_chairCount_10 (hm.2.2.2.2.2.2.2.2.2.1.1) (rfl) (Nat.lt_of_lt_of_eq (show 0 < 116 by decide) (hm.2.2.2.2.2.2.2.2.2.1.2).symm) (by omega) ((hf.1.1.trans (by rw [hp.length_eq]))) ?_
  refine zV.iret C F dX10_chairCount_11 rfl ?_
  exact ⟨rfl, rfl⟩
set_option maxHeartbeats 4000000 in
set_option maxRecDepth 100000 in
theorem s_qfoldedCount {l : Launch} {E : zG} (hzs : zS E) (hst : l.stackTraces = false) (h : zH) (r m : Nat) (g : zGd) (hm : zMs h r) (hg : rG (aI h (r + 1)) g) (hR : gR m g) (hb : m + 3000 ≤ big) : zMet l E yX10_foldedCount cX10_foldedCount 1 (some .int) ({ frames := 2, cells := 0, slots := 0, locals := 44 } : Room) 0 0 [.ref r] h (fun v h' => v = some (.int (nI ((gC g).countP chF))) ∧ h' = sI h 435 r (nI 0)) (fun _ _ => False) := by
  refine zM_start hzs hst (by decide) (Nat.le_of_ble_eq_true rfl) (fun X C G F I => ?_)
  show zV X 0 0 _ 0 [(0, _)] []
  obtain ⟨cs, hp, hsrt, hf⟩ := hg
  have hw := rG_W hR (by omega) hp
  have hN := hR.2.1
  have hls := hf.2.2.1
  refine zV.aload_n C dX10_foldedCount_0 rfl rfl ?_
  refine zV.ic (v := nI 0) C dX10_foldedCount_1 (by decide) ?_
  refine zV.pI 435 (k := 19) C dX10_foldedCount_2 zcl_X10 (by decide) rfl lk_X10_39 rfl hm.1 rfl ⟨rfl, rfl⟩ ?_
  refine zV.aload_n C dX10_foldedCount_5 rfl rfl ?_
  refine zV.callV (n := 0) C G dX10_foldedCount_6 (s_mfolded hzs hst (sI h 435 r (nI 0)) r g cs (hrd (gC g)) hm hf hw) rfl ⟨cd_X10_folded, lk_X10_138, im_X10_folded, se_X10_X10_folded, in_X10⟩ ⟨⟨by decide, by decide⟩, by decide⟩ rfl rfl rfl (hm.1) ⟨rfl, by decide⟩ (zaf ?_) (zno)
  rw [hp.countP_eq]
  refine zV.iret C F dX10_foldedCount_9 rfl ?_
  exact ⟨rfl, rfl⟩
theorem rsum_p {cs ds : List zCh} (p : cs.Perm ds) : rsum cs = rsum ds := by
  induction p with
  | nil => rfl
  | cons x _ ih => unfold rsum; rw [ih]
  | swap x y l => unfold rsum rsum; omega
  | trans _ _ h1 h2 => exact h1.trans h2
set_option maxHeartbeats 4000000 in
set_option maxRecDepth 100000 in
theorem s_qtotalRust {l : Launch} {E : zG} (hzs : zS E) (hst : l.stackTraces = false) (h : zH) (r m : Nat) (g : zGd) (hm : zMs h r) (hg : rG (aI h (r + 1)) g) (hR : gR m g) (hb : m + 3000 ≤ big) : zMet l E yX10_totalRust cX10_totalRust 1 (some .int) ({ frames := 2, cells := 0, slots := 0, locals := 44 } : Room) 0 0 [.ref r] h (fun v h' => v = some (.int (nI (rsum (gC g)))) ∧ h' = sI h 435 r (nI 0)) (fun _ _ => False) := by
  refine zM_start hzs hst (by decide) (Nat.le_of_ble_eq_true rfl) (fun X C G F I => ?_)
  show zV X 0 0 _ 0 [(0, _)] []
  obtain ⟨cs, hp, hsrt, hf⟩ := hg
  have hw := rG_W hR (by omega) hp
  have hN := hR.2.1
  have hls := hf.2.2.1
  refine zV.aload_n C dX10_totalRust_0 rfl rfl ?_
  refine zV.ic (v := nI 0) C dX10_totalRust_1 (by decide) ?_
  refine zV.pI 435 (k := 19) C dX10_totalRust_2 zcl_X10 (by decide) rfl lk_X10_39 rfl hm.1 rfl ⟨rfl, rfl⟩ ?_
  refine zV.aload_n C dX10_totalRust_5 rfl rfl ?_
  refine zV.callV (n := 0) C G dX10_totalRust_6 (s_mrusts hzs hst (sI h 435 r (nI 0)) r g cs (hrd (gC g)) hm hf hw) rfl ⟨cd_X10_rusts, lk_X10_194, im_X10_rusts, se_X10_X10_rusts, in_X10⟩ ⟨⟨by decide, by decide⟩, by decide⟩ rfl rfl rfl (hm.1) ⟨rfl, by decide⟩ (zaf ?_) (zno)
  rw [rsum_p hp]
  refine zV.iret C F dX10_totalRust_9 rfl ?_
  exact ⟨rfl, rfl⟩
theorem kc_pl {g : zGd} {cs : List zCh} {H : Nat → List Nat} {x : Int32} (p : cs.Perm (gC g)) (w : rW g cs H) : ((kc g x).isSome = true ∧ ∃ k c j, kc g x = some (k, c) ∧ ixF x cs 0 = some j ∧ cs[j]? = some c ∧ j < 12 ∧ x = nI (chI c) ∧ (gC g)[k]? = some c) ∨ (kc g x = none ∧ ixF x cs 0 = none) := by
  rcases e : kc g x with _ | ⟨k, c⟩
  · exact Or.inr ⟨rfl, pl_n p e⟩
  · obtain ⟨j, h1, h2, h3, h4, h5⟩ := pl_s p w e
    exact Or.inl ⟨rfl, k, c, j, rfl, h1, h2, h3, h4, h5⟩
set_option maxHeartbeats 4000000 in
set_option maxRecDepth 100000 in
theorem s_qexists {l : Launch} {E : zG} (hzs : zS E) (hst : l.stackTraces = false) (h : zH) (r m : Nat) (g : zGd) (hm : zMs h r) (hg : rG (aI h (r + 1)) g) (hR : gR m g) (hb : m + 3000 ≤ big) (x : Int32) : zMet l E yX10_exists cX10_exists 2 (some .boolean) ({ frames := 2, cells := 0, slots := 0, locals := 44 } : Room) 0 0 [.ref r, .int x] h (fun v h' => v = some (.int (nI (b2 (kc g x).isSome))) ∧ h' = sI h 435 r (nI 0)) (fun _ _ => False) := by
  refine zM_start hzs hst (by decide) (Nat.le_of_ble_eq_true rfl) (fun X C G F I => ?_)
  show zV X 0 0 _ 0 [(0, _), (1, _)] []
  obtain ⟨cs, hp, hsrt, hf⟩ := hg
  have hw := rG_W hR (by omega) hp
  have hN := hR.2.1
  have hls := hf.2.2.1
  rcases kc_pl (x := x) hp hw with ⟨e0, k, c, j, e1, ej, hcj, hj12, ex, hck⟩ | ⟨e1, ej⟩
  · refine zV.aload_n C dX10_exists_0 rfl rfl ?_
    refine zV.ic (v := nI 0) C dX10_exists_1 (by decide) ?_
    refine zV.pI 435 (k := 19) C dX10_exists_2 zcl_X10 (by decide) rfl lk_X10_39 rfl hm.1 rfl ⟨rfl, rfl⟩ ?_
    refine zV.aload_n C dX10_exists_5 rfl rfl ?_
    refine zV.iload_n C dX10_exists_6 rfl ?_
    refine zV.callV (n := 1) C G dX10_exists_7 (s_mplace hzs hst (sI h 435 r (nI 0)) r g cs (hrd (gC g)) hm hf hw x) rfl ⟨cd_X10_place, lk_X10_129, im_X10_place, se_X10_X10_place, in_X10⟩ ⟨⟨by decide, by decide⟩, by decide⟩ rfl rfl rfl (hm.1) ⟨rfl, by decide⟩ (zaf ?_) (zno)
    rw [ej]
    show zV X _ _ _ 10 _ (.int (nI j) :: _)
    refine zV.if_lt (tgt := 17) C dX10_exists_10 (by decide) (fun q10 => ?_) (fun q10 => ?_)
    · exact absurd q10 (nI_pos (by omega))
    · refine zV.ic (v := nI 1) C dX10_exists_13 (by decide) ?_
      refine zV.goto (tgt := 18) C dX10_exists_14 (by decide) ?_
      refine zV.zret C F dX10_exists_18 rfl rfl ?_
      exact ⟨by rw [e0]; rfl, rfl⟩
  · refine zV.aload_n C dX10_exists_0 rfl rfl ?_
    refine zV.ic (v := nI 0) C dX10_exists_1 (by decide) ?_
    refine zV.pI 435 (k := 19) C dX10_exists_2 zcl_X10 (by decide) rfl lk_X10_39 rfl hm.1 rfl ⟨rfl, rfl⟩ ?_
    refine zV.aload_n C dX10_exists_5 rfl rfl ?_
    refine zV.iload_n C dX10_exists_6 rfl ?_
    refine zV.callV (n := 1) C G dX10_exists_7 (s_mplace hzs hst (sI h 435 r (nI 0)) r g cs (hrd (gC g)) hm hf hw x) rfl ⟨cd_X10_place, lk_X10_129, im_X10_place, se_X10_X10_place, in_X10⟩ ⟨⟨by decide, by decide⟩, by decide⟩ rfl rfl rfl (hm.1) ⟨rfl, by decide⟩ (zaf ?_) (zno)
    rw [ej]
    show zV X _ _ _ 10 _ (.int (-1) :: _)
    refine zV.if_lt (tgt := 17) C dX10_exists_10 (by decide) (fun q10 => ?_) (fun q10 => ?_)
    · refine zV.ic (v := nI 0) C dX10_exists_17 (by decide) ?_
      refine zV.zret C F dX10_exists_18 rfl rfl ?_
      exact ⟨by rw [e1]; rfl, rfl⟩
    · exact absurd (by decide) q10
def tlV (w : Nat) (c : zCh) : Int32 := if w = 1 then nI (chL c) else if w = 2 then nI (chR c) else if w = 3 then nI (b2 (chF c)) else nI (chD c)
set_option maxHeartbeats 4000000 in
set_option maxRecDepth 100000 in
theorem s_qtells {l : Launch} {E : zG} (hzs : zS E) (hst : l.stackTraces = false) (h : zH) (r m : Nat) (g : zGd) (hm : zMs h r) (hg : rG (aI h (r + 1)) g) (hR : gR m g) (hb : m + 3000 ≤ big) (x : Int32) (w : Nat) (hw1 : 1 ≤ w) (hw5 : w < 5) : zMet l E yX10_tells cX10_tells 4 (some .int) ({ frames := 2, cells := 0, slots := 0, locals := 44 } : Room) 0 0 [.ref r, .int x, .int (nI w)] h (mqQ h r (chQ g x (fun _ c => .inr (.int (tlV w c)))) c1 (.int (nI 0))) (fun _ _ => False) := by
  refine zM_start hzs hst (by decide) (Nat.le_of_ble_eq_true rfl) (fun X C G F I => ?_)
  show zV X 0 0 _ 0 [(0, _), (1, _), (2, _)] []
  obtain ⟨cs, hp, hsrt, hf⟩ := hg
  have hw := rG_W hR (by omega) hp
  have hN := hR.2.1
  have hls := hf.2.2.1
  rcases kc_pl (x := x) hp hw with ⟨e0, k, c, j, e1, ej, hcj, hj12, ex, hck⟩ | ⟨e1, ej⟩
  · refine zV.aload_n C dX10_tells_0 rfl rfl ?_
    refine zV.iload_n C dX10_tells_1 rfl ?_
    refine zV.callV (n := 1) C G dX10_tells_2 (s_mplace hzs hst h r g cs (hrd (gC g)) hm hf hw x) rfl ⟨cd_X10_place, lk_X10_129, im_X10_place, se_X10_X10_place, in_X10⟩ ⟨⟨by decide, by decide⟩, by decide⟩ rfl rfl rfl (hm.1) ⟨rfl, by decide⟩ (zaf ?_) (zno)
    rw [ej]
    show zV X _ _ _ 5 _ (.int (nI j) :: _)
    refine zV.istore_n (lo' := [(0, _), (1, _), (2, _), (3, _)]) C dX10_tells_5 (by decide) rfl rfl rfl ?_
    refine zV.aload_n C dX10_tells_6 rfl rfl ?_
    refine zV.iload_n C dX10_tells_7 rfl ?_
    refine zV.if_ge (tgt := 15) C dX10_tells_8 (by decide) (fun q8 => ?_) (fun q8 => ?_)
    · refine zV.ic (v := nI 0) C dX10_tells_15 (by decide) ?_
      refine zV.pI 435 (k := 19) C dX10_tells_16 zcl_X10 (by decide) rfl lk_X10_39 rfl hm.1 rfl ⟨rfl, rfl⟩ ?_
      refine zV.iload_n C dX10_tells_19 rfl ?_
      refine zV.if_ge (tgt := 27) C dX10_tells_20 (by decide) (fun q20 => ?_) (fun q20 => ?_)
      · refine zV.aload_n C dX10_tells_27 rfl rfl ?_
        refine zV.iload_n C dX10_tells_28 rfl ?_
        refine zV.iload_n C dX10_tells_29 rfl ?_
        refine zV.callV (n := 2) C G dX10_tells_30 (s_mof hzs hst (sI h 435 r (nI 0)) r hm j w hj12 hw5) rfl ⟨cd_X10_of, lk_X10_65, im_X10_of, se_X10_X10_of, in_X10⟩ ⟨⟨by decide, by decide⟩, by decide⟩ rfl rfl rfl (hm.1) ⟨rfl, by decide⟩ (zaf ?_) (zno)
        rw [show aI (sI h 435 r (nI 0)) (r + 1) (56 + 5 * j + w) = tlV w c from (by
      obtain ⟨c1_, c2_, c3_, c4_, c5_⟩ := hf.1.2 j c hcj
      match w, hw1, hw5 with
      | 1, _, _ => exact c2_
      | 2, _, _ => exact c3_
      | 3, _, _ => exact c4_
      | 4, _, _ => exact c5_)]
        refine zV.iret C F dX10_tells_33 rfl ?_
        exact mq_r (chQ_s e1)
      · exact absurd (nI_le (Nat.zero_le _) (by omega)) q20
    · exact absurd (nI_le (Nat.zero_le _) (by omega)) q8
  · refine zV.aload_n C dX10_tells_0 rfl rfl ?_
    refine zV.iload_n C dX10_tells_1 rfl ?_
    refine zV.callV (n := 1) C G dX10_tells_2 (s_mplace hzs hst h r g cs (hrd (gC g)) hm hf hw x) rfl ⟨cd_X10_place, lk_X10_129, im_X10_place, se_X10_X10_place, in_X10⟩ ⟨⟨by decide, by decide⟩, by decide⟩ rfl rfl rfl (hm.1) ⟨rfl, by decide⟩ (zaf ?_) (zno)
    rw [ej]
    show zV X _ _ _ 5 _ (.int (-1) :: _)
    refine zV.istore_n (lo' := [(0, _), (1, _), (2, _), (3, _)]) C dX10_tells_5 (by decide) rfl rfl rfl ?_
    refine zV.aload_n C dX10_tells_6 rfl rfl ?_
    refine zV.iload_n C dX10_tells_7 rfl ?_
    refine zV.if_ge (tgt := 15) C dX10_tells_8 (by decide) (fun q8 => ?_) (fun q8 => ?_)
    · exact absurd q8 (by decide)
    · refine zV.ic (v := nI 1) C dX10_tells_11 (by decide) ?_
      refine zV.goto (tgt := 16) C dX10_tells_12 (by decide) ?_
      refine zV.pI 435 (k := 19) C dX10_tells_16 zcl_X10 (by decide) rfl lk_X10_39 rfl hm.1 rfl ⟨rfl, rfl⟩ ?_
      refine zV.iload_n C dX10_tells_19 rfl ?_
      refine zV.if_ge (tgt := 27) C dX10_tells_20 (by decide) (fun q20 => ?_) (fun q20 => ?_)
      · exact absurd q20 (by decide)
      · refine zV.ic (v := nI 0) C dX10_tells_23 (by decide) ?_
        refine zV.goto (tgt := 33) C dX10_tells_24 (by decide) ?_
        refine zV.iret C F dX10_tells_33 rfl ?_
        exact mq_x (chQ_n e1) rfl
