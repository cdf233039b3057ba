/-! Chair -/
/-- the fields of the chair b, into the chair a -/
def chCopy (h : zH) (a b : Nat) : zH := sI (sI (sI (sI (sI h 128 a (hI h 128 b)) 129 a (hI h 129 b)) 130 a (hI h 130 b)) 131 a (hI h 131 b)) 132 a (hI h 132 b)
set_option maxHeartbeats 4000000 in
set_option maxRecDepth 100000 in
theorem s_Chair_init {l : Launch} {E : zG} (hzs : zS E) (hst : l.stackTraces = false) (h : zH) (a : Nat) (hk : hK h a = 5) : zMet l E yX0_init cX0_init 1 none ({ frames := 1, cells := 0, slots := 0, locals := 20 } : Room) 0 0 [.ref a] h (fun r h' => r = none ∧ h' = h) (fun _ _ => False) := by
  refine zM_start hzs hst (by decide) (Nat.le_of_ble_eq_true rfl) (fun X C G F I => ?_)
  show zV X 0 0 _ 0 [(0, _)] []
  have I := I rfl
  refine zV.aload_n C dX0_init_0 rfl rfl ?_
  refine zV.obj C G dX0_init_1 ⟨lk_X0_1, im_Oinit, cd_Oinit⟩ rfl rfl ?_
  refine zV.vret C F dX0_init_4 rfl ?_
  exact ⟨rfl, rfl⟩
set_option maxHeartbeats 4000000 in
set_option maxRecDepth 100000 in
theorem s_Chair_become {l : Launch} {E : zG} (hzs : zS E) (hst : l.stackTraces = false) (h : zH) (a b : Nat) (hk : hK h a = 5) (hk2 : hK h b = 5) (hf : hI h 132 b = nI 0 ∨ hI h 132 b = nI 1) : zMet l E yX0_become cX0_become 2 none ({ frames := 0, cells := 0, slots := 0, locals := 0 } : Room) 0 0 [.ref a, .ref b] h (fun r h' => r = none ∧ h' = chCopy h a b) (fun _ _ => False) := by
  refine zM_start hzs hst (by decide) (Nat.le_of_ble_eq_true rfl) (fun X C G F I => ?_)
  show zV X 0 0 _ 0 [(0, _), (1, _)] []
  refine zV.aload_n C dX0_become_0 rfl rfl ?_
  refine zV.aload_n C dX0_become_1 rfl rfl ?_
  refine zV.gI 128 (k := 0) C dX0_become_2 zcl_X0 (by decide) rfl lk_X0_7 hk2 rfl ?_
  refine zV.pI 128 (k := 0) C dX0_become_5 zcl_X0 (by decide) rfl lk_X0_7 rfl hk rfl ⟨rfl, rfl⟩ ?_
  refine zV.aload_n C dX0_become_8 rfl rfl ?_
  refine zV.aload_n C dX0_become_9 rfl rfl ?_
  refine zV.gI 129 (k := 1) C dX0_become_10 zcl_X0 (by decide) rfl lk_X0_13 hk2 rfl ?_
  refine zV.pI 129 (k := 1) C dX0_become_13 zcl_X0 (by decide) rfl lk_X0_13 rfl hk rfl ⟨rfl, rfl⟩ ?_
  refine zV.aload_n C dX0_become_16 rfl rfl ?_
  refine zV.aload_n C dX0_become_17 rfl rfl ?_
  refine zV.gI 130 (k := 2) C dX0_become_18 zcl_X0 (by decide) rfl lk_X0_16 hk2 rfl ?_
  refine zV.pI 130 (k := 2) C dX0_become_21 zcl_X0 (by decide) rfl lk_X0_16 rfl hk rfl ⟨rfl, rfl⟩ ?_
  refine zV.aload_n C dX0_become_24 rfl rfl ?_
  refine zV.aload_n C dX0_become_25 rfl rfl ?_
  refine zV.gI 131 (k := 3) C dX0_become_26 zcl_X0 (by decide) rfl lk_X0_19 hk2 rfl ?_
  refine zV.pI 131 (k := 3) C dX0_become_29 zcl_X0 (by decide) rfl lk_X0_19 rfl hk rfl ⟨rfl, rfl⟩ ?_
  refine zV.aload_n C dX0_become_32 rfl rfl ?_
  refine zV.aload_n C dX0_become_33 rfl rfl ?_
  refine zV.gI 132 (k := 4) C dX0_become_34 zcl_X0 (by decide) rfl lk_X0_22 hk2 rfl ?_
  refine zV.pI 132 (k := 4) C dX0_become_37 zcl_X0 (by decide) rfl lk_X0_22 rfl hk rfl (zbf hf) ?_
  refine zV.vret C F dX0_become_40 rfl ?_
  exact ⟨rfl, rfl⟩
set_option maxHeartbeats 4000000 in
set_option maxRecDepth 100000 in
theorem s_Chair_grazesOn {l : Launch} {E : zG} (hzs : zS E) (hst : l.stackTraces = false) (h : zH) (a : Nat) (x : Int32) (hk : hK h a = 5) : zMet l E yX0_grazesOn cX0_grazesOn 2 (some .boolean) ({ frames := 0, cells := 0, slots := 0, locals := 0 } : Room) 0 0 [.ref a, .int x] h (fun r h' => r = some (.int (nI (if hI h 129 a = x ∧ hI h 132 a = 0 then 1 else 0))) ∧ h' = h) (fun _ _ => False) := by
  refine zM_start hzs hst (by decide) (Nat.le_of_ble_eq_true rfl) (fun X C G F I => ?_)
  show zV X 0 0 _ 0 [(0, _), (1, _)] []
  refine zV.aload_n C dX0_grazesOn_0 rfl rfl ?_
  refine zV.gI 129 (k := 1) C dX0_grazesOn_1 zcl_X0 (by decide) rfl lk_X0_13 hk rfl ?_
  refine zV.iload_n C dX0_grazesOn_4 rfl ?_
  refine zV.icmp_ne (tgt := 19) C dX0_grazesOn_5 (by decide) (fun q5 => ?_) (fun q5 => ?_)
  · refine zV.ic (v := nI 0) C dX0_grazesOn_19 (by decide) ?_
    refine zV.zret C F dX0_grazesOn_20 rfl rfl ?_
    refine ⟨?_, rfl⟩
    first
      | exact retT ⟨q5, q12⟩
      | exact retF (fun z => q5 z.1)
      | exact retF (fun z => q12 z.2)
  · refine zV.aload_n C dX0_grazesOn_8 rfl rfl ?_
    refine zV.gI 132 (k := 4) C dX0_grazesOn_9 zcl_X0 (by decide) rfl lk_X0_22 hk rfl ?_
    refine zV.if_ne (tgt := 19) C dX0_grazesOn_12 (by decide) (fun q12 => ?_) (fun q12 => ?_)
    · refine zV.ic (v := nI 0) C dX0_grazesOn_19 (by decide) ?_
      refine zV.zret C F dX0_grazesOn_20 rfl rfl ?_
      refine ⟨?_, rfl⟩
      first
        | exact retT ⟨q5, q12⟩
        | exact retF (fun z => q5 z.1)
        | exact retF (fun z => q12 z.2)
    · refine zV.ic (v := nI 1) C dX0_grazesOn_15 (by decide) ?_
      refine zV.goto (tgt := 20) C dX0_grazesOn_16 (by decide) ?_
      refine zV.zret C F dX0_grazesOn_20 rfl rfl ?_
      refine ⟨?_, rfl⟩
      first
        | exact retT ⟨q5, q12⟩
        | exact retF (fun z => q5 z.1)
        | exact retF (fun z => q12 z.2)
set_option maxHeartbeats 4000000 in
set_option maxRecDepth 100000 in
theorem s_Chair_isElderThan {l : Launch} {E : zG} (hzs : zS E) (hst : l.stackTraces = false) (h : zH) (a b : Nat) (hk : hK h a = 5) (hk2 : hK h b = 5) : zMet l E yX0_isElderThan cX0_isElderThan 2 (some .boolean) ({ frames := 0, cells := 0, slots := 0, locals := 0 } : Room) 0 0 [.ref a, .ref b] h (fun r h' => r = some (.int (nI (if hI h 130 b < hI h 130 a ∨ (hI h 130 a = hI h 130 b ∧ hI h 128 a < hI h 128 b) then 1 else 0))) ∧ h' = h) (fun _ _ => False) := by
  refine zM_start hzs hst (by decide) (Nat.le_of_ble_eq_true rfl) (fun X C G F I => ?_)
  show zV X 0 0 _ 0 [(0, _), (1, _)] []
  refine zV.aload_n C dX0_isElderThan_0 rfl rfl ?_
  refine zV.gI 130 (k := 2) C dX0_isElderThan_1 zcl_X0 (by decide) rfl lk_X0_16 hk rfl ?_
  refine zV.aload_n C dX0_isElderThan_4 rfl rfl ?_
  refine zV.gI 130 (k := 2) C dX0_isElderThan_5 zcl_X0 (by decide) rfl lk_X0_16 hk2 rfl ?_
  refine zV.icmp_eq (tgt := 30) C dX0_isElderThan_8 (by decide) (fun q8 => ?_) (fun q8 => ?_)
  · refine zV.aload_n C dX0_isElderThan_30 rfl rfl ?_
    refine zV.gI 128 (k := 0) C dX0_isElderThan_31 zcl_X0 (by decide) rfl lk_X0_7 hk rfl ?_
    refine zV.aload_n C dX0_isElderThan_34 rfl rfl ?_
    refine zV.gI 128 (k := 0) C dX0_isElderThan_35 zcl_X0 (by decide) rfl lk_X0_7 hk2 rfl ?_
    refine zV.icmp_ge (tgt := 45) C dX0_isElderThan_38 (by decide) (fun q38 => ?_) (fun q38 => ?_)
    · refine zV.ic (v := nI 0) C dX0_isElderThan_45 (by decide) ?_
      refine zV.zret C F dX0_isElderThan_46 rfl rfl ?_
      refine ⟨?_, rfl⟩
      first
        | exact retT (Or.inr ⟨q8, Int32.not_le.mp q38⟩)
        | exact retT (Or.inl (Int32.not_le.mp q19))
        | exact retF (fun z => z.elim (fun z => by rw [q8] at z; exact absurd z (ilt_irrefl _)) (fun z => Int32.not_le.mpr z.2 q38))
        | exact retF (fun z => z.elim (fun z => Int32.not_le.mpr z q19) (fun z => q8 z.1))
    · refine zV.ic (v := nI 1) C dX0_isElderThan_41 (by decide) ?_
      refine zV.goto (tgt := 46) C dX0_isElderThan_42 (by decide) ?_
      refine zV.zret C F dX0_isElderThan_46 rfl rfl ?_
      refine ⟨?_, rfl⟩
      first
        | exact retT (Or.inr ⟨q8, Int32.not_le.mp q38⟩)
        | exact retT (Or.inl (Int32.not_le.mp q19))
        | exact retF (fun z => z.elim (fun z => by rw [q8] at z; exact absurd z (ilt_irrefl _)) (fun z => Int32.not_le.mpr z.2 q38))
        | exact retF (fun z => z.elim (fun z => Int32.not_le.mpr z q19) (fun z => q8 z.1))
  · refine zV.aload_n C dX0_isElderThan_11 rfl rfl ?_
    refine zV.gI 130 (k := 2) C dX0_isElderThan_12 zcl_X0 (by decide) rfl lk_X0_16 hk rfl ?_
    refine zV.aload_n C dX0_isElderThan_15 rfl rfl ?_
    refine zV.gI 130 (k := 2) C dX0_isElderThan_16 zcl_X0 (by decide) rfl lk_X0_16 hk2 rfl ?_
    refine zV.icmp_le (tgt := 26) C dX0_isElderThan_19 (by decide) (fun q19 => ?_) (fun q19 => ?_)
    · refine zV.ic (v := nI 0) C dX0_isElderThan_26 (by decide) ?_
      refine zV.goto (tgt := 46) C dX0_isElderThan_27 (by decide) ?_
      refine zV.zret C F dX0_isElderThan_46 rfl rfl ?_
      refine ⟨?_, rfl⟩
      first
        | exact retT (Or.inr ⟨q8, Int32.not_le.mp q38⟩)
        | exact retT (Or.inl (Int32.not_le.mp q19))
        | exact retF (fun z => z.elim (fun z => by rw [q8] at z; exact absurd z (ilt_irrefl _)) (fun z => Int32.not_le.mpr z.2 q38))
        | exact retF (fun z => z.elim (fun z => Int32.not_le.mpr z q19) (fun z => q8 z.1))
    · refine zV.ic (v := nI 1) C dX0_isElderThan_22 (by decide) ?_
      refine zV.goto (tgt := 46) C dX0_isElderThan_23 (by decide) ?_
      refine zV.zret C F dX0_isElderThan_46 rfl rfl ?_
      refine ⟨?_, rfl⟩
      first
        | exact retT (Or.inr ⟨q8, Int32.not_le.mp q38⟩)
        | exact retT (Or.inl (Int32.not_le.mp q19))
        | exact retF (fun z => z.elim (fun z => by rw [q8] at z; exact absurd z (ilt_irrefl _)) (fun z => Int32.not_le.mpr z.2 q38))
        | exact retF (fun z => z.elim (fun z => Int32.not_le.mpr z q19) (fun z => q8 z.1))
set_option maxHeartbeats 4000000 in
set_option maxRecDepth 100000 in
theorem s_Chair_rustsAheadOf {l : Launch} {E : zG} (hzs : zS E) (hst : l.stackTraces = false) (h : zH) (a b : Nat) (hk : hK h a = 5) (hk2 : hK h b = 5) : zMet l E yX0_rustsAheadOf cX0_rustsAheadOf 2 (some .boolean) ({ frames := 1, cells := 0, slots := 0, locals := 21 } : Room) 0 0 [.ref a, .ref b] h (fun r h' => r = some (.int (nI (if hI h 130 b < hI h 130 a ∨ (hI h 130 a = hI h 130 b ∧ (hI h 131 a < hI h 131 b ∨ (hI h 131 a = hI h 131 b ∧ hI h 128 a < hI h 128 b))) then 1 else 0))) ∧ h' = h) (fun _ _ => False) := by
  refine zM_start hzs hst (by decide) (Nat.le_of_ble_eq_true rfl) (fun X C G F I => ?_)
  show zV X 0 0 _ 0 [(0, _), (1, _)] []
  refine zV.aload_n C dX0_rustsAheadOf_0 rfl rfl ?_
  refine zV.gI 130 (k := 2) C dX0_rustsAheadOf_1 zcl_X0 (by decide) rfl lk_X0_16 hk rfl ?_
  refine zV.aload_n C dX0_rustsAheadOf_4 rfl rfl ?_
  refine zV.gI 130 (k := 2) C dX0_rustsAheadOf_5 zcl_X0 (by decide) rfl lk_X0_16 hk2 rfl ?_
  refine zV.icmp_ne (tgt := 39) C dX0_rustsAheadOf_8 (by decide) (fun q8 => ?_) (fun q8 => ?_)
  · refine zV.aload_n C dX0_rustsAheadOf_39 rfl rfl ?_
    refine zV.aload_n C dX0_rustsAheadOf_40 rfl rfl ?_
    refine zV.callV (n := 1) C G dX0_rustsAheadOf_41 (s_Chair_isElderThan hzs hst h a b hk hk2) rfl ⟨cd_X0_isElderThan, lk_X0_26, im_X0_isElderThan, se_X0_X0_isElderThan, in_X0⟩ ⟨⟨by decide, by decide⟩, by decide⟩ rfl rfl rfl hk ⟨rfl, by decide⟩ (zaf ?_) (zno)
    refine zV.zret C F dX0_rustsAheadOf_44 b01z rfl ?_
    refine ⟨ifc ?_, rfl⟩
    first
      | exact or_congr Iff.rfl (and_congr Iff.rfl ⟨fun z => Or.inr ⟨q19, z⟩, fun z => z.elim (fun z => by rw [q19] at z; exact absurd z (ilt_irrefl _)) (fun z => z.2)⟩)
      | exact or_congr Iff.rfl ⟨fun z => absurd z.1 q8, fun z => absurd z.1 q8⟩
  · refine zV.aload_n C dX0_rustsAheadOf_11 rfl rfl ?_
    refine zV.gI 131 (k := 3) C dX0_rustsAheadOf_12 zcl_X0 (by decide) rfl lk_X0_19 hk rfl ?_
    refine zV.aload_n C dX0_rustsAheadOf_15 rfl rfl ?_
    refine zV.gI 131 (k := 3) C dX0_rustsAheadOf_16 zcl_X0 (by decide) rfl lk_X0_19 hk2 rfl ?_
    refine zV.icmp_eq (tgt := 39) C dX0_rustsAheadOf_19 (by decide) (fun q19 => ?_) (fun q19 => ?_)
    · refine zV.aload_n C dX0_rustsAheadOf_39 rfl rfl ?_
      refine zV.aload_n C dX0_rustsAheadOf_40 rfl rfl ?_
      refine zV.callV (n := 1) C G dX0_rustsAheadOf_41 (s_Chair_isElderThan hzs hst h a b hk hk2) rfl ⟨cd_X0_isElderThan, lk_X0_26, im_X0_isElderThan, se_X0_X0_isElderThan, in_X0⟩ ⟨⟨by decide, by decide⟩, by decide⟩ rfl rfl rfl hk ⟨rfl, by decide⟩ (zaf ?_) (zno)
      refine zV.zret C F dX0_rustsAheadOf_44 b01z rfl ?_
      refine ⟨ifc ?_, rfl⟩
      first
        | exact or_congr Iff.rfl (and_congr Iff.rfl ⟨fun z => Or.inr ⟨q19, z⟩, fun z => z.elim (fun z => by rw [q19] at z; exact absurd z (ilt_irrefl _)) (fun z => z.2)⟩)
        | exact or_congr Iff.rfl ⟨fun z => absurd z.1 q8, fun z => absurd z.1 q8⟩
    · refine zV.aload_n C dX0_rustsAheadOf_22 rfl rfl ?_
      refine zV.gI 131 (k := 3) C dX0_rustsAheadOf_23 zcl_X0 (by decide) rfl lk_X0_19 hk rfl ?_
      refine zV.aload_n C dX0_rustsAheadOf_26 rfl rfl ?_
      refine zV.gI 131 (k := 3) C dX0_rustsAheadOf_27 zcl_X0 (by decide) rfl lk_X0_19 hk2 rfl ?_
      refine zV.icmp_ge (tgt := 37) C dX0_rustsAheadOf_30 (by decide) (fun q30 => ?_) (fun q30 => ?_)
      · refine zV.ic (v := nI 0) C dX0_rustsAheadOf_37 (by decide) ?_
        refine zV.zret C F dX0_rustsAheadOf_38 rfl rfl ?_
        refine ⟨?_, rfl⟩
        first
          | exact retT (Or.inr ⟨q8, Or.inl (Int32.not_le.mp q30)⟩)
          | exact retF (fun z => z.elim (fun z => by rw [q8] at z; exact absurd z (ilt_irrefl _)) (fun z => z.2.elim (fun z => Int32.not_le.mpr z q30) (fun z => q19 z.1)))
      · refine zV.ic (v := nI 1) C dX0_rustsAheadOf_33 (by decide) ?_
        refine zV.goto (tgt := 38) C dX0_rustsAheadOf_34 (by decide) ?_
        refine zV.zret C F dX0_rustsAheadOf_38 rfl rfl ?_
        refine ⟨?_, rfl⟩
        first
          | exact retT (Or.inr ⟨q8, Or.inl (Int32.not_le.mp q30)⟩)
          | exact retF (fun z => z.elim (fun z => by rw [q8] at z; exact absurd z (ilt_irrefl _)) (fun z => z.2.elim (fun z => Int32.not_le.mpr z q30) (fun z => q19 z.1)))
