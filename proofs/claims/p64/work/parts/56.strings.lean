/-! String: a constant asked for its length and its characters -/
theorem shr0 : ∀ n, n < 200 → nI n >>> (nI 0 &&& 31) = nI n := by decide +kernel
theorem nI255 : ∀ c, c < 128 → nI c &&& nI 255 = nI c := by decide +kernel
theorem i2c_c : ∀ c, c < 128 → ((nI c).toUInt32 % 65536).toInt32 = nI c := by decide +kernel
set_option maxHeartbeats 4000000 in
set_option maxRecDepth 100000 in
theorem s_SisLatin1 {l : Launch} {E : zG} (hzs : zS E) (hst : l.stackTraces = false) (h : zH) (q q2 : Nat) (bs : List Nat) (hs : zSt E q q2 bs) (hl : bs.length < 100) : zMet l E yJ0_isLatin1_aae02 cJ0_isLatin1_aae02 1 (some .boolean) ({ frames := 0, cells := 0, slots := 0, locals := 0 } : Room) 0 0 [.retAddr q] h (fun r h' => r = some (.int (nI 1)) ∧ h' = h) (fun _ _ => False) := by
  refine zM_start hzs hst (by decide) (Nat.le_of_ble_eq_true rfl) (fun X C G F I => ?_)
  show zV X 0 0 _ 0 [(0, _)] []
  refine zV.gstI C G dJ0_isLatin1_aae02_0 (st_compact hzs) lk_J0_38 ?_
  refine zV.if_eq (tgt := 17) C dJ0_isLatin1_aae02_3 (by decide) (fun q3 => ?_) (fun q3 => ?_)
  · exact absurd q3 (by decide)
  · refine zV.aload_n C dJ0_isLatin1_aae02_6 rfl rfl ?_
    refine zV.gRawI C G dJ0_isLatin1_aae02_7 (hs.2.1) lk_J0_15 ?_
    refine zV.if_ne (tgt := 17) C dJ0_isLatin1_aae02_10 (by decide) (fun q10 => ?_) (fun q10 => ?_)
    · exact absurd rfl q10
    · refine zV.ic (v := nI 1) C dJ0_isLatin1_aae02_13 (by decide) ?_
      refine zV.goto (tgt := 18) C dJ0_isLatin1_aae02_14 (by decide) ?_
      refine zV.zret C F dJ0_isLatin1_aae02_18 rfl rfl ?_
      exact ⟨rfl, rfl⟩
set_option maxHeartbeats 4000000 in
set_option maxRecDepth 100000 in
theorem s_Scoder {l : Launch} {E : zG} (hzs : zS E) (hst : l.stackTraces = false) (h : zH) (q q2 : Nat) (bs : List Nat) (hs : zSt E q q2 bs) (hl : bs.length < 100) : zMet l E yJ0_coder_7d493 cJ0_coder_7d493 1 (some .byte) ({ frames := 0, cells := 0, slots := 0, locals := 0 } : Room) 0 0 [.retAddr q] h (fun r h' => r = some (.int (nI 0)) ∧ h' = h) (fun _ _ => False) := by
  refine zM_start hzs hst (by decide) (Nat.le_of_ble_eq_true rfl) (fun X C G F I => ?_)
  show zV X 0 0 _ 0 [(0, _)] []
  refine zV.gstI C G dJ0_coder_7d493_0 (st_compact hzs) lk_J0_38 ?_
  refine zV.if_eq (tgt := 13) C dJ0_coder_7d493_3 (by decide) (fun q3 => ?_) (fun q3 => ?_)
  · exact absurd q3 (by decide)
  · refine zV.aload_n C dJ0_coder_7d493_6 rfl rfl ?_
    refine zV.gRawI C G dJ0_coder_7d493_7 (hs.2.1) lk_J0_15 ?_
    refine zV.goto (tgt := 14) C dJ0_coder_7d493_10 (by decide) ?_
    refine zV.zret C F dJ0_coder_7d493_14 rfl rfl ?_
    exact ⟨rfl, rfl⟩
set_option maxHeartbeats 4000000 in
set_option maxRecDepth 100000 in
theorem s_SisEmpty {l : Launch} {E : zG} (hzs : zS E) (hst : l.stackTraces = false) (h : zH) (q q2 : Nat) (bs : List Nat) (hs : zSt E q q2 bs) (hl : bs.length < 100) : zMet l E yJ0_isEmpty_aae02 cJ0_isEmpty_aae02 1 (some .boolean) ({ frames := 0, cells := 0, slots := 0, locals := 0 } : Room) 0 0 [.retAddr q] h (fun r h' => r = some (.int (nI (if bs.length = 0 then 1 else 0))) ∧ h' = h) (fun _ _ => False) := by
  refine zM_start hzs hst (by decide) (Nat.le_of_ble_eq_true rfl) (fun X C G F I => ?_)
  show zV X 0 0 _ 0 [(0, _)] []
  refine zV.aload_n C dJ0_isEmpty_aae02_0 rfl rfl ?_
  refine zV.gRawR C G dJ0_isEmpty_aae02_1 (hs.2.2.1) lk_J0_9 ?_
  refine zV.alenRaw C G dJ0_isEmpty_aae02_4 (hs.2.2.2) ?_
  refine zV.if_ne (tgt := 12) C dJ0_isEmpty_aae02_5 (by decide) (fun q5 => ?_) (fun q5 => ?_)
  · have e : bs.length ≠ 0 := fun z => q5 (by rw [z]; rfl)
    refine zV.ic (v := nI 0) C dJ0_isEmpty_aae02_12 (by decide) ?_
    refine zV.zret C F dJ0_isEmpty_aae02_13 rfl rfl ?_
    exact ⟨by first | rw [if_pos e] | rw [if_neg e], rfl⟩
  · have e : bs.length = 0 := (n0 (by omega)).mp q5
    refine zV.ic (v := nI 1) C dJ0_isEmpty_aae02_8 (by decide) ?_
    refine zV.goto (tgt := 13) C dJ0_isEmpty_aae02_9 (by decide) ?_
    refine zV.zret C F dJ0_isEmpty_aae02_13 rfl rfl ?_
    exact ⟨by first | rw [if_pos e] | rw [if_neg e], rfl⟩
set_option maxHeartbeats 4000000 in
set_option maxRecDepth 100000 in
theorem s_Slength {l : Launch} {E : zG} (hzs : zS E) (hst : l.stackTraces = false) (h : zH) (q q2 : Nat) (bs : List Nat) (hs : zSt E q q2 bs) (hl : bs.length < 100) : zMet l E yJ0_length_8abf5 cJ0_length_8abf5 1 (some .int) ({ frames := 1, cells := 0, slots := 0, locals := 20 } : Room) 0 0 [.retAddr q] h (fun r h' => r = some (.int (nI bs.length)) ∧ h' = h) (fun _ _ => False) := by
  refine zM_start hzs hst (by decide) (Nat.le_of_ble_eq_true rfl) (fun X C G F I => ?_)
  show zV X 0 0 _ 0 [(0, _)] []
  refine zV.aload_n C dJ0_length_8abf5_0 rfl rfl ?_
  refine zV.gRawR C G dJ0_length_8abf5_1 (hs.2.2.1) lk_J0_9 ?_
  refine zV.alenRaw C G dJ0_length_8abf5_4 (hs.2.2.2) ?_
  refine zV.aload_n C dJ0_length_8abf5_5 rfl rfl ?_
  refine zV.callVR (n := 0) C G dJ0_length_8abf5_6 (s_Scoder hzs hst h q q2 bs hs hl) rfl ⟨cd_J0_coder_7d493, lk_J0_335, im_J0_coder_7d493, se_J0_J0_coder_7d493, in_J0⟩ ⟨⟨by decide, by decide⟩, by decide⟩ rfl rfl rfl (hs.1) (zaf ?_) (zno)
  refine zV.ishr C dJ0_length_8abf5_9 ?_
  rw [shr0 _ (by omega)]
  refine zV.iret C F dJ0_length_8abf5_10 rfl ?_
  exact ⟨rfl, rfl⟩
set_option maxHeartbeats 4000000 in
set_option maxRecDepth 100000 in
theorem s_PcheckIndexN {l : Launch} {E : zG} (hzs : zS E) (hst : l.stackTraces = false) (h : zH) (i n : Nat) (hi : i < n) (hn : n < 2 ^ 31) : zMet l E yJ3_checkIndex_8e157 cJ3_checkIndex_8e157 3 (some .int) ({ frames := 0, cells := 0, slots := 0, locals := 0 } : Room) 0 0 [.int (nI i), .int (nI n), .null] h (fun r h' => r = some (.int (nI i)) ∧ h' = h) (fun _ _ => False) := by
  refine zM_start hzs hst (by decide) (Nat.le_of_ble_eq_true rfl) (fun X C G F I => ?_)
  show zV X 0 0 _ 0 [(0, _), (1, _), (2, _)] []
  refine zV.iload_n C dJ3_checkIndex_8e157_0 rfl ?_
  refine zV.if_lt (tgt := 9) C dJ3_checkIndex_8e157_1 (by decide) (fun q1 => ?_) (fun q1 => ?_)
  · exact absurd q1 (nn0 (by omega))
  · refine zV.iload_n C dJ3_checkIndex_8e157_4 rfl ?_
    refine zV.iload_n C dJ3_checkIndex_8e157_5 rfl ?_
    refine zV.icmp_lt (tgt := 16) C dJ3_checkIndex_8e157_6 (by decide) (fun q6 => ?_) (fun q6 => ?_)
    · refine zV.iload_n C dJ3_checkIndex_8e157_16 rfl ?_
      refine zV.iret C F dJ3_checkIndex_8e157_17 rfl ?_
      exact ⟨rfl, rfl⟩
    · exact absurd (nI_lt hi hn) q6
set_option maxHeartbeats 4000000 in
set_option maxRecDepth 100000 in
theorem s_PcheckIndexR {l : Launch} {E : zG} (hzs : zS E) (hst : l.stackTraces = false) (h : zH) (i n t : Nat) (hi : i < n) (hn : n < 2 ^ 31) : zMet l E yJ3_checkIndex_8e157 cJ3_checkIndex_8e157 3 (some .int) ({ frames := 0, cells := 0, slots := 0, locals := 0 } : Room) 0 0 [.int (nI i), .int (nI n), .retAddr t] h (fun r h' => r = some (.int (nI i)) ∧ h' = h) (fun _ _ => False) := by
  refine zM_start hzs hst (by decide) (Nat.le_of_ble_eq_true rfl) (fun X C G F I => ?_)
  show zV X 0 0 _ 0 [(0, _), (1, _), (2, _)] []
  refine zV.iload_n C dJ3_checkIndex_8e157_0 rfl ?_
  refine zV.if_lt (tgt := 9) C dJ3_checkIndex_8e157_1 (by decide) (fun q1 => ?_) (fun q1 => ?_)
  · exact absurd q1 (nn0 (by omega))
  · refine zV.iload_n C dJ3_checkIndex_8e157_4 rfl ?_
    refine zV.iload_n C dJ3_checkIndex_8e157_5 rfl ?_
    refine zV.icmp_lt (tgt := 16) C dJ3_checkIndex_8e157_6 (by decide) (fun q6 => ?_) (fun q6 => ?_)
    · refine zV.iload_n C dJ3_checkIndex_8e157_16 rfl ?_
      refine zV.iret C F dJ3_checkIndex_8e157_17 rfl ?_
      exact ⟨rfl, rfl⟩
    · exact absurd (nI_lt hi hn) q6
set_option maxHeartbeats 4000000 in
set_option maxRecDepth 100000 in
theorem s_ScheckIndex {l : Launch} {E : zG} (hzs : zS E) (hst : l.stackTraces = false) (h : zH) (i n : Nat) (hi : i < n) (hn : n < 2 ^ 31) : zMet l E yJ0_checkIndex_df160 cJ0_checkIndex_df160 2 none ({ frames := 1, cells := 0, slots := 0, locals := 22 } : Room) 0 0 [.int (nI i), .int (nI n)] h (fun r h' => r = none ∧ h' = h) (fun _ _ => False) := by
  refine zM_start hzs hst (by decide) (Nat.le_of_ble_eq_true rfl) (fun X C G F I => ?_)
  show zV X 0 0 _ 0 [(0, _), (1, _)] []
  rcases st_sioobe hzs with qs | ⟨t, qs⟩
  · refine zV.iload_n C dJ0_checkIndex_df160_0 rfl ?_
    refine zV.iload_n C dJ0_checkIndex_df160_1 rfl ?_
    refine zV.gstN C G dJ0_checkIndex_df160_2 qs lk_J0_1053 ?_
    refine zV.callS (n := 3) C G dJ0_checkIndex_df160_5 (s_PcheckIndexN hzs hst h i n hi hn) rfl ⟨cd_J3_checkIndex_8e157, lk_J0_1059, st_J3_checkIndex_8e157, in_J3⟩ ⟨⟨by decide, by decide⟩, by decide⟩ rfl rfl rfl (zaf ?_) (zno)
    refine zV.pop C dJ0_checkIndex_df160_8 rfl ?_
    refine zV.vret C F dJ0_checkIndex_df160_9 rfl ?_
    exact ⟨rfl, rfl⟩
  · refine zV.iload_n C dJ0_checkIndex_df160_0 rfl ?_
    refine zV.iload_n C dJ0_checkIndex_df160_1 rfl ?_
    refine zV.gstR C G dJ0_checkIndex_df160_2 qs lk_J0_1053 ?_
    refine zV.callS (n := 3) C G dJ0_checkIndex_df160_5 (s_PcheckIndexR hzs hst h i n t hi hn) rfl ⟨cd_J3_checkIndex_8e157, lk_J0_1059, st_J3_checkIndex_8e157, in_J3⟩ ⟨⟨by decide, by decide⟩, by decide⟩ rfl rfl rfl (zaf ?_) (zno)
    refine zV.pop C dJ0_checkIndex_df160_8 rfl ?_
    refine zV.vret C F dJ0_checkIndex_df160_9 rfl ?_
    exact ⟨rfl, rfl⟩
set_option maxHeartbeats 4000000 in
set_option maxRecDepth 100000 in
theorem s_LcharAt {l : Launch} {E : zG} (hzs : zS E) (hst : l.stackTraces = false) (h : zH) (q q2 : Nat) (bs : List Nat) (hs : zSt E q q2 bs) (hl : bs.length < 100) (i c : Nat) (hc : bs[i]? = some c) (h128 : c < 128) : zMet l E yJ1_charAt_3b067 cJ1_charAt_3b067 2 (some .char) ({ frames := 2, cells := 0, slots := 0, locals := 43 } : Room) 0 0 [.retAddr q2, .int (nI i)] h (fun r h' => r = some (.int (nI c)) ∧ h' = h) (fun _ _ => False) := by
  refine zM_start hzs hst (by decide) (Nat.le_of_ble_eq_true rfl) (fun X C G F I => ?_)
  show zV X 0 0 _ 0 [(0, _), (1, _)] []
  have hi : i < bs.length := (List.getElem?_eq_some_iff.mp hc).1
  have hv : bs.getD i 0 = c := by rw [List.getD_eq_getElem?_getD, hc]; rfl
  refine zV.iload_n C dJ1_charAt_3b067_0 rfl ?_
  refine zV.aload_n C dJ1_charAt_3b067_1 rfl rfl ?_
  refine zV.alenRaw C G dJ1_charAt_3b067_2 (hs.2.2.2) ?_
  refine zV.callS (n := 2) C G dJ1_charAt_3b067_3 (s_ScheckIndex hzs hst h i bs.length hi (by omega)) rfl ⟨cd_J0_checkIndex_df160, lk_J1_9, st_J0_checkIndex_df160, in_J0⟩ ⟨⟨by decide, by decide⟩, by decide⟩ rfl rfl rfl (zafv ?_) (zno)
  refine zV.aload_n C dJ1_charAt_3b067_6 rfl rfl ?_
  refine zV.iload_n C dJ1_charAt_3b067_7 rfl ?_
  refine zV.baldRaw (j := i) C G dJ1_charAt_3b067_8 (hs.2.2.2) (rfl) hi (by omega) (by rw [hv]) ?_
  refine zV.si (v := nI 255) C dJ1_charAt_3b067_9 (by decide) ?_
  refine zV.iand C dJ1_charAt_3b067_12 ?_
  rw [nI255 c h128]
  refine zV.i2c C dJ1_charAt_3b067_13 ?_
  rw [i2c_c c h128]
  refine zV.zret C F dJ1_charAt_3b067_14 (nar_c c h128).1 rfl ?_
  exact ⟨rfl, rfl⟩
set_option maxHeartbeats 4000000 in
set_option maxRecDepth 100000 in
theorem s_ScharAt {l : Launch} {E : zG} (hzs : zS E) (hst : l.stackTraces = false) (h : zH) (q q2 : Nat) (bs : List Nat) (hs : zSt E q q2 bs) (hl : bs.length < 100) (i c : Nat) (hc : bs[i]? = some c) (h128 : c < 128) : zMet l E yJ0_charAt_5068e cJ0_charAt_5068e 2 (some .char) ({ frames := 3, cells := 0, slots := 0, locals := 64 } : Room) 0 0 [.retAddr q, .int (nI i)] h (fun r h' => r = some (.int (nI c)) ∧ h' = h) (fun _ _ => False) := by
  refine zM_start hzs hst (by decide) (Nat.le_of_ble_eq_true rfl) (fun X C G F I => ?_)
  show zV X 0 0 _ 0 [(0, _), (1, _)] []
  refine zV.aload_n C dJ0_charAt_5068e_0 rfl rfl ?_
  refine zV.callVR (n := 0) C G dJ0_charAt_5068e_1 (s_SisLatin1 hzs hst h q q2 bs hs hl) rfl ⟨cd_J0_isLatin1_aae02, lk_J0_492, im_J0_isLatin1_aae02, se_J0_J0_isLatin1_aae02, in_J0⟩ ⟨⟨by decide, by decide⟩, by decide⟩ rfl rfl rfl (hs.1) (zaf ?_) (zno)
  refine zV.if_eq (tgt := 16) C dJ0_charAt_5068e_4 (by decide) (fun q4 => ?_) (fun q4 => ?_)
  · exact absurd q4 (by decide)
  · refine zV.aload_n C dJ0_charAt_5068e_7 rfl rfl ?_
    refine zV.gRawR C G dJ0_charAt_5068e_8 (hs.2.2.1) lk_J0_9 ?_
    refine zV.iload_n C dJ0_charAt_5068e_11 rfl ?_
    refine zV.callS (n := 2) C G dJ0_charAt_5068e_12 (s_LcharAt hzs hst h q q2 bs hs hl i c hc h128) rfl ⟨cd_J1_charAt_3b067, lk_J0_495, st_J1_charAt_3b067, in_J1⟩ ⟨⟨by decide, by decide⟩, by decide⟩ rfl rfl rfl (zaf ?_) (zno)
    refine zV.zret C F dJ0_charAt_5068e_15 (nar_c c h128).1 rfl ?_
    exact ⟨rfl, rfl⟩
