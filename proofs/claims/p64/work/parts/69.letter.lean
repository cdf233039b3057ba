/-! StringBuilder: a letter at the end; the text emptied; a letter read -/
theorem zEq_sRow {h : zH} {a c : Nat} {g : Nat → Int32} (q : c ≠ a) : zEq h (sRow h a g) c := ⟨rfl, rfl, fun _ => rfl, fun _ => rfl, if_neg q, rfl, rfl, rfl⟩
def groH (h : zH) (a v q : Nat) : zH := sR (sRow (hNew h 101 q) (hN h) (va_cpy (aI h v) (fun _ => 0) 0 0 (hL h v))) 32 a (some (hN h))
theorem groH_v {h : zH} {a v lo q : Nat} {o : List Nat} (hu : zOv h a v lo o) (h1 : lo ≤ hN h) (h2 : a + 2 ≤ lo) (hm : hL h v < q) (hq : q ≤ 200) : zOv (groH h a v q) a (hN h) lo o ∧ hL (groH h a v q) (hN h) = q ∧ zOf h (groH h a v q) a lo := by
  obtain ⟨q1, q2, q3, q4, q5, q6, q7, q8, q9, q10, q11⟩ := hu
  have ea : aI (groH h a v q) (hN h) = va_cpy (aI h v) (fun _ => 0) 0 0 (hL h v) := aI_sRow
  refine ⟨⟨(hK_new (k := 101) (z := q) (a := a) (by omega)).trans q1, (hI_new (k := 101) (z := q) (a := a) (by omega)).trans q2, (hI_new (k := 101) (z := q) (a := a) (by omega)).trans q3, hR_sR, Or.inr h1, Nat.lt_succ_self _, hK_newE (k := 101) (z := q), ?_, ?_, ?_, ?_⟩, hL_newE (k := 101) (z := q), ?_, ?_⟩
  · show o.length ≤ hL (hNew h 101 q) (hN h)
    rw [hL_newE]; omega
  · show hL (hNew h 101 q) (hN h) ≤ 200
    rw [hL_newE]; omega
  · intro i c hc
    have hi := (List.getElem?_eq_some_iff.mp hc).1
    rw [ea]
    refine ⟨?_, (q10 i c hc).2⟩
    refine (if_pos ⟨Nat.zero_le _, by omega⟩).trans ?_
    rw [show 0 + (i - 0) = i by omega]
    exact (q10 i c hc).1
  · rw [ea]; exact sb_fitC q11 sb_fit0
  · exact Nat.le_succ _
  · intro c h3 h4
    exact ((zEq_new (by omega)).trans (zEq_sRow (by omega))).trans (zEq_sR (by omega))
theorem zOv_clr {h : zH} {a v lo : Nat} {o : List Nat} (hu : zOv h a v lo o) (h2 : a + 2 ≤ lo) : zOv (sI h 35 a (nI 0)) a v lo [] ∧ zOf h (sI h 35 a (nI 0)) a lo := by
  obtain ⟨q1, q2, q3, q4, q5, q6, q7, q8, q9, q10, q11⟩ := hu
  exact ⟨⟨q1, (hI_sI_f (by decide)).trans q2, hI_sI, q4, q5, q6, q7, Nat.zero_le _, q9, (fun i c hc => by cases hc), q11⟩, Nat.le_refl _, fun c h3 h4 => zEq_sI (by omega)⟩
theorem zOv_ml {h : zH} {a v lo : Nat} {o : List Nat} {x : Int32} (hu : zOv h a v lo o) : zOv (sI h 34 a x) a v lo o ∧ zOf h (sI h 34 a x) a lo := by
  obtain ⟨q1, q2, q3, q4, q5, q6, q7, q8, q9, q10, q11⟩ := hu
  exact ⟨⟨q1, (hI_sI_f (by decide)).trans q2, (hI_sI_f (by decide)).trans q3, q4, q5, q6, q7, q8, q9, q10, q11⟩, Nat.le_refl _, fun c h3 h4 => zEq_sI (by omega)⟩
theorem bb_c : ∀ c, c < 128 → vp_nar .byte ((nI c).toInt8.toInt32) = nI c := by decide +kernel
theorem bb_d : ∀ c, c < 128 → vp_nar .byte (nI c) = nI c := by decide +kernel
theorem bb_f : ∀ c, c < 128 → fits .byte (.int (nI c)) = true := by decide +kernel
theorem fit_saI {h : zH} {v j c : Nat} (hf : sb_Fit (aI h v)) (hc : c < 128) : sb_Fit (aI (saI h v j (nI c)) v) := fun i => by
  by_cases e : i = j
  · rw [e, aI_saI]; exact bb_f c hc
  · rw [aI_saI_i e]; exact hf i
theorem zOv_put {h : zH} {a v lo c : Nat} {o : List Nat} (hu : zOv h a v lo o) (h2 : a + 2 ≤ lo) (h3 : o.length + 1 ≤ hL h v) (hc : c < 128) :
    zOv (saI (sI h 35 a (nI (o.length + 1))) v o.length (nI c)) a v lo (o ++ [c]) ∧ zOf h (saI (sI h 35 a (nI (o.length + 1))) v o.length (nI c)) a lo := by
  obtain ⟨q1, q2, q3, q4, q5, q6, q7, q8, q9, q10, q11⟩ := hu
  refine ⟨⟨q1, (show hI (sI h 35 a (nI (o.length + 1))) 33 a = 0 from (hI_sI_f (by decide)).trans q2), (show hI (sI h 35 a (nI (o.length + 1))) 35 a = _ from hI_sI.trans (congrArg nI (by rw [List.length_append]; rfl))), q4, q5, q6, q7, ?_, q9, ?_, fit_saI (h := sI h 35 a (nI (o.length + 1))) q11 hc⟩, Nat.le_refl _, fun c h4 h5 => (zEq_sI (by omega)).trans (zEq_saI (by omega))⟩
  · show (o ++ [c]).length ≤ hL h v
    rw [List.length_append]; exact h3
  · intro i d hd
    by_cases e : i < o.length
    · rw [List.getElem?_append_left e] at hd
      exact ⟨(aI_saI_i (h := sI h 35 a (nI (o.length + 1))) (by omega)).trans (q10 i d hd).1, (q10 i d hd).2⟩
    · rw [List.getElem?_append_right (by omega)] at hd
      have e2 : i - o.length = 0 := by
        have := (List.getElem?_eq_some_iff.mp hd).1
        rw [List.length_singleton] at this; omega
      rw [e2] at hd
      cases hd
      rw [show i = o.length by omega]
      exact ⟨aI_saI, hc⟩
set_option maxHeartbeats 4000000 in
set_option maxRecDepth 100000 in
theorem s_Bensure {l : Launch} {E : zG} (hzs : zS E) (hst : l.stackTraces = false) (h : zH) (a v lo : Nat) (o : List Nat) (hu : zOv h a v lo o) (h1 : lo ≤ hN h) (h2 : a + 2 ≤ lo) (q : Nat) (hq : q ≤ 80) : zMet l E yJ5_ensureCapacityInternal_d00df cJ5_ensureCapacityInternal_d00df 3 none ({ frames := 3, cells := 1, slots := 200, locals := 82 } : Room) 1 200 [.ref a, .int (nI q)] h (fun r h' => r = none ∧ ∃ v', zOv h' a v' lo o ∧ q ≤ hL h' v' ∧ zOf h h' a lo) (fun _ _ => False) := by
  refine zM_start hzs hst (by decide) (Nat.le_of_ble_eq_true rfl) (fun X C G F I => ?_)
  show zV X 0 0 _ 0 [(0, _), (1, _)] []
  refine zV.aload_n C dJ5_ensureCapacityInternal_d00df_0 rfl rfl ?_
  refine zV.gR 32 (k := 0) C dJ5_ensureCapacityInternal_d00df_1 zcl_J4 (by decide) rfl lk_J5_15 hu.1 rfl hu.2.2.2.1 ?_
  refine zV.alen (t0 := 0) C dJ5_ensureCapacityInternal_d00df_4 hu.2.2.2.2.2.2.1 (by decide) ?_
  refine zV.aload_n C dJ5_ensureCapacityInternal_d00df_5 rfl rfl ?_
  refine zV.gIv 33 (k := 1) C dJ5_ensureCapacityInternal_d00df_6 zcl_J4 (by decide) rfl lk_J5_22 hu.1 rfl (hu.2.1) ?_
  refine zV.ishr C dJ5_ensureCapacityInternal_d00df_9 ?_
  rw [sb_shr0]
  refine zV.istore_n (lo' := [(0, _), (1, _), (2, _)]) C dJ5_ensureCapacityInternal_d00df_10 (by decide) rfl rfl rfl ?_
  refine zV.iload_n C dJ5_ensureCapacityInternal_d00df_11 rfl ?_
  refine zV.iload_n C dJ5_ensureCapacityInternal_d00df_12 rfl ?_
  refine zV.isub C dJ5_ensureCapacityInternal_d00df_13 ?_
  refine zV.if_le (tgt := 38) C dJ5_ensureCapacityInternal_d00df_14 (by decide) (fun q14 => ?_) (fun q14 => ?_)
  · have hm : q ≤ hL h v := (sub_le0 (by omega) (by have := hu.2.2.2.2.2.2.2.2.1; omega)).mp q14
    refine zV.vret C F dJ5_ensureCapacityInternal_d00df_38 rfl ?_
    first | exact ⟨rfl, v, hu, hm, zOf.refl h a lo⟩ | (obtain ⟨w1, w2, w3⟩ := groH_v hu h1 h2 hc.2.2 hc.1; exact ⟨rfl, hN h, w1, Nat.le_trans hc.2.1 (Nat.le_of_eq w2.symm), w3⟩)
  · have hm : hL h v < q := Nat.lt_of_not_le (fun z => q14 ((sub_le0 (by omega) (by have := hu.2.2.2.2.2.2.2.2.1; omega)).mpr z))
    have hc := cap_le hq hm
    refine zV.aload_n C dJ5_ensureCapacityInternal_d00df_17 rfl rfl ?_
    refine zV.aload_n C dJ5_ensureCapacityInternal_d00df_18 rfl rfl ?_
    refine zV.gR 32 (k := 0) C dJ5_ensureCapacityInternal_d00df_19 zcl_J4 (by decide) rfl lk_J5_15 hu.1 rfl hu.2.2.2.1 ?_
    refine zV.aload_n C dJ5_ensureCapacityInternal_d00df_22 rfl rfl ?_
    refine zV.iload_n C dJ5_ensureCapacityInternal_d00df_23 rfl ?_
    refine zV.callP (n := 1) C G dJ5_ensureCapacityInternal_d00df_24 (s_BnewCap hzs hst h a v lo o hu q hq hm) rfl ⟨cd_J5_newCapacity_0f7a4, lk_J5_104, im_J5_newCapacity_0f7a4, pr_J5_newCap, in_J5⟩ se_J4_J5_isLatin1_aae02 rfl ⟨⟨by decide, by decide⟩, by decide⟩ rfl rfl rfl hu.1 ⟨rfl, by decide⟩ (zaf ?_) (zno)
    refine zV.aload_n C dJ5_ensureCapacityInternal_d00df_27 rfl rfl ?_
    refine zV.gIv 33 (k := 1) C dJ5_ensureCapacityInternal_d00df_28 zcl_J4 (by decide) rfl lk_J5_22 hu.1 rfl (hu.2.1) ?_
    refine zV.ishl C dJ5_ensureCapacityInternal_d00df_31 ?_
    rw [sb_shl0]
    refine zV.callS (n := 2) C G dJ5_ensureCapacityInternal_d00df_32 (s_copyOf hzs hst h v (sb_cap q (hL h v)) hu.2.2.2.2.2.2.1 hu.2.2.2.2.2.1 hc.2.2 hc.1 hu.2.2.2.2.2.2.2.2.2.2) rfl ⟨cd_J7_copyOf_9075b, lk_J5_108, st_J7_copyOf_9075b, in_J7⟩ ⟨⟨by decide, by decide⟩, by decide⟩ rfl rfl rfl (zaf ?_) (zno)
    refine zV.pR 32 (k := 0) C dJ5_ensureCapacityInternal_d00df_35 zcl_J4 (by decide) rfl lk_J5_15 rfl ((hK_new (z := sb_cap q (hL h v)) (k := 101) (by have := hu.2.2.2.2.2.1; omega)).trans hu.1) rfl (fun _ => ⟨rfl, rfl⟩) ?_
    refine zV.vret C F dJ5_ensureCapacityInternal_d00df_38 rfl ?_
    first | exact ⟨rfl, v, hu, hm, zOf.refl h a lo⟩ | (obtain ⟨w1, w2, w3⟩ := groH_v hu h1 h2 hc.2.2 hc.1; exact ⟨rfl, hN h, w1, Nat.le_trans hc.2.1 (Nat.le_of_eq w2.symm), w3⟩)
set_option maxHeartbeats 4000000 in
set_option maxRecDepth 100000 in
theorem s_BsetLength5 {l : Launch} {E : zG} (hzs : zS E) (hst : l.stackTraces = false) (h : zH) (a v lo : Nat) (o : List Nat) (hu : zOv h a v lo o) (h1 : lo ≤ hN h) (h2 : a + 2 ≤ lo) : zMet l E yJ5_setLength_d00df cJ5_setLength_d00df 2 none ({ frames := 4, cells := 1, slots := 200, locals := 104 } : Room) 1 200 [.ref a, .int (nI 0)] h (fun r h' => r = none ∧ ∃ v', zOv h' a v' lo [] ∧ zOf h h' a lo) (fun _ _ => False) := by
  refine zM_start hzs hst (by decide) (Nat.le_of_ble_eq_true rfl) (fun X C G F I => ?_)
  show zV X 0 0 _ 0 [(0, _), (1, _)] []
  refine zV.iload_n C dJ5_setLength_d00df_0 rfl ?_
  refine zV.if_ge (tgt := 13) C dJ5_setLength_d00df_1 (by decide) (fun q1 => ?_) (fun q1 => ?_)
  · refine zV.aload_n C dJ5_setLength_d00df_13 rfl rfl ?_
    refine zV.iload_n C dJ5_setLength_d00df_14 rfl ?_
    refine zV.callP (n := 1) C G dJ5_setLength_d00df_15 (s_Bensure hzs hst h a v lo o hu h1 h2 0 (by decide)) rfl ⟨cd_J5_ensureCapacityInternal_d00df, lk_J5_100, im_J5_ensureCapacityInternal_d00df, pr_J5_ensure, in_J5⟩ se_J4_J5_isLatin1_aae02 rfl ⟨⟨by decide, by decide⟩, by decide⟩ rfl rfl rfl hu.1 ⟨rfl, by decide⟩ (zafRv (fun h9 ⟨v9, u9, _, f9⟩ => ?_)) (zno)
    refine zV.aload_n C dJ5_setLength_d00df_18 rfl rfl ?_
    refine zV.gIv 35 (k := 3) C dJ5_setLength_d00df_19 zcl_J4 (by decide) rfl lk_J5_79 u9.1 rfl (u9.2.2.1) ?_
    refine zV.iload_n C dJ5_setLength_d00df_22 rfl ?_
    refine zV.icmp_ge (tgt := 63) C dJ5_setLength_d00df_23 (by decide) (fun q23 => ?_) (fun q23 => ?_)
    · refine zV.aload_n C dJ5_setLength_d00df_63 rfl rfl ?_
      refine zV.gIv 35 (k := 3) C dJ5_setLength_d00df_64 zcl_J4 (by decide) rfl lk_J5_79 u9.1 rfl (u9.2.2.1) ?_
      refine zV.iload_n C dJ5_setLength_d00df_67 rfl ?_
      refine zV.icmp_le (tgt := 76) C dJ5_setLength_d00df_68 (by decide) (fun q68 => ?_) (fun q68 => ?_)
      · refine zV.aload_n C dJ5_setLength_d00df_76 rfl rfl ?_
        refine zV.iload_n C dJ5_setLength_d00df_77 rfl ?_
        refine zV.pI 35 (k := 3) C dJ5_setLength_d00df_78 zcl_J4 (by decide) rfl lk_J5_79 rfl u9.1 rfl ⟨rfl, rfl⟩ ?_
        refine zV.vret C F dJ5_setLength_d00df_81 rfl ?_
        first | exact ⟨rfl, v9, (zOv_clr u9 h2).1, f9.trans (zOv_clr u9 h2).2⟩ | exact ⟨rfl, v9, (zOv_clr (zOv_ml u9).1 h2).1, (f9.trans (zOv_ml u9).2).trans (zOv_clr (zOv_ml u9).1 h2).2⟩
      · refine zV.aload_n C dJ5_setLength_d00df_71 rfl rfl ?_
        refine zV.ic (v := nI 1) C dJ5_setLength_d00df_72 (by decide) ?_
        refine zV.pI 34 (k := 2) C dJ5_setLength_d00df_73 zcl_J4 (by decide) rfl lk_J5_73 rfl u9.1 rfl ⟨rfl, rfl⟩ ?_
        refine zV.aload_n C dJ5_setLength_d00df_76 rfl rfl ?_
        refine zV.iload_n C dJ5_setLength_d00df_77 rfl ?_
        refine zV.pI 35 (k := 3) C dJ5_setLength_d00df_78 zcl_J4 (by decide) rfl lk_J5_79 rfl u9.1 rfl ⟨rfl, rfl⟩ ?_
        refine zV.vret C F dJ5_setLength_d00df_81 rfl ?_
        first | exact ⟨rfl, v9, (zOv_clr u9 h2).1, f9.trans (zOv_clr u9 h2).2⟩ | exact ⟨rfl, v9, (zOv_clr (zOv_ml u9).1 h2).1, (f9.trans (zOv_ml u9).2).trans (zOv_clr (zOv_ml u9).1 h2).2⟩
    · exact absurd (nI_le (Nat.zero_le _) (by have := u9.2.2.2.2.2.2.2.1; have := u9.2.2.2.2.2.2.2.2.1; omega)) q23
  · exact absurd (by decide) q1
set_option maxHeartbeats 4000000 in
set_option maxRecDepth 100000 in
theorem s_BsetLength {l : Launch} {E : zG} (hzs : zS E) (hst : l.stackTraces = false) (h : zH) (a v lo : Nat) (o : List Nat) (hu : zOv h a v lo o) (h1 : lo ≤ hN h) (h2 : a + 2 ≤ lo) : zMet l E yJ4_setLength_d00df cJ4_setLength_d00df 2 none ({ frames := 5, cells := 1, slots := 200, locals := 125 } : Room) 1 200 [.ref a, .int (nI 0)] h (fun r h' => r = none ∧ ∃ v', zOv h' a v' lo [] ∧ zOf h h' a lo) (fun _ _ => False) := by
  refine zM_start hzs hst (by decide) (Nat.le_of_ble_eq_true rfl) (fun X C G F I => ?_)
  show zV X 0 0 _ 0 [(0, _), (1, _)] []
  refine zV.aload_n C dJ4_setLength_d00df_0 rfl rfl ?_
  refine zV.iload_n C dJ4_setLength_d00df_1 rfl ?_
  refine zV.callSU (n := 1) C G dJ4_setLength_d00df_2 (s_BsetLength5 hzs hst h a v lo o hu h1 h2) rfl ⟨cd_J5_setLength_d00df, lk_J4_333, sm_J5_J5_J5_setLength_d00df, su_J4_J5, im_J5_setLength_d00df, in_J5⟩ (by decide) ⟨⟨by decide, by decide⟩, by decide⟩ rfl rfl rfl hu.1 ⟨rfl, by decide⟩ (zafRv (fun h9 p9 => ?_)) (zno)
  refine zV.vret C F dJ4_setLength_d00df_5 rfl ?_
  exact ⟨rfl, p9⟩
set_option maxHeartbeats 4000000 in
set_option maxRecDepth 100000 in
theorem s_BcharAt5 {l : Launch} {E : zG} (hzs : zS E) (hst : l.stackTraces = false) (h : zH) (a v lo : Nat) (o : List Nat) (hu : zOv h a v lo o) (i c : Nat) (hc : o[i]? = some c) : zMet l E yJ5_charAt_5068e cJ5_charAt_5068e 5 (some .char) ({ frames := 2, cells := 0, slots := 0, locals := 43 } : Room) 0 0 [.ref a, .int (nI i)] h (fun r h' => r = some (.int (nI c)) ∧ h' = h) (fun _ _ => False) := by
  refine zM_start hzs hst (by decide) (Nat.le_of_ble_eq_true rfl) (fun X C G F I => ?_)
  show zV X 0 0 _ 0 [(0, _), (1, _)] []
  have hi : i < o.length := (List.getElem?_eq_some_iff.mp hc).1
  have h128 : c < 128 := (hu.2.2.2.2.2.2.2.2.2.1 i c hc).2
  have hl1 := hu.2.2.2.2.2.2.2.1
  have hl2 := hu.2.2.2.2.2.2.2.2.1
  refine zV.aload_n C dJ5_charAt_5068e_0 rfl rfl ?_
  refine zV.gIv 33 (k := 1) C dJ5_charAt_5068e_1 zcl_J4 (by decide) rfl lk_J5_22 hu.1 rfl (hu.2.1) ?_
  refine zV.istore_n (lo' := [(0, _), (1, _), (2, _)]) C dJ5_charAt_5068e_4 (by decide) rfl rfl rfl ?_
  refine zV.aload_n C dJ5_charAt_5068e_5 rfl rfl ?_
  refine zV.gR 32 (k := 0) C dJ5_charAt_5068e_6 zcl_J4 (by decide) rfl lk_J5_15 hu.1 rfl hu.2.2.2.1 ?_
  refine zV.astore_n (lo' := [(0, _), (1, _), (2, _), (3, _)]) C dJ5_charAt_5068e_9 rfl (by decide) rfl rfl rfl ?_
  refine zV.aload_n C dJ5_charAt_5068e_10 rfl rfl ?_
  refine zV.gIv 35 (k := 3) C dJ5_charAt_5068e_11 zcl_J4 (by decide) rfl lk_J5_79 hu.1 rfl (hu.2.2.1) ?_
  refine zV.aload_n C dJ5_charAt_5068e_14 rfl rfl ?_
  refine zV.alen (t0 := 0) C dJ5_charAt_5068e_15 hu.2.2.2.2.2.2.1 (by decide) ?_
  refine zV.iload_n C dJ5_charAt_5068e_16 rfl ?_
  refine zV.ishr C dJ5_charAt_5068e_17 ?_
  rw [sb_shr0]
  refine zV.mmin C G dJ5_charAt_5068e_18 ⟨lk_J5_138, st_J9_min_7cf53, in_J9, cd_J9_min_7cf53⟩ rfl ?_
  rw [show (if nI (hL h v) < nI o.length then nI (hL h v) else nI o.length) = nI o.length from if_neg (nI_nlt hl1 (by omega))]
  refine zV.istore (lo' := [(0, _), (1, _), (2, _), (3, _), (4, _)]) C dJ5_charAt_5068e_21 (by decide) rfl rfl rfl ?_
  refine zV.iload_n C dJ5_charAt_5068e_23 rfl ?_
  refine zV.iload C dJ5_charAt_5068e_24 rfl ?_
  refine zV.callS (n := 2) C G dJ5_charAt_5068e_26 (s_ScheckIndex hzs hst h i o.length hi (by omega)) rfl ⟨cd_J0_checkIndex_df160, lk_J5_144, st_J0_checkIndex_df160, in_J0⟩ ⟨⟨by decide, by decide⟩, by decide⟩ rfl rfl rfl (zafv ?_) (zno)
  refine zV.iload_n C dJ5_charAt_5068e_29 rfl ?_
  refine zV.if_ne (tgt := 42) C dJ5_charAt_5068e_30 (by decide) (fun q30 => ?_) (fun q30 => ?_)
  · exact absurd rfl q30
  · refine zV.aload_n C dJ5_charAt_5068e_33 rfl rfl ?_
    refine zV.iload_n C dJ5_charAt_5068e_34 rfl ?_
    refine zV.baldv (j := i) C dJ5_charAt_5068e_35 hu.2.2.2.2.2.2.1 (rfl) (by omega) (by omega) ((hu.2.2.2.2.2.2.2.2.2.1 i c hc).1) ?_
    refine zV.si (v := nI 255) C dJ5_charAt_5068e_36 (by decide) ?_
    refine zV.iand C dJ5_charAt_5068e_39 ?_
    rw [nI255 c h128]
    refine zV.i2c C dJ5_charAt_5068e_40 ?_
    rw [i2c_c c h128]
    refine zV.zret C F dJ5_charAt_5068e_41 (nar_c c h128).1 rfl ?_
    exact ⟨rfl, rfl⟩
set_option maxHeartbeats 4000000 in
set_option maxRecDepth 100000 in
theorem s_BcharAt {l : Launch} {E : zG} (hzs : zS E) (hst : l.stackTraces = false) (h : zH) (a v lo : Nat) (o : List Nat) (hu : zOv h a v lo o) (i c : Nat) (hc : o[i]? = some c) : zMet l E yJ4_charAt_5068e cJ4_charAt_5068e 2 (some .char) ({ frames := 3, cells := 0, slots := 0, locals := 67 } : Room) 0 0 [.ref a, .int (nI i)] h (fun r h' => r = some (.int (nI c)) ∧ h' = h) (fun _ _ => False) := by
  refine zM_start hzs hst (by decide) (Nat.le_of_ble_eq_true rfl) (fun X C G F I => ?_)
  show zV X 0 0 _ 0 [(0, _), (1, _)] []
  refine zV.aload_n C dJ4_charAt_5068e_0 rfl rfl ?_
  refine zV.iload_n C dJ4_charAt_5068e_1 rfl ?_
  refine zV.callSU (n := 1) C G dJ4_charAt_5068e_2 (s_BcharAt5 hzs hst h a v lo o hu i c hc) rfl ⟨cd_J5_charAt_5068e, lk_J4_329, sm_J5_J5_J5_charAt_5068e, su_J4_J5, im_J5_charAt_5068e, in_J5⟩ (by decide) ⟨⟨by decide, by decide⟩, by decide⟩ rfl rfl rfl hu.1 ⟨rfl, by decide⟩ (zaf ?_) (zno)
  refine zV.zret C F dJ4_charAt_5068e_5 (nar_c c (hu.2.2.2.2.2.2.2.2.2.1 i c hc).2).1 rfl ?_
  exact ⟨rfl, rfl⟩
set_option maxHeartbeats 4000000 in
set_option maxRecDepth 100000 in
theorem s_canEncode {l : Launch} {E : zG} (hzs : zS E) (hst : l.stackTraces = false) (h : zH) (c : Nat) (hc : c < 128) : zMet l E yJ1_canEncode_fc78d cJ1_canEncode_fc78d 1 (some .boolean) ({ frames := 0, cells := 0, slots := 0, locals := 0 } : Room) 0 0 [.int (nI c)] h (fun r h' => r = some (.int (nI 1)) ∧ h' = h) (fun _ _ => False) := by
  refine zM_start hzs hst (by decide) (Nat.le_of_ble_eq_true rfl) (fun X C G F I => ?_)
  show zV X 0 0 _ 0 [(0, _)] []
  refine zV.iload_n C dJ1_canEncode_fc78d_0 rfl ?_
  refine zV.si (v := nI 255) C dJ1_canEncode_fc78d_1 (by decide) ?_
  refine zV.icmp_gt (tgt := 11) C dJ1_canEncode_fc78d_4 (by decide) (fun q4 => ?_) (fun q4 => ?_)
  · exact absurd q4 (nI_nlt (by omega) (by decide))
  · refine zV.ic (v := nI 1) C dJ1_canEncode_fc78d_7 (by decide) ?_
    refine zV.goto (tgt := 12) C dJ1_canEncode_fc78d_8 (by decide) ?_
    refine zV.zret C F dJ1_canEncode_fc78d_12 rfl rfl ?_
    exact ⟨rfl, rfl⟩
set_option maxHeartbeats 4000000 in
set_option maxRecDepth 100000 in
theorem s_BappendC5 {l : Launch} {E : zG} (hzs : zS E) (hst : l.stackTraces = false) (h : zH) (a v lo : Nat) (o : List Nat) (hu : zOv h a v lo o) (h1 : lo ≤ hN h) (h2 : a + 2 ≤ lo) (c : Nat) (hc : c < 128) (hl : o.length + 1 ≤ 80) : zMet l E yJ5_append_3fe6f cJ5_append_3fe6f 2 (some (.object "java/lang/AbstractStringBuilder")) ({ frames := 4, cells := 1, slots := 200, locals := 104 } : Room) 1 200 [.ref a, .int (nI c)] h (fun r h' => r = some (.ref a) ∧ ∃ v', zOv h' a v' lo (o ++ [c]) ∧ zOf h h' a lo) (fun _ _ => False) := by
  refine zM_start hzs hst (by decide) (Nat.le_of_ble_eq_true rfl) (fun X C G F I => ?_)
  show zV X 0 0 _ 0 [(0, _), (1, _)] []
  refine zV.aload_n C dJ5_append_3fe6f_0 rfl rfl ?_
  refine zV.aload_n C dJ5_append_3fe6f_1 rfl rfl ?_
  refine zV.gIv 35 (k := 3) C dJ5_append_3fe6f_2 zcl_J4 (by decide) rfl lk_J5_79 hu.1 rfl (hu.2.2.1) ?_
  refine zV.ic (v := nI 1) C dJ5_append_3fe6f_5 (by decide) ?_
  refine zV.iadd C dJ5_append_3fe6f_6 ?_
  rw [nI_add]
  refine zV.callP (n := 1) C G dJ5_append_3fe6f_7 (s_Bensure hzs hst h a v lo o hu h1 h2 (o.length + 1) hl) rfl ⟨cd_J5_ensureCapacityInternal_d00df, lk_J5_100, im_J5_ensureCapacityInternal_d00df, pr_J5_ensure, in_J5⟩ se_J4_J5_isLatin1_aae02 rfl ⟨⟨by decide, by decide⟩, by decide⟩ rfl rfl rfl hu.1 ⟨rfl, by decide⟩ (zafRv (fun h9 ⟨v9, u9, l9, f9⟩ => ?_)) (zno)
  refine zV.aload_n C dJ5_append_3fe6f_10 rfl rfl ?_
  refine zV.callU (n := 0) C G dJ5_append_3fe6f_11 (s_BisLatin1 hzs hst h9 a u9.1 u9.2.1) rfl ⟨cd_J5_isLatin1_aae02, lk_J5_83, sm_J5_J5_J5_isLatin1_aae02, im_J5_isLatin1_aae02, se_J4_J5_isLatin1_aae02, in_J5⟩ ⟨⟨by decide, by decide⟩, by decide⟩ rfl rfl rfl u9.1 ⟨rfl, by decide⟩ (zaf ?_) (zno)
  refine zV.if_eq (tgt := 45) C dJ5_append_3fe6f_14 (by decide) (fun q14 => ?_) (fun q14 => ?_)
  · exact absurd q14 (by decide)
  · refine zV.iload_n C dJ5_append_3fe6f_17 rfl ?_
    refine zV.callS (n := 1) C G dJ5_append_3fe6f_18 (s_canEncode hzs hst h9 c hc) rfl ⟨cd_J1_canEncode_fc78d, lk_J5_191, st_J1_canEncode_fc78d, in_J1⟩ ⟨⟨by decide, by decide⟩, by decide⟩ rfl rfl rfl (zaf ?_) (zno)
    refine zV.if_eq (tgt := 45) C dJ5_append_3fe6f_21 (by decide) (fun q21 => ?_) (fun q21 => ?_)
    · exact absurd q21 (by decide)
    · refine zV.aload_n C dJ5_append_3fe6f_24 rfl rfl ?_
      refine zV.gR 32 (k := 0) C dJ5_append_3fe6f_25 zcl_J4 (by decide) rfl lk_J5_15 u9.1 rfl u9.2.2.2.1 ?_
      refine zV.aload_n C dJ5_append_3fe6f_28 rfl rfl ?_
      refine zV.dup C dJ5_append_3fe6f_29 rfl ?_
      refine zV.gIv 35 (k := 3) C dJ5_append_3fe6f_30 zcl_J4 (by decide) rfl lk_J5_79 u9.1 rfl (u9.2.2.1) ?_
      refine zV.dup_x1 C dJ5_append_3fe6f_33 rfl rfl ?_
      refine zV.ic (v := nI 1) C dJ5_append_3fe6f_34 (by decide) ?_
      refine zV.iadd C dJ5_append_3fe6f_35 ?_
      rw [nI_add]
      refine zV.pI 35 (k := 3) C dJ5_append_3fe6f_36 zcl_J4 (by decide) rfl lk_J5_79 rfl u9.1 rfl ⟨rfl, rfl⟩ ?_
      refine zV.iload_n C dJ5_append_3fe6f_39 rfl ?_
      refine zV.i2b C dJ5_append_3fe6f_40 ?_
      refine zV.bast (j := o.length) C dJ5_append_3fe6f_41 u9.2.2.2.2.2.2.1 (rfl) (show o.length < hL h9 v9 by omega) (by omega) ?_
      rw [bb_c c hc]
      refine zV.goto (tgt := 75) C dJ5_append_3fe6f_42 (by decide) ?_
      refine zV.aload_n C dJ5_append_3fe6f_75 rfl rfl ?_
      refine zV.aret C F dJ5_append_3fe6f_76 (Or.inl ⟨_, rfl⟩) rfl rfl ?_
      exact ⟨rfl, v9, (zOv_put u9 h2 l9 hc).1, f9.trans (zOv_put u9 h2 l9 hc).2⟩
set_option maxHeartbeats 4000000 in
set_option maxRecDepth 100000 in
theorem s_BappendC {l : Launch} {E : zG} (hzs : zS E) (hst : l.stackTraces = false) (h : zH) (a v lo : Nat) (o : List Nat) (hu : zOv h a v lo o) (h1 : lo ≤ hN h) (h2 : a + 2 ≤ lo) (c : Nat) (hc : c < 128) (hl : o.length + 1 ≤ 80) : zMet l E yJ4_append_cf468 cJ4_append_cf468 2 (some (.object "java/lang/StringBuilder")) ({ frames := 5, cells := 1, slots := 200, locals := 125 } : Room) 1 200 [.ref a, .int (nI c)] h (fun r h' => r = some (.ref a) ∧ ∃ v', zOv h' a v' lo (o ++ [c]) ∧ zOf h h' a lo) (fun _ _ => False) := by
  refine zM_start hzs hst (by decide) (Nat.le_of_ble_eq_true rfl) (fun X C G F I => ?_)
  show zV X 0 0 _ 0 [(0, _), (1, _)] []
  refine zV.aload_n C dJ4_append_cf468_0 rfl rfl ?_
  refine zV.iload_n C dJ4_append_cf468_1 rfl ?_
  refine zV.callSU (n := 1) C G dJ4_append_cf468_2 (s_BappendC5 hzs hst h a v lo o hu h1 h2 c hc hl) rfl ⟨cd_J5_append_3fe6f, lk_J4_50, sm_J5_J5_J5_append_3fe6f, su_J4_J5, im_J5_append_3fe6f, in_J5⟩ (by decide) ⟨⟨by decide, by decide⟩, by decide⟩ rfl rfl rfl hu.1 ⟨rfl, by decide⟩ (zafR (fun h9 p9 => ?_)) (zno)
  refine zV.pop C dJ4_append_cf468_5 rfl ?_
  refine zV.aload_n C dJ4_append_cf468_6 rfl rfl ?_
  refine zV.aret C F dJ4_append_cf468_7 (Or.inl ⟨_, rfl⟩) rfl rfl ?_
  exact ⟨rfl, p9⟩
