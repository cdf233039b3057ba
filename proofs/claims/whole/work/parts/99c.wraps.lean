/-! the wrappers of the law -/
theorem nc_IAE_IOB : zNc "java/lang/IllegalArgumentException" "java/lang/IndexOutOfBoundsException" := List.mem_of_getElem? (i := 228) (by decide +kernel)
theorem nc_UOE_IOB : zNc "java/lang/UnsupportedOperationException" "java/lang/IndexOutOfBoundsException" := List.mem_of_getElem? (i := 229) (by decide +kernel)
theorem nc_UOE_IAE : zNc "java/lang/UnsupportedOperationException" "java/lang/IllegalArgumentException" := List.mem_of_getElem? (i := 247) (by decide +kernel)
theorem nc_UOE_ISE : zNc "java/lang/UnsupportedOperationException" "java/lang/IllegalStateException" := List.mem_of_getElem? (i := 324) (by decide +kernel)
theorem nc_NSE_IOB : zNc "java/util/NoSuchElementException" "java/lang/IndexOutOfBoundsException" := List.mem_of_getElem? (i := 230) (by decide +kernel)
theorem nc_ISE_IAE : zNc "java/lang/IllegalStateException" "java/lang/IllegalArgumentException" := List.mem_of_getElem? (i := 252) (by decide +kernel)
/-- what a wrapper answers: the code, and the value in the cell ob *)-/
def lwH (A : zAn) (ob : Nat) (h1 : zH) : zH := match A with
  | .inr (.int w) => saJ h1 ob 0 w.toInt64
  | _ => h1
def lwQ (A : zAn) (cf : String → Nat) (P : zH → Prop) (ob : Nat) : Option Value → zH → Prop := fun r h' => r = some (.int (nI (match A with | .inl Ex => cf Ex | .inr _ => 0))) ∧ ∃ h1, P h1 ∧ h' = lwH A ob h1
set_option maxHeartbeats 4000000 in
set_option maxRecDepth 100000 in
theorem s_LaddPath {l : Launch} {E : zG} (hzs : zS E) (hst : l.stackTraces = false) (h : zH) (a ob : Nat) (x : Int32) (y : Int32) (A : zAn) (P : zH → Prop) (hM : zMet l E yX9_addPath cX9_addPath 3 (some .int) ({ frames := 7, cells := 1, slots := 6, locals := 209 } : Room) 1 6 [.ref a, .int x, .int y] h (sQ9 h A P) (sX9 h A P)) (hk : hK h a = 13) (hob : ∀ h1, P h1 → hK h1 ob = 104 ∧ hL h1 ob = 1) (hV : ∀ v, A = .inr v → ∃ w, v = .int w) (hA : ∀ Ex, A = .inl Ex → Ex = IOB ∨ Ex = IAE ∨ Ex = UOE) : zMetW l E yL_addPath cL_addPath 5 (some .int) [(0, 10, 13, 13), (0, 10, 17, 15), (0, 10, 21, 17)] ({ frames := 8, cells := 1, slots := 6, locals := 231 } : Room) 1 6 [.ref a, .int x, .int y, .ref ob] h (lwQ A (fun Ex => if Ex = IOB then 1 else if Ex = IAE then 2 else 3) P ob) (fun _ _ => False) := by
  refine zMW_start hzs hst (by decide) (Nat.le_of_ble_eq_true rfl) (fun X C G F => ?_)
  show zV X 0 0 _ 0 [(0, .ref a), (1, .int x), (2, .int y), (3, .ref ob)] []
  have xh : ∀ Ex h9, sX9 h A P Ex h9 → zVX X (0 + 1) (0 + 6) h9 5 [(0, .ref a), (1, .int x), (2, .int y), (3, .ref ob)] [.int (nI 0), .ref ob] Ex := by
    intro Ex h9 ⟨eA, p9⟩
    rcases hA Ex eA with rfl | rfl | rfl
    · refine zVX.catch C F [] (0, 10, 13, 13) [(0, 10, 17, 15), (0, 10, 21, 17)] rfl (fun z hz => by cases hz) (by decide) (by decide) lk_L_13 ca_java_lang_IndexOutOfBoundsException_java_lang_IndexOutOfBoundsException (fun q => ?_)
      show zV X _ _ h9 13 _ _
      refine zV.astore (lo' := [(0, _), (1, _), (2, _), (3, _), (4, _)]) C dL_addPath_13 rfl (by decide) rfl rfl rfl ?_
      refine zV.ic (v := nI 1) C dL_addPath_15 (by decide) ?_
      refine zV.iretW C F dL_addPath_16 rfl ?_
      exact ⟨by rw [eA]; try rfl, h9, p9, by rw [eA]; try rfl⟩
    · refine zVX.catch C F [(0, 10, 13, 13)] (0, 10, 17, 15) [(0, 10, 21, 17)] rfl (fun z hz => by
        rcases List.mem_cons.mp hz with rfl | hz
        · exact ⟨by decide, _, lk_L_13, nc_IAE_IOB⟩
        cases hz) (by decide) (by decide) lk_L_15 ca_java_lang_IllegalArgumentException_java_lang_IllegalArgumentException (fun q => ?_)
      show zV X _ _ h9 17 _ _
      refine zV.astore (lo' := [(0, _), (1, _), (2, _), (3, _), (4, _)]) C dL_addPath_17 rfl (by decide) rfl rfl rfl ?_
      refine zV.ic (v := nI 2) C dL_addPath_19 (by decide) ?_
      refine zV.iretW C F dL_addPath_20 rfl ?_
      exact ⟨by rw [eA]; try rfl, h9, p9, by rw [eA]; try rfl⟩
    · refine zVX.catch C F [(0, 10, 13, 13), (0, 10, 17, 15)] (0, 10, 21, 17) [] rfl (fun z hz => by
        rcases List.mem_cons.mp hz with rfl | hz
        · exact ⟨by decide, _, lk_L_13, nc_UOE_IOB⟩
        rcases List.mem_cons.mp hz with rfl | hz
        · exact ⟨by decide, _, lk_L_15, nc_UOE_IAE⟩
        cases hz) (by decide) (by decide) lk_L_17 ca_java_lang_UnsupportedOperationException_java_lang_UnsupportedOperationException (fun q => ?_)
      show zV X _ _ h9 21 _ _
      refine zV.astore (lo' := [(0, _), (1, _), (2, _), (3, _), (4, _)]) C dL_addPath_21 rfl (by decide) rfl rfl rfl ?_
      refine zV.ic (v := nI 3) C dL_addPath_23 (by decide) ?_
      refine zV.iretW C F dL_addPath_24 rfl ?_
      exact ⟨by rw [eA]; try rfl, h9, p9, by rw [eA]; try rfl⟩
  refine zV.aload_n C dL_addPath_0 rfl rfl ?_
  refine zV.ic (v := nI 0) C dL_addPath_1 (by decide) ?_
  refine zV.aload_n C dL_addPath_2 rfl rfl ?_
  refine zV.iload_n C dL_addPath_3 rfl ?_
  refine zV.iload_n C dL_addPath_4 rfl ?_
  refine zV.callV (n := 2) C G dL_addPath_5 hM rfl ⟨cd_X9_addPath, lk_L_7, im_X9_addPath, se_X9_X9_addPath, in_X9⟩ ⟨⟨by decide, by decide⟩, by decide⟩ rfl rfl rfl hk ⟨rfl, by decide⟩ (zafX (fun r9 h9 q9 => ?_)) (fun Ex h9 q9 _ => xh Ex h9 q9)
  obtain ⟨⟨v9, eA, rfl⟩, p9⟩ := q9
  obtain ⟨w, rfl⟩ := hV v9 eA
  obtain ⟨k1, k2⟩ := hob h9 p9
  show zV X _ _ h9 8 _ (.int w :: .int (nI 0) :: .ref ob :: [])
  refine zV.i2l C dL_addPath_8 ?_
  refine zV.last (j := 0) C dL_addPath_9 k1 rfl (by rw [k2]; decide) (by decide) ?_
  refine zV.goto (tgt := 25) C dL_addPath_10 (by decide) ?_
  refine zV.ic (v := nI 0) C dL_addPath_25 (by decide) ?_
  refine zV.iretW C F dL_addPath_26 rfl ?_
  exact ⟨by rw [eA], h9, p9, by rw [eA]; try rfl⟩
set_option maxHeartbeats 4000000 in
set_option maxRecDepth 100000 in
theorem s_LremovePath {l : Launch} {E : zG} (hzs : zS E) (hst : l.stackTraces = false) (h : zH) (a ob : Nat) (x : Int32) (y : Int32) (A : zAn) (P : zH → Prop) (hM : zMet l E yX9_removePath cX9_removePath 3 (some .int) ({ frames := 7, cells := 1, slots := 6, locals := 209 } : Room) 1 6 [.ref a, .int x, .int y] h (sQ9 h A P) (sX9 h A P)) (hk : hK h a = 13) (hob : ∀ h1, P h1 → hK h1 ob = 104 ∧ hL h1 ob = 1) (hV : ∀ v, A = .inr v → ∃ w, v = .int w) (hA : ∀ Ex, A = .inl Ex → Ex = IOB ∨ Ex = IAE ∨ Ex = UOE) : zMetW l E yL_removePath cL_removePath 5 (some .int) [(0, 10, 13, 13), (0, 10, 17, 15), (0, 10, 21, 17)] ({ frames := 8, cells := 1, slots := 6, locals := 231 } : Room) 1 6 [.ref a, .int x, .int y, .ref ob] h (lwQ A (fun Ex => if Ex = IOB then 1 else if Ex = IAE then 2 else 3) P ob) (fun _ _ => False) := by
  refine zMW_start hzs hst (by decide) (Nat.le_of_ble_eq_true rfl) (fun X C G F => ?_)
  show zV X 0 0 _ 0 [(0, .ref a), (1, .int x), (2, .int y), (3, .ref ob)] []
  have xh : ∀ Ex h9, sX9 h A P Ex h9 → zVX X (0 + 1) (0 + 6) h9 5 [(0, .ref a), (1, .int x), (2, .int y), (3, .ref ob)] [.int (nI 0), .ref ob] Ex := by
    intro Ex h9 ⟨eA, p9⟩
    rcases hA Ex eA with rfl | rfl | rfl
    · refine zVX.catch C F [] (0, 10, 13, 13) [(0, 10, 17, 15), (0, 10, 21, 17)] rfl (fun z hz => by cases hz) (by decide) (by decide) lk_L_13 ca_java_lang_IndexOutOfBoundsException_java_lang_IndexOutOfBoundsException (fun q => ?_)
      show zV X _ _ h9 13 _ _
      refine zV.astore (lo' := [(0, _), (1, _), (2, _), (3, _), (4, _)]) C dL_removePath_13 rfl (by decide) rfl rfl rfl ?_
      refine zV.ic (v := nI 1) C dL_removePath_15 (by decide) ?_
      refine zV.iretW C F dL_removePath_16 rfl ?_
      exact ⟨by rw [eA]; try rfl, h9, p9, by rw [eA]; try rfl⟩
    · refine zVX.catch C F [(0, 10, 13, 13)] (0, 10, 17, 15) [(0, 10, 21, 17)] rfl (fun z hz => by
        rcases List.mem_cons.mp hz with rfl | hz
        · exact ⟨by decide, _, lk_L_13, nc_IAE_IOB⟩
        cases hz) (by decide) (by decide) lk_L_15 ca_java_lang_IllegalArgumentException_java_lang_IllegalArgumentException (fun q => ?_)
      show zV X _ _ h9 17 _ _
      refine zV.astore (lo' := [(0, _), (1, _), (2, _), (3, _), (4, _)]) C dL_removePath_17 rfl (by decide) rfl rfl rfl ?_
      refine zV.ic (v := nI 2) C dL_removePath_19 (by decide) ?_
      refine zV.iretW C F dL_removePath_20 rfl ?_
      exact ⟨by rw [eA]; try rfl, h9, p9, by rw [eA]; try rfl⟩
    · refine zVX.catch C F [(0, 10, 13, 13), (0, 10, 17, 15)] (0, 10, 21, 17) [] rfl (fun z hz => by
        rcases List.mem_cons.mp hz with rfl | hz
        · exact ⟨by decide, _, lk_L_13, nc_UOE_IOB⟩
        rcases List.mem_cons.mp hz with rfl | hz
        · exact ⟨by decide, _, lk_L_15, nc_UOE_IAE⟩
        cases hz) (by decide) (by decide) lk_L_17 ca_java_lang_UnsupportedOperationException_java_lang_UnsupportedOperationException (fun q => ?_)
      show zV X _ _ h9 21 _ _
      refine zV.astore (lo' := [(0, _), (1, _), (2, _), (3, _), (4, _)]) C dL_removePath_21 rfl (by decide) rfl rfl rfl ?_
      refine zV.ic (v := nI 3) C dL_removePath_23 (by decide) ?_
      refine zV.iretW C F dL_removePath_24 rfl ?_
      exact ⟨by rw [eA]; try rfl, h9, p9, by rw [eA]; try rfl⟩
  refine zV.aload_n C dL_removePath_0 rfl rfl ?_
  refine zV.ic (v := nI 0) C dL_removePath_1 (by decide) ?_
  refine zV.aload_n C dL_removePath_2 rfl rfl ?_
  refine zV.iload_n C dL_removePath_3 rfl ?_
  refine zV.iload_n C dL_removePath_4 rfl ?_
  refine zV.callV (n := 2) C G dL_removePath_5 hM rfl ⟨cd_X9_removePath, lk_L_19, im_X9_removePath, se_X9_X9_removePath, in_X9⟩ ⟨⟨by decide, by decide⟩, by decide⟩ rfl rfl rfl hk ⟨rfl, by decide⟩ (zafX (fun r9 h9 q9 => ?_)) (fun Ex h9 q9 _ => xh Ex h9 q9)
  obtain ⟨⟨v9, eA, rfl⟩, p9⟩ := q9
  obtain ⟨w, rfl⟩ := hV v9 eA
  obtain ⟨k1, k2⟩ := hob h9 p9
  show zV X _ _ h9 8 _ (.int w :: .int (nI 0) :: .ref ob :: [])
  refine zV.i2l C dL_removePath_8 ?_
  refine zV.last (j := 0) C dL_removePath_9 k1 rfl (by rw [k2]; decide) (by decide) ?_
  refine zV.goto (tgt := 25) C dL_removePath_10 (by decide) ?_
  refine zV.ic (v := nI 0) C dL_removePath_25 (by decide) ?_
  refine zV.iretW C F dL_removePath_26 rfl ?_
  exact ⟨by rw [eA], h9, p9, by rw [eA]; try rfl⟩
set_option maxHeartbeats 4000000 in
set_option maxRecDepth 100000 in
theorem s_Ldistance {l : Launch} {E : zG} (hzs : zS E) (hst : l.stackTraces = false) (h : zH) (a ob : Nat) (x : Int32) (y : Int32) (A : zAn) (P : zH → Prop) (hM : zMet l E yX9_distance cX9_distance 3 (some .int) ({ frames := 7, cells := 3, slots := 18, locals := 115 } : Room) 3 18 [.ref a, .int x, .int y] h (sQ9 h A P) (sX9 h A P)) (hk : hK h a = 13) (hob : ∀ h1, P h1 → hK h1 ob = 104 ∧ hL h1 ob = 1) (hV : ∀ v, A = .inr v → ∃ w, v = .int w) (hA : ∀ Ex, A = .inl Ex → Ex = IOB ∨ Ex = NSE) : zMetW l E yL_distance cL_distance 5 (some .int) [(0, 10, 13, 13), (0, 10, 17, 29)] ({ frames := 8, cells := 3, slots := 18, locals := 137 } : Room) 3 18 [.ref a, .int x, .int y, .ref ob] h (lwQ A (fun Ex => if Ex = IOB then 1 else 2) P ob) (fun _ _ => False) := by
  refine zMW_start hzs hst (by decide) (Nat.le_of_ble_eq_true rfl) (fun X C G F => ?_)
  show zV X 0 0 _ 0 [(0, .ref a), (1, .int x), (2, .int y), (3, .ref ob)] []
  have xh : ∀ Ex h9, sX9 h A P Ex h9 → zVX X (0 + 3) (0 + 18) h9 5 [(0, .ref a), (1, .int x), (2, .int y), (3, .ref ob)] [.int (nI 0), .ref ob] Ex := by
    intro Ex h9 ⟨eA, p9⟩
    rcases hA Ex eA with rfl | rfl
    · refine zVX.catch C F [] (0, 10, 13, 13) [(0, 10, 17, 29)] rfl (fun z hz => by cases hz) (by decide) (by decide) lk_L_13 ca_java_lang_IndexOutOfBoundsException_java_lang_IndexOutOfBoundsException (fun q => ?_)
      show zV X _ _ h9 13 _ _
      refine zV.astore (lo' := [(0, _), (1, _), (2, _), (3, _), (4, _)]) C dL_distance_13 rfl (by decide) rfl rfl rfl ?_
      refine zV.ic (v := nI 1) C dL_distance_15 (by decide) ?_
      refine zV.iretW C F dL_distance_16 rfl ?_
      exact ⟨by rw [eA]; try rfl, h9, p9, by rw [eA]; try rfl⟩
    · refine zVX.catch C F [(0, 10, 13, 13)] (0, 10, 17, 29) [] rfl (fun z hz => by
        rcases List.mem_cons.mp hz with rfl | hz
        · exact ⟨by decide, _, lk_L_13, nc_NSE_IOB⟩
        cases hz) (by decide) (by decide) lk_L_29 ca_java_util_NoSuchElementException_java_util_NoSuchElementException (fun q => ?_)
      show zV X _ _ h9 17 _ _
      refine zV.astore (lo' := [(0, _), (1, _), (2, _), (3, _), (4, _)]) C dL_distance_17 rfl (by decide) rfl rfl rfl ?_
      refine zV.ic (v := nI 2) C dL_distance_19 (by decide) ?_
      refine zV.iretW C F dL_distance_20 rfl ?_
      exact ⟨by rw [eA]; try rfl, h9, p9, by rw [eA]; try rfl⟩
  refine zV.aload_n C dL_distance_0 rfl rfl ?_
  refine zV.ic (v := nI 0) C dL_distance_1 (by decide) ?_
  refine zV.aload_n C dL_distance_2 rfl rfl ?_
  refine zV.iload_n C dL_distance_3 rfl ?_
  refine zV.iload_n C dL_distance_4 rfl ?_
  refine zV.callV (n := 2) C G dL_distance_5 hM rfl ⟨cd_X9_distance, lk_L_26, im_X9_distance, se_X9_X9_distance, in_X9⟩ ⟨⟨by decide, by decide⟩, by decide⟩ rfl rfl rfl hk ⟨rfl, by decide⟩ (zafX (fun r9 h9 q9 => ?_)) (fun Ex h9 q9 _ => xh Ex h9 q9)
  obtain ⟨⟨v9, eA, rfl⟩, p9⟩ := q9
  obtain ⟨w, rfl⟩ := hV v9 eA
  obtain ⟨k1, k2⟩ := hob h9 p9
  show zV X _ _ h9 8 _ (.int w :: .int (nI 0) :: .ref ob :: [])
  refine zV.i2l C dL_distance_8 ?_
  refine zV.last (j := 0) C dL_distance_9 k1 rfl (by rw [k2]; decide) (by decide) ?_
  refine zV.goto (tgt := 21) C dL_distance_10 (by decide) ?_
  refine zV.ic (v := nI 0) C dL_distance_21 (by decide) ?_
  refine zV.iretW C F dL_distance_22 rfl ?_
  exact ⟨by rw [eA], h9, p9, by rw [eA]; try rfl⟩
set_option maxHeartbeats 4000000 in
set_option maxRecDepth 100000 in
theorem s_LdistanceByImprovement {l : Launch} {E : zG} (hzs : zS E) (hst : l.stackTraces = false) (h : zH) (a ob : Nat) (x : Int32) (y : Int32) (A : zAn) (P : zH → Prop) (hM : zMet l E yX9_distanceByImprovement cX9_distanceByImprovement 3 (some .int) ({ frames := 7, cells := 3, slots := 18, locals := 115 } : Room) 3 18 [.ref a, .int x, .int y] h (sQ9 h A P) (sX9 h A P)) (hk : hK h a = 13) (hob : ∀ h1, P h1 → hK h1 ob = 104 ∧ hL h1 ob = 1) (hV : ∀ v, A = .inr v → ∃ w, v = .int w) (hA : ∀ Ex, A = .inl Ex → Ex = IOB ∨ Ex = NSE) : zMetW l E yL_distanceByImprovement cL_distanceByImprovement 5 (some .int) [(0, 10, 13, 13), (0, 10, 17, 29)] ({ frames := 8, cells := 3, slots := 18, locals := 137 } : Room) 3 18 [.ref a, .int x, .int y, .ref ob] h (lwQ A (fun Ex => if Ex = IOB then 1 else 2) P ob) (fun _ _ => False) := by
  refine zMW_start hzs hst (by decide) (Nat.le_of_ble_eq_true rfl) (fun X C G F => ?_)
  show zV X 0 0 _ 0 [(0, .ref a), (1, .int x), (2, .int y), (3, .ref ob)] []
  have xh : ∀ Ex h9, sX9 h A P Ex h9 → zVX X (0 + 3) (0 + 18) h9 5 [(0, .ref a), (1, .int x), (2, .int y), (3, .ref ob)] [.int (nI 0), .ref ob] Ex := by
    intro Ex h9 ⟨eA, p9⟩
    rcases hA Ex eA with rfl | rfl
    · refine zVX.catch C F [] (0, 10, 13, 13) [(0, 10, 17, 29)] rfl (fun z hz => by cases hz) (by decide) (by decide) lk_L_13 ca_java_lang_IndexOutOfBoundsException_java_lang_IndexOutOfBoundsException (fun q => ?_)
      show zV X _ _ h9 13 _ _
      refine zV.astore (lo' := [(0, _), (1, _), (2, _), (3, _), (4, _)]) C dL_distanceByImprovement_13 rfl (by decide) rfl rfl rfl ?_
      refine zV.ic (v := nI 1) C dL_distanceByImprovement_15 (by decide) ?_
      refine zV.iretW C F dL_distanceByImprovement_16 rfl ?_
      exact ⟨by rw [eA]; try rfl, h9, p9, by rw [eA]; try rfl⟩
    · refine zVX.catch C F [(0, 10, 13, 13)] (0, 10, 17, 29) [] rfl (fun z hz => by
        rcases List.mem_cons.mp hz with rfl | hz
        · exact ⟨by decide, _, lk_L_13, nc_NSE_IOB⟩
        cases hz) (by decide) (by decide) lk_L_29 ca_java_util_NoSuchElementException_java_util_NoSuchElementException (fun q => ?_)
      show zV X _ _ h9 17 _ _
      refine zV.astore (lo' := [(0, _), (1, _), (2, _), (3, _), (4, _)]) C dL_distanceByImprovement_17 rfl (by decide) rfl rfl rfl ?_
      refine zV.ic (v := nI 2) C dL_distanceByImprovement_19 (by decide) ?_
      refine zV.iretW C F dL_distanceByImprovement_20 rfl ?_
      exact ⟨by rw [eA]; try rfl, h9, p9, by rw [eA]; try rfl⟩
  refine zV.aload_n C dL_distanceByImprovement_0 rfl rfl ?_
  refine zV.ic (v := nI 0) C dL_distanceByImprovement_1 (by decide) ?_
  refine zV.aload_n C dL_distanceByImprovement_2 rfl rfl ?_
  refine zV.iload_n C dL_distanceByImprovement_3 rfl ?_
  refine zV.iload_n C dL_distanceByImprovement_4 rfl ?_
  refine zV.callV (n := 2) C G dL_distanceByImprovement_5 hM rfl ⟨cd_X9_distanceByImprovement, lk_L_31, im_X9_distanceByImprovement, se_X9_X9_distanceByImprovement, in_X9⟩ ⟨⟨by decide, by decide⟩, by decide⟩ rfl rfl rfl hk ⟨rfl, by decide⟩ (zafX (fun r9 h9 q9 => ?_)) (fun Ex h9 q9 _ => xh Ex h9 q9)
  obtain ⟨⟨v9, eA, rfl⟩, p9⟩ := q9
  obtain ⟨w, rfl⟩ := hV v9 eA
  obtain ⟨k1, k2⟩ := hob h9 p9
  show zV X _ _ h9 8 _ (.int w :: .int (nI 0) :: .ref ob :: [])
  refine zV.i2l C dL_distanceByImprovement_8 ?_
  refine zV.last (j := 0) C dL_distanceByImprovement_9 k1 rfl (by rw [k2]; decide) (by decide) ?_
  refine zV.goto (tgt := 21) C dL_distanceByImprovement_10 (by decide) ?_
  refine zV.ic (v := nI 0) C dL_distanceByImprovement_21 (by decide) ?_
  refine zV.iretW C F dL_distanceByImprovement_22 rfl ?_
  exact ⟨by rw [eA], h9, p9, by rw [eA]; try rfl⟩
set_option maxHeartbeats 4000000 in
set_option maxRecDepth 100000 in
theorem s_LrouteAt {l : Launch} {E : zG} (hzs : zS E) (hst : l.stackTraces = false) (h : zH) (a ob : Nat) (x : Int32) (y : Int32) (z : Int32) (A : zAn) (P : zH → Prop) (hM : zMet l E yX9_routeAt cX9_routeAt 7 (some .int) ({ frames := 7, cells := 3, slots := 18, locals := 115 } : Room) 3 18 [.ref a, .int x, .int y, .int z] h (sQ9 h A P) (sX9 h A P)) (hk : hK h a = 13) (hob : ∀ h1, P h1 → hK h1 ob = 104 ∧ hL h1 ob = 1) (hV : ∀ v, A = .inr v → ∃ w, v = .int w) (hA : ∀ Ex, A = .inl Ex → Ex = IOB ∨ Ex = NSE) : zMetW l E yL_routeAt cL_routeAt 6 (some .int) [(0, 12, 15, 13), (0, 12, 19, 29)] ({ frames := 8, cells := 3, slots := 18, locals := 141 } : Room) 3 18 [.ref a, .int x, .int y, .int z, .ref ob] h (lwQ A (fun Ex => if Ex = IOB then 1 else 2) P ob) (fun _ _ => False) := by
  refine zMW_start hzs hst (by decide) (Nat.le_of_ble_eq_true rfl) (fun X C G F => ?_)
  show zV X 0 0 _ 0 [(0, .ref a), (1, .int x), (2, .int y), (3, .int z), (4, .ref ob)] []
  have xh : ∀ Ex h9, sX9 h A P Ex h9 → zVX X (0 + 3) (0 + 18) h9 7 [(0, .ref a), (1, .int x), (2, .int y), (3, .int z), (4, .ref ob)] [.int (nI 0), .ref ob] Ex := by
    intro Ex h9 ⟨eA, p9⟩
    rcases hA Ex eA with rfl | rfl
    · refine zVX.catch C F [] (0, 12, 15, 13) [(0, 12, 19, 29)] rfl (fun z hz => by cases hz) (by decide) (by decide) lk_L_13 ca_java_lang_IndexOutOfBoundsException_java_lang_IndexOutOfBoundsException (fun q => ?_)
      show zV X _ _ h9 15 _ _
      refine zV.astore (lo' := [(0, _), (1, _), (2, _), (3, _), (4, _), (5, _)]) C dL_routeAt_15 rfl (by decide) rfl rfl rfl ?_
      refine zV.ic (v := nI 1) C dL_routeAt_17 (by decide) ?_
      refine zV.iretW C F dL_routeAt_18 rfl ?_
      exact ⟨by rw [eA]; try rfl, h9, p9, by rw [eA]; try rfl⟩
    · refine zVX.catch C F [(0, 12, 15, 13)] (0, 12, 19, 29) [] rfl (fun z hz => by
        rcases List.mem_cons.mp hz with rfl | hz
        · exact ⟨by decide, _, lk_L_13, nc_NSE_IOB⟩
        cases hz) (by decide) (by decide) lk_L_29 ca_java_util_NoSuchElementException_java_util_NoSuchElementException (fun q => ?_)
      show zV X _ _ h9 19 _ _
      refine zV.astore (lo' := [(0, _), (1, _), (2, _), (3, _), (4, _), (5, _)]) C dL_routeAt_19 rfl (by decide) rfl rfl rfl ?_
      refine zV.ic (v := nI 2) C dL_routeAt_21 (by decide) ?_
      refine zV.iretW C F dL_routeAt_22 rfl ?_
      exact ⟨by rw [eA]; try rfl, h9, p9, by rw [eA]; try rfl⟩
  refine zV.aload C dL_routeAt_0 rfl rfl ?_
  refine zV.ic (v := nI 0) C dL_routeAt_2 (by decide) ?_
  refine zV.aload_n C dL_routeAt_3 rfl rfl ?_
  refine zV.iload_n C dL_routeAt_4 rfl ?_
  refine zV.iload_n C dL_routeAt_5 rfl ?_
  refine zV.iload_n C dL_routeAt_6 rfl ?_
  refine zV.callV (n := 3) C G dL_routeAt_7 hM rfl ⟨cd_X9_routeAt, lk_L_34, im_X9_routeAt, se_X9_X9_routeAt, in_X9⟩ ⟨⟨by decide, by decide⟩, by decide⟩ rfl rfl rfl hk ⟨rfl, by decide⟩ (zafX (fun r9 h9 q9 => ?_)) (fun Ex h9 q9 _ => xh Ex h9 q9)
  obtain ⟨⟨v9, eA, rfl⟩, p9⟩ := q9
  obtain ⟨w, rfl⟩ := hV v9 eA
  obtain ⟨k1, k2⟩ := hob h9 p9
  show zV X _ _ h9 10 _ (.int w :: .int (nI 0) :: .ref ob :: [])
  refine zV.i2l C dL_routeAt_10 ?_
  refine zV.last (j := 0) C dL_routeAt_11 k1 rfl (by rw [k2]; decide) (by decide) ?_
  refine zV.goto (tgt := 23) C dL_routeAt_12 (by decide) ?_
  refine zV.ic (v := nI 0) C dL_routeAt_23 (by decide) ?_
  refine zV.iretW C F dL_routeAt_24 rfl ?_
  exact ⟨by rw [eA], h9, p9, by rw [eA]; try rfl⟩
set_option maxHeartbeats 4000000 in
set_option maxRecDepth 100000 in
theorem s_LreachableLawns {l : Launch} {E : zG} (hzs : zS E) (hst : l.stackTraces = false) (h : zH) (a ob : Nat) (x : Int32) (A : zAn) (P : zH → Prop) (hM : zMet l E yX9_reachableLawns cX9_reachableLawns 2 (some .int) ({ frames := 7, cells := 1, slots := 6, locals := 115 } : Room) 1 6 [.ref a, .int x] h (sQ9 h A P) (sX9 h A P)) (hk : hK h a = 13) (hob : ∀ h1, P h1 → hK h1 ob = 104 ∧ hL h1 ob = 1) (hV : ∀ v, A = .inr v → ∃ w, v = .int w) (hA : ∀ Ex, A = .inl Ex → Ex = IOB) : zMetW l E yL_reachableLawns cL_reachableLawns 4 (some .int) [(0, 9, 12, 13)] ({ frames := 8, cells := 1, slots := 6, locals := 136 } : Room) 1 6 [.ref a, .int x, .ref ob] h (lwQ A (fun Ex => 1) P ob) (fun _ _ => False) := by
  refine zMW_start hzs hst (by decide) (Nat.le_of_ble_eq_true rfl) (fun X C G F => ?_)
  show zV X 0 0 _ 0 [(0, .ref a), (1, .int x), (2, .ref ob)] []
  have xh : ∀ Ex h9, sX9 h A P Ex h9 → zVX X (0 + 1) (0 + 6) h9 4 [(0, .ref a), (1, .int x), (2, .ref ob)] [.int (nI 0), .ref ob] Ex := by
    intro Ex h9 ⟨eA, p9⟩
    rcases hA Ex eA with rfl
    · refine zVX.catch C F [] (0, 9, 12, 13) [] rfl (fun z hz => by cases hz) (by decide) (by decide) lk_L_13 ca_java_lang_IndexOutOfBoundsException_java_lang_IndexOutOfBoundsException (fun q => ?_)
      show zV X _ _ h9 12 _ _
      refine zV.astore_n (lo' := [(0, _), (1, _), (2, _), (3, _)]) C dL_reachableLawns_12 rfl (by decide) rfl rfl rfl ?_
      refine zV.ic (v := nI 1) C dL_reachableLawns_13 (by decide) ?_
      refine zV.iretW C F dL_reachableLawns_14 rfl ?_
      exact ⟨by rw [eA]; try rfl, h9, p9, by rw [eA]; try rfl⟩
  refine zV.aload_n C dL_reachableLawns_0 rfl rfl ?_
  refine zV.ic (v := nI 0) C dL_reachableLawns_1 (by decide) ?_
  refine zV.aload_n C dL_reachableLawns_2 rfl rfl ?_
  refine zV.iload_n C dL_reachableLawns_3 rfl ?_
  refine zV.callV (n := 1) C G dL_reachableLawns_4 hM rfl ⟨cd_X9_reachableLawns, lk_L_38, im_X9_reachableLawns, se_X9_X9_reachableLawns, in_X9⟩ ⟨⟨by decide, by decide⟩, by decide⟩ rfl rfl rfl hk ⟨rfl, by decide⟩ (zafX (fun r9 h9 q9 => ?_)) (fun Ex h9 q9 _ => xh Ex h9 q9)
  obtain ⟨⟨v9, eA, rfl⟩, p9⟩ := q9
  obtain ⟨w, rfl⟩ := hV v9 eA
  obtain ⟨k1, k2⟩ := hob h9 p9
  show zV X _ _ h9 7 _ (.int w :: .int (nI 0) :: .ref ob :: [])
  refine zV.i2l C dL_reachableLawns_7 ?_
  refine zV.last (j := 0) C dL_reachableLawns_8 k1 rfl (by rw [k2]; decide) (by decide) ?_
  refine zV.goto (tgt := 15) C dL_reachableLawns_9 (by decide) ?_
  refine zV.ic (v := nI 0) C dL_reachableLawns_15 (by decide) ?_
  refine zV.iretW C F dL_reachableLawns_16 rfl ?_
  exact ⟨by rw [eA], h9, p9, by rw [eA]; try rfl⟩
set_option maxHeartbeats 4000000 in
set_option maxRecDepth 100000 in
theorem s_LsetShade {l : Launch} {E : zG} (hzs : zS E) (hst : l.stackTraces = false) (h : zH) (a ob : Nat) (x : Int32) (y : Int32) (A : zAn) (P : zH → Prop) (hM : zMet l E yX9_setShade cX9_setShade 3 (some .int) ({ frames := 7, cells := 1, slots := 6, locals := 209 } : Room) 1 6 [.ref a, .int x, .int y] h (sQ9 h A P) (sX9 h A P)) (hk : hK h a = 13) (hob : ∀ h1, P h1 → hK h1 ob = 104 ∧ hL h1 ob = 1) (hV : ∀ v, A = .inr v → ∃ w, v = .int w) (hA : ∀ Ex, A = .inl Ex → Ex = IOB ∨ Ex = IAE) : zMetW l E yL_setShade cL_setShade 5 (some .int) [(0, 10, 13, 13), (0, 10, 17, 15)] ({ frames := 8, cells := 1, slots := 6, locals := 231 } : Room) 1 6 [.ref a, .int x, .int y, .ref ob] h (lwQ A (fun Ex => if Ex = IOB then 1 else 2) P ob) (fun _ _ => False) := by
  refine zMW_start hzs hst (by decide) (Nat.le_of_ble_eq_true rfl) (fun X C G F => ?_)
  show zV X 0 0 _ 0 [(0, .ref a), (1, .int x), (2, .int y), (3, .ref ob)] []
  have xh : ∀ Ex h9, sX9 h A P Ex h9 → zVX X (0 + 1) (0 + 6) h9 5 [(0, .ref a), (1, .int x), (2, .int y), (3, .ref ob)] [.int (nI 0), .ref ob] Ex := by
    intro Ex h9 ⟨eA, p9⟩
    rcases hA Ex eA with rfl | rfl
    · refine zVX.catch C F [] (0, 10, 13, 13) [(0, 10, 17, 15)] rfl (fun z hz => by cases hz) (by decide) (by decide) lk_L_13 ca_java_lang_IndexOutOfBoundsException_java_lang_IndexOutOfBoundsException (fun q => ?_)
      show zV X _ _ h9 13 _ _
      refine zV.astore (lo' := [(0, _), (1, _), (2, _), (3, _), (4, _)]) C dL_setShade_13 rfl (by decide) rfl rfl rfl ?_
      refine zV.ic (v := nI 1) C dL_setShade_15 (by decide) ?_
      refine zV.iretW C F dL_setShade_16 rfl ?_
      exact ⟨by rw [eA]; try rfl, h9, p9, by rw [eA]; try rfl⟩
    · refine zVX.catch C F [(0, 10, 13, 13)] (0, 10, 17, 15) [] rfl (fun z hz => by
        rcases List.mem_cons.mp hz with rfl | hz
        · exact ⟨by decide, _, lk_L_13, nc_IAE_IOB⟩
        cases hz) (by decide) (by decide) lk_L_15 ca_java_lang_IllegalArgumentException_java_lang_IllegalArgumentException (fun q => ?_)
      show zV X _ _ h9 17 _ _
      refine zV.astore (lo' := [(0, _), (1, _), (2, _), (3, _), (4, _)]) C dL_setShade_17 rfl (by decide) rfl rfl rfl ?_
      refine zV.ic (v := nI 2) C dL_setShade_19 (by decide) ?_
      refine zV.iretW C F dL_setShade_20 rfl ?_
      exact ⟨by rw [eA]; try rfl, h9, p9, by rw [eA]; try rfl⟩
  refine zV.aload_n C dL_setShade_0 rfl rfl ?_
  refine zV.ic (v := nI 0) C dL_setShade_1 (by decide) ?_
  refine zV.aload_n C dL_setShade_2 rfl rfl ?_
  refine zV.iload_n C dL_setShade_3 rfl ?_
  refine zV.iload_n C dL_setShade_4 rfl ?_
  refine zV.callV (n := 2) C G dL_setShade_5 hM rfl ⟨cd_X9_setShade, lk_L_42, im_X9_setShade, se_X9_X9_setShade, in_X9⟩ ⟨⟨by decide, by decide⟩, by decide⟩ rfl rfl rfl hk ⟨rfl, by decide⟩ (zafX (fun r9 h9 q9 => ?_)) (fun Ex h9 q9 _ => xh Ex h9 q9)
  obtain ⟨⟨v9, eA, rfl⟩, p9⟩ := q9
  obtain ⟨w, rfl⟩ := hV v9 eA
  obtain ⟨k1, k2⟩ := hob h9 p9
  show zV X _ _ h9 8 _ (.int w :: .int (nI 0) :: .ref ob :: [])
  refine zV.i2l C dL_setShade_8 ?_
  refine zV.last (j := 0) C dL_setShade_9 k1 rfl (by rw [k2]; decide) (by decide) ?_
  refine zV.goto (tgt := 21) C dL_setShade_10 (by decide) ?_
  refine zV.ic (v := nI 0) C dL_setShade_21 (by decide) ?_
  refine zV.iretW C F dL_setShade_22 rfl ?_
  exact ⟨by rw [eA], h9, p9, by rw [eA]; try rfl⟩
set_option maxHeartbeats 4000000 in
set_option maxRecDepth 100000 in
theorem s_LshadeOf {l : Launch} {E : zG} (hzs : zS E) (hst : l.stackTraces = false) (h : zH) (a ob : Nat) (x : Int32) (A : zAn) (P : zH → Prop) (hM : zMet l E yX9_shadeOf cX9_shadeOf 2 (some .int) ({ frames := 7, cells := 1, slots := 6, locals := 115 } : Room) 1 6 [.ref a, .int x] h (sQ9 h A P) (sX9 h A P)) (hk : hK h a = 13) (hob : ∀ h1, P h1 → hK h1 ob = 104 ∧ hL h1 ob = 1) (hV : ∀ v, A = .inr v → ∃ w, v = .int w) (hA : ∀ Ex, A = .inl Ex → Ex = IOB) : zMetW l E yL_shadeOf cL_shadeOf 4 (some .int) [(0, 9, 12, 13)] ({ frames := 8, cells := 1, slots := 6, locals := 136 } : Room) 1 6 [.ref a, .int x, .ref ob] h (lwQ A (fun Ex => 1) P ob) (fun _ _ => False) := by
  refine zMW_start hzs hst (by decide) (Nat.le_of_ble_eq_true rfl) (fun X C G F => ?_)
  show zV X 0 0 _ 0 [(0, .ref a), (1, .int x), (2, .ref ob)] []
  have xh : ∀ Ex h9, sX9 h A P Ex h9 → zVX X (0 + 1) (0 + 6) h9 4 [(0, .ref a), (1, .int x), (2, .ref ob)] [.int (nI 0), .ref ob] Ex := by
    intro Ex h9 ⟨eA, p9⟩
    rcases hA Ex eA with rfl
    · refine zVX.catch C F [] (0, 9, 12, 13) [] rfl (fun z hz => by cases hz) (by decide) (by decide) lk_L_13 ca_java_lang_IndexOutOfBoundsException_java_lang_IndexOutOfBoundsException (fun q => ?_)
      show zV X _ _ h9 12 _ _
      refine zV.astore_n (lo' := [(0, _), (1, _), (2, _), (3, _)]) C dL_shadeOf_12 rfl (by decide) rfl rfl rfl ?_
      refine zV.ic (v := nI 1) C dL_shadeOf_13 (by decide) ?_
      refine zV.iretW C F dL_shadeOf_14 rfl ?_
      exact ⟨by rw [eA]; try rfl, h9, p9, by rw [eA]; try rfl⟩
  refine zV.aload_n C dL_shadeOf_0 rfl rfl ?_
  refine zV.ic (v := nI 0) C dL_shadeOf_1 (by decide) ?_
  refine zV.aload_n C dL_shadeOf_2 rfl rfl ?_
  refine zV.iload_n C dL_shadeOf_3 rfl ?_
  refine zV.callV (n := 1) C G dL_shadeOf_4 hM rfl ⟨cd_X9_shadeOf, lk_L_45, im_X9_shadeOf, se_X9_X9_shadeOf, in_X9⟩ ⟨⟨by decide, by decide⟩, by decide⟩ rfl rfl rfl hk ⟨rfl, by decide⟩ (zafX (fun r9 h9 q9 => ?_)) (fun Ex h9 q9 _ => xh Ex h9 q9)
  obtain ⟨⟨v9, eA, rfl⟩, p9⟩ := q9
  obtain ⟨w, rfl⟩ := hV v9 eA
  obtain ⟨k1, k2⟩ := hob h9 p9
  show zV X _ _ h9 7 _ (.int w :: .int (nI 0) :: .ref ob :: [])
  refine zV.i2l C dL_shadeOf_7 ?_
  refine zV.last (j := 0) C dL_shadeOf_8 k1 rfl (by rw [k2]; decide) (by decide) ?_
  refine zV.goto (tgt := 15) C dL_shadeOf_9 (by decide) ?_
  refine zV.ic (v := nI 0) C dL_shadeOf_15 (by decide) ?_
  refine zV.iretW C F dL_shadeOf_16 rfl ?_
  exact ⟨by rw [eA], h9, p9, by rw [eA]; try rfl⟩
set_option maxHeartbeats 4000000 in
set_option maxRecDepth 100000 in
theorem s_LaddChair {l : Launch} {E : zG} (hzs : zS E) (hst : l.stackTraces = false) (h : zH) (a ob : Nat) (x : Int32) (y : Int32) (A : zAn) (P : zH → Prop) (hM : zMet l E yX9_addChair cX9_addChair 3 (some .int) ({ frames := 7, cells := 1, slots := 6, locals := 209 } : Room) 1 6 [.ref a, .int x, .int y] h (sQ9 h A P) (sX9 h A P)) (hk : hK h a = 13) (hob : ∀ h1, P h1 → hK h1 ob = 104 ∧ hL h1 ob = 1) (hV : ∀ v, A = .inr v → ∃ w, v = .int w) (hA : ∀ Ex, A = .inl Ex → Ex = IOB ∨ Ex = IAE ∨ Ex = UOE) : zMetW l E yL_addChair cL_addChair 5 (some .int) [(0, 10, 13, 13), (0, 10, 17, 15), (0, 10, 21, 17)] ({ frames := 8, cells := 1, slots := 6, locals := 231 } : Room) 1 6 [.ref a, .int x, .int y, .ref ob] h (lwQ A (fun Ex => if Ex = IOB then 1 else if Ex = IAE then 2 else 3) P ob) (fun _ _ => False) := by
  refine zMW_start hzs hst (by decide) (Nat.le_of_ble_eq_true rfl) (fun X C G F => ?_)
  show zV X 0 0 _ 0 [(0, .ref a), (1, .int x), (2, .int y), (3, .ref ob)] []
  have xh : ∀ Ex h9, sX9 h A P Ex h9 → zVX X (0 + 1) (0 + 6) h9 5 [(0, .ref a), (1, .int x), (2, .int y), (3, .ref ob)] [.int (nI 0), .ref ob] Ex := by
    intro Ex h9 ⟨eA, p9⟩
    rcases hA Ex eA with rfl | rfl | rfl
    · refine zVX.catch C F [] (0, 10, 13, 13) [(0, 10, 17, 15), (0, 10, 21, 17)] rfl (fun z hz => by cases hz) (by decide) (by decide) lk_L_13 ca_java_lang_IndexOutOfBoundsException_java_lang_IndexOutOfBoundsException (fun q => ?_)
      show zV X _ _ h9 13 _ _
      refine zV.astore (lo' := [(0, _), (1, _), (2, _), (3, _), (4, _)]) C dL_addChair_13 rfl (by decide) rfl rfl rfl ?_
      refine zV.ic (v := nI 1) C dL_addChair_15 (by decide) ?_
      refine zV.iretW C F dL_addChair_16 rfl ?_
      exact ⟨by rw [eA]; try rfl, h9, p9, by rw [eA]; try rfl⟩
    · refine zVX.catch C F [(0, 10, 13, 13)] (0, 10, 17, 15) [(0, 10, 21, 17)] rfl (fun z hz => by
        rcases List.mem_cons.mp hz with rfl | hz
        · exact ⟨by decide, _, lk_L_13, nc_IAE_IOB⟩
        cases hz) (by decide) (by decide) lk_L_15 ca_java_lang_IllegalArgumentException_java_lang_IllegalArgumentException (fun q => ?_)
      show zV X _ _ h9 17 _ _
      refine zV.astore (lo' := [(0, _), (1, _), (2, _), (3, _), (4, _)]) C dL_addChair_17 rfl (by decide) rfl rfl rfl ?_
      refine zV.ic (v := nI 2) C dL_addChair_19 (by decide) ?_
      refine zV.iretW C F dL_addChair_20 rfl ?_
      exact ⟨by rw [eA]; try rfl, h9, p9, by rw [eA]; try rfl⟩
    · refine zVX.catch C F [(0, 10, 13, 13), (0, 10, 17, 15)] (0, 10, 21, 17) [] rfl (fun z hz => by
        rcases List.mem_cons.mp hz with rfl | hz
        · exact ⟨by decide, _, lk_L_13, nc_UOE_IOB⟩
        rcases List.mem_cons.mp hz with rfl | hz
        · exact ⟨by decide, _, lk_L_15, nc_UOE_IAE⟩
        cases hz) (by decide) (by decide) lk_L_17 ca_java_lang_UnsupportedOperationException_java_lang_UnsupportedOperationException (fun q => ?_)
      show zV X _ _ h9 21 _ _
      refine zV.astore (lo' := [(0, _), (1, _), (2, _), (3, _), (4, _)]) C dL_addChair_21 rfl (by decide) rfl rfl rfl ?_
      refine zV.ic (v := nI 3) C dL_addChair_23 (by decide) ?_
      refine zV.iretW C F dL_addChair_24 rfl ?_
      exact ⟨by rw [eA]; try rfl, h9, p9, by rw [eA]; try rfl⟩
  refine zV.aload_n C dL_addChair_0 rfl rfl ?_
  refine zV.ic (v := nI 0) C dL_addChair_1 (by decide) ?_
  refine zV.aload_n C dL_addChair_2 rfl rfl ?_
  refine zV.iload_n C dL_addChair_3 rfl ?_
  refine zV.iload_n C dL_addChair_4 rfl ?_
  refine zV.callV (n := 2) C G dL_addChair_5 hM rfl ⟨cd_X9_addChair, lk_L_48, im_X9_addChair, se_X9_X9_addChair, in_X9⟩ ⟨⟨by decide, by decide⟩, by decide⟩ rfl rfl rfl hk ⟨rfl, by decide⟩ (zafX (fun r9 h9 q9 => ?_)) (fun Ex h9 q9 _ => xh Ex h9 q9)
  obtain ⟨⟨v9, eA, rfl⟩, p9⟩ := q9
  obtain ⟨w, rfl⟩ := hV v9 eA
  obtain ⟨k1, k2⟩ := hob h9 p9
  show zV X _ _ h9 8 _ (.int w :: .int (nI 0) :: .ref ob :: [])
  refine zV.i2l C dL_addChair_8 ?_
  refine zV.last (j := 0) C dL_addChair_9 k1 rfl (by rw [k2]; decide) (by decide) ?_
  refine zV.goto (tgt := 25) C dL_addChair_10 (by decide) ?_
  refine zV.ic (v := nI 0) C dL_addChair_25 (by decide) ?_
  refine zV.iretW C F dL_addChair_26 rfl ?_
  exact ⟨by rw [eA], h9, p9, by rw [eA]; try rfl⟩
set_option maxHeartbeats 4000000 in
set_option maxRecDepth 100000 in
theorem s_LscrapChair {l : Launch} {E : zG} (hzs : zS E) (hst : l.stackTraces = false) (h : zH) (a ob : Nat) (x : Int32) (A : zAn) (P : zH → Prop) (hM : zMet l E yX9_scrapChair cX9_scrapChair 2 (some .int) ({ frames := 7, cells := 1, slots := 6, locals := 209 } : Room) 1 6 [.ref a, .int x] h (sQ9 h A P) (sX9 h A P)) (hk : hK h a = 13) (hob : ∀ h1, P h1 → hK h1 ob = 104 ∧ hL h1 ob = 1) (hV : ∀ v, A = .inr v → ∃ w, v = .int w) (hA : ∀ Ex, A = .inl Ex → Ex = IOB) : zMetW l E yL_scrapChair cL_scrapChair 4 (some .int) [(0, 9, 12, 13)] ({ frames := 8, cells := 1, slots := 6, locals := 230 } : Room) 1 6 [.ref a, .int x, .ref ob] h (lwQ A (fun Ex => 1) P ob) (fun _ _ => False) := by
  refine zMW_start hzs hst (by decide) (Nat.le_of_ble_eq_true rfl) (fun X C G F => ?_)
  show zV X 0 0 _ 0 [(0, .ref a), (1, .int x), (2, .ref ob)] []
  have xh : ∀ Ex h9, sX9 h A P Ex h9 → zVX X (0 + 1) (0 + 6) h9 4 [(0, .ref a), (1, .int x), (2, .ref ob)] [.int (nI 0), .ref ob] Ex := by
    intro Ex h9 ⟨eA, p9⟩
    rcases hA Ex eA with rfl
    · refine zVX.catch C F [] (0, 9, 12, 13) [] rfl (fun z hz => by cases hz) (by decide) (by decide) lk_L_13 ca_java_lang_IndexOutOfBoundsException_java_lang_IndexOutOfBoundsException (fun q => ?_)
      show zV X _ _ h9 12 _ _
      refine zV.astore_n (lo' := [(0, _), (1, _), (2, _), (3, _)]) C dL_scrapChair_12 rfl (by decide) rfl rfl rfl ?_
      refine zV.ic (v := nI 1) C dL_scrapChair_13 (by decide) ?_
      refine zV.iretW C F dL_scrapChair_14 rfl ?_
      exact ⟨by rw [eA]; try rfl, h9, p9, by rw [eA]; try rfl⟩
  refine zV.aload_n C dL_scrapChair_0 rfl rfl ?_
  refine zV.ic (v := nI 0) C dL_scrapChair_1 (by decide) ?_
  refine zV.aload_n C dL_scrapChair_2 rfl rfl ?_
  refine zV.iload_n C dL_scrapChair_3 rfl ?_
  refine zV.callV (n := 1) C G dL_scrapChair_4 hM rfl ⟨cd_X9_scrapChair, lk_L_51, im_X9_scrapChair, se_X9_X9_scrapChair, in_X9⟩ ⟨⟨by decide, by decide⟩, by decide⟩ rfl rfl rfl hk ⟨rfl, by decide⟩ (zafX (fun r9 h9 q9 => ?_)) (fun Ex h9 q9 _ => xh Ex h9 q9)
  obtain ⟨⟨v9, eA, rfl⟩, p9⟩ := q9
  obtain ⟨w, rfl⟩ := hV v9 eA
  obtain ⟨k1, k2⟩ := hob h9 p9
  show zV X _ _ h9 7 _ (.int w :: .int (nI 0) :: .ref ob :: [])
  refine zV.i2l C dL_scrapChair_7 ?_
  refine zV.last (j := 0) C dL_scrapChair_8 k1 rfl (by rw [k2]; decide) (by decide) ?_
  refine zV.goto (tgt := 15) C dL_scrapChair_9 (by decide) ?_
  refine zV.ic (v := nI 0) C dL_scrapChair_15 (by decide) ?_
  refine zV.iretW C F dL_scrapChair_16 rfl ?_
  exact ⟨by rw [eA], h9, p9, by rw [eA]; try rfl⟩
set_option maxHeartbeats 4000000 in
set_option maxRecDepth 100000 in
theorem s_Lfold {l : Launch} {E : zG} (hzs : zS E) (hst : l.stackTraces = false) (h : zH) (a ob : Nat) (x : Int32) (A : zAn) (P : zH → Prop) (hM : zMet l E yX9_fold cX9_fold 2 (some .int) ({ frames := 7, cells := 1, slots := 6, locals := 209 } : Room) 1 6 [.ref a, .int x] h (sQ9 h A P) (sX9 h A P)) (hk : hK h a = 13) (hob : ∀ h1, P h1 → hK h1 ob = 104 ∧ hL h1 ob = 1) (hV : ∀ v, A = .inr v → ∃ w, v = .int w) (hA : ∀ Ex, A = .inl Ex → Ex = IOB ∨ Ex = UOE) : zMetW l E yL_fold cL_fold 4 (some .int) [(0, 9, 12, 13), (0, 9, 15, 17)] ({ frames := 8, cells := 1, slots := 6, locals := 230 } : Room) 1 6 [.ref a, .int x, .ref ob] h (lwQ A (fun Ex => if Ex = IOB then 1 else 2) P ob) (fun _ _ => False) := by
  refine zMW_start hzs hst (by decide) (Nat.le_of_ble_eq_true rfl) (fun X C G F => ?_)
  show zV X 0 0 _ 0 [(0, .ref a), (1, .int x), (2, .ref ob)] []
  have xh : ∀ Ex h9, sX9 h A P Ex h9 → zVX X (0 + 1) (0 + 6) h9 4 [(0, .ref a), (1, .int x), (2, .ref ob)] [.int (nI 0), .ref ob] Ex := by
    intro Ex h9 ⟨eA, p9⟩
    rcases hA Ex eA with rfl | rfl
    · refine zVX.catch C F [] (0, 9, 12, 13) [(0, 9, 15, 17)] rfl (fun z hz => by cases hz) (by decide) (by decide) lk_L_13 ca_java_lang_IndexOutOfBoundsException_java_lang_IndexOutOfBoundsException (fun q => ?_)
      show zV X _ _ h9 12 _ _
      refine zV.astore_n (lo' := [(0, _), (1, _), (2, _), (3, _)]) C dL_fold_12 rfl (by decide) rfl rfl rfl ?_
      refine zV.ic (v := nI 1) C dL_fold_13 (by decide) ?_
      refine zV.iretW C F dL_fold_14 rfl ?_
      exact ⟨by rw [eA]; try rfl, h9, p9, by rw [eA]; try rfl⟩
    · refine zVX.catch C F [(0, 9, 12, 13)] (0, 9, 15, 17) [] rfl (fun z hz => by
        rcases List.mem_cons.mp hz with rfl | hz
        · exact ⟨by decide, _, lk_L_13, nc_UOE_IOB⟩
        cases hz) (by decide) (by decide) lk_L_17 ca_java_lang_UnsupportedOperationException_java_lang_UnsupportedOperationException (fun q => ?_)
      show zV X _ _ h9 15 _ _
      refine zV.astore_n (lo' := [(0, _), (1, _), (2, _), (3, _)]) C dL_fold_15 rfl (by decide) rfl rfl rfl ?_
      refine zV.ic (v := nI 2) C dL_fold_16 (by decide) ?_
      refine zV.iretW C F dL_fold_17 rfl ?_
      exact ⟨by rw [eA]; try rfl, h9, p9, by rw [eA]; try rfl⟩
  refine zV.aload_n C dL_fold_0 rfl rfl ?_
  refine zV.ic (v := nI 0) C dL_fold_1 (by decide) ?_
  refine zV.aload_n C dL_fold_2 rfl rfl ?_
  refine zV.iload_n C dL_fold_3 rfl ?_
  refine zV.callV (n := 1) C G dL_fold_4 hM rfl ⟨cd_X9_fold, lk_L_54, im_X9_fold, se_X9_X9_fold, in_X9⟩ ⟨⟨by decide, by decide⟩, by decide⟩ rfl rfl rfl hk ⟨rfl, by decide⟩ (zafX (fun r9 h9 q9 => ?_)) (fun Ex h9 q9 _ => xh Ex h9 q9)
  obtain ⟨⟨v9, eA, rfl⟩, p9⟩ := q9
  obtain ⟨w, rfl⟩ := hV v9 eA
  obtain ⟨k1, k2⟩ := hob h9 p9
  show zV X _ _ h9 7 _ (.int w :: .int (nI 0) :: .ref ob :: [])
  refine zV.i2l C dL_fold_7 ?_
  refine zV.last (j := 0) C dL_fold_8 k1 rfl (by rw [k2]; decide) (by decide) ?_
  refine zV.goto (tgt := 18) C dL_fold_9 (by decide) ?_
  refine zV.ic (v := nI 0) C dL_fold_18 (by decide) ?_
  refine zV.iretW C F dL_fold_19 rfl ?_
  exact ⟨by rw [eA], h9, p9, by rw [eA]; try rfl⟩
set_option maxHeartbeats 4000000 in
set_option maxRecDepth 100000 in
theorem s_Lunfold {l : Launch} {E : zG} (hzs : zS E) (hst : l.stackTraces = false) (h : zH) (a ob : Nat) (x : Int32) (A : zAn) (P : zH → Prop) (hM : zMet l E yX9_unfold cX9_unfold 2 (some .int) ({ frames := 7, cells := 1, slots := 6, locals := 209 } : Room) 1 6 [.ref a, .int x] h (sQ9 h A P) (sX9 h A P)) (hk : hK h a = 13) (hob : ∀ h1, P h1 → hK h1 ob = 104 ∧ hL h1 ob = 1) (hV : ∀ v, A = .inr v → ∃ w, v = .int w) (hA : ∀ Ex, A = .inl Ex → Ex = IOB ∨ Ex = UOE) : zMetW l E yL_unfold cL_unfold 4 (some .int) [(0, 9, 12, 13), (0, 9, 15, 17)] ({ frames := 8, cells := 1, slots := 6, locals := 230 } : Room) 1 6 [.ref a, .int x, .ref ob] h (lwQ A (fun Ex => if Ex = IOB then 1 else 2) P ob) (fun _ _ => False) := by
  refine zMW_start hzs hst (by decide) (Nat.le_of_ble_eq_true rfl) (fun X C G F => ?_)
  show zV X 0 0 _ 0 [(0, .ref a), (1, .int x), (2, .ref ob)] []
  have xh : ∀ Ex h9, sX9 h A P Ex h9 → zVX X (0 + 1) (0 + 6) h9 4 [(0, .ref a), (1, .int x), (2, .ref ob)] [.int (nI 0), .ref ob] Ex := by
    intro Ex h9 ⟨eA, p9⟩
    rcases hA Ex eA with rfl | rfl
    · refine zVX.catch C F [] (0, 9, 12, 13) [(0, 9, 15, 17)] rfl (fun z hz => by cases hz) (by decide) (by decide) lk_L_13 ca_java_lang_IndexOutOfBoundsException_java_lang_IndexOutOfBoundsException (fun q => ?_)
      show zV X _ _ h9 12 _ _
      refine zV.astore_n (lo' := [(0, _), (1, _), (2, _), (3, _)]) C dL_unfold_12 rfl (by decide) rfl rfl rfl ?_
      refine zV.ic (v := nI 1) C dL_unfold_13 (by decide) ?_
      refine zV.iretW C F dL_unfold_14 rfl ?_
      exact ⟨by rw [eA]; try rfl, h9, p9, by rw [eA]; try rfl⟩
    · refine zVX.catch C F [(0, 9, 12, 13)] (0, 9, 15, 17) [] rfl (fun z hz => by
        rcases List.mem_cons.mp hz with rfl | hz
        · exact ⟨by decide, _, lk_L_13, nc_UOE_IOB⟩
        cases hz) (by decide) (by decide) lk_L_17 ca_java_lang_UnsupportedOperationException_java_lang_UnsupportedOperationException (fun q => ?_)
      show zV X _ _ h9 15 _ _
      refine zV.astore_n (lo' := [(0, _), (1, _), (2, _), (3, _)]) C dL_unfold_15 rfl (by decide) rfl rfl rfl ?_
      refine zV.ic (v := nI 2) C dL_unfold_16 (by decide) ?_
      refine zV.iretW C F dL_unfold_17 rfl ?_
      exact ⟨by rw [eA]; try rfl, h9, p9, by rw [eA]; try rfl⟩
  refine zV.aload_n C dL_unfold_0 rfl rfl ?_
  refine zV.ic (v := nI 0) C dL_unfold_1 (by decide) ?_
  refine zV.aload_n C dL_unfold_2 rfl rfl ?_
  refine zV.iload_n C dL_unfold_3 rfl ?_
  refine zV.callV (n := 1) C G dL_unfold_4 hM rfl ⟨cd_X9_unfold, lk_L_57, im_X9_unfold, se_X9_X9_unfold, in_X9⟩ ⟨⟨by decide, by decide⟩, by decide⟩ rfl rfl rfl hk ⟨rfl, by decide⟩ (zafX (fun r9 h9 q9 => ?_)) (fun Ex h9 q9 _ => xh Ex h9 q9)
  obtain ⟨⟨v9, eA, rfl⟩, p9⟩ := q9
  obtain ⟨w, rfl⟩ := hV v9 eA
  obtain ⟨k1, k2⟩ := hob h9 p9
  show zV X _ _ h9 7 _ (.int w :: .int (nI 0) :: .ref ob :: [])
  refine zV.i2l C dL_unfold_7 ?_
  refine zV.last (j := 0) C dL_unfold_8 k1 rfl (by rw [k2]; decide) (by decide) ?_
  refine zV.goto (tgt := 18) C dL_unfold_9 (by decide) ?_
  refine zV.ic (v := nI 0) C dL_unfold_18 (by decide) ?_
  refine zV.iretW C F dL_unfold_19 rfl ?_
  exact ⟨by rw [eA], h9, p9, by rw [eA]; try rfl⟩
set_option maxHeartbeats 4000000 in
set_option maxRecDepth 100000 in
theorem s_LmoveChair {l : Launch} {E : zG} (hzs : zS E) (hst : l.stackTraces = false) (h : zH) (a ob : Nat) (x : Int32) (y : Int32) (A : zAn) (P : zH → Prop) (hM : zMet l E yX9_moveChair cX9_moveChair 3 (some .int) ({ frames := 7, cells := 1, slots := 6, locals := 209 } : Room) 1 6 [.ref a, .int x, .int y] h (sQ9 h A P) (sX9 h A P)) (hk : hK h a = 13) (hob : ∀ h1, P h1 → hK h1 ob = 104 ∧ hL h1 ob = 1) (hV : ∀ v, A = .inr v → ∃ w, v = .int w) (hA : ∀ Ex, A = .inl Ex → Ex = IOB ∨ Ex = UOE) : zMetW l E yL_moveChair cL_moveChair 5 (some .int) [(0, 10, 13, 13), (0, 10, 17, 17)] ({ frames := 8, cells := 1, slots := 6, locals := 231 } : Room) 1 6 [.ref a, .int x, .int y, .ref ob] h (lwQ A (fun Ex => if Ex = IOB then 1 else 2) P ob) (fun _ _ => False) := by
  refine zMW_start hzs hst (by decide) (Nat.le_of_ble_eq_true rfl) (fun X C G F => ?_)
  show zV X 0 0 _ 0 [(0, .ref a), (1, .int x), (2, .int y), (3, .ref ob)] []
  have xh : ∀ Ex h9, sX9 h A P Ex h9 → zVX X (0 + 1) (0 + 6) h9 5 [(0, .ref a), (1, .int x), (2, .int y), (3, .ref ob)] [.int (nI 0), .ref ob] Ex := by
    intro Ex h9 ⟨eA, p9⟩
    rcases hA Ex eA with rfl | rfl
    · refine zVX.catch C F [] (0, 10, 13, 13) [(0, 10, 17, 17)] rfl (fun z hz => by cases hz) (by decide) (by decide) lk_L_13 ca_java_lang_IndexOutOfBoundsException_java_lang_IndexOutOfBoundsException (fun q => ?_)
      show zV X _ _ h9 13 _ _
      refine zV.astore (lo' := [(0, _), (1, _), (2, _), (3, _), (4, _)]) C dL_moveChair_13 rfl (by decide) rfl rfl rfl ?_
      refine zV.ic (v := nI 1) C dL_moveChair_15 (by decide) ?_
      refine zV.iretW C F dL_moveChair_16 rfl ?_
      exact ⟨by rw [eA]; try rfl, h9, p9, by rw [eA]; try rfl⟩
    · refine zVX.catch C F [(0, 10, 13, 13)] (0, 10, 17, 17) [] rfl (fun z hz => by
        rcases List.mem_cons.mp hz with rfl | hz
        · exact ⟨by decide, _, lk_L_13, nc_UOE_IOB⟩
        cases hz) (by decide) (by decide) lk_L_17 ca_java_lang_UnsupportedOperationException_java_lang_UnsupportedOperationException (fun q => ?_)
      show zV X _ _ h9 17 _ _
      refine zV.astore (lo' := [(0, _), (1, _), (2, _), (3, _), (4, _)]) C dL_moveChair_17 rfl (by decide) rfl rfl rfl ?_
      refine zV.ic (v := nI 2) C dL_moveChair_19 (by decide) ?_
      refine zV.iretW C F dL_moveChair_20 rfl ?_
      exact ⟨by rw [eA]; try rfl, h9, p9, by rw [eA]; try rfl⟩
  refine zV.aload_n C dL_moveChair_0 rfl rfl ?_
  refine zV.ic (v := nI 0) C dL_moveChair_1 (by decide) ?_
  refine zV.aload_n C dL_moveChair_2 rfl rfl ?_
  refine zV.iload_n C dL_moveChair_3 rfl ?_
  refine zV.iload_n C dL_moveChair_4 rfl ?_
  refine zV.callV (n := 2) C G dL_moveChair_5 hM rfl ⟨cd_X9_moveChair, lk_L_60, im_X9_moveChair, se_X9_X9_moveChair, in_X9⟩ ⟨⟨by decide, by decide⟩, by decide⟩ rfl rfl rfl hk ⟨rfl, by decide⟩ (zafX (fun r9 h9 q9 => ?_)) (fun Ex h9 q9 _ => xh Ex h9 q9)
  obtain ⟨⟨v9, eA, rfl⟩, p9⟩ := q9
  obtain ⟨w, rfl⟩ := hV v9 eA
  obtain ⟨k1, k2⟩ := hob h9 p9
  show zV X _ _ h9 8 _ (.int w :: .int (nI 0) :: .ref ob :: [])
  refine zV.i2l C dL_moveChair_8 ?_
  refine zV.last (j := 0) C dL_moveChair_9 k1 rfl (by rw [k2]; decide) (by decide) ?_
  refine zV.goto (tgt := 21) C dL_moveChair_10 (by decide) ?_
  refine zV.ic (v := nI 0) C dL_moveChair_21 (by decide) ?_
  refine zV.iretW C F dL_moveChair_22 rfl ?_
  exact ⟨by rw [eA], h9, p9, by rw [eA]; try rfl⟩
set_option maxHeartbeats 4000000 in
set_option maxRecDepth 100000 in
theorem s_Lmigrate {l : Launch} {E : zG} (hzs : zS E) (hst : l.stackTraces = false) (h : zH) (a ob : Nat) (x : Int32) (y : Int32) (A : zAn) (P : zH → Prop) (hM : zMet l E yX9_migrate cX9_migrate 3 (some .int) ({ frames := 7, cells := 1, slots := 6, locals := 209 } : Room) 1 6 [.ref a, .int x, .int y] h (sQ9 h A P) (sX9 h A P)) (hk : hK h a = 13) (hob : ∀ h1, P h1 → hK h1 ob = 104 ∧ hL h1 ob = 1) (hV : ∀ v, A = .inr v → ∃ w, v = .int w) (hA : ∀ Ex, A = .inl Ex → Ex = IOB ∨ Ex = UOE) : zMetW l E yL_migrate cL_migrate 5 (some .int) [(0, 10, 13, 13), (0, 10, 17, 17)] ({ frames := 8, cells := 1, slots := 6, locals := 231 } : Room) 1 6 [.ref a, .int x, .int y, .ref ob] h (lwQ A (fun Ex => if Ex = IOB then 1 else 2) P ob) (fun _ _ => False) := by
  refine zMW_start hzs hst (by decide) (Nat.le_of_ble_eq_true rfl) (fun X C G F => ?_)
  show zV X 0 0 _ 0 [(0, .ref a), (1, .int x), (2, .int y), (3, .ref ob)] []
  have xh : ∀ Ex h9, sX9 h A P Ex h9 → zVX X (0 + 1) (0 + 6) h9 5 [(0, .ref a), (1, .int x), (2, .int y), (3, .ref ob)] [.int (nI 0), .ref ob] Ex := by
    intro Ex h9 ⟨eA, p9⟩
    rcases hA Ex eA with rfl | rfl
    · refine zVX.catch C F [] (0, 10, 13, 13) [(0, 10, 17, 17)] rfl (fun z hz => by cases hz) (by decide) (by decide) lk_L_13 ca_java_lang_IndexOutOfBoundsException_java_lang_IndexOutOfBoundsException (fun q => ?_)
      show zV X _ _ h9 13 _ _
      refine zV.astore (lo' := [(0, _), (1, _), (2, _), (3, _), (4, _)]) C dL_migrate_13 rfl (by decide) rfl rfl rfl ?_
      refine zV.ic (v := nI 1) C dL_migrate_15 (by decide) ?_
      refine zV.iretW C F dL_migrate_16 rfl ?_
      exact ⟨by rw [eA]; try rfl, h9, p9, by rw [eA]; try rfl⟩
    · refine zVX.catch C F [(0, 10, 13, 13)] (0, 10, 17, 17) [] rfl (fun z hz => by
        rcases List.mem_cons.mp hz with rfl | hz
        · exact ⟨by decide, _, lk_L_13, nc_UOE_IOB⟩
        cases hz) (by decide) (by decide) lk_L_17 ca_java_lang_UnsupportedOperationException_java_lang_UnsupportedOperationException (fun q => ?_)
      show zV X _ _ h9 17 _ _
      refine zV.astore (lo' := [(0, _), (1, _), (2, _), (3, _), (4, _)]) C dL_migrate_17 rfl (by decide) rfl rfl rfl ?_
      refine zV.ic (v := nI 2) C dL_migrate_19 (by decide) ?_
      refine zV.iretW C F dL_migrate_20 rfl ?_
      exact ⟨by rw [eA]; try rfl, h9, p9, by rw [eA]; try rfl⟩
  refine zV.aload_n C dL_migrate_0 rfl rfl ?_
  refine zV.ic (v := nI 0) C dL_migrate_1 (by decide) ?_
  refine zV.aload_n C dL_migrate_2 rfl rfl ?_
  refine zV.iload_n C dL_migrate_3 rfl ?_
  refine zV.iload_n C dL_migrate_4 rfl ?_
  refine zV.callV (n := 2) C G dL_migrate_5 hM rfl ⟨cd_X9_migrate, lk_L_63, im_X9_migrate, se_X9_X9_migrate, in_X9⟩ ⟨⟨by decide, by decide⟩, by decide⟩ rfl rfl rfl hk ⟨rfl, by decide⟩ (zafX (fun r9 h9 q9 => ?_)) (fun Ex h9 q9 _ => xh Ex h9 q9)
  obtain ⟨⟨v9, eA, rfl⟩, p9⟩ := q9
  obtain ⟨w, rfl⟩ := hV v9 eA
  obtain ⟨k1, k2⟩ := hob h9 p9
  show zV X _ _ h9 8 _ (.int w :: .int (nI 0) :: .ref ob :: [])
  refine zV.i2l C dL_migrate_8 ?_
  refine zV.last (j := 0) C dL_migrate_9 k1 rfl (by rw [k2]; decide) (by decide) ?_
  refine zV.goto (tgt := 21) C dL_migrate_10 (by decide) ?_
  refine zV.ic (v := nI 0) C dL_migrate_21 (by decide) ?_
  refine zV.iretW C F dL_migrate_22 rfl ?_
  exact ⟨by rw [eA], h9, p9, by rw [eA]; try rfl⟩
set_option maxHeartbeats 4000000 in
set_option maxRecDepth 100000 in
theorem s_LoilChair {l : Launch} {E : zG} (hzs : zS E) (hst : l.stackTraces = false) (h : zH) (a ob : Nat) (x : Int32) (A : zAn) (P : zH → Prop) (hM : zMet l E yX9_oilChair cX9_oilChair 2 (some .int) ({ frames := 7, cells := 1, slots := 6, locals := 209 } : Room) 1 6 [.ref a, .int x] h (sQ9 h A P) (sX9 h A P)) (hk : hK h a = 13) (hob : ∀ h1, P h1 → hK h1 ob = 104 ∧ hL h1 ob = 1) (hV : ∀ v, A = .inr v → ∃ w, v = .int w) (hA : ∀ Ex, A = .inl Ex → Ex = IOB ∨ Ex = UOE) : zMetW l E yL_oilChair cL_oilChair 4 (some .int) [(0, 9, 12, 13), (0, 9, 15, 17)] ({ frames := 8, cells := 1, slots := 6, locals := 230 } : Room) 1 6 [.ref a, .int x, .ref ob] h (lwQ A (fun Ex => if Ex = IOB then 1 else 2) P ob) (fun _ _ => False) := by
  refine zMW_start hzs hst (by decide) (Nat.le_of_ble_eq_true rfl) (fun X C G F => ?_)
  show zV X 0 0 _ 0 [(0, .ref a), (1, .int x), (2, .ref ob)] []
  have xh : ∀ Ex h9, sX9 h A P Ex h9 → zVX X (0 + 1) (0 + 6) h9 4 [(0, .ref a), (1, .int x), (2, .ref ob)] [.int (nI 0), .ref ob] Ex := by
    intro Ex h9 ⟨eA, p9⟩
    rcases hA Ex eA with rfl | rfl
    · refine zVX.catch C F [] (0, 9, 12, 13) [(0, 9, 15, 17)] rfl (fun z hz => by cases hz) (by decide) (by decide) lk_L_13 ca_java_lang_IndexOutOfBoundsException_java_lang_IndexOutOfBoundsException (fun q => ?_)
      show zV X _ _ h9 12 _ _
      refine zV.astore_n (lo' := [(0, _), (1, _), (2, _), (3, _)]) C dL_oilChair_12 rfl (by decide) rfl rfl rfl ?_
      refine zV.ic (v := nI 1) C dL_oilChair_13 (by decide) ?_
      refine zV.iretW C F dL_oilChair_14 rfl ?_
      exact ⟨by rw [eA]; try rfl, h9, p9, by rw [eA]; try rfl⟩
    · refine zVX.catch C F [(0, 9, 12, 13)] (0, 9, 15, 17) [] rfl (fun z hz => by
        rcases List.mem_cons.mp hz with rfl | hz
        · exact ⟨by decide, _, lk_L_13, nc_UOE_IOB⟩
        cases hz) (by decide) (by decide) lk_L_17 ca_java_lang_UnsupportedOperationException_java_lang_UnsupportedOperationException (fun q => ?_)
      show zV X _ _ h9 15 _ _
      refine zV.astore_n (lo' := [(0, _), (1, _), (2, _), (3, _)]) C dL_oilChair_15 rfl (by decide) rfl rfl rfl ?_
      refine zV.ic (v := nI 2) C dL_oilChair_16 (by decide) ?_
      refine zV.iretW C F dL_oilChair_17 rfl ?_
      exact ⟨by rw [eA]; try rfl, h9, p9, by rw [eA]; try rfl⟩
  refine zV.aload_n C dL_oilChair_0 rfl rfl ?_
  refine zV.ic (v := nI 0) C dL_oilChair_1 (by decide) ?_
  refine zV.aload_n C dL_oilChair_2 rfl rfl ?_
  refine zV.iload_n C dL_oilChair_3 rfl ?_
  refine zV.callV (n := 1) C G dL_oilChair_4 hM rfl ⟨cd_X9_oilChair, lk_L_66, im_X9_oilChair, se_X9_X9_oilChair, in_X9⟩ ⟨⟨by decide, by decide⟩, by decide⟩ rfl rfl rfl hk ⟨rfl, by decide⟩ (zafX (fun r9 h9 q9 => ?_)) (fun Ex h9 q9 _ => xh Ex h9 q9)
  obtain ⟨⟨v9, eA, rfl⟩, p9⟩ := q9
  obtain ⟨w, rfl⟩ := hV v9 eA
  obtain ⟨k1, k2⟩ := hob h9 p9
  show zV X _ _ h9 7 _ (.int w :: .int (nI 0) :: .ref ob :: [])
  refine zV.i2l C dL_oilChair_7 ?_
  refine zV.last (j := 0) C dL_oilChair_8 k1 rfl (by rw [k2]; decide) (by decide) ?_
  refine zV.goto (tgt := 18) C dL_oilChair_9 (by decide) ?_
  refine zV.ic (v := nI 0) C dL_oilChair_18 (by decide) ?_
  refine zV.iretW C F dL_oilChair_19 rfl ?_
  exact ⟨by rw [eA], h9, p9, by rw [eA]; try rfl⟩
set_option maxHeartbeats 4000000 in
set_option maxRecDepth 100000 in
theorem s_LaddOil {l : Launch} {E : zG} (hzs : zS E) (hst : l.stackTraces = false) (h : zH) (a ob : Nat) (x : Int32) (A : zAn) (P : zH → Prop) (hM : zMet l E yX9_addOil cX9_addOil 2 (some .int) ({ frames := 7, cells := 1, slots := 6, locals := 209 } : Room) 1 6 [.ref a, .int x] h (sQ9 h A P) (sX9 h A P)) (hk : hK h a = 13) (hob : ∀ h1, P h1 → hK h1 ob = 104 ∧ hL h1 ob = 1) (hV : ∀ v, A = .inr v → ∃ w, v = .int w) (hA : ∀ Ex, A = .inl Ex → Ex = IAE ∨ Ex = UOE) : zMetW l E yL_addOil cL_addOil 4 (some .int) [(0, 9, 12, 15), (0, 9, 15, 17)] ({ frames := 8, cells := 1, slots := 6, locals := 230 } : Room) 1 6 [.ref a, .int x, .ref ob] h (lwQ A (fun Ex => if Ex = IAE then 1 else 2) P ob) (fun _ _ => False) := by
  refine zMW_start hzs hst (by decide) (Nat.le_of_ble_eq_true rfl) (fun X C G F => ?_)
  show zV X 0 0 _ 0 [(0, .ref a), (1, .int x), (2, .ref ob)] []
  have xh : ∀ Ex h9, sX9 h A P Ex h9 → zVX X (0 + 1) (0 + 6) h9 4 [(0, .ref a), (1, .int x), (2, .ref ob)] [.int (nI 0), .ref ob] Ex := by
    intro Ex h9 ⟨eA, p9⟩
    rcases hA Ex eA with rfl | rfl
    · refine zVX.catch C F [] (0, 9, 12, 15) [(0, 9, 15, 17)] rfl (fun z hz => by cases hz) (by decide) (by decide) lk_L_15 ca_java_lang_IllegalArgumentException_java_lang_IllegalArgumentException (fun q => ?_)
      show zV X _ _ h9 12 _ _
      refine zV.astore_n (lo' := [(0, _), (1, _), (2, _), (3, _)]) C dL_addOil_12 rfl (by decide) rfl rfl rfl ?_
      refine zV.ic (v := nI 1) C dL_addOil_13 (by decide) ?_
      refine zV.iretW C F dL_addOil_14 rfl ?_
      exact ⟨by rw [eA]; try rfl, h9, p9, by rw [eA]; try rfl⟩
    · refine zVX.catch C F [(0, 9, 12, 15)] (0, 9, 15, 17) [] rfl (fun z hz => by
        rcases List.mem_cons.mp hz with rfl | hz
        · exact ⟨by decide, _, lk_L_15, nc_UOE_IAE⟩
        cases hz) (by decide) (by decide) lk_L_17 ca_java_lang_UnsupportedOperationException_java_lang_UnsupportedOperationException (fun q => ?_)
      show zV X _ _ h9 15 _ _
      refine zV.astore_n (lo' := [(0, _), (1, _), (2, _), (3, _)]) C dL_addOil_15 rfl (by decide) rfl rfl rfl ?_
      refine zV.ic (v := nI 2) C dL_addOil_16 (by decide) ?_
      refine zV.iretW C F dL_addOil_17 rfl ?_
      exact ⟨by rw [eA]; try rfl, h9, p9, by rw [eA]; try rfl⟩
  refine zV.aload_n C dL_addOil_0 rfl rfl ?_
  refine zV.ic (v := nI 0) C dL_addOil_1 (by decide) ?_
  refine zV.aload_n C dL_addOil_2 rfl rfl ?_
  refine zV.iload_n C dL_addOil_3 rfl ?_
  refine zV.callV (n := 1) C G dL_addOil_4 hM rfl ⟨cd_X9_addOil, lk_L_69, im_X9_addOil, se_X9_X9_addOil, in_X9⟩ ⟨⟨by decide, by decide⟩, by decide⟩ rfl rfl rfl hk ⟨rfl, by decide⟩ (zafX (fun r9 h9 q9 => ?_)) (fun Ex h9 q9 _ => xh Ex h9 q9)
  obtain ⟨⟨v9, eA, rfl⟩, p9⟩ := q9
  obtain ⟨w, rfl⟩ := hV v9 eA
  obtain ⟨k1, k2⟩ := hob h9 p9
  show zV X _ _ h9 7 _ (.int w :: .int (nI 0) :: .ref ob :: [])
  refine zV.i2l C dL_addOil_7 ?_
  refine zV.last (j := 0) C dL_addOil_8 k1 rfl (by rw [k2]; decide) (by decide) ?_
  refine zV.goto (tgt := 18) C dL_addOil_9 (by decide) ?_
  refine zV.ic (v := nI 0) C dL_addOil_18 (by decide) ?_
  refine zV.iretW C F dL_addOil_19 rfl ?_
  exact ⟨by rw [eA], h9, p9, by rw [eA]; try rfl⟩
set_option maxHeartbeats 4000000 in
set_option maxRecDepth 100000 in
theorem s_LlawnOf {l : Launch} {E : zG} (hzs : zS E) (hst : l.stackTraces = false) (h : zH) (a ob : Nat) (x : Int32) (A : zAn) (P : zH → Prop) (hM : zMet l E yX9_lawnOf cX9_lawnOf 2 (some .int) ({ frames := 7, cells := 1, slots := 6, locals := 117 } : Room) 1 6 [.ref a, .int x] h (sQ9 h A P) (sX9 h A P)) (hk : hK h a = 13) (hob : ∀ h1, P h1 → hK h1 ob = 104 ∧ hL h1 ob = 1) (hV : ∀ v, A = .inr v → ∃ w, v = .int w) (hA : ∀ Ex, A = .inl Ex → Ex = IOB) : zMetW l E yL_lawnOf cL_lawnOf 4 (some .int) [(0, 9, 12, 13)] ({ frames := 8, cells := 1, slots := 6, locals := 138 } : Room) 1 6 [.ref a, .int x, .ref ob] h (lwQ A (fun Ex => 1) P ob) (fun _ _ => False) := by
  refine zMW_start hzs hst (by decide) (Nat.le_of_ble_eq_true rfl) (fun X C G F => ?_)
  show zV X 0 0 _ 0 [(0, .ref a), (1, .int x), (2, .ref ob)] []
  have xh : ∀ Ex h9, sX9 h A P Ex h9 → zVX X (0 + 1) (0 + 6) h9 4 [(0, .ref a), (1, .int x), (2, .ref ob)] [.int (nI 0), .ref ob] Ex := by
    intro Ex h9 ⟨eA, p9⟩
    rcases hA Ex eA with rfl
    · refine zVX.catch C F [] (0, 9, 12, 13) [] rfl (fun z hz => by cases hz) (by decide) (by decide) lk_L_13 ca_java_lang_IndexOutOfBoundsException_java_lang_IndexOutOfBoundsException (fun q => ?_)
      show zV X _ _ h9 12 _ _
      refine zV.astore_n (lo' := [(0, _), (1, _), (2, _), (3, _)]) C dL_lawnOf_12 rfl (by decide) rfl rfl rfl ?_
      refine zV.ic (v := nI 1) C dL_lawnOf_13 (by decide) ?_
      refine zV.iretW C F dL_lawnOf_14 rfl ?_
      exact ⟨by rw [eA]; try rfl, h9, p9, by rw [eA]; try rfl⟩
  refine zV.aload_n C dL_lawnOf_0 rfl rfl ?_
  refine zV.ic (v := nI 0) C dL_lawnOf_1 (by decide) ?_
  refine zV.aload_n C dL_lawnOf_2 rfl rfl ?_
  refine zV.iload_n C dL_lawnOf_3 rfl ?_
  refine zV.callV (n := 1) C G dL_lawnOf_4 hM rfl ⟨cd_X9_lawnOf, lk_L_72, im_X9_lawnOf, se_X9_X9_lawnOf, in_X9⟩ ⟨⟨by decide, by decide⟩, by decide⟩ rfl rfl rfl hk ⟨rfl, by decide⟩ (zafX (fun r9 h9 q9 => ?_)) (fun Ex h9 q9 _ => xh Ex h9 q9)
  obtain ⟨⟨v9, eA, rfl⟩, p9⟩ := q9
  obtain ⟨w, rfl⟩ := hV v9 eA
  obtain ⟨k1, k2⟩ := hob h9 p9
  show zV X _ _ h9 7 _ (.int w :: .int (nI 0) :: .ref ob :: [])
  refine zV.i2l C dL_lawnOf_7 ?_
  refine zV.last (j := 0) C dL_lawnOf_8 k1 rfl (by rw [k2]; decide) (by decide) ?_
  refine zV.goto (tgt := 15) C dL_lawnOf_9 (by decide) ?_
  refine zV.ic (v := nI 0) C dL_lawnOf_15 (by decide) ?_
  refine zV.iretW C F dL_lawnOf_16 rfl ?_
  exact ⟨by rw [eA], h9, p9, by rw [eA]; try rfl⟩
set_option maxHeartbeats 4000000 in
set_option maxRecDepth 100000 in
theorem s_LrustOf {l : Launch} {E : zG} (hzs : zS E) (hst : l.stackTraces = false) (h : zH) (a ob : Nat) (x : Int32) (A : zAn) (P : zH → Prop) (hM : zMet l E yX9_rustOf cX9_rustOf 2 (some .int) ({ frames := 7, cells := 1, slots := 6, locals := 117 } : Room) 1 6 [.ref a, .int x] h (sQ9 h A P) (sX9 h A P)) (hk : hK h a = 13) (hob : ∀ h1, P h1 → hK h1 ob = 104 ∧ hL h1 ob = 1) (hV : ∀ v, A = .inr v → ∃ w, v = .int w) (hA : ∀ Ex, A = .inl Ex → Ex = IOB) : zMetW l E yL_rustOf cL_rustOf 4 (some .int) [(0, 9, 12, 13)] ({ frames := 8, cells := 1, slots := 6, locals := 138 } : Room) 1 6 [.ref a, .int x, .ref ob] h (lwQ A (fun Ex => 1) P ob) (fun _ _ => False) := by
  refine zMW_start hzs hst (by decide) (Nat.le_of_ble_eq_true rfl) (fun X C G F => ?_)
  show zV X 0 0 _ 0 [(0, .ref a), (1, .int x), (2, .ref ob)] []
  have xh : ∀ Ex h9, sX9 h A P Ex h9 → zVX X (0 + 1) (0 + 6) h9 4 [(0, .ref a), (1, .int x), (2, .ref ob)] [.int (nI 0), .ref ob] Ex := by
    intro Ex h9 ⟨eA, p9⟩
    rcases hA Ex eA with rfl
    · refine zVX.catch C F [] (0, 9, 12, 13) [] rfl (fun z hz => by cases hz) (by decide) (by decide) lk_L_13 ca_java_lang_IndexOutOfBoundsException_java_lang_IndexOutOfBoundsException (fun q => ?_)
      show zV X _ _ h9 12 _ _
      refine zV.astore_n (lo' := [(0, _), (1, _), (2, _), (3, _)]) C dL_rustOf_12 rfl (by decide) rfl rfl rfl ?_
      refine zV.ic (v := nI 1) C dL_rustOf_13 (by decide) ?_
      refine zV.iretW C F dL_rustOf_14 rfl ?_
      exact ⟨by rw [eA]; try rfl, h9, p9, by rw [eA]; try rfl⟩
  refine zV.aload_n C dL_rustOf_0 rfl rfl ?_
  refine zV.ic (v := nI 0) C dL_rustOf_1 (by decide) ?_
  refine zV.aload_n C dL_rustOf_2 rfl rfl ?_
  refine zV.iload_n C dL_rustOf_3 rfl ?_
  refine zV.callV (n := 1) C G dL_rustOf_4 hM rfl ⟨cd_X9_rustOf, lk_L_75, im_X9_rustOf, se_X9_X9_rustOf, in_X9⟩ ⟨⟨by decide, by decide⟩, by decide⟩ rfl rfl rfl hk ⟨rfl, by decide⟩ (zafX (fun r9 h9 q9 => ?_)) (fun Ex h9 q9 _ => xh Ex h9 q9)
  obtain ⟨⟨v9, eA, rfl⟩, p9⟩ := q9
  obtain ⟨w, rfl⟩ := hV v9 eA
  obtain ⟨k1, k2⟩ := hob h9 p9
  show zV X _ _ h9 7 _ (.int w :: .int (nI 0) :: .ref ob :: [])
  refine zV.i2l C dL_rustOf_7 ?_
  refine zV.last (j := 0) C dL_rustOf_8 k1 rfl (by rw [k2]; decide) (by decide) ?_
  refine zV.goto (tgt := 15) C dL_rustOf_9 (by decide) ?_
  refine zV.ic (v := nI 0) C dL_rustOf_15 (by decide) ?_
  refine zV.iretW C F dL_rustOf_16 rfl ?_
  exact ⟨by rw [eA], h9, p9, by rw [eA]; try rfl⟩
set_option maxHeartbeats 4000000 in
set_option maxRecDepth 100000 in
theorem s_LageOf {l : Launch} {E : zG} (hzs : zS E) (hst : l.stackTraces = false) (h : zH) (a ob : Nat) (x : Int32) (A : zAn) (P : zH → Prop) (hM : zMet l E yX9_ageOf cX9_ageOf 2 (some .int) ({ frames := 7, cells := 1, slots := 6, locals := 117 } : Room) 1 6 [.ref a, .int x] h (sQ9 h A P) (sX9 h A P)) (hk : hK h a = 13) (hob : ∀ h1, P h1 → hK h1 ob = 104 ∧ hL h1 ob = 1) (hV : ∀ v, A = .inr v → ∃ w, v = .int w) (hA : ∀ Ex, A = .inl Ex → Ex = IOB) : zMetW l E yL_ageOf cL_ageOf 4 (some .int) [(0, 9, 12, 13)] ({ frames := 8, cells := 1, slots := 6, locals := 138 } : Room) 1 6 [.ref a, .int x, .ref ob] h (lwQ A (fun Ex => 1) P ob) (fun _ _ => False) := by
  refine zMW_start hzs hst (by decide) (Nat.le_of_ble_eq_true rfl) (fun X C G F => ?_)
  show zV X 0 0 _ 0 [(0, .ref a), (1, .int x), (2, .ref ob)] []
  have xh : ∀ Ex h9, sX9 h A P Ex h9 → zVX X (0 + 1) (0 + 6) h9 4 [(0, .ref a), (1, .int x), (2, .ref ob)] [.int (nI 0), .ref ob] Ex := by
    intro Ex h9 ⟨eA, p9⟩
    rcases hA Ex eA with rfl
    · refine zVX.catch C F [] (0, 9, 12, 13) [] rfl (fun z hz => by cases hz) (by decide) (by decide) lk_L_13 ca_java_lang_IndexOutOfBoundsException_java_lang_IndexOutOfBoundsException (fun q => ?_)
      show zV X _ _ h9 12 _ _
      refine zV.astore_n (lo' := [(0, _), (1, _), (2, _), (3, _)]) C dL_ageOf_12 rfl (by decide) rfl rfl rfl ?_
      refine zV.ic (v := nI 1) C dL_ageOf_13 (by decide) ?_
      refine zV.iretW C F dL_ageOf_14 rfl ?_
      exact ⟨by rw [eA]; try rfl, h9, p9, by rw [eA]; try rfl⟩
  refine zV.aload_n C dL_ageOf_0 rfl rfl ?_
  refine zV.ic (v := nI 0) C dL_ageOf_1 (by decide) ?_
  refine zV.aload_n C dL_ageOf_2 rfl rfl ?_
  refine zV.iload_n C dL_ageOf_3 rfl ?_
  refine zV.callV (n := 1) C G dL_ageOf_4 hM rfl ⟨cd_X9_ageOf, lk_L_82, im_X9_ageOf, se_X9_X9_ageOf, in_X9⟩ ⟨⟨by decide, by decide⟩, by decide⟩ rfl rfl rfl hk ⟨rfl, by decide⟩ (zafX (fun r9 h9 q9 => ?_)) (fun Ex h9 q9 _ => xh Ex h9 q9)
  obtain ⟨⟨v9, eA, rfl⟩, p9⟩ := q9
  obtain ⟨w, rfl⟩ := hV v9 eA
  obtain ⟨k1, k2⟩ := hob h9 p9
  show zV X _ _ h9 7 _ (.int w :: .int (nI 0) :: .ref ob :: [])
  refine zV.i2l C dL_ageOf_7 ?_
  refine zV.last (j := 0) C dL_ageOf_8 k1 rfl (by rw [k2]; decide) (by decide) ?_
  refine zV.goto (tgt := 15) C dL_ageOf_9 (by decide) ?_
  refine zV.ic (v := nI 0) C dL_ageOf_15 (by decide) ?_
  refine zV.iretW C F dL_ageOf_16 rfl ?_
  exact ⟨by rw [eA], h9, p9, by rw [eA]; try rfl⟩
set_option maxHeartbeats 4000000 in
set_option maxRecDepth 100000 in
theorem s_LpositionOf {l : Launch} {E : zG} (hzs : zS E) (hst : l.stackTraces = false) (h : zH) (a ob : Nat) (x : Int32) (A : zAn) (P : zH → Prop) (hM : zMet l E yX9_positionOf cX9_positionOf 2 (some .int) ({ frames := 7, cells := 1, slots := 6, locals := 117 } : Room) 1 6 [.ref a, .int x] h (sQ9 h A P) (sX9 h A P)) (hk : hK h a = 13) (hob : ∀ h1, P h1 → hK h1 ob = 104 ∧ hL h1 ob = 1) (hV : ∀ v, A = .inr v → ∃ w, v = .int w) (hA : ∀ Ex, A = .inl Ex → Ex = IOB) : zMetW l E yL_positionOf cL_positionOf 4 (some .int) [(0, 9, 12, 13)] ({ frames := 8, cells := 1, slots := 6, locals := 138 } : Room) 1 6 [.ref a, .int x, .ref ob] h (lwQ A (fun Ex => 1) P ob) (fun _ _ => False) := by
  refine zMW_start hzs hst (by decide) (Nat.le_of_ble_eq_true rfl) (fun X C G F => ?_)
  show zV X 0 0 _ 0 [(0, .ref a), (1, .int x), (2, .ref ob)] []
  have xh : ∀ Ex h9, sX9 h A P Ex h9 → zVX X (0 + 1) (0 + 6) h9 4 [(0, .ref a), (1, .int x), (2, .ref ob)] [.int (nI 0), .ref ob] Ex := by
    intro Ex h9 ⟨eA, p9⟩
    rcases hA Ex eA with rfl
    · refine zVX.catch C F [] (0, 9, 12, 13) [] rfl (fun z hz => by cases hz) (by decide) (by decide) lk_L_13 ca_java_lang_IndexOutOfBoundsException_java_lang_IndexOutOfBoundsException (fun q => ?_)
      show zV X _ _ h9 12 _ _
      refine zV.astore_n (lo' := [(0, _), (1, _), (2, _), (3, _)]) C dL_positionOf_12 rfl (by decide) rfl rfl rfl ?_
      refine zV.ic (v := nI 1) C dL_positionOf_13 (by decide) ?_
      refine zV.iretW C F dL_positionOf_14 rfl ?_
      exact ⟨by rw [eA]; try rfl, h9, p9, by rw [eA]; try rfl⟩
  refine zV.aload_n C dL_positionOf_0 rfl rfl ?_
  refine zV.ic (v := nI 0) C dL_positionOf_1 (by decide) ?_
  refine zV.aload_n C dL_positionOf_2 rfl rfl ?_
  refine zV.iload_n C dL_positionOf_3 rfl ?_
  refine zV.callV (n := 1) C G dL_positionOf_4 hM rfl ⟨cd_X9_positionOf, lk_L_85, im_X9_positionOf, se_X9_X9_positionOf, in_X9⟩ ⟨⟨by decide, by decide⟩, by decide⟩ rfl rfl rfl hk ⟨rfl, by decide⟩ (zafX (fun r9 h9 q9 => ?_)) (fun Ex h9 q9 _ => xh Ex h9 q9)
  obtain ⟨⟨v9, eA, rfl⟩, p9⟩ := q9
  obtain ⟨w, rfl⟩ := hV v9 eA
  obtain ⟨k1, k2⟩ := hob h9 p9
  show zV X _ _ h9 7 _ (.int w :: .int (nI 0) :: .ref ob :: [])
  refine zV.i2l C dL_positionOf_7 ?_
  refine zV.last (j := 0) C dL_positionOf_8 k1 rfl (by rw [k2]; decide) (by decide) ?_
  refine zV.goto (tgt := 15) C dL_positionOf_9 (by decide) ?_
  refine zV.ic (v := nI 0) C dL_positionOf_15 (by decide) ?_
  refine zV.iretW C F dL_positionOf_16 rfl ?_
  exact ⟨by rw [eA], h9, p9, by rw [eA]; try rfl⟩
set_option maxHeartbeats 4000000 in
set_option maxRecDepth 100000 in
theorem s_LherdSize {l : Launch} {E : zG} (hzs : zS E) (hst : l.stackTraces = false) (h : zH) (a ob : Nat) (x : Int32) (A : zAn) (P : zH → Prop) (hM : zMet l E yX9_herdSize cX9_herdSize 2 (some .int) ({ frames := 7, cells := 1, slots := 6, locals := 115 } : Room) 1 6 [.ref a, .int x] h (sQ9 h A P) (sX9 h A P)) (hk : hK h a = 13) (hob : ∀ h1, P h1 → hK h1 ob = 104 ∧ hL h1 ob = 1) (hV : ∀ v, A = .inr v → ∃ w, v = .int w) (hA : ∀ Ex, A = .inl Ex → Ex = IOB) : zMetW l E yL_herdSize cL_herdSize 4 (some .int) [(0, 9, 12, 13)] ({ frames := 8, cells := 1, slots := 6, locals := 136 } : Room) 1 6 [.ref a, .int x, .ref ob] h (lwQ A (fun Ex => 1) P ob) (fun _ _ => False) := by
  refine zMW_start hzs hst (by decide) (Nat.le_of_ble_eq_true rfl) (fun X C G F => ?_)
  show zV X 0 0 _ 0 [(0, .ref a), (1, .int x), (2, .ref ob)] []
  have xh : ∀ Ex h9, sX9 h A P Ex h9 → zVX X (0 + 1) (0 + 6) h9 4 [(0, .ref a), (1, .int x), (2, .ref ob)] [.int (nI 0), .ref ob] Ex := by
    intro Ex h9 ⟨eA, p9⟩
    rcases hA Ex eA with rfl
    · refine zVX.catch C F [] (0, 9, 12, 13) [] rfl (fun z hz => by cases hz) (by decide) (by decide) lk_L_13 ca_java_lang_IndexOutOfBoundsException_java_lang_IndexOutOfBoundsException (fun q => ?_)
      show zV X _ _ h9 12 _ _
      refine zV.astore_n (lo' := [(0, _), (1, _), (2, _), (3, _)]) C dL_herdSize_12 rfl (by decide) rfl rfl rfl ?_
      refine zV.ic (v := nI 1) C dL_herdSize_13 (by decide) ?_
      refine zV.iretW C F dL_herdSize_14 rfl ?_
      exact ⟨by rw [eA]; try rfl, h9, p9, by rw [eA]; try rfl⟩
  refine zV.aload_n C dL_herdSize_0 rfl rfl ?_
  refine zV.ic (v := nI 0) C dL_herdSize_1 (by decide) ?_
  refine zV.aload_n C dL_herdSize_2 rfl rfl ?_
  refine zV.iload_n C dL_herdSize_3 rfl ?_
  refine zV.callV (n := 1) C G dL_herdSize_4 hM rfl ⟨cd_X9_herdSize, lk_L_88, im_X9_herdSize, se_X9_X9_herdSize, in_X9⟩ ⟨⟨by decide, by decide⟩, by decide⟩ rfl rfl rfl hk ⟨rfl, by decide⟩ (zafX (fun r9 h9 q9 => ?_)) (fun Ex h9 q9 _ => xh Ex h9 q9)
  obtain ⟨⟨v9, eA, rfl⟩, p9⟩ := q9
  obtain ⟨w, rfl⟩ := hV v9 eA
  obtain ⟨k1, k2⟩ := hob h9 p9
  show zV X _ _ h9 7 _ (.int w :: .int (nI 0) :: .ref ob :: [])
  refine zV.i2l C dL_herdSize_7 ?_
  refine zV.last (j := 0) C dL_herdSize_8 k1 rfl (by rw [k2]; decide) (by decide) ?_
  refine zV.goto (tgt := 15) C dL_herdSize_9 (by decide) ?_
  refine zV.ic (v := nI 0) C dL_herdSize_15 (by decide) ?_
  refine zV.iretW C F dL_herdSize_16 rfl ?_
  exact ⟨by rw [eA], h9, p9, by rw [eA]; try rfl⟩
set_option maxHeartbeats 4000000 in
set_option maxRecDepth 100000 in
theorem s_LherdSizeByChairs {l : Launch} {E : zG} (hzs : zS E) (hst : l.stackTraces = false) (h : zH) (a ob : Nat) (x : Int32) (A : zAn) (P : zH → Prop) (hM : zMet l E yX9_herdSizeByChairs cX9_herdSizeByChairs 2 (some .int) ({ frames := 7, cells := 1, slots := 6, locals := 115 } : Room) 1 6 [.ref a, .int x] h (sQ9 h A P) (sX9 h A P)) (hk : hK h a = 13) (hob : ∀ h1, P h1 → hK h1 ob = 104 ∧ hL h1 ob = 1) (hV : ∀ v, A = .inr v → ∃ w, v = .int w) (hA : ∀ Ex, A = .inl Ex → Ex = IOB) : zMetW l E yL_herdSizeByChairs cL_herdSizeByChairs 4 (some .int) [(0, 9, 12, 13)] ({ frames := 8, cells := 1, slots := 6, locals := 136 } : Room) 1 6 [.ref a, .int x, .ref ob] h (lwQ A (fun Ex => 1) P ob) (fun _ _ => False) := by
  refine zMW_start hzs hst (by decide) (Nat.le_of_ble_eq_true rfl) (fun X C G F => ?_)
  show zV X 0 0 _ 0 [(0, .ref a), (1, .int x), (2, .ref ob)] []
  have xh : ∀ Ex h9, sX9 h A P Ex h9 → zVX X (0 + 1) (0 + 6) h9 4 [(0, .ref a), (1, .int x), (2, .ref ob)] [.int (nI 0), .ref ob] Ex := by
    intro Ex h9 ⟨eA, p9⟩
    rcases hA Ex eA with rfl
    · refine zVX.catch C F [] (0, 9, 12, 13) [] rfl (fun z hz => by cases hz) (by decide) (by decide) lk_L_13 ca_java_lang_IndexOutOfBoundsException_java_lang_IndexOutOfBoundsException (fun q => ?_)
      show zV X _ _ h9 12 _ _
      refine zV.astore_n (lo' := [(0, _), (1, _), (2, _), (3, _)]) C dL_herdSizeByChairs_12 rfl (by decide) rfl rfl rfl ?_
      refine zV.ic (v := nI 1) C dL_herdSizeByChairs_13 (by decide) ?_
      refine zV.iretW C F dL_herdSizeByChairs_14 rfl ?_
      exact ⟨by rw [eA]; try rfl, h9, p9, by rw [eA]; try rfl⟩
  refine zV.aload_n C dL_herdSizeByChairs_0 rfl rfl ?_
  refine zV.ic (v := nI 0) C dL_herdSizeByChairs_1 (by decide) ?_
  refine zV.aload_n C dL_herdSizeByChairs_2 rfl rfl ?_
  refine zV.iload_n C dL_herdSizeByChairs_3 rfl ?_
  refine zV.callV (n := 1) C G dL_herdSizeByChairs_4 hM rfl ⟨cd_X9_herdSizeByChairs, lk_L_91, im_X9_herdSizeByChairs, se_X9_X9_herdSizeByChairs, in_X9⟩ ⟨⟨by decide, by decide⟩, by decide⟩ rfl rfl rfl hk ⟨rfl, by decide⟩ (zafX (fun r9 h9 q9 => ?_)) (fun Ex h9 q9 _ => xh Ex h9 q9)
  obtain ⟨⟨v9, eA, rfl⟩, p9⟩ := q9
  obtain ⟨w, rfl⟩ := hV v9 eA
  obtain ⟨k1, k2⟩ := hob h9 p9
  show zV X _ _ h9 7 _ (.int w :: .int (nI 0) :: .ref ob :: [])
  refine zV.i2l C dL_herdSizeByChairs_7 ?_
  refine zV.last (j := 0) C dL_herdSizeByChairs_8 k1 rfl (by rw [k2]; decide) (by decide) ?_
  refine zV.goto (tgt := 15) C dL_herdSizeByChairs_9 (by decide) ?_
  refine zV.ic (v := nI 0) C dL_herdSizeByChairs_15 (by decide) ?_
  refine zV.iretW C F dL_herdSizeByChairs_16 rfl ?_
  exact ⟨by rw [eA], h9, p9, by rw [eA]; try rfl⟩
set_option maxHeartbeats 4000000 in
set_option maxRecDepth 100000 in
theorem s_LchairAt {l : Launch} {E : zG} (hzs : zS E) (hst : l.stackTraces = false) (h : zH) (a ob : Nat) (x : Int32) (y : Int32) (A : zAn) (P : zH → Prop) (hM : zMet l E yX9_chairAt cX9_chairAt 3 (some .int) ({ frames := 7, cells := 2, slots := 12, locals := 115 } : Room) 2 12 [.ref a, .int x, .int y] h (sQ9 h A P) (sX9 h A P)) (hk : hK h a = 13) (hob : ∀ h1, P h1 → hK h1 ob = 104 ∧ hL h1 ob = 1) (hV : ∀ v, A = .inr v → ∃ w, v = .int w) (hA : ∀ Ex, A = .inl Ex → Ex = IOB ∨ Ex = NSE) : zMetW l E yL_chairAt cL_chairAt 5 (some .int) [(0, 10, 13, 13), (0, 10, 17, 29)] ({ frames := 8, cells := 2, slots := 12, locals := 137 } : Room) 2 12 [.ref a, .int x, .int y, .ref ob] h (lwQ A (fun Ex => if Ex = IOB then 1 else 2) P ob) (fun _ _ => False) := by
  refine zMW_start hzs hst (by decide) (Nat.le_of_ble_eq_true rfl) (fun X C G F => ?_)
  show zV X 0 0 _ 0 [(0, .ref a), (1, .int x), (2, .int y), (3, .ref ob)] []
  have xh : ∀ Ex h9, sX9 h A P Ex h9 → zVX X (0 + 2) (0 + 12) h9 5 [(0, .ref a), (1, .int x), (2, .int y), (3, .ref ob)] [.int (nI 0), .ref ob] Ex := by
    intro Ex h9 ⟨eA, p9⟩
    rcases hA Ex eA with rfl | rfl
    · refine zVX.catch C F [] (0, 10, 13, 13) [(0, 10, 17, 29)] rfl (fun z hz => by cases hz) (by decide) (by decide) lk_L_13 ca_java_lang_IndexOutOfBoundsException_java_lang_IndexOutOfBoundsException (fun q => ?_)
      show zV X _ _ h9 13 _ _
      refine zV.astore (lo' := [(0, _), (1, _), (2, _), (3, _), (4, _)]) C dL_chairAt_13 rfl (by decide) rfl rfl rfl ?_
      refine zV.ic (v := nI 1) C dL_chairAt_15 (by decide) ?_
      refine zV.iretW C F dL_chairAt_16 rfl ?_
      exact ⟨by rw [eA]; try rfl, h9, p9, by rw [eA]; try rfl⟩
    · refine zVX.catch C F [(0, 10, 13, 13)] (0, 10, 17, 29) [] rfl (fun z hz => by
        rcases List.mem_cons.mp hz with rfl | hz
        · exact ⟨by decide, _, lk_L_13, nc_NSE_IOB⟩
        cases hz) (by decide) (by decide) lk_L_29 ca_java_util_NoSuchElementException_java_util_NoSuchElementException (fun q => ?_)
      show zV X _ _ h9 17 _ _
      refine zV.astore (lo' := [(0, _), (1, _), (2, _), (3, _), (4, _)]) C dL_chairAt_17 rfl (by decide) rfl rfl rfl ?_
      refine zV.ic (v := nI 2) C dL_chairAt_19 (by decide) ?_
      refine zV.iretW C F dL_chairAt_20 rfl ?_
      exact ⟨by rw [eA]; try rfl, h9, p9, by rw [eA]; try rfl⟩
  refine zV.aload_n C dL_chairAt_0 rfl rfl ?_
  refine zV.ic (v := nI 0) C dL_chairAt_1 (by decide) ?_
  refine zV.aload_n C dL_chairAt_2 rfl rfl ?_
  refine zV.iload_n C dL_chairAt_3 rfl ?_
  refine zV.iload_n C dL_chairAt_4 rfl ?_
  refine zV.callV (n := 2) C G dL_chairAt_5 hM rfl ⟨cd_X9_chairAt, lk_L_94, im_X9_chairAt, se_X9_X9_chairAt, in_X9⟩ ⟨⟨by decide, by decide⟩, by decide⟩ rfl rfl rfl hk ⟨rfl, by decide⟩ (zafX (fun r9 h9 q9 => ?_)) (fun Ex h9 q9 _ => xh Ex h9 q9)
  obtain ⟨⟨v9, eA, rfl⟩, p9⟩ := q9
  obtain ⟨w, rfl⟩ := hV v9 eA
  obtain ⟨k1, k2⟩ := hob h9 p9
  show zV X _ _ h9 8 _ (.int w :: .int (nI 0) :: .ref ob :: [])
  refine zV.i2l C dL_chairAt_8 ?_
  refine zV.last (j := 0) C dL_chairAt_9 k1 rfl (by rw [k2]; decide) (by decide) ?_
  refine zV.goto (tgt := 21) C dL_chairAt_10 (by decide) ?_
  refine zV.ic (v := nI 0) C dL_chairAt_21 (by decide) ?_
  refine zV.iretW C F dL_chairAt_22 rfl ?_
  exact ⟨by rw [eA], h9, p9, by rw [eA]; try rfl⟩
set_option maxHeartbeats 4000000 in
set_option maxRecDepth 100000 in
theorem s_LelderOf {l : Launch} {E : zG} (hzs : zS E) (hst : l.stackTraces = false) (h : zH) (a ob : Nat) (x : Int32) (A : zAn) (P : zH → Prop) (hM : zMet l E yX9_elderOf cX9_elderOf 2 (some .int) ({ frames := 7, cells := 2, slots := 12, locals := 115 } : Room) 2 12 [.ref a, .int x] h (sQ9 h A P) (sX9 h A P)) (hk : hK h a = 13) (hob : ∀ h1, P h1 → hK h1 ob = 104 ∧ hL h1 ob = 1) (hV : ∀ v, A = .inr v → ∃ w, v = .int w) (hA : ∀ Ex, A = .inl Ex → Ex = IOB ∨ Ex = NSE) : zMetW l E yL_elderOf cL_elderOf 4 (some .int) [(0, 9, 12, 13), (0, 9, 15, 29)] ({ frames := 8, cells := 2, slots := 12, locals := 136 } : Room) 2 12 [.ref a, .int x, .ref ob] h (lwQ A (fun Ex => if Ex = IOB then 1 else 2) P ob) (fun _ _ => False) := by
  refine zMW_start hzs hst (by decide) (Nat.le_of_ble_eq_true rfl) (fun X C G F => ?_)
  show zV X 0 0 _ 0 [(0, .ref a), (1, .int x), (2, .ref ob)] []
  have xh : ∀ Ex h9, sX9 h A P Ex h9 → zVX X (0 + 2) (0 + 12) h9 4 [(0, .ref a), (1, .int x), (2, .ref ob)] [.int (nI 0), .ref ob] Ex := by
    intro Ex h9 ⟨eA, p9⟩
    rcases hA Ex eA with rfl | rfl
    · refine zVX.catch C F [] (0, 9, 12, 13) [(0, 9, 15, 29)] rfl (fun z hz => by cases hz) (by decide) (by decide) lk_L_13 ca_java_lang_IndexOutOfBoundsException_java_lang_IndexOutOfBoundsException (fun q => ?_)
      show zV X _ _ h9 12 _ _
      refine zV.astore_n (lo' := [(0, _), (1, _), (2, _), (3, _)]) C dL_elderOf_12 rfl (by decide) rfl rfl rfl ?_
      refine zV.ic (v := nI 1) C dL_elderOf_13 (by decide) ?_
      refine zV.iretW C F dL_elderOf_14 rfl ?_
      exact ⟨by rw [eA]; try rfl, h9, p9, by rw [eA]; try rfl⟩
    · refine zVX.catch C F [(0, 9, 12, 13)] (0, 9, 15, 29) [] rfl (fun z hz => by
        rcases List.mem_cons.mp hz with rfl | hz
        · exact ⟨by decide, _, lk_L_13, nc_NSE_IOB⟩
        cases hz) (by decide) (by decide) lk_L_29 ca_java_util_NoSuchElementException_java_util_NoSuchElementException (fun q => ?_)
      show zV X _ _ h9 15 _ _
      refine zV.astore_n (lo' := [(0, _), (1, _), (2, _), (3, _)]) C dL_elderOf_15 rfl (by decide) rfl rfl rfl ?_
      refine zV.ic (v := nI 2) C dL_elderOf_16 (by decide) ?_
      refine zV.iretW C F dL_elderOf_17 rfl ?_
      exact ⟨by rw [eA]; try rfl, h9, p9, by rw [eA]; try rfl⟩
  refine zV.aload_n C dL_elderOf_0 rfl rfl ?_
  refine zV.ic (v := nI 0) C dL_elderOf_1 (by decide) ?_
  refine zV.aload_n C dL_elderOf_2 rfl rfl ?_
  refine zV.iload_n C dL_elderOf_3 rfl ?_
  refine zV.callV (n := 1) C G dL_elderOf_4 hM rfl ⟨cd_X9_elderOf, lk_L_97, im_X9_elderOf, se_X9_X9_elderOf, in_X9⟩ ⟨⟨by decide, by decide⟩, by decide⟩ rfl rfl rfl hk ⟨rfl, by decide⟩ (zafX (fun r9 h9 q9 => ?_)) (fun Ex h9 q9 _ => xh Ex h9 q9)
  obtain ⟨⟨v9, eA, rfl⟩, p9⟩ := q9
  obtain ⟨w, rfl⟩ := hV v9 eA
  obtain ⟨k1, k2⟩ := hob h9 p9
  show zV X _ _ h9 7 _ (.int w :: .int (nI 0) :: .ref ob :: [])
  refine zV.i2l C dL_elderOf_7 ?_
  refine zV.last (j := 0) C dL_elderOf_8 k1 rfl (by rw [k2]; decide) (by decide) ?_
  refine zV.goto (tgt := 18) C dL_elderOf_9 (by decide) ?_
  refine zV.ic (v := nI 0) C dL_elderOf_18 (by decide) ?_
  refine zV.iretW C F dL_elderOf_19 rfl ?_
  exact ⟨by rw [eA], h9, p9, by rw [eA]; try rfl⟩
set_option maxHeartbeats 4000000 in
set_option maxRecDepth 100000 in
theorem s_LhungryChairs {l : Launch} {E : zG} (hzs : zS E) (hst : l.stackTraces = false) (h : zH) (a ob : Nat) (x : Int32) (A : zAn) (P : zH → Prop) (hM : zMet l E yX9_hungryChairs cX9_hungryChairs 2 (some .int) ({ frames := 7, cells := 1, slots := 6, locals := 115 } : Room) 1 6 [.ref a, .int x] h (sQ9 h A P) (sX9 h A P)) (hk : hK h a = 13) (hob : ∀ h1, P h1 → hK h1 ob = 104 ∧ hL h1 ob = 1) (hV : ∀ v, A = .inr v → ∃ w, v = .int w) (hA : ∀ Ex, A = .inl Ex → Ex = IOB) : zMetW l E yL_hungryChairs cL_hungryChairs 4 (some .int) [(0, 9, 12, 13)] ({ frames := 8, cells := 1, slots := 6, locals := 136 } : Room) 1 6 [.ref a, .int x, .ref ob] h (lwQ A (fun Ex => 1) P ob) (fun _ _ => False) := by
  refine zMW_start hzs hst (by decide) (Nat.le_of_ble_eq_true rfl) (fun X C G F => ?_)
  show zV X 0 0 _ 0 [(0, .ref a), (1, .int x), (2, .ref ob)] []
  have xh : ∀ Ex h9, sX9 h A P Ex h9 → zVX X (0 + 1) (0 + 6) h9 4 [(0, .ref a), (1, .int x), (2, .ref ob)] [.int (nI 0), .ref ob] Ex := by
    intro Ex h9 ⟨eA, p9⟩
    rcases hA Ex eA with rfl
    · refine zVX.catch C F [] (0, 9, 12, 13) [] rfl (fun z hz => by cases hz) (by decide) (by decide) lk_L_13 ca_java_lang_IndexOutOfBoundsException_java_lang_IndexOutOfBoundsException (fun q => ?_)
      show zV X _ _ h9 12 _ _
      refine zV.astore_n (lo' := [(0, _), (1, _), (2, _), (3, _)]) C dL_hungryChairs_12 rfl (by decide) rfl rfl rfl ?_
      refine zV.ic (v := nI 1) C dL_hungryChairs_13 (by decide) ?_
      refine zV.iretW C F dL_hungryChairs_14 rfl ?_
      exact ⟨by rw [eA]; try rfl, h9, p9, by rw [eA]; try rfl⟩
  refine zV.aload_n C dL_hungryChairs_0 rfl rfl ?_
  refine zV.ic (v := nI 0) C dL_hungryChairs_1 (by decide) ?_
  refine zV.aload_n C dL_hungryChairs_2 rfl rfl ?_
  refine zV.iload_n C dL_hungryChairs_3 rfl ?_
  refine zV.callV (n := 1) C G dL_hungryChairs_4 hM rfl ⟨cd_X9_hungryChairs, lk_L_100, im_X9_hungryChairs, se_X9_X9_hungryChairs, in_X9⟩ ⟨⟨by decide, by decide⟩, by decide⟩ rfl rfl rfl hk ⟨rfl, by decide⟩ (zafX (fun r9 h9 q9 => ?_)) (fun Ex h9 q9 _ => xh Ex h9 q9)
  obtain ⟨⟨v9, eA, rfl⟩, p9⟩ := q9
  obtain ⟨w, rfl⟩ := hV v9 eA
  obtain ⟨k1, k2⟩ := hob h9 p9
  show zV X _ _ h9 7 _ (.int w :: .int (nI 0) :: .ref ob :: [])
  refine zV.i2l C dL_hungryChairs_7 ?_
  refine zV.last (j := 0) C dL_hungryChairs_8 k1 rfl (by rw [k2]; decide) (by decide) ?_
  refine zV.goto (tgt := 15) C dL_hungryChairs_9 (by decide) ?_
  refine zV.ic (v := nI 0) C dL_hungryChairs_15 (by decide) ?_
  refine zV.iretW C F dL_hungryChairs_16 rfl ?_
  exact ⟨by rw [eA], h9, p9, by rw [eA]; try rfl⟩
set_option maxHeartbeats 4000000 in
set_option maxRecDepth 100000 in
theorem s_LbestNeighbour {l : Launch} {E : zG} (hzs : zS E) (hst : l.stackTraces = false) (h : zH) (a ob : Nat) (x : Int32) (A : zAn) (P : zH → Prop) (hM : zMet l E yX9_bestNeighbour cX9_bestNeighbour 2 (some .int) ({ frames := 7, cells := 2, slots := 12, locals := 115 } : Room) 2 12 [.ref a, .int x] h (sQ9 h A P) (sX9 h A P)) (hk : hK h a = 13) (hob : ∀ h1, P h1 → hK h1 ob = 104 ∧ hL h1 ob = 1) (hV : ∀ v, A = .inr v → ∃ w, v = .int w) (hA : ∀ Ex, A = .inl Ex → Ex = IOB ∨ Ex = NSE) : zMetW l E yL_bestNeighbour cL_bestNeighbour 4 (some .int) [(0, 9, 12, 13), (0, 9, 15, 29)] ({ frames := 8, cells := 2, slots := 12, locals := 136 } : Room) 2 12 [.ref a, .int x, .ref ob] h (lwQ A (fun Ex => if Ex = IOB then 1 else 2) P ob) (fun _ _ => False) := by
  refine zMW_start hzs hst (by decide) (Nat.le_of_ble_eq_true rfl) (fun X C G F => ?_)
  show zV X 0 0 _ 0 [(0, .ref a), (1, .int x), (2, .ref ob)] []
  have xh : ∀ Ex h9, sX9 h A P Ex h9 → zVX X (0 + 2) (0 + 12) h9 4 [(0, .ref a), (1, .int x), (2, .ref ob)] [.int (nI 0), .ref ob] Ex := by
    intro Ex h9 ⟨eA, p9⟩
    rcases hA Ex eA with rfl | rfl
    · refine zVX.catch C F [] (0, 9, 12, 13) [(0, 9, 15, 29)] rfl (fun z hz => by cases hz) (by decide) (by decide) lk_L_13 ca_java_lang_IndexOutOfBoundsException_java_lang_IndexOutOfBoundsException (fun q => ?_)
      show zV X _ _ h9 12 _ _
      refine zV.astore_n (lo' := [(0, _), (1, _), (2, _), (3, _)]) C dL_bestNeighbour_12 rfl (by decide) rfl rfl rfl ?_
      refine zV.ic (v := nI 1) C dL_bestNeighbour_13 (by decide) ?_
      refine zV.iretW C F dL_bestNeighbour_14 rfl ?_
      exact ⟨by rw [eA]; try rfl, h9, p9, by rw [eA]; try rfl⟩
    · refine zVX.catch C F [(0, 9, 12, 13)] (0, 9, 15, 29) [] rfl (fun z hz => by
        rcases List.mem_cons.mp hz with rfl | hz
        · exact ⟨by decide, _, lk_L_13, nc_NSE_IOB⟩
        cases hz) (by decide) (by decide) lk_L_29 ca_java_util_NoSuchElementException_java_util_NoSuchElementException (fun q => ?_)
      show zV X _ _ h9 15 _ _
      refine zV.astore_n (lo' := [(0, _), (1, _), (2, _), (3, _)]) C dL_bestNeighbour_15 rfl (by decide) rfl rfl rfl ?_
      refine zV.ic (v := nI 2) C dL_bestNeighbour_16 (by decide) ?_
      refine zV.iretW C F dL_bestNeighbour_17 rfl ?_
      exact ⟨by rw [eA]; try rfl, h9, p9, by rw [eA]; try rfl⟩
  refine zV.aload_n C dL_bestNeighbour_0 rfl rfl ?_
  refine zV.ic (v := nI 0) C dL_bestNeighbour_1 (by decide) ?_
  refine zV.aload_n C dL_bestNeighbour_2 rfl rfl ?_
  refine zV.iload_n C dL_bestNeighbour_3 rfl ?_
  refine zV.callV (n := 1) C G dL_bestNeighbour_4 hM rfl ⟨cd_X9_bestNeighbour, lk_L_103, im_X9_bestNeighbour, se_X9_X9_bestNeighbour, in_X9⟩ ⟨⟨by decide, by decide⟩, by decide⟩ rfl rfl rfl hk ⟨rfl, by decide⟩ (zafX (fun r9 h9 q9 => ?_)) (fun Ex h9 q9 _ => xh Ex h9 q9)
  obtain ⟨⟨v9, eA, rfl⟩, p9⟩ := q9
  obtain ⟨w, rfl⟩ := hV v9 eA
  obtain ⟨k1, k2⟩ := hob h9 p9
  show zV X _ _ h9 7 _ (.int w :: .int (nI 0) :: .ref ob :: [])
  refine zV.i2l C dL_bestNeighbour_7 ?_
  refine zV.last (j := 0) C dL_bestNeighbour_8 k1 rfl (by rw [k2]; decide) (by decide) ?_
  refine zV.goto (tgt := 18) C dL_bestNeighbour_9 (by decide) ?_
  refine zV.ic (v := nI 0) C dL_bestNeighbour_18 (by decide) ?_
  refine zV.iretW C F dL_bestNeighbour_19 rfl ?_
  exact ⟨by rw [eA], h9, p9, by rw [eA]; try rfl⟩
set_option maxHeartbeats 4000000 in
set_option maxRecDepth 100000 in
theorem s_LpassDays {l : Launch} {E : zG} (hzs : zS E) (hst : l.stackTraces = false) (h : zH) (a ob : Nat) (x : Int32) (A : zAn) (P : zH → Prop) (hM : zMet l E yX9_passDays cX9_passDays 2 (some .int) ({ frames := 7, cells := 1, slots := 6, locals := 209 } : Room) 1 6 [.ref a, .int x] h (sQ9 h A P) (sX9 h A P)) (hk : hK h a = 13) (hob : ∀ h1, P h1 → hK h1 ob = 104 ∧ hL h1 ob = 1) (hV : ∀ v, A = .inr v → ∃ w, v = .int w) (hA : ∀ Ex, A = .inl Ex → Ex = IAE) : zMetW l E yL_passDays cL_passDays 4 (some .int) [(0, 9, 12, 15)] ({ frames := 8, cells := 1, slots := 6, locals := 230 } : Room) 1 6 [.ref a, .int x, .ref ob] h (lwQ A (fun Ex => 1) P ob) (fun _ _ => False) := by
  refine zMW_start hzs hst (by decide) (Nat.le_of_ble_eq_true rfl) (fun X C G F => ?_)
  show zV X 0 0 _ 0 [(0, .ref a), (1, .int x), (2, .ref ob)] []
  have xh : ∀ Ex h9, sX9 h A P Ex h9 → zVX X (0 + 1) (0 + 6) h9 4 [(0, .ref a), (1, .int x), (2, .ref ob)] [.int (nI 0), .ref ob] Ex := by
    intro Ex h9 ⟨eA, p9⟩
    rcases hA Ex eA with rfl
    · refine zVX.catch C F [] (0, 9, 12, 15) [] rfl (fun z hz => by cases hz) (by decide) (by decide) lk_L_15 ca_java_lang_IllegalArgumentException_java_lang_IllegalArgumentException (fun q => ?_)
      show zV X _ _ h9 12 _ _
      refine zV.astore_n (lo' := [(0, _), (1, _), (2, _), (3, _)]) C dL_passDays_12 rfl (by decide) rfl rfl rfl ?_
      refine zV.ic (v := nI 1) C dL_passDays_13 (by decide) ?_
      refine zV.iretW C F dL_passDays_14 rfl ?_
      exact ⟨by rw [eA]; try rfl, h9, p9, by rw [eA]; try rfl⟩
  refine zV.aload_n C dL_passDays_0 rfl rfl ?_
  refine zV.ic (v := nI 0) C dL_passDays_1 (by decide) ?_
  refine zV.aload_n C dL_passDays_2 rfl rfl ?_
  refine zV.iload_n C dL_passDays_3 rfl ?_
  refine zV.callV (n := 1) C G dL_passDays_4 hM rfl ⟨cd_X9_passDays, lk_L_106, im_X9_passDays, se_X9_X9_passDays, in_X9⟩ ⟨⟨by decide, by decide⟩, by decide⟩ rfl rfl rfl hk ⟨rfl, by decide⟩ (zafX (fun r9 h9 q9 => ?_)) (fun Ex h9 q9 _ => xh Ex h9 q9)
  obtain ⟨⟨v9, eA, rfl⟩, p9⟩ := q9
  obtain ⟨w, rfl⟩ := hV v9 eA
  obtain ⟨k1, k2⟩ := hob h9 p9
  show zV X _ _ h9 7 _ (.int w :: .int (nI 0) :: .ref ob :: [])
  refine zV.i2l C dL_passDays_7 ?_
  refine zV.last (j := 0) C dL_passDays_8 k1 rfl (by rw [k2]; decide) (by decide) ?_
  refine zV.goto (tgt := 15) C dL_passDays_9 (by decide) ?_
  refine zV.ic (v := nI 0) C dL_passDays_15 (by decide) ?_
  refine zV.iretW C F dL_passDays_16 rfl ?_
  exact ⟨by rw [eA], h9, p9, by rw [eA]; try rfl⟩
set_option maxHeartbeats 4000000 in
set_option maxRecDepth 100000 in
theorem s_LdaysUntil {l : Launch} {E : zG} (hzs : zS E) (hst : l.stackTraces = false) (h : zH) (a ob : Nat) (x : Int32) (A : zAn) (P : zH → Prop) (hM : zMet l E yX9_daysUntil cX9_daysUntil 3 (some .int) ({ frames := 6, cells := 1, slots := 6, locals := 95 } : Room) 1 6 [.ref a, .int x] h (sQ9 h A P) (sX9 h A P)) (hk : hK h a = 13) (hob : ∀ h1, P h1 → hK h1 ob = 104 ∧ hL h1 ob = 1) (hV : ∀ v, A = .inr v → ∃ w, v = .int w) (hA : ∀ Ex, A = .inl Ex → Ex = IAE) : zMetW l E yL_daysUntil cL_daysUntil 4 (some .int) [(0, 9, 12, 15)] ({ frames := 7, cells := 1, slots := 6, locals := 117 } : Room) 1 6 [.ref a, .int x, .ref ob] h (lwQ A (fun Ex => 1) P ob) (fun _ _ => False) := by
  refine zMW_start hzs hst (by decide) (Nat.le_of_ble_eq_true rfl) (fun X C G F => ?_)
  show zV X 0 0 _ 0 [(0, .ref a), (1, .int x), (2, .ref ob)] []
  have xh : ∀ Ex h9, sX9 h A P Ex h9 → zVX X (0 + 1) (0 + 6) h9 4 [(0, .ref a), (1, .int x), (2, .ref ob)] [.int (nI 0), .ref ob] Ex := by
    intro Ex h9 ⟨eA, p9⟩
    rcases hA Ex eA with rfl
    · refine zVX.catch C F [] (0, 9, 12, 15) [] rfl (fun z hz => by cases hz) (by decide) (by decide) lk_L_15 ca_java_lang_IllegalArgumentException_java_lang_IllegalArgumentException (fun q => ?_)
      show zV X _ _ h9 12 _ _
      refine zV.astore_n (lo' := [(0, _), (1, _), (2, _), (3, _)]) C dL_daysUntil_12 rfl (by decide) rfl rfl rfl ?_
      refine zV.ic (v := nI 1) C dL_daysUntil_13 (by decide) ?_
      refine zV.iretW C F dL_daysUntil_14 rfl ?_
      exact ⟨by rw [eA]; try rfl, h9, p9, by rw [eA]; try rfl⟩
  refine zV.aload_n C dL_daysUntil_0 rfl rfl ?_
  refine zV.ic (v := nI 0) C dL_daysUntil_1 (by decide) ?_
  refine zV.aload_n C dL_daysUntil_2 rfl rfl ?_
  refine zV.iload_n C dL_daysUntil_3 rfl ?_
  refine zV.callV (n := 1) C G dL_daysUntil_4 hM rfl ⟨cd_X9_daysUntil, lk_L_109, im_X9_daysUntil, se_X9_X9_daysUntil, in_X9⟩ ⟨⟨by decide, by decide⟩, by decide⟩ rfl rfl rfl hk ⟨rfl, by decide⟩ (zafX (fun r9 h9 q9 => ?_)) (fun Ex h9 q9 _ => xh Ex h9 q9)
  obtain ⟨⟨v9, eA, rfl⟩, p9⟩ := q9
  obtain ⟨w, rfl⟩ := hV v9 eA
  obtain ⟨k1, k2⟩ := hob h9 p9
  show zV X _ _ h9 7 _ (.int w :: .int (nI 0) :: .ref ob :: [])
  refine zV.i2l C dL_daysUntil_7 ?_
  refine zV.last (j := 0) C dL_daysUntil_8 k1 rfl (by rw [k2]; decide) (by decide) ?_
  refine zV.goto (tgt := 15) C dL_daysUntil_9 (by decide) ?_
  refine zV.ic (v := nI 0) C dL_daysUntil_15 (by decide) ?_
  refine zV.iretW C F dL_daysUntil_16 rfl ?_
  exact ⟨by rw [eA], h9, p9, by rw [eA]; try rfl⟩
set_option maxHeartbeats 4000000 in
set_option maxRecDepth 100000 in
theorem s_LwouldCollapse {l : Launch} {E : zG} (hzs : zS E) (hst : l.stackTraces = false) (h : zH) (a ob : Nat) (x : Int32) (A : zAn) (P : zH → Prop) (hM : zMet l E yX9_wouldCollapse cX9_wouldCollapse 2 (some .int) ({ frames := 6, cells := 1, slots := 6, locals := 164 } : Room) 1 6 [.ref a, .int x] h (sQ9 h A P) (sX9 h A P)) (hk : hK h a = 13) (hob : ∀ h1, P h1 → hK h1 ob = 104 ∧ hL h1 ob = 1) (hV : ∀ v, A = .inr v → ∃ w, v = .int w) (hA : ∀ Ex, A = .inl Ex → Ex = IAE) : zMetW l E yL_wouldCollapse cL_wouldCollapse 4 (some .int) [(0, 9, 12, 15)] ({ frames := 7, cells := 1, slots := 6, locals := 185 } : Room) 1 6 [.ref a, .int x, .ref ob] h (lwQ A (fun Ex => 1) P ob) (fun _ _ => False) := by
  refine zMW_start hzs hst (by decide) (Nat.le_of_ble_eq_true rfl) (fun X C G F => ?_)
  show zV X 0 0 _ 0 [(0, .ref a), (1, .int x), (2, .ref ob)] []
  have xh : ∀ Ex h9, sX9 h A P Ex h9 → zVX X (0 + 1) (0 + 6) h9 4 [(0, .ref a), (1, .int x), (2, .ref ob)] [.int (nI 0), .ref ob] Ex := by
    intro Ex h9 ⟨eA, p9⟩
    rcases hA Ex eA with rfl
    · refine zVX.catch C F [] (0, 9, 12, 15) [] rfl (fun z hz => by cases hz) (by decide) (by decide) lk_L_15 ca_java_lang_IllegalArgumentException_java_lang_IllegalArgumentException (fun q => ?_)
      show zV X _ _ h9 12 _ _
      refine zV.astore_n (lo' := [(0, _), (1, _), (2, _), (3, _)]) C dL_wouldCollapse_12 rfl (by decide) rfl rfl rfl ?_
      refine zV.ic (v := nI 1) C dL_wouldCollapse_13 (by decide) ?_
      refine zV.iretW C F dL_wouldCollapse_14 rfl ?_
      exact ⟨by rw [eA]; try rfl, h9, p9, by rw [eA]; try rfl⟩
  refine zV.aload_n C dL_wouldCollapse_0 rfl rfl ?_
  refine zV.ic (v := nI 0) C dL_wouldCollapse_1 (by decide) ?_
  refine zV.aload_n C dL_wouldCollapse_2 rfl rfl ?_
  refine zV.iload_n C dL_wouldCollapse_3 rfl ?_
  refine zV.callV (n := 1) C G dL_wouldCollapse_4 hM rfl ⟨cd_X9_wouldCollapse, lk_L_112, im_X9_wouldCollapse, se_X9_X9_wouldCollapse, in_X9⟩ ⟨⟨by decide, by decide⟩, by decide⟩ rfl rfl rfl hk ⟨rfl, by decide⟩ (zafX (fun r9 h9 q9 => ?_)) (fun Ex h9 q9 _ => xh Ex h9 q9)
  obtain ⟨⟨v9, eA, rfl⟩, p9⟩ := q9
  obtain ⟨w, rfl⟩ := hV v9 eA
  obtain ⟨k1, k2⟩ := hob h9 p9
  show zV X _ _ h9 7 _ (.int w :: .int (nI 0) :: .ref ob :: [])
  refine zV.i2l C dL_wouldCollapse_7 ?_
  refine zV.last (j := 0) C dL_wouldCollapse_8 k1 rfl (by rw [k2]; decide) (by decide) ?_
  refine zV.goto (tgt := 15) C dL_wouldCollapse_9 (by decide) ?_
  refine zV.ic (v := nI 0) C dL_wouldCollapse_15 (by decide) ?_
  refine zV.iretW C F dL_wouldCollapse_16 rfl ?_
  exact ⟨by rw [eA], h9, p9, by rw [eA]; try rfl⟩
set_option maxHeartbeats 4000000 in
set_option maxRecDepth 100000 in
theorem s_LcollapseDay {l : Launch} {E : zG} (hzs : zS E) (hst : l.stackTraces = false) (h : zH) (a ob : Nat) (x : Int32) (A : zAn) (P : zH → Prop) (hM : zMet l E yX9_collapseDay cX9_collapseDay 3 (some .int) ({ frames := 7, cells := 2, slots := 12, locals := 164 } : Room) 2 12 [.ref a, .int x] h (sQ9 h A P) (sX9 h A P)) (hk : hK h a = 13) (hob : ∀ h1, P h1 → hK h1 ob = 104 ∧ hL h1 ob = 1) (hV : ∀ v, A = .inr v → ∃ w, v = .int w) (hA : ∀ Ex, A = .inl Ex → Ex = IOB ∨ Ex = NSE) : zMetW l E yL_collapseDay cL_collapseDay 4 (some .int) [(0, 9, 12, 13), (0, 9, 15, 29)] ({ frames := 8, cells := 2, slots := 12, locals := 186 } : Room) 2 12 [.ref a, .int x, .ref ob] h (lwQ A (fun Ex => if Ex = IOB then 1 else 2) P ob) (fun _ _ => False) := by
  refine zMW_start hzs hst (by decide) (Nat.le_of_ble_eq_true rfl) (fun X C G F => ?_)
  show zV X 0 0 _ 0 [(0, .ref a), (1, .int x), (2, .ref ob)] []
  have xh : ∀ Ex h9, sX9 h A P Ex h9 → zVX X (0 + 2) (0 + 12) h9 4 [(0, .ref a), (1, .int x), (2, .ref ob)] [.int (nI 0), .ref ob] Ex := by
    intro Ex h9 ⟨eA, p9⟩
    rcases hA Ex eA with rfl | rfl
    · refine zVX.catch C F [] (0, 9, 12, 13) [(0, 9, 15, 29)] rfl (fun z hz => by cases hz) (by decide) (by decide) lk_L_13 ca_java_lang_IndexOutOfBoundsException_java_lang_IndexOutOfBoundsException (fun q => ?_)
      show zV X _ _ h9 12 _ _
      refine zV.astore_n (lo' := [(0, _), (1, _), (2, _), (3, _)]) C dL_collapseDay_12 rfl (by decide) rfl rfl rfl ?_
      refine zV.ic (v := nI 1) C dL_collapseDay_13 (by decide) ?_
      refine zV.iretW C F dL_collapseDay_14 rfl ?_
      exact ⟨by rw [eA]; try rfl, h9, p9, by rw [eA]; try rfl⟩
    · refine zVX.catch C F [(0, 9, 12, 13)] (0, 9, 15, 29) [] rfl (fun z hz => by
        rcases List.mem_cons.mp hz with rfl | hz
        · exact ⟨by decide, _, lk_L_13, nc_NSE_IOB⟩
        cases hz) (by decide) (by decide) lk_L_29 ca_java_util_NoSuchElementException_java_util_NoSuchElementException (fun q => ?_)
      show zV X _ _ h9 15 _ _
      refine zV.astore_n (lo' := [(0, _), (1, _), (2, _), (3, _)]) C dL_collapseDay_15 rfl (by decide) rfl rfl rfl ?_
      refine zV.ic (v := nI 2) C dL_collapseDay_16 (by decide) ?_
      refine zV.iretW C F dL_collapseDay_17 rfl ?_
      exact ⟨by rw [eA]; try rfl, h9, p9, by rw [eA]; try rfl⟩
  refine zV.aload_n C dL_collapseDay_0 rfl rfl ?_
  refine zV.ic (v := nI 0) C dL_collapseDay_1 (by decide) ?_
  refine zV.aload_n C dL_collapseDay_2 rfl rfl ?_
  refine zV.iload_n C dL_collapseDay_3 rfl ?_
  refine zV.callV (n := 1) C G dL_collapseDay_4 hM rfl ⟨cd_X9_collapseDay, lk_L_115, im_X9_collapseDay, se_X9_X9_collapseDay, in_X9⟩ ⟨⟨by decide, by decide⟩, by decide⟩ rfl rfl rfl hk ⟨rfl, by decide⟩ (zafX (fun r9 h9 q9 => ?_)) (fun Ex h9 q9 _ => xh Ex h9 q9)
  obtain ⟨⟨v9, eA, rfl⟩, p9⟩ := q9
  obtain ⟨w, rfl⟩ := hV v9 eA
  obtain ⟨k1, k2⟩ := hob h9 p9
  show zV X _ _ h9 7 _ (.int w :: .int (nI 0) :: .ref ob :: [])
  refine zV.i2l C dL_collapseDay_7 ?_
  refine zV.last (j := 0) C dL_collapseDay_8 k1 rfl (by rw [k2]; decide) (by decide) ?_
  refine zV.goto (tgt := 18) C dL_collapseDay_9 (by decide) ?_
  refine zV.ic (v := nI 0) C dL_collapseDay_18 (by decide) ?_
  refine zV.iretW C F dL_collapseDay_19 rfl ?_
  exact ⟨by rw [eA], h9, p9, by rw [eA]; try rfl⟩
set_option maxHeartbeats 4000000 in
set_option maxRecDepth 100000 in
theorem s_LchairByRust {l : Launch} {E : zG} (hzs : zS E) (hst : l.stackTraces = false) (h : zH) (a ob : Nat) (x : Int32) (A : zAn) (P : zH → Prop) (hM : zMet l E yX9_chairByRust cX9_chairByRust 2 (some .int) ({ frames := 7, cells := 1, slots := 6, locals := 115 } : Room) 1 6 [.ref a, .int x] h (sQ9 h A P) (sX9 h A P)) (hk : hK h a = 13) (hob : ∀ h1, P h1 → hK h1 ob = 104 ∧ hL h1 ob = 1) (hV : ∀ v, A = .inr v → ∃ w, v = .int w) (hA : ∀ Ex, A = .inl Ex → Ex = NSE) : zMetW l E yL_chairByRust cL_chairByRust 4 (some .int) [(0, 9, 12, 29)] ({ frames := 8, cells := 1, slots := 6, locals := 136 } : Room) 1 6 [.ref a, .int x, .ref ob] h (lwQ A (fun Ex => 1) P ob) (fun _ _ => False) := by
  refine zMW_start hzs hst (by decide) (Nat.le_of_ble_eq_true rfl) (fun X C G F => ?_)
  show zV X 0 0 _ 0 [(0, .ref a), (1, .int x), (2, .ref ob)] []
  have xh : ∀ Ex h9, sX9 h A P Ex h9 → zVX X (0 + 1) (0 + 6) h9 4 [(0, .ref a), (1, .int x), (2, .ref ob)] [.int (nI 0), .ref ob] Ex := by
    intro Ex h9 ⟨eA, p9⟩
    rcases hA Ex eA with rfl
    · refine zVX.catch C F [] (0, 9, 12, 29) [] rfl (fun z hz => by cases hz) (by decide) (by decide) lk_L_29 ca_java_util_NoSuchElementException_java_util_NoSuchElementException (fun q => ?_)
      show zV X _ _ h9 12 _ _
      refine zV.astore_n (lo' := [(0, _), (1, _), (2, _), (3, _)]) C dL_chairByRust_12 rfl (by decide) rfl rfl rfl ?_
      refine zV.ic (v := nI 1) C dL_chairByRust_13 (by decide) ?_
      refine zV.iretW C F dL_chairByRust_14 rfl ?_
      exact ⟨by rw [eA]; try rfl, h9, p9, by rw [eA]; try rfl⟩
  refine zV.aload_n C dL_chairByRust_0 rfl rfl ?_
  refine zV.ic (v := nI 0) C dL_chairByRust_1 (by decide) ?_
  refine zV.aload_n C dL_chairByRust_2 rfl rfl ?_
  refine zV.iload_n C dL_chairByRust_3 rfl ?_
  refine zV.callV (n := 1) C G dL_chairByRust_4 hM rfl ⟨cd_X9_chairByRust, lk_L_118, im_X9_chairByRust, se_X9_X9_chairByRust, in_X9⟩ ⟨⟨by decide, by decide⟩, by decide⟩ rfl rfl rfl hk ⟨rfl, by decide⟩ (zafX (fun r9 h9 q9 => ?_)) (fun Ex h9 q9 _ => xh Ex h9 q9)
  obtain ⟨⟨v9, eA, rfl⟩, p9⟩ := q9
  obtain ⟨w, rfl⟩ := hV v9 eA
  obtain ⟨k1, k2⟩ := hob h9 p9
  show zV X _ _ h9 7 _ (.int w :: .int (nI 0) :: .ref ob :: [])
  refine zV.i2l C dL_chairByRust_7 ?_
  refine zV.last (j := 0) C dL_chairByRust_8 k1 rfl (by rw [k2]; decide) (by decide) ?_
  refine zV.goto (tgt := 15) C dL_chairByRust_9 (by decide) ?_
  refine zV.ic (v := nI 0) C dL_chairByRust_15 (by decide) ?_
  refine zV.iretW C F dL_chairByRust_16 rfl ?_
  exact ⟨by rw [eA], h9, p9, by rw [eA]; try rfl⟩
set_option maxHeartbeats 4000000 in
set_option maxRecDepth 100000 in
theorem s_LlawnByShade {l : Launch} {E : zG} (hzs : zS E) (hst : l.stackTraces = false) (h : zH) (a ob : Nat) (x : Int32) (A : zAn) (P : zH → Prop) (hM : zMet l E yX9_lawnByShade cX9_lawnByShade 2 (some .int) ({ frames := 7, cells := 1, slots := 6, locals := 115 } : Room) 1 6 [.ref a, .int x] h (sQ9 h A P) (sX9 h A P)) (hk : hK h a = 13) (hob : ∀ h1, P h1 → hK h1 ob = 104 ∧ hL h1 ob = 1) (hV : ∀ v, A = .inr v → ∃ w, v = .int w) (hA : ∀ Ex, A = .inl Ex → Ex = NSE) : zMetW l E yL_lawnByShade cL_lawnByShade 4 (some .int) [(0, 9, 12, 29)] ({ frames := 8, cells := 1, slots := 6, locals := 136 } : Room) 1 6 [.ref a, .int x, .ref ob] h (lwQ A (fun Ex => 1) P ob) (fun _ _ => False) := by
  refine zMW_start hzs hst (by decide) (Nat.le_of_ble_eq_true rfl) (fun X C G F => ?_)
  show zV X 0 0 _ 0 [(0, .ref a), (1, .int x), (2, .ref ob)] []
  have xh : ∀ Ex h9, sX9 h A P Ex h9 → zVX X (0 + 1) (0 + 6) h9 4 [(0, .ref a), (1, .int x), (2, .ref ob)] [.int (nI 0), .ref ob] Ex := by
    intro Ex h9 ⟨eA, p9⟩
    rcases hA Ex eA with rfl
    · refine zVX.catch C F [] (0, 9, 12, 29) [] rfl (fun z hz => by cases hz) (by decide) (by decide) lk_L_29 ca_java_util_NoSuchElementException_java_util_NoSuchElementException (fun q => ?_)
      show zV X _ _ h9 12 _ _
      refine zV.astore_n (lo' := [(0, _), (1, _), (2, _), (3, _)]) C dL_lawnByShade_12 rfl (by decide) rfl rfl rfl ?_
      refine zV.ic (v := nI 1) C dL_lawnByShade_13 (by decide) ?_
      refine zV.iretW C F dL_lawnByShade_14 rfl ?_
      exact ⟨by rw [eA]; try rfl, h9, p9, by rw [eA]; try rfl⟩
  refine zV.aload_n C dL_lawnByShade_0 rfl rfl ?_
  refine zV.ic (v := nI 0) C dL_lawnByShade_1 (by decide) ?_
  refine zV.aload_n C dL_lawnByShade_2 rfl rfl ?_
  refine zV.iload_n C dL_lawnByShade_3 rfl ?_
  refine zV.callV (n := 1) C G dL_lawnByShade_4 hM rfl ⟨cd_X9_lawnByShade, lk_L_121, im_X9_lawnByShade, se_X9_X9_lawnByShade, in_X9⟩ ⟨⟨by decide, by decide⟩, by decide⟩ rfl rfl rfl hk ⟨rfl, by decide⟩ (zafX (fun r9 h9 q9 => ?_)) (fun Ex h9 q9 _ => xh Ex h9 q9)
  obtain ⟨⟨v9, eA, rfl⟩, p9⟩ := q9
  obtain ⟨w, rfl⟩ := hV v9 eA
  obtain ⟨k1, k2⟩ := hob h9 p9
  show zV X _ _ h9 7 _ (.int w :: .int (nI 0) :: .ref ob :: [])
  refine zV.i2l C dL_lawnByShade_7 ?_
  refine zV.last (j := 0) C dL_lawnByShade_8 k1 rfl (by rw [k2]; decide) (by decide) ?_
  refine zV.goto (tgt := 15) C dL_lawnByShade_9 (by decide) ?_
  refine zV.ic (v := nI 0) C dL_lawnByShade_15 (by decide) ?_
  refine zV.iretW C F dL_lawnByShade_16 rfl ?_
  exact ⟨by rw [eA], h9, p9, by rw [eA]; try rfl⟩
set_option maxHeartbeats 4000000 in
set_option maxRecDepth 100000 in
theorem s_LwriteLawn {l : Launch} {E : zG} (hzs : zS E) (hst : l.stackTraces = false) (h : zH) (a ob : Nat) (x : Int32) (A : zAn) (P : zH → Prop) (hM : zMet l E yX9_writeLawn cX9_writeLawn 2 (some .int) ({ frames := 7, cells := 30, slots := 5806, locals := 172 } : Room) 30 5806 [.ref a, .int x] h (sQ9 h A P) (sX9 h A P)) (hk : hK h a = 13) (hob : ∀ h1, P h1 → hK h1 ob = 104 ∧ hL h1 ob = 1) (hV : ∀ v, A = .inr v → ∃ w, v = .int w) (hA : ∀ Ex, A = .inl Ex → Ex = IOB) : zMetW l E yL_writeLawn cL_writeLawn 4 (some .int) [(0, 9, 12, 13)] ({ frames := 8, cells := 30, slots := 5806, locals := 193 } : Room) 30 5806 [.ref a, .int x, .ref ob] h (lwQ A (fun Ex => 1) P ob) (fun _ _ => False) := by
  refine zMW_start hzs hst (by decide) (Nat.le_of_ble_eq_true rfl) (fun X C G F => ?_)
  show zV X 0 0 _ 0 [(0, .ref a), (1, .int x), (2, .ref ob)] []
  have xh : ∀ Ex h9, sX9 h A P Ex h9 → zVX X (0 + 30) (0 + 5806) h9 4 [(0, .ref a), (1, .int x), (2, .ref ob)] [.int (nI 0), .ref ob] Ex := by
    intro Ex h9 ⟨eA, p9⟩
    rcases hA Ex eA with rfl
    · refine zVX.catch C F [] (0, 9, 12, 13) [] rfl (fun z hz => by cases hz) (by decide) (by decide) lk_L_13 ca_java_lang_IndexOutOfBoundsException_java_lang_IndexOutOfBoundsException (fun q => ?_)
      show zV X _ _ h9 12 _ _
      refine zV.astore_n (lo' := [(0, _), (1, _), (2, _), (3, _)]) C dL_writeLawn_12 rfl (by decide) rfl rfl rfl ?_
      refine zV.ic (v := nI 1) C dL_writeLawn_13 (by decide) ?_
      refine zV.iretW C F dL_writeLawn_14 rfl ?_
      exact ⟨by rw [eA]; try rfl, h9, p9, by rw [eA]; try rfl⟩
  refine zV.aload_n C dL_writeLawn_0 rfl rfl ?_
  refine zV.ic (v := nI 0) C dL_writeLawn_1 (by decide) ?_
  refine zV.aload_n C dL_writeLawn_2 rfl rfl ?_
  refine zV.iload_n C dL_writeLawn_3 rfl ?_
  refine zV.callV (n := 1) C G dL_writeLawn_4 hM rfl ⟨cd_X9_writeLawn, lk_L_134, im_X9_writeLawn, se_X9_X9_writeLawn, in_X9⟩ ⟨⟨by decide, by decide⟩, by decide⟩ rfl rfl rfl hk ⟨rfl, by decide⟩ (zafX (fun r9 h9 q9 => ?_)) (fun Ex h9 q9 _ => xh Ex h9 q9)
  obtain ⟨⟨v9, eA, rfl⟩, p9⟩ := q9
  obtain ⟨w, rfl⟩ := hV v9 eA
  obtain ⟨k1, k2⟩ := hob h9 p9
  show zV X _ _ h9 7 _ (.int w :: .int (nI 0) :: .ref ob :: [])
  refine zV.i2l C dL_writeLawn_7 ?_
  refine zV.last (j := 0) C dL_writeLawn_8 k1 rfl (by rw [k2]; decide) (by decide) ?_
  refine zV.goto (tgt := 15) C dL_writeLawn_9 (by decide) ?_
  refine zV.ic (v := nI 0) C dL_writeLawn_15 (by decide) ?_
  refine zV.iretW C F dL_writeLawn_16 rfl ?_
  exact ⟨by rw [eA], h9, p9, by rw [eA]; try rfl⟩
set_option maxHeartbeats 4000000 in
set_option maxRecDepth 100000 in
theorem s_LoutputAt {l : Launch} {E : zG} (hzs : zS E) (hst : l.stackTraces = false) (h : zH) (a ob : Nat) (x : Int32) (A : zAn) (P : zH → Prop) (hM : zMet l E yX9_outputAt cX9_outputAt 2 (some .char) ({ frames := 6, cells := 1, slots := 6, locals := 95 } : Room) 1 6 [.ref a, .int x] h (sQ9 h A P) (sX9 h A P)) (hk : hK h a = 13) (hob : ∀ h1, P h1 → hK h1 ob = 104 ∧ hL h1 ob = 1) (hV : ∀ v, A = .inr v → ∃ w, v = .int w) (hA : ∀ Ex, A = .inl Ex → Ex = IOB) : zMetW l E yL_outputAt cL_outputAt 4 (some .int) [(0, 9, 12, 13)] ({ frames := 7, cells := 1, slots := 6, locals := 116 } : Room) 1 6 [.ref a, .int x, .ref ob] h (lwQ A (fun Ex => 1) P ob) (fun _ _ => False) := by
  refine zMW_start hzs hst (by decide) (Nat.le_of_ble_eq_true rfl) (fun X C G F => ?_)
  show zV X 0 0 _ 0 [(0, .ref a), (1, .int x), (2, .ref ob)] []
  have xh : ∀ Ex h9, sX9 h A P Ex h9 → zVX X (0 + 1) (0 + 6) h9 4 [(0, .ref a), (1, .int x), (2, .ref ob)] [.int (nI 0), .ref ob] Ex := by
    intro Ex h9 ⟨eA, p9⟩
    rcases hA Ex eA with rfl
    · refine zVX.catch C F [] (0, 9, 12, 13) [] rfl (fun z hz => by cases hz) (by decide) (by decide) lk_L_13 ca_java_lang_IndexOutOfBoundsException_java_lang_IndexOutOfBoundsException (fun q => ?_)
      show zV X _ _ h9 12 _ _
      refine zV.astore_n (lo' := [(0, _), (1, _), (2, _), (3, _)]) C dL_outputAt_12 rfl (by decide) rfl rfl rfl ?_
      refine zV.ic (v := nI 1) C dL_outputAt_13 (by decide) ?_
      refine zV.iretW C F dL_outputAt_14 rfl ?_
      exact ⟨by rw [eA]; try rfl, h9, p9, by rw [eA]; try rfl⟩
  refine zV.aload_n C dL_outputAt_0 rfl rfl ?_
  refine zV.ic (v := nI 0) C dL_outputAt_1 (by decide) ?_
  refine zV.aload_n C dL_outputAt_2 rfl rfl ?_
  refine zV.iload_n C dL_outputAt_3 rfl ?_
  refine zV.callV (n := 1) C G dL_outputAt_4 hM rfl ⟨cd_X9_outputAt, lk_L_137, im_X9_outputAt, se_X9_X9_outputAt, in_X9⟩ ⟨⟨by decide, by decide⟩, by decide⟩ rfl rfl rfl hk ⟨rfl, by decide⟩ (zafX (fun r9 h9 q9 => ?_)) (fun Ex h9 q9 _ => xh Ex h9 q9)
  obtain ⟨⟨v9, eA, rfl⟩, p9⟩ := q9
  obtain ⟨w, rfl⟩ := hV v9 eA
  obtain ⟨k1, k2⟩ := hob h9 p9
  show zV X _ _ h9 7 _ (.int w :: .int (nI 0) :: .ref ob :: [])
  refine zV.i2l C dL_outputAt_7 ?_
  refine zV.last (j := 0) C dL_outputAt_8 k1 rfl (by rw [k2]; decide) (by decide) ?_
  refine zV.goto (tgt := 15) C dL_outputAt_9 (by decide) ?_
  refine zV.ic (v := nI 0) C dL_outputAt_15 (by decide) ?_
  refine zV.iretW C F dL_outputAt_16 rfl ?_
  exact ⟨by rw [eA], h9, p9, by rw [eA]; try rfl⟩
set_option maxHeartbeats 4000000 in
set_option maxRecDepth 100000 in
theorem s_LappendInput {l : Launch} {E : zG} (hzs : zS E) (hst : l.stackTraces = false) (h : zH) (a ob : Nat) (x : Int32) (A : zAn) (P : zH → Prop) (hM : zMet l E yX9_appendInput cX9_appendInput 2 (some .int) ({ frames := 6, cells := 1, slots := 6, locals := 95 } : Room) 1 6 [.ref a, .int x] h (sQ9 h A P) (sX9 h A P)) (hk : hK h a = 13) (hob : ∀ h1, P h1 → hK h1 ob = 104 ∧ hL h1 ob = 1) (hV : ∀ v, A = .inr v → ∃ w, v = .int w) (hA : ∀ Ex, A = .inl Ex → Ex = IAE ∨ Ex = ISE) : zMetW l E yL_appendInput cL_appendInput 4 (some .int) [(0, 9, 12, 15), (0, 9, 15, 145)] ({ frames := 7, cells := 1, slots := 6, locals := 116 } : Room) 1 6 [.ref a, .int x, .ref ob] h (lwQ A (fun Ex => if Ex = IAE then 1 else 2) P ob) (fun _ _ => False) := by
  refine zMW_start hzs hst (by decide) (Nat.le_of_ble_eq_true rfl) (fun X C G F => ?_)
  show zV X 0 0 _ 0 [(0, .ref a), (1, .int x), (2, .ref ob)] []
  have xh : ∀ Ex h9, sX9 h A P Ex h9 → zVX X (0 + 1) (0 + 6) h9 4 [(0, .ref a), (1, .int x), (2, .ref ob)] [.int (nI 0), .ref ob] Ex := by
    intro Ex h9 ⟨eA, p9⟩
    rcases hA Ex eA with rfl | rfl
    · refine zVX.catch C F [] (0, 9, 12, 15) [(0, 9, 15, 145)] rfl (fun z hz => by cases hz) (by decide) (by decide) lk_L_15 ca_java_lang_IllegalArgumentException_java_lang_IllegalArgumentException (fun q => ?_)
      show zV X _ _ h9 12 _ _
      refine zV.astore_n (lo' := [(0, _), (1, _), (2, _), (3, _)]) C dL_appendInput_12 rfl (by decide) rfl rfl rfl ?_
      refine zV.ic (v := nI 1) C dL_appendInput_13 (by decide) ?_
      refine zV.iretW C F dL_appendInput_14 rfl ?_
      exact ⟨by rw [eA]; try rfl, h9, p9, by rw [eA]; try rfl⟩
    · refine zVX.catch C F [(0, 9, 12, 15)] (0, 9, 15, 145) [] rfl (fun z hz => by
        rcases List.mem_cons.mp hz with rfl | hz
        · exact ⟨by decide, _, lk_L_15, nc_ISE_IAE⟩
        cases hz) (by decide) (by decide) lk_L_145 ca_java_lang_IllegalStateException_java_lang_IllegalStateException (fun q => ?_)
      show zV X _ _ h9 15 _ _
      refine zV.astore_n (lo' := [(0, _), (1, _), (2, _), (3, _)]) C dL_appendInput_15 rfl (by decide) rfl rfl rfl ?_
      refine zV.ic (v := nI 2) C dL_appendInput_16 (by decide) ?_
      refine zV.iretW C F dL_appendInput_17 rfl ?_
      exact ⟨by rw [eA]; try rfl, h9, p9, by rw [eA]; try rfl⟩
  refine zV.aload_n C dL_appendInput_0 rfl rfl ?_
  refine zV.ic (v := nI 0) C dL_appendInput_1 (by decide) ?_
  refine zV.aload_n C dL_appendInput_2 rfl rfl ?_
  refine zV.iload_n C dL_appendInput_3 rfl ?_
  refine zV.callV (n := 1) C G dL_appendInput_4 hM rfl ⟨cd_X9_appendInput, lk_L_141, im_X9_appendInput, se_X9_X9_appendInput, in_X9⟩ ⟨⟨by decide, by decide⟩, by decide⟩ rfl rfl rfl hk ⟨rfl, by decide⟩ (zafX (fun r9 h9 q9 => ?_)) (fun Ex h9 q9 _ => xh Ex h9 q9)
  obtain ⟨⟨v9, eA, rfl⟩, p9⟩ := q9
  obtain ⟨w, rfl⟩ := hV v9 eA
  obtain ⟨k1, k2⟩ := hob h9 p9
  show zV X _ _ h9 7 _ (.int w :: .int (nI 0) :: .ref ob :: [])
  refine zV.i2l C dL_appendInput_7 ?_
  refine zV.last (j := 0) C dL_appendInput_8 k1 rfl (by rw [k2]; decide) (by decide) ?_
  refine zV.goto (tgt := 18) C dL_appendInput_9 (by decide) ?_
  refine zV.ic (v := nI 0) C dL_appendInput_18 (by decide) ?_
  refine zV.iretW C F dL_appendInput_19 rfl ?_
  exact ⟨by rw [eA], h9, p9, by rw [eA]; try rfl⟩
set_option maxHeartbeats 4000000 in
set_option maxRecDepth 100000 in
theorem s_Lexecute {l : Launch} {E : zG} (hzs : zS E) (hst : l.stackTraces = false) (h : zH) (a ob : Nat) (A : zAn) (P : zH → Prop) (hM : zMet l E yX9_execute cX9_execute 3 (some .int) ({ frames := 7, cells := 1, slots := 6, locals := 185 } : Room) 1 6 [.ref a] h (sQ9 h A P) (sX9 h A P)) (hk : hK h a = 13) (hob : ∀ h1, P h1 → hK h1 ob = 104 ∧ hL h1 ob = 1) (hV : ∀ v, A = .inr v → ∃ w, v = .int w) (hA : ∀ Ex, A = .inl Ex → Ex = IAE ∨ Ex = ISE ∨ Ex = UOE) : zMetW l E yL_execute cL_execute 3 (some .int) [(0, 8, 11, 15), (0, 8, 14, 145), (0, 8, 17, 17)] ({ frames := 8, cells := 1, slots := 6, locals := 207 } : Room) 1 6 [.ref a, .ref ob] h (lwQ A (fun Ex => if Ex = IAE then 1 else if Ex = ISE then 2 else 3) P ob) (fun _ _ => False) := by
  refine zMW_start hzs hst (by decide) (Nat.le_of_ble_eq_true rfl) (fun X C G F => ?_)
  show zV X 0 0 _ 0 [(0, .ref a), (1, .ref ob)] []
  have xh : ∀ Ex h9, sX9 h A P Ex h9 → zVX X (0 + 1) (0 + 6) h9 3 [(0, .ref a), (1, .ref ob)] [.int (nI 0), .ref ob] Ex := by
    intro Ex h9 ⟨eA, p9⟩
    rcases hA Ex eA with rfl | rfl | rfl
    · refine zVX.catch C F [] (0, 8, 11, 15) [(0, 8, 14, 145), (0, 8, 17, 17)] rfl (fun z hz => by cases hz) (by decide) (by decide) lk_L_15 ca_java_lang_IllegalArgumentException_java_lang_IllegalArgumentException (fun q => ?_)
      show zV X _ _ h9 11 _ _
      refine zV.astore_n (lo' := [(0, _), (1, _), (2, _)]) C dL_execute_11 rfl (by decide) rfl rfl rfl ?_
      refine zV.ic (v := nI 1) C dL_execute_12 (by decide) ?_
      refine zV.iretW C F dL_execute_13 rfl ?_
      exact ⟨by rw [eA]; try rfl, h9, p9, by rw [eA]; try rfl⟩
    · refine zVX.catch C F [(0, 8, 11, 15)] (0, 8, 14, 145) [(0, 8, 17, 17)] rfl (fun z hz => by
        rcases List.mem_cons.mp hz with rfl | hz
        · exact ⟨by decide, _, lk_L_15, nc_ISE_IAE⟩
        cases hz) (by decide) (by decide) lk_L_145 ca_java_lang_IllegalStateException_java_lang_IllegalStateException (fun q => ?_)
      show zV X _ _ h9 14 _ _
      refine zV.astore_n (lo' := [(0, _), (1, _), (2, _)]) C dL_execute_14 rfl (by decide) rfl rfl rfl ?_
      refine zV.ic (v := nI 2) C dL_execute_15 (by decide) ?_
      refine zV.iretW C F dL_execute_16 rfl ?_
      exact ⟨by rw [eA]; try rfl, h9, p9, by rw [eA]; try rfl⟩
    · refine zVX.catch C F [(0, 8, 11, 15), (0, 8, 14, 145)] (0, 8, 17, 17) [] rfl (fun z hz => by
        rcases List.mem_cons.mp hz with rfl | hz
        · exact ⟨by decide, _, lk_L_15, nc_UOE_IAE⟩
        rcases List.mem_cons.mp hz with rfl | hz
        · exact ⟨by decide, _, lk_L_145, nc_UOE_ISE⟩
        cases hz) (by decide) (by decide) lk_L_17 ca_java_lang_UnsupportedOperationException_java_lang_UnsupportedOperationException (fun q => ?_)
      show zV X _ _ h9 17 _ _
      refine zV.astore_n (lo' := [(0, _), (1, _), (2, _)]) C dL_execute_17 rfl (by decide) rfl rfl rfl ?_
      refine zV.ic (v := nI 3) C dL_execute_18 (by decide) ?_
      refine zV.iretW C F dL_execute_19 rfl ?_
      exact ⟨by rw [eA]; try rfl, h9, p9, by rw [eA]; try rfl⟩
  refine zV.aload_n C dL_execute_0 rfl rfl ?_
  refine zV.ic (v := nI 0) C dL_execute_1 (by decide) ?_
  refine zV.aload_n C dL_execute_2 rfl rfl ?_
  refine zV.callV (n := 0) C G dL_execute_3 hM rfl ⟨cd_X9_execute, lk_L_147, im_X9_execute, se_X9_X9_execute, in_X9⟩ ⟨⟨by decide, by decide⟩, by decide⟩ rfl rfl rfl hk ⟨rfl, by decide⟩ (zafX (fun r9 h9 q9 => ?_)) (fun Ex h9 q9 _ => xh Ex h9 q9)
  obtain ⟨⟨v9, eA, rfl⟩, p9⟩ := q9
  obtain ⟨w, rfl⟩ := hV v9 eA
  obtain ⟨k1, k2⟩ := hob h9 p9
  show zV X _ _ h9 6 _ (.int w :: .int (nI 0) :: .ref ob :: [])
  refine zV.i2l C dL_execute_6 ?_
  refine zV.last (j := 0) C dL_execute_7 k1 rfl (by rw [k2]; decide) (by decide) ?_
  refine zV.goto (tgt := 20) C dL_execute_8 (by decide) ?_
  refine zV.ic (v := nI 0) C dL_execute_20 (by decide) ?_
  refine zV.iretW C F dL_execute_21 rfl ?_
  exact ⟨by rw [eA], h9, p9, by rw [eA]; try rfl⟩
set_option maxHeartbeats 4000000 in
set_option maxRecDepth 100000 in
theorem s_LsyntaxErrorOffset {l : Launch} {E : zG} (hzs : zS E) (hst : l.stackTraces = false) (h : zH) (a ob : Nat) (A : zAn) (P : zH → Prop) (hM : zMet l E yX9_syntaxErrorOffset cX9_syntaxErrorOffset 1 (some .int) ({ frames := 7, cells := 1, slots := 6, locals := 115 } : Room) 1 6 [.ref a] h (sQ9 h A P) (sX9 h A P)) (hk : hK h a = 13) (hob : ∀ h1, P h1 → hK h1 ob = 104 ∧ hL h1 ob = 1) (hV : ∀ v, A = .inr v → ∃ w, v = .int w) (hA : ∀ Ex, A = .inl Ex → Ex = NSE) : zMetW l E yL_syntaxErrorOffset cL_syntaxErrorOffset 3 (some .int) [(0, 8, 11, 29)] ({ frames := 8, cells := 1, slots := 6, locals := 135 } : Room) 1 6 [.ref a, .ref ob] h (lwQ A (fun Ex => 1) P ob) (fun _ _ => False) := by
  refine zMW_start hzs hst (by decide) (Nat.le_of_ble_eq_true rfl) (fun X C G F => ?_)
  show zV X 0 0 _ 0 [(0, .ref a), (1, .ref ob)] []
  have xh : ∀ Ex h9, sX9 h A P Ex h9 → zVX X (0 + 1) (0 + 6) h9 3 [(0, .ref a), (1, .ref ob)] [.int (nI 0), .ref ob] Ex := by
    intro Ex h9 ⟨eA, p9⟩
    rcases hA Ex eA with rfl
    · refine zVX.catch C F [] (0, 8, 11, 29) [] rfl (fun z hz => by cases hz) (by decide) (by decide) lk_L_29 ca_java_util_NoSuchElementException_java_util_NoSuchElementException (fun q => ?_)
      show zV X _ _ h9 11 _ _
      refine zV.astore_n (lo' := [(0, _), (1, _), (2, _)]) C dL_syntaxErrorOffset_11 rfl (by decide) rfl rfl rfl ?_
      refine zV.ic (v := nI 1) C dL_syntaxErrorOffset_12 (by decide) ?_
      refine zV.iretW C F dL_syntaxErrorOffset_13 rfl ?_
      exact ⟨by rw [eA]; try rfl, h9, p9, by rw [eA]; try rfl⟩
  refine zV.aload_n C dL_syntaxErrorOffset_0 rfl rfl ?_
  refine zV.ic (v := nI 0) C dL_syntaxErrorOffset_1 (by decide) ?_
  refine zV.aload_n C dL_syntaxErrorOffset_2 rfl rfl ?_
  refine zV.callV (n := 0) C G dL_syntaxErrorOffset_3 hM rfl ⟨cd_X9_syntaxErrorOffset, lk_L_151, im_X9_syntaxErrorOffset, se_X9_X9_syntaxErrorOffset, in_X9⟩ ⟨⟨by decide, by decide⟩, by decide⟩ rfl rfl rfl hk ⟨rfl, by decide⟩ (zafX (fun r9 h9 q9 => ?_)) (fun Ex h9 q9 _ => xh Ex h9 q9)
  obtain ⟨⟨v9, eA, rfl⟩, p9⟩ := q9
  obtain ⟨w, rfl⟩ := hV v9 eA
  obtain ⟨k1, k2⟩ := hob h9 p9
  show zV X _ _ h9 6 _ (.int w :: .int (nI 0) :: .ref ob :: [])
  refine zV.i2l C dL_syntaxErrorOffset_6 ?_
  refine zV.last (j := 0) C dL_syntaxErrorOffset_7 k1 rfl (by rw [k2]; decide) (by decide) ?_
  refine zV.goto (tgt := 14) C dL_syntaxErrorOffset_8 (by decide) ?_
  refine zV.ic (v := nI 0) C dL_syntaxErrorOffset_14 (by decide) ?_
  refine zV.iretW C F dL_syntaxErrorOffset_15 rfl ?_
  exact ⟨by rw [eA], h9, p9, by rw [eA]; try rfl⟩
set_option maxHeartbeats 4000000 in
set_option maxRecDepth 100000 in
theorem s_LrejectionReason {l : Launch} {E : zG} (hzs : zS E) (hst : l.stackTraces = false) (h : zH) (a ob : Nat) (A : zAn) (P : zH → Prop) (hM : zMet l E yX9_rejectionReason cX9_rejectionReason 1 (some .int) ({ frames := 7, cells := 1, slots := 6, locals := 115 } : Room) 1 6 [.ref a] h (sQ9 h A P) (sX9 h A P)) (hk : hK h a = 13) (hob : ∀ h1, P h1 → hK h1 ob = 104 ∧ hL h1 ob = 1) (hV : ∀ v, A = .inr v → ∃ w, v = .int w) (hA : ∀ Ex, A = .inl Ex → Ex = NSE) : zMetW l E yL_rejectionReason cL_rejectionReason 3 (some .int) [(0, 8, 11, 29)] ({ frames := 8, cells := 1, slots := 6, locals := 135 } : Room) 1 6 [.ref a, .ref ob] h (lwQ A (fun Ex => 1) P ob) (fun _ _ => False) := by
  refine zMW_start hzs hst (by decide) (Nat.le_of_ble_eq_true rfl) (fun X C G F => ?_)
  show zV X 0 0 _ 0 [(0, .ref a), (1, .ref ob)] []
  have xh : ∀ Ex h9, sX9 h A P Ex h9 → zVX X (0 + 1) (0 + 6) h9 3 [(0, .ref a), (1, .ref ob)] [.int (nI 0), .ref ob] Ex := by
    intro Ex h9 ⟨eA, p9⟩
    rcases hA Ex eA with rfl
    · refine zVX.catch C F [] (0, 8, 11, 29) [] rfl (fun z hz => by cases hz) (by decide) (by decide) lk_L_29 ca_java_util_NoSuchElementException_java_util_NoSuchElementException (fun q => ?_)
      show zV X _ _ h9 11 _ _
      refine zV.astore_n (lo' := [(0, _), (1, _), (2, _)]) C dL_rejectionReason_11 rfl (by decide) rfl rfl rfl ?_
      refine zV.ic (v := nI 1) C dL_rejectionReason_12 (by decide) ?_
      refine zV.iretW C F dL_rejectionReason_13 rfl ?_
      exact ⟨by rw [eA]; try rfl, h9, p9, by rw [eA]; try rfl⟩
  refine zV.aload_n C dL_rejectionReason_0 rfl rfl ?_
  refine zV.ic (v := nI 0) C dL_rejectionReason_1 (by decide) ?_
  refine zV.aload_n C dL_rejectionReason_2 rfl rfl ?_
  refine zV.callV (n := 0) C G dL_rejectionReason_3 hM rfl ⟨cd_X9_rejectionReason, lk_L_154, im_X9_rejectionReason, se_X9_X9_rejectionReason, in_X9⟩ ⟨⟨by decide, by decide⟩, by decide⟩ rfl rfl rfl hk ⟨rfl, by decide⟩ (zafX (fun r9 h9 q9 => ?_)) (fun Ex h9 q9 _ => xh Ex h9 q9)
  obtain ⟨⟨v9, eA, rfl⟩, p9⟩ := q9
  obtain ⟨w, rfl⟩ := hV v9 eA
  obtain ⟨k1, k2⟩ := hob h9 p9
  show zV X _ _ h9 6 _ (.int w :: .int (nI 0) :: .ref ob :: [])
  refine zV.i2l C dL_rejectionReason_6 ?_
  refine zV.last (j := 0) C dL_rejectionReason_7 k1 rfl (by rw [k2]; decide) (by decide) ?_
  refine zV.goto (tgt := 14) C dL_rejectionReason_8 (by decide) ?_
  refine zV.ic (v := nI 0) C dL_rejectionReason_14 (by decide) ?_
  refine zV.iretW C F dL_rejectionReason_15 rfl ?_
  exact ⟨by rw [eA], h9, p9, by rw [eA]; try rfl⟩
set_option maxHeartbeats 4000000 in
set_option maxRecDepth 100000 in
theorem s_LrejectionDetail {l : Launch} {E : zG} (hzs : zS E) (hst : l.stackTraces = false) (h : zH) (a ob : Nat) (A : zAn) (P : zH → Prop) (hM : zMet l E yX9_rejectionDetail cX9_rejectionDetail 1 (some .int) ({ frames := 7, cells := 1, slots := 6, locals := 115 } : Room) 1 6 [.ref a] h (sQ9 h A P) (sX9 h A P)) (hk : hK h a = 13) (hob : ∀ h1, P h1 → hK h1 ob = 104 ∧ hL h1 ob = 1) (hV : ∀ v, A = .inr v → ∃ w, v = .int w) (hA : ∀ Ex, A = .inl Ex → Ex = NSE) : zMetW l E yL_rejectionDetail cL_rejectionDetail 3 (some .int) [(0, 8, 11, 29)] ({ frames := 8, cells := 1, slots := 6, locals := 135 } : Room) 1 6 [.ref a, .ref ob] h (lwQ A (fun Ex => 1) P ob) (fun _ _ => False) := by
  refine zMW_start hzs hst (by decide) (Nat.le_of_ble_eq_true rfl) (fun X C G F => ?_)
  show zV X 0 0 _ 0 [(0, .ref a), (1, .ref ob)] []
  have xh : ∀ Ex h9, sX9 h A P Ex h9 → zVX X (0 + 1) (0 + 6) h9 3 [(0, .ref a), (1, .ref ob)] [.int (nI 0), .ref ob] Ex := by
    intro Ex h9 ⟨eA, p9⟩
    rcases hA Ex eA with rfl
    · refine zVX.catch C F [] (0, 8, 11, 29) [] rfl (fun z hz => by cases hz) (by decide) (by decide) lk_L_29 ca_java_util_NoSuchElementException_java_util_NoSuchElementException (fun q => ?_)
      show zV X _ _ h9 11 _ _
      refine zV.astore_n (lo' := [(0, _), (1, _), (2, _)]) C dL_rejectionDetail_11 rfl (by decide) rfl rfl rfl ?_
      refine zV.ic (v := nI 1) C dL_rejectionDetail_12 (by decide) ?_
      refine zV.iretW C F dL_rejectionDetail_13 rfl ?_
      exact ⟨by rw [eA]; try rfl, h9, p9, by rw [eA]; try rfl⟩
  refine zV.aload_n C dL_rejectionDetail_0 rfl rfl ?_
  refine zV.ic (v := nI 0) C dL_rejectionDetail_1 (by decide) ?_
  refine zV.aload_n C dL_rejectionDetail_2 rfl rfl ?_
  refine zV.callV (n := 0) C G dL_rejectionDetail_3 hM rfl ⟨cd_X9_rejectionDetail, lk_L_157, im_X9_rejectionDetail, se_X9_X9_rejectionDetail, in_X9⟩ ⟨⟨by decide, by decide⟩, by decide⟩ rfl rfl rfl hk ⟨rfl, by decide⟩ (zafX (fun r9 h9 q9 => ?_)) (fun Ex h9 q9 _ => xh Ex h9 q9)
  obtain ⟨⟨v9, eA, rfl⟩, p9⟩ := q9
  obtain ⟨w, rfl⟩ := hV v9 eA
  obtain ⟨k1, k2⟩ := hob h9 p9
  show zV X _ _ h9 6 _ (.int w :: .int (nI 0) :: .ref ob :: [])
  refine zV.i2l C dL_rejectionDetail_6 ?_
  refine zV.last (j := 0) C dL_rejectionDetail_7 k1 rfl (by rw [k2]; decide) (by decide) ?_
  refine zV.goto (tgt := 14) C dL_rejectionDetail_8 (by decide) ?_
  refine zV.ic (v := nI 0) C dL_rejectionDetail_14 (by decide) ?_
  refine zV.iretW C F dL_rejectionDetail_15 rfl ?_
  exact ⟨by rw [eA], h9, p9, by rw [eA]; try rfl⟩
set_option maxHeartbeats 4000000 in
set_option maxRecDepth 100000 in
theorem s_LcauseReason {l : Launch} {E : zG} (hzs : zS E) (hst : l.stackTraces = false) (h : zH) (a ob : Nat) (A : zAn) (P : zH → Prop) (hM : zMet l E yX9_causeReason cX9_causeReason 1 (some .int) ({ frames := 6, cells := 1, slots := 6, locals := 95 } : Room) 1 6 [.ref a] h (sQ9 h A P) (sX9 h A P)) (hk : hK h a = 13) (hob : ∀ h1, P h1 → hK h1 ob = 104 ∧ hL h1 ob = 1) (hV : ∀ v, A = .inr v → ∃ w, v = .int w) (hA : ∀ Ex, A = .inl Ex → Ex = NSE) : zMetW l E yL_causeReason cL_causeReason 3 (some .int) [(0, 8, 11, 29)] ({ frames := 7, cells := 1, slots := 6, locals := 115 } : Room) 1 6 [.ref a, .ref ob] h (lwQ A (fun Ex => 1) P ob) (fun _ _ => False) := by
  refine zMW_start hzs hst (by decide) (Nat.le_of_ble_eq_true rfl) (fun X C G F => ?_)
  show zV X 0 0 _ 0 [(0, .ref a), (1, .ref ob)] []
  have xh : ∀ Ex h9, sX9 h A P Ex h9 → zVX X (0 + 1) (0 + 6) h9 3 [(0, .ref a), (1, .ref ob)] [.int (nI 0), .ref ob] Ex := by
    intro Ex h9 ⟨eA, p9⟩
    rcases hA Ex eA with rfl
    · refine zVX.catch C F [] (0, 8, 11, 29) [] rfl (fun z hz => by cases hz) (by decide) (by decide) lk_L_29 ca_java_util_NoSuchElementException_java_util_NoSuchElementException (fun q => ?_)
      show zV X _ _ h9 11 _ _
      refine zV.astore_n (lo' := [(0, _), (1, _), (2, _)]) C dL_causeReason_11 rfl (by decide) rfl rfl rfl ?_
      refine zV.ic (v := nI 1) C dL_causeReason_12 (by decide) ?_
      refine zV.iretW C F dL_causeReason_13 rfl ?_
      exact ⟨by rw [eA]; try rfl, h9, p9, by rw [eA]; try rfl⟩
  refine zV.aload_n C dL_causeReason_0 rfl rfl ?_
  refine zV.ic (v := nI 0) C dL_causeReason_1 (by decide) ?_
  refine zV.aload_n C dL_causeReason_2 rfl rfl ?_
  refine zV.callV (n := 0) C G dL_causeReason_3 hM rfl ⟨cd_X9_causeReason, lk_L_160, im_X9_causeReason, se_X9_X9_causeReason, in_X9⟩ ⟨⟨by decide, by decide⟩, by decide⟩ rfl rfl rfl hk ⟨rfl, by decide⟩ (zafX (fun r9 h9 q9 => ?_)) (fun Ex h9 q9 _ => xh Ex h9 q9)
  obtain ⟨⟨v9, eA, rfl⟩, p9⟩ := q9
  obtain ⟨w, rfl⟩ := hV v9 eA
  obtain ⟨k1, k2⟩ := hob h9 p9
  show zV X _ _ h9 6 _ (.int w :: .int (nI 0) :: .ref ob :: [])
  refine zV.i2l C dL_causeReason_6 ?_
  refine zV.last (j := 0) C dL_causeReason_7 k1 rfl (by rw [k2]; decide) (by decide) ?_
  refine zV.goto (tgt := 14) C dL_causeReason_8 (by decide) ?_
  refine zV.ic (v := nI 0) C dL_causeReason_14 (by decide) ?_
  refine zV.iretW C F dL_causeReason_15 rfl ?_
  exact ⟨by rw [eA], h9, p9, by rw [eA]; try rfl⟩
set_option maxHeartbeats 4000000 in
set_option maxRecDepth 100000 in
theorem s_Lundo {l : Launch} {E : zG} (hzs : zS E) (hst : l.stackTraces = false) (h : zH) (a ob : Nat) (A : zAn) (P : zH → Prop) (hM : zMet l E yX9_undo cX9_undo 1 (some .int) ({ frames := 6, cells := 1, slots := 6, locals := 185 } : Room) 1 6 [.ref a] h (sQ9 h A P) (sX9 h A P)) (hk : hK h a = 13) (hob : ∀ h1, P h1 → hK h1 ob = 104 ∧ hL h1 ob = 1) (hV : ∀ v, A = .inr v → ∃ w, v = .int w) (hA : ∀ Ex, A = .inl Ex → Ex = ISE) : zMetW l E yL_undo cL_undo 3 (some .int) [(0, 8, 11, 145)] ({ frames := 7, cells := 1, slots := 6, locals := 205 } : Room) 1 6 [.ref a, .ref ob] h (lwQ A (fun Ex => 1) P ob) (fun _ _ => False) := by
  refine zMW_start hzs hst (by decide) (Nat.le_of_ble_eq_true rfl) (fun X C G F => ?_)
  show zV X 0 0 _ 0 [(0, .ref a), (1, .ref ob)] []
  have xh : ∀ Ex h9, sX9 h A P Ex h9 → zVX X (0 + 1) (0 + 6) h9 3 [(0, .ref a), (1, .ref ob)] [.int (nI 0), .ref ob] Ex := by
    intro Ex h9 ⟨eA, p9⟩
    rcases hA Ex eA with rfl
    · refine zVX.catch C F [] (0, 8, 11, 145) [] rfl (fun z hz => by cases hz) (by decide) (by decide) lk_L_145 ca_java_lang_IllegalStateException_java_lang_IllegalStateException (fun q => ?_)
      show zV X _ _ h9 11 _ _
      refine zV.astore_n (lo' := [(0, _), (1, _), (2, _)]) C dL_undo_11 rfl (by decide) rfl rfl rfl ?_
      refine zV.ic (v := nI 1) C dL_undo_12 (by decide) ?_
      refine zV.iretW C F dL_undo_13 rfl ?_
      exact ⟨by rw [eA]; try rfl, h9, p9, by rw [eA]; try rfl⟩
  refine zV.aload_n C dL_undo_0 rfl rfl ?_
  refine zV.ic (v := nI 0) C dL_undo_1 (by decide) ?_
  refine zV.aload_n C dL_undo_2 rfl rfl ?_
  refine zV.callV (n := 0) C G dL_undo_3 hM rfl ⟨cd_X9_undo, lk_L_163, im_X9_undo, se_X9_X9_undo, in_X9⟩ ⟨⟨by decide, by decide⟩, by decide⟩ rfl rfl rfl hk ⟨rfl, by decide⟩ (zafX (fun r9 h9 q9 => ?_)) (fun Ex h9 q9 _ => xh Ex h9 q9)
  obtain ⟨⟨v9, eA, rfl⟩, p9⟩ := q9
  obtain ⟨w, rfl⟩ := hV v9 eA
  obtain ⟨k1, k2⟩ := hob h9 p9
  show zV X _ _ h9 6 _ (.int w :: .int (nI 0) :: .ref ob :: [])
  refine zV.i2l C dL_undo_6 ?_
  refine zV.last (j := 0) C dL_undo_7 k1 rfl (by rw [k2]; decide) (by decide) ?_
  refine zV.goto (tgt := 14) C dL_undo_8 (by decide) ?_
  refine zV.ic (v := nI 0) C dL_undo_14 (by decide) ?_
  refine zV.iretW C F dL_undo_15 rfl ?_
  exact ⟨by rw [eA], h9, p9, by rw [eA]; try rfl⟩
set_option maxHeartbeats 4000000 in
set_option maxRecDepth 100000 in
theorem s_LrestoreSnapshot {l : Launch} {E : zG} (hzs : zS E) (hst : l.stackTraces = false) (h : zH) (a ob : Nat) (A : zAn) (P : zH → Prop) (hM : zMet l E yX9_restoreSnapshot cX9_restoreSnapshot 1 (some .int) ({ frames := 6, cells := 1, slots := 6, locals := 164 } : Room) 1 6 [.ref a] h (sQ9 h A P) (sX9 h A P)) (hk : hK h a = 13) (hob : ∀ h1, P h1 → hK h1 ob = 104 ∧ hL h1 ob = 1) (hV : ∀ v, A = .inr v → ∃ w, v = .int w) (hA : ∀ Ex, A = .inl Ex → Ex = ISE) : zMetW l E yL_restoreSnapshot cL_restoreSnapshot 3 (some .int) [(0, 8, 11, 145)] ({ frames := 7, cells := 1, slots := 6, locals := 184 } : Room) 1 6 [.ref a, .ref ob] h (lwQ A (fun Ex => 1) P ob) (fun _ _ => False) := by
  refine zMW_start hzs hst (by decide) (Nat.le_of_ble_eq_true rfl) (fun X C G F => ?_)
  show zV X 0 0 _ 0 [(0, .ref a), (1, .ref ob)] []
  have xh : ∀ Ex h9, sX9 h A P Ex h9 → zVX X (0 + 1) (0 + 6) h9 3 [(0, .ref a), (1, .ref ob)] [.int (nI 0), .ref ob] Ex := by
    intro Ex h9 ⟨eA, p9⟩
    rcases hA Ex eA with rfl
    · refine zVX.catch C F [] (0, 8, 11, 145) [] rfl (fun z hz => by cases hz) (by decide) (by decide) lk_L_145 ca_java_lang_IllegalStateException_java_lang_IllegalStateException (fun q => ?_)
      show zV X _ _ h9 11 _ _
      refine zV.astore_n (lo' := [(0, _), (1, _), (2, _)]) C dL_restoreSnapshot_11 rfl (by decide) rfl rfl rfl ?_
      refine zV.ic (v := nI 1) C dL_restoreSnapshot_12 (by decide) ?_
      refine zV.iretW C F dL_restoreSnapshot_13 rfl ?_
      exact ⟨by rw [eA]; try rfl, h9, p9, by rw [eA]; try rfl⟩
  refine zV.aload_n C dL_restoreSnapshot_0 rfl rfl ?_
  refine zV.ic (v := nI 0) C dL_restoreSnapshot_1 (by decide) ?_
  refine zV.aload_n C dL_restoreSnapshot_2 rfl rfl ?_
  refine zV.callV (n := 0) C G dL_restoreSnapshot_3 hM rfl ⟨cd_X9_restoreSnapshot, lk_L_166, im_X9_restoreSnapshot, se_X9_X9_restoreSnapshot, in_X9⟩ ⟨⟨by decide, by decide⟩, by decide⟩ rfl rfl rfl hk ⟨rfl, by decide⟩ (zafX (fun r9 h9 q9 => ?_)) (fun Ex h9 q9 _ => xh Ex h9 q9)
  obtain ⟨⟨v9, eA, rfl⟩, p9⟩ := q9
  obtain ⟨w, rfl⟩ := hV v9 eA
  obtain ⟨k1, k2⟩ := hob h9 p9
  show zV X _ _ h9 6 _ (.int w :: .int (nI 0) :: .ref ob :: [])
  refine zV.i2l C dL_restoreSnapshot_6 ?_
  refine zV.last (j := 0) C dL_restoreSnapshot_7 k1 rfl (by rw [k2]; decide) (by decide) ?_
  refine zV.goto (tgt := 14) C dL_restoreSnapshot_8 (by decide) ?_
  refine zV.ic (v := nI 0) C dL_restoreSnapshot_14 (by decide) ?_
  refine zV.iretW C F dL_restoreSnapshot_15 rfl ?_
  exact ⟨by rw [eA], h9, p9, by rw [eA]; try rfl⟩
