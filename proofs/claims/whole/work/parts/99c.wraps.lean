/-! the wrappers of the law -/
theorem nc_IAE_IOB : zNc "java/lang/IllegalArgumentException" "java/lang/IndexOutOfBoundsException" := List.mem_of_getElem? (i := 228) (by decide +kernel)
theorem nc_UOE_IOB : zNc "java/lang/UnsupportedOperationException" "java/lang/IndexOutOfBoundsException" := List.mem_of_getElem? (i := 229) (by decide +kernel)
theorem nc_UOE_IAE : zNc "java/lang/UnsupportedOperationException" "java/lang/IllegalArgumentException" := List.mem_of_getElem? (i := 247) (by decide +kernel)
theorem nc_UOE_ISE : zNc "java/lang/UnsupportedOperationException" "java/lang/IllegalStateException" := List.mem_of_getElem? (i := 324) (by decide +kernel)
theorem nc_NSE_IOB : zNc "java/util/NoSuchElementException" "java/lang/IndexOutOfBoundsException" := List.mem_of_getElem? (i := 230) (by decide +kernel)
theorem nc_ISE_IAE : zNc "java/lang/IllegalStateException" "java/lang/IllegalArgumentException" := List.mem_of_getElem? (i := 252) (by decide +kernel)
/-- what a wrapper answers: the code, and the value in the cell ob *)-/
def lwH (A : zAn) (ob : Nat) (h1 : zH) : zH := match A with
  | .inr (.int w) => saJ h1 ob 0 w.toInt64
  | _ => h1
def lwQ (A : zAn) (cf : String → Nat) (P : zH → Prop) (ob : Nat) : Option Value → zH → Prop := fun r h' => r = some (.int (nI (match A with | .inl Ex => cf Ex | .inr _ => 0))) ∧ ∃ h1, P h1 ∧ h' = lwH A ob h1
set_option maxHeartbeats 4000000 in
set_option maxRecDepth 100000 in
theorem s_LaddPath {l : Launch} {E : zG} (hzs : zS E) (hst : l.stackTraces = false) (h : zH) (a ob : Nat) (x : Int32) (y : Int32) (A : zAn) (P : zH → Prop) (hM : zMet l E yX9_addPath cX9_addPath 3 (some .int) ({ frames := 7, cells := 1, slots := 6, locals := 209 } : Room) 1 6 [.ref a, .int x, .int y] h (sQ9 h A P) (sX9 h A P)) (hk : hK h a = 13) (hob : ∀ h1, P h1 → hK h1 ob = 104 ∧ hL h1 ob = 1) (hV : ∀ v, A = .inr v → ∃ w, v = .int w) (hA : ∀ Ex, A = .inl Ex → Ex = IOB ∨ Ex = IAE ∨ Ex = UOE) : zMetW l E yL_addPath cL_addPath 5 (some .int) [(0, 10, 13, 13), (0, 10, 17, 15), (0, 10, 21, 17)] ({ frames := 8, cells := 1, slots := 6, locals := 231 } : Room) 1 6 [.ref a, .int x, .int y, .ref ob] h (lwQ A (fun Ex => if Ex = IOB then 1 else if Ex = IAE then 2 else 3) P ob) (fun _ _ => False) := by
  refine zMW_start hzs hst (by decide) (Nat.le_of_ble_eq_true rfl) (fun X C G F => ?_)
  show zV X 0 0 _ 0 [(0, .ref a), (1, .int x), (2, .int y), (3, .ref ob)] []
  have xh : ∀ Ex h9, sX9 h A P Ex h9 → zVX X (0 + 1) (0 + 6) h9 5 [(0, .ref a), (1, .int x), (2, .int y), (3, .ref ob)] [.int (nI 0), .ref ob] Ex := by
    intro Ex h9 ⟨eA, p9⟩
    rcases hA Ex eA with rfl | rfl | rfl
    · refine zVX.catch C F [] (0, 10, 13, 13) [(0, 10, 17, 15), (0, 10, 21, 17)] rfl (fun z hz => by cases hz) (by decide) (by decide) lk_L_13 ca_java_lang_IndexOutOfBoundsException_java_lang_IndexOutOfBoundsException (fun q => ?_)
      show zV X _ _ h9 13 _ _
      refine zV.astore (lo' := [(0, _), (1, _), (2, _), (3, _), (4, _)]) C dL_addPath_13 rfl (by decide) rfl rfl rfl ?_
      refine zV.ic (v := nI 1) C dL_addPath_15 (by decide) ?_
      refine zV.iretW C F dL_addPath_16 rfl ?_
      exact ⟨by rw [eA]; try rfl, h9, p9, by rw [eA]; try rfl⟩
    · refine zVX.catch C F [(0, 10, 13, 13)] (0, 10, 17, 15) [(0, 10, 21, 17)] rfl (fun z hz => by
        rcases List.mem_cons.mp hz with rfl | hz
        · exact ⟨by decide, _, lk_L_13, nc_IAE_IOB⟩
        cases hz) (by decide) (by decide) lk_L_15 ca_java_lang_IllegalArgumentException_java_lang_IllegalArgumentException (fun q => ?_)
      show zV X _ _ h9 17 _ _
      refine zV.astore (lo' := [(0, _), (1, _), (2, _), (3, _), (4, _)]) C dL_addPath_17 rfl (by decide) rfl rfl rfl ?_
      refine zV.ic (v := nI 2) C dL_addPath_19 (by decide) ?_
      refine zV.iretW C F dL_addPath_20 rfl ?_
      exact ⟨by rw [eA]; try rfl, h9, p9, by rw [eA]; try rfl⟩
    · refine zVX.catch C F [(0, 10, 13, 13), (0, 10, 17, 15)] (0, 10, 21, 17) [] rfl (fun z hz => by
        rcases List.mem_cons.mp hz with rfl | hz
        · exact ⟨by decide, _, lk_L_13, nc_UOE_IOB⟩
        rcases List.mem_cons.mp hz with rfl | hz
        · exact ⟨by decide, _, lk_L_15, nc_UOE_IAE⟩
        cases hz) (by decide) (by decide) lk_L_17 ca_java_lang_UnsupportedOperationException_java_lang_UnsupportedOperationException (fun q => ?_)
      show zV X _ _ h9 21 _ _
      refine zV.astore (lo' := [(0, _), (1, _), (2, _), (3, _), (4, _)]) C dL_addPath_21 rfl (by decide) rfl rfl rfl ?_
      refine zV.ic (v := nI 3) C dL_addPath_23 (by decide) ?_
      refine zV.iretW C F dL_addPath_24 rfl ?_
      exact ⟨by rw [eA]; try rfl, h9, p9, by rw [eA]; try rfl⟩
  refine zV.aload_n C dL_addPath_0 rfl rfl ?_
  refine zV.ic (v := nI 0) C dL_addPath_1 (by decide) ?_
  refine zV.aload_n C dL_addPath_2 rfl rfl ?_
  refine zV.iload_n C dL_addPath_3 rfl ?_
  refine zV.iload_n C dL_addPath_4 rfl ?_
  refine zV.callV (n := 2) C G dL_addPath_5 hM rfl ⟨cd_X9_addPath, lk_L_7, im_X9_addPath, se_X9_X9_addPath, in_X9⟩ ⟨⟨by decide, by decide⟩, by decide⟩ rfl rfl rfl hk ⟨rfl, by decide⟩ (zafX (fun r9 h9 q9 => ?_)) (fun Ex h9 q9 _ => xh Ex h9 q9)
  obtain ⟨⟨v9, eA, rfl⟩, p9⟩ := q9
  obtain ⟨w, rfl⟩ := hV v9 eA
  obtain ⟨k1, k2⟩ := hob h9 p9
  show zV X _ _ h9 8 _ (.int w :: .int (nI 0) :: .ref ob :: [])
  refine zV.i2l C dL_addPath_8 ?_
  refine zV.last (j := 0) C dL_addPath_9 k1 rfl (by rw [k2]; decide) (by decide) ?_
  refine zV.goto (tgt := 25) C dL_addPath_10 (by decide) ?_
  refine zV.ic (v := nI 0) C dL_addPath_25 (by decide) ?_
  refine zV.iretW C F dL_addPath_26 rfl ?_
  exact ⟨by rw [eA], h9, p9, by rw [eA]; try rfl⟩
set_option maxHeartbeats 4000000 in
set_option maxRecDepth 100000 in
theorem s_LlawnOf {l : Launch} {E : zG} (hzs : zS E) (hst : l.stackTraces = false) (h : zH) (a ob : Nat) (x : Int32) (A : zAn) (P : zH → Prop) (hM : zMet l E yX9_lawnOf cX9_lawnOf 2 (some .int) ({ frames := 7, cells := 1, slots := 6, locals := 117 } : Room) 1 6 [.ref a, .int x] h (sQ9 h A P) (sX9 h A P)) (hk : hK h a = 13) (hob : ∀ h1, P h1 → hK h1 ob = 104 ∧ hL h1 ob = 1) (hV : ∀ v, A = .inr v → ∃ w, v = .int w) (hA : ∀ Ex, A = .inl Ex → Ex = IOB) : zMetW l E yL_lawnOf cL_lawnOf 4 (some .int) [(0, 9, 12, 13)] ({ frames := 8, cells := 1, slots := 6, locals := 138 } : Room) 1 6 [.ref a, .int x, .ref ob] h (lwQ A (fun Ex => 1) P ob) (fun _ _ => False) := by
  refine zMW_start hzs hst (by decide) (Nat.le_of_ble_eq_true rfl) (fun X C G F => ?_)
  show zV X 0 0 _ 0 [(0, .ref a), (1, .int x), (2, .ref ob)] []
  have xh : ∀ Ex h9, sX9 h A P Ex h9 → zVX X (0 + 1) (0 + 6) h9 4 [(0, .ref a), (1, .int x), (2, .ref ob)] [.int (nI 0), .ref ob] Ex := by
    intro Ex h9 ⟨eA, p9⟩
    rcases hA Ex eA with rfl
    · refine zVX.catch C F [] (0, 9, 12, 13) [] rfl (fun z hz => by cases hz) (by decide) (by decide) lk_L_13 ca_java_lang_IndexOutOfBoundsException_java_lang_IndexOutOfBoundsException (fun q => ?_)
      show zV X _ _ h9 12 _ _
      refine zV.astore_n (lo' := [(0, _), (1, _), (2, _), (3, _)]) C dL_lawnOf_12 rfl (by decide) rfl rfl rfl ?_
      refine zV.ic (v := nI 1) C dL_lawnOf_13 (by decide) ?_
      refine zV.iretW C F dL_lawnOf_14 rfl ?_
      exact ⟨by rw [eA]; try rfl, h9, p9, by rw [eA]; try rfl⟩
  refine zV.aload_n C dL_lawnOf_0 rfl rfl ?_
  refine zV.ic (v := nI 0) C dL_lawnOf_1 (by decide) ?_
  refine zV.aload_n C dL_lawnOf_2 rfl rfl ?_
  refine zV.iload_n C dL_lawnOf_3 rfl ?_
  refine zV.callV (n := 1) C G dL_lawnOf_4 hM rfl ⟨cd_X9_lawnOf, lk_L_72, im_X9_lawnOf, se_X9_X9_lawnOf, in_X9⟩ ⟨⟨by decide, by decide⟩, by decide⟩ rfl rfl rfl hk ⟨rfl, by decide⟩ (zafX (fun r9 h9 q9 => ?_)) (fun Ex h9 q9 _ => xh Ex h9 q9)
  obtain ⟨⟨v9, eA, rfl⟩, p9⟩ := q9
  obtain ⟨w, rfl⟩ := hV v9 eA
  obtain ⟨k1, k2⟩ := hob h9 p9
  show zV X _ _ h9 7 _ (.int w :: .int (nI 0) :: .ref ob :: [])
  refine zV.i2l C dL_lawnOf_7 ?_
  refine zV.last (j := 0) C dL_lawnOf_8 k1 rfl (by rw [k2]; decide) (by decide) ?_
  refine zV.goto (tgt := 15) C dL_lawnOf_9 (by decide) ?_
  refine zV.ic (v := nI 0) C dL_lawnOf_15 (by decide) ?_
  refine zV.iretW C F dL_lawnOf_16 rfl ?_
  exact ⟨by rw [eA], h9, p9, by rw [eA]; try rfl⟩
set_option maxHeartbeats 4000000 in
set_option maxRecDepth 100000 in
theorem s_Lexecute {l : Launch} {E : zG} (hzs : zS E) (hst : l.stackTraces = false) (h : zH) (a ob : Nat) (A : zAn) (P : zH → Prop) (hM : zMet l E yX9_execute cX9_execute 3 (some .int) ({ frames := 7, cells := 1, slots := 6, locals := 185 } : Room) 1 6 [.ref a] h (sQ9 h A P) (sX9 h A P)) (hk : hK h a = 13) (hob : ∀ h1, P h1 → hK h1 ob = 104 ∧ hL h1 ob = 1) (hV : ∀ v, A = .inr v → ∃ w, v = .int w) (hA : ∀ Ex, A = .inl Ex → Ex = IAE ∨ Ex = ISE ∨ Ex = UOE) : zMetW l E yL_execute cL_execute 3 (some .int) [(0, 8, 11, 15), (0, 8, 14, 145), (0, 8, 17, 17)] ({ frames := 8, cells := 1, slots := 6, locals := 207 } : Room) 1 6 [.ref a, .ref ob] h (lwQ A (fun Ex => if Ex = IAE then 1 else if Ex = ISE then 2 else 3) P ob) (fun _ _ => False) := by
  refine zMW_start hzs hst (by decide) (Nat.le_of_ble_eq_true rfl) (fun X C G F => ?_)
  show zV X 0 0 _ 0 [(0, .ref a), (1, .ref ob)] []
  have xh : ∀ Ex h9, sX9 h A P Ex h9 → zVX X (0 + 1) (0 + 6) h9 3 [(0, .ref a), (1, .ref ob)] [.int (nI 0), .ref ob] Ex := by
    intro Ex h9 ⟨eA, p9⟩
    rcases hA Ex eA with rfl | rfl | rfl
    · refine zVX.catch C F [] (0, 8, 11, 15) [(0, 8, 14, 145), (0, 8, 17, 17)] rfl (fun z hz => by cases hz) (by decide) (by decide) lk_L_15 ca_java_lang_IllegalArgumentException_java_lang_IllegalArgumentException (fun q => ?_)
      show zV X _ _ h9 11 _ _
      refine zV.astore_n (lo' := [(0, _), (1, _), (2, _)]) C dL_execute_11 rfl (by decide) rfl rfl rfl ?_
      refine zV.ic (v := nI 1) C dL_execute_12 (by decide) ?_
      refine zV.iretW C F dL_execute_13 rfl ?_
      exact ⟨by rw [eA]; try rfl, h9, p9, by rw [eA]; try rfl⟩
    · refine zVX.catch C F [(0, 8, 11, 15)] (0, 8, 14, 145) [(0, 8, 17, 17)] rfl (fun z hz => by
        rcases List.mem_cons.mp hz with rfl | hz
        · exact ⟨by decide, _, lk_L_15, nc_ISE_IAE⟩
        cases hz) (by decide) (by decide) lk_L_145 ca_java_lang_IllegalStateException_java_lang_IllegalStateException (fun q => ?_)
      show zV X _ _ h9 14 _ _
      refine zV.astore_n (lo' := [(0, _), (1, _), (2, _)]) C dL_execute_14 rfl (by decide) rfl rfl rfl ?_
      refine zV.ic (v := nI 2) C dL_execute_15 (by decide) ?_
      refine zV.iretW C F dL_execute_16 rfl ?_
      exact ⟨by rw [eA]; try rfl, h9, p9, by rw [eA]; try rfl⟩
    · refine zVX.catch C F [(0, 8, 11, 15), (0, 8, 14, 145)] (0, 8, 17, 17) [] rfl (fun z hz => by
        rcases List.mem_cons.mp hz with rfl | hz
        · exact ⟨by decide, _, lk_L_15, nc_UOE_IAE⟩
        rcases List.mem_cons.mp hz with rfl | hz
        · exact ⟨by decide, _, lk_L_145, nc_UOE_ISE⟩
        cases hz) (by decide) (by decide) lk_L_17 ca_java_lang_UnsupportedOperationException_java_lang_UnsupportedOperationException (fun q => ?_)
      show zV X _ _ h9 17 _ _
      refine zV.astore_n (lo' := [(0, _), (1, _), (2, _)]) C dL_execute_17 rfl (by decide) rfl rfl rfl ?_
      refine zV.ic (v := nI 3) C dL_execute_18 (by decide) ?_
      refine zV.iretW C F dL_execute_19 rfl ?_
      exact ⟨by rw [eA]; try rfl, h9, p9, by rw [eA]; try rfl⟩
  refine zV.aload_n C dL_execute_0 rfl rfl ?_
  refine zV.ic (v := nI 0) C dL_execute_1 (by decide) ?_
  refine zV.aload_n C dL_execute_2 rfl rfl ?_
  refine zV.callV (n := 0) C G dL_execute_3 hM rfl ⟨cd_X9_execute, lk_L_147, im_X9_execute, se_X9_X9_execute, in_X9⟩ ⟨⟨by decide, by decide⟩, by decide⟩ rfl rfl rfl hk ⟨rfl, by decide⟩ (zafX (fun r9 h9 q9 => ?_)) (fun Ex h9 q9 _ => xh Ex h9 q9)
  obtain ⟨⟨v9, eA, rfl⟩, p9⟩ := q9
  obtain ⟨w, rfl⟩ := hV v9 eA
  obtain ⟨k1, k2⟩ := hob h9 p9
  show zV X _ _ h9 6 _ (.int w :: .int (nI 0) :: .ref ob :: [])
  refine zV.i2l C dL_execute_6 ?_
  refine zV.last (j := 0) C dL_execute_7 k1 rfl (by rw [k2]; decide) (by decide) ?_
  refine zV.goto (tgt := 20) C dL_execute_8 (by decide) ?_
  refine zV.ic (v := nI 0) C dL_execute_20 (by decide) ?_
  refine zV.iretW C F dL_execute_21 rfl ?_
  exact ⟨by rw [eA], h9, p9, by rw [eA]; try rfl⟩
