/-! the wrappers of the law -/
theorem nc_IAE_IOB : zNc "java/lang/IllegalArgumentException" "java/lang/IndexOutOfBoundsException" := List.mem_of_getElem? (i := 228) (by decide +kernel)
theorem nc_UOE_IOB : zNc "java/lang/UnsupportedOperationException" "java/lang/IndexOutOfBoundsException" := List.mem_of_getElem? (i := 229) (by decide +kernel)
theorem nc_UOE_IAE : zNc "java/lang/UnsupportedOperationException" "java/lang/IllegalArgumentException" := List.mem_of_getElem? (i := 245) (by decide +kernel)
theorem nc_UOE_ISE : zNc "java/lang/UnsupportedOperationException" "java/lang/IllegalStateException" := List.mem_of_getElem? (i := 281) (by decide +kernel)
theorem nc_NSE_IOB : zNc "java/util/NoSuchElementException" "java/lang/IndexOutOfBoundsException" := List.mem_of_getElem? (i := 230) (by decide +kernel)
theorem nc_ISE_IAE : zNc "java/lang/IllegalStateException" "java/lang/IllegalArgumentException" := List.mem_of_getElem? (i := 243) (by decide +kernel)
/-- what a wrapper answers: the value, or the number that stands for the exception -/
def anI (A : zAn) (cf : String → Int32) : Int32 := match A with
  | .inl Ex => cf Ex
  | .inr (.int w) => w
  | .inr _ => 0
def lwR (A : zAn) (cf : String → Int32) (P : zH → Prop) : Option Value → zH → Prop := fun r h' => r = some (.int (anI A cf)) ∧ P h'
def anB (A : zAn) : Int32 := match A with
  | .inl _ => -1001
  | .inr (.int w) => if w = 0 then 0 else 1
  | .inr _ => 0
def lwRB (A : zAn) (P : zH → Prop) : Option Value → zH → Prop := fun r h' => r = some (.int (anB A)) ∧ P h'
def anD (A : zAn) : UInt64 := match A with
  | .inr (.double w) => w
  | _ => 13875388141788987392
def lwRD (A : zAn) (P : zH → Prop) : Option Value → zH → Prop := fun r h' => r = some (.double (anD A)) ∧ P h'
def anF (A : zAn) : UInt32 := match A with
  | .inr (.float w) => w
  | _ => 3296346112
def lwRF (A : zAn) (P : zH → Prop) : Option Value → zH → Prop := fun r h' => r = some (.float (anF A)) ∧ P h'
set_option maxHeartbeats 4000000 in
set_option maxRecDepth 100000 in
theorem s_LaddPath {l : Launch} {E : zG} (hzs : zS E) (hst : l.stackTraces = false) {h : zH} {a : Nat} {x : Int32} {y : Int32} {A : zAn} {P : zH → Prop} (hM : zMet l E yX9_addPath cX9_addPath 3 (some .int) ({ frames := 7, cells := 1, slots := 6, locals := 209 } : Room) 1 6 [.ref a, .int x, .int y] h (sQ9 h A P) (sX9 h A P)) (hk : hK h a = 13) (hV : ∀ v, A = .inr v → ∃ w, v = .int w) (hA : ∀ Ex, A = .inl Ex → Ex = IOB ∨ Ex = IAE ∨ Ex = UOE) : zMetW l E yL_addPath cL_addPath 4 (some .int) [(0, 6, 7, 13), (0, 6, 12, 15), (0, 6, 17, 17)] ({ frames := 8, cells := 1, slots := 6, locals := 231 } : Room) 1 6 [.ref a, .int x, .int y] h (lwR A (fun Ex => if Ex = IOB then -1001 else if Ex = IAE then -1002 else -1003) P) (fun _ _ => False) := by
  refine zMW_start hzs hst (by decide) (Nat.le_of_ble_eq_true rfl) (fun X C G F => ?_)
  show zV X 0 0 _ 0 [(0, .ref a), (1, .int x), (2, .int y)] []
  have xh : ∀ Ex h9, sX9 h A P Ex h9 → zVX X (0 + 1) (0 + 6) h9 3 [(0, .ref a), (1, .int x), (2, .int y)] [] Ex := by
    intro Ex h9 ⟨eA, p9⟩
    rcases hA Ex eA with rfl | rfl | rfl
    · refine zVX.catch C F [] (0, 6, 7, 13) [(0, 6, 12, 15), (0, 6, 17, 17)] rfl (fun z hz => by cases hz) (by decide) (by decide) lk_L_13 ca_java_lang_IndexOutOfBoundsException_java_lang_IndexOutOfBoundsException (fun q => ?_)
      show zV X _ _ h9 7 _ _
      refine zV.astore_n (lo' := [(0, _), (1, _), (2, _), (3, _)]) C dL_addPath_7 rfl (by decide) rfl rfl rfl ?_
      refine zV.si (v := -1001) C dL_addPath_8 (by decide) ?_
      refine zV.iretW C F dL_addPath_11 rfl ?_
      exact ⟨by rw [eA]; try rfl, p9⟩
    · refine zVX.catch C F [(0, 6, 7, 13)] (0, 6, 12, 15) [(0, 6, 17, 17)] rfl (fun z hz => by
        rcases List.mem_cons.mp hz with rfl | hz
        · exact ⟨by decide, _, lk_L_13, nc_IAE_IOB⟩
        cases hz) (by decide) (by decide) lk_L_15 ca_java_lang_IllegalArgumentException_java_lang_IllegalArgumentException (fun q => ?_)
      show zV X _ _ h9 12 _ _
      refine zV.astore_n (lo' := [(0, _), (1, _), (2, _), (3, _)]) C dL_addPath_12 rfl (by decide) rfl rfl rfl ?_
      refine zV.si (v := -1002) C dL_addPath_13 (by decide) ?_
      refine zV.iretW C F dL_addPath_16 rfl ?_
      exact ⟨by rw [eA]; try rfl, p9⟩
    · refine zVX.catch C F [(0, 6, 7, 13), (0, 6, 12, 15)] (0, 6, 17, 17) [] rfl (fun z hz => by
        rcases List.mem_cons.mp hz with rfl | hz
        · exact ⟨by decide, _, lk_L_13, nc_UOE_IOB⟩
        rcases List.mem_cons.mp hz with rfl | hz
        · exact ⟨by decide, _, lk_L_15, nc_UOE_IAE⟩
        cases hz) (by decide) (by decide) lk_L_17 ca_java_lang_UnsupportedOperationException_java_lang_UnsupportedOperationException (fun q => ?_)
      show zV X _ _ h9 17 _ _
      refine zV.astore_n (lo' := [(0, _), (1, _), (2, _), (3, _)]) C dL_addPath_17 rfl (by decide) rfl rfl rfl ?_
      refine zV.si (v := -1003) C dL_addPath_18 (by decide) ?_
      refine zV.iretW C F dL_addPath_21 rfl ?_
      exact ⟨by rw [eA]; try rfl, p9⟩
  refine zV.aload_n C dL_addPath_0 rfl rfl ?_
  refine zV.iload_n C dL_addPath_1 rfl ?_
  refine zV.iload_n C dL_addPath_2 rfl ?_
  refine zV.callV (n := 2) C G dL_addPath_3 hM rfl ⟨cd_X9_addPath, lk_L_7, im_X9_addPath, se_X9_X9_addPath, in_X9⟩ ⟨⟨by decide, by decide⟩, by decide⟩ rfl rfl rfl hk ⟨rfl, by decide⟩ (zafX (fun r9 h9 q9 => ?_)) (fun Ex h9 q9 _ => xh Ex h9 q9)
  obtain ⟨⟨v9, eA, rfl⟩, p9⟩ := q9
  obtain ⟨w, rfl⟩ := hV v9 eA
  show zV X _ _ h9 6 _ (.int w :: [])
  refine zV.iretW C F dL_addPath_6 rfl ?_
  exact ⟨by rw [eA]; try rfl, p9⟩
set_option maxHeartbeats 4000000 in
set_option maxRecDepth 100000 in
theorem s_LaddChair {l : Launch} {E : zG} (hzs : zS E) (hst : l.stackTraces = false) {h : zH} {a : Nat} {x : Int32} {y : Int32} {A : zAn} {P : zH → Prop} (hM : zMet l E yX9_addChair cX9_addChair 3 (some .int) ({ frames := 7, cells := 1, slots := 6, locals := 209 } : Room) 1 6 [.ref a, .int x, .int y] h (sQ9 h A P) (sX9 h A P)) (hk : hK h a = 13) (hV : ∀ v, A = .inr v → ∃ w, v = .int w) (hA : ∀ Ex, A = .inl Ex → Ex = IOB ∨ Ex = IAE ∨ Ex = UOE) : zMetW l E yL_addChair cL_addChair 4 (some .int) [(0, 6, 7, 13), (0, 6, 12, 15), (0, 6, 17, 17)] ({ frames := 8, cells := 1, slots := 6, locals := 231 } : Room) 1 6 [.ref a, .int x, .int y] h (lwR A (fun Ex => if Ex = IOB then -1001 else if Ex = IAE then -1002 else -1003) P) (fun _ _ => False) := by
  refine zMW_start hzs hst (by decide) (Nat.le_of_ble_eq_true rfl) (fun X C G F => ?_)
  show zV X 0 0 _ 0 [(0, .ref a), (1, .int x), (2, .int y)] []
  have xh : ∀ Ex h9, sX9 h A P Ex h9 → zVX X (0 + 1) (0 + 6) h9 3 [(0, .ref a), (1, .int x), (2, .int y)] [] Ex := by
    intro Ex h9 ⟨eA, p9⟩
    rcases hA Ex eA with rfl | rfl | rfl
    · refine zVX.catch C F [] (0, 6, 7, 13) [(0, 6, 12, 15), (0, 6, 17, 17)] rfl (fun z hz => by cases hz) (by decide) (by decide) lk_L_13 ca_java_lang_IndexOutOfBoundsException_java_lang_IndexOutOfBoundsException (fun q => ?_)
      show zV X _ _ h9 7 _ _
      refine zV.astore_n (lo' := [(0, _), (1, _), (2, _), (3, _)]) C dL_addChair_7 rfl (by decide) rfl rfl rfl ?_
      refine zV.si (v := -1001) C dL_addChair_8 (by decide) ?_
      refine zV.iretW C F dL_addChair_11 rfl ?_
      exact ⟨by rw [eA]; try rfl, p9⟩
    · refine zVX.catch C F [(0, 6, 7, 13)] (0, 6, 12, 15) [(0, 6, 17, 17)] rfl (fun z hz => by
        rcases List.mem_cons.mp hz with rfl | hz
        · exact ⟨by decide, _, lk_L_13, nc_IAE_IOB⟩
        cases hz) (by decide) (by decide) lk_L_15 ca_java_lang_IllegalArgumentException_java_lang_IllegalArgumentException (fun q => ?_)
      show zV X _ _ h9 12 _ _
      refine zV.astore_n (lo' := [(0, _), (1, _), (2, _), (3, _)]) C dL_addChair_12 rfl (by decide) rfl rfl rfl ?_
      refine zV.si (v := -1002) C dL_addChair_13 (by decide) ?_
      refine zV.iretW C F dL_addChair_16 rfl ?_
      exact ⟨by rw [eA]; try rfl, p9⟩
    · refine zVX.catch C F [(0, 6, 7, 13), (0, 6, 12, 15)] (0, 6, 17, 17) [] rfl (fun z hz => by
        rcases List.mem_cons.mp hz with rfl | hz
        · exact ⟨by decide, _, lk_L_13, nc_UOE_IOB⟩
        rcases List.mem_cons.mp hz with rfl | hz
        · exact ⟨by decide, _, lk_L_15, nc_UOE_IAE⟩
        cases hz) (by decide) (by decide) lk_L_17 ca_java_lang_UnsupportedOperationException_java_lang_UnsupportedOperationException (fun q => ?_)
      show zV X _ _ h9 17 _ _
      refine zV.astore_n (lo' := [(0, _), (1, _), (2, _), (3, _)]) C dL_addChair_17 rfl (by decide) rfl rfl rfl ?_
      refine zV.si (v := -1003) C dL_addChair_18 (by decide) ?_
      refine zV.iretW C F dL_addChair_21 rfl ?_
      exact ⟨by rw [eA]; try rfl, p9⟩
  refine zV.aload_n C dL_addChair_0 rfl rfl ?_
  refine zV.iload_n C dL_addChair_1 rfl ?_
  refine zV.iload_n C dL_addChair_2 rfl ?_
  refine zV.callV (n := 2) C G dL_addChair_3 hM rfl ⟨cd_X9_addChair, lk_L_48, im_X9_addChair, se_X9_X9_addChair, in_X9⟩ ⟨⟨by decide, by decide⟩, by decide⟩ rfl rfl rfl hk ⟨rfl, by decide⟩ (zafX (fun r9 h9 q9 => ?_)) (fun Ex h9 q9 _ => xh Ex h9 q9)
  obtain ⟨⟨v9, eA, rfl⟩, p9⟩ := q9
  obtain ⟨w, rfl⟩ := hV v9 eA
  show zV X _ _ h9 6 _ (.int w :: [])
  refine zV.iretW C F dL_addChair_6 rfl ?_
  exact ⟨by rw [eA]; try rfl, p9⟩
set_option maxHeartbeats 4000000 in
set_option maxRecDepth 100000 in
theorem s_Lscrap {l : Launch} {E : zG} (hzs : zS E) (hst : l.stackTraces = false) {h : zH} {a : Nat} {x : Int32} {A : zAn} {P : zH → Prop} (hM : zMet l E yX9_scrapChair cX9_scrapChair 2 (some .int) ({ frames := 7, cells := 1, slots := 6, locals := 209 } : Room) 1 6 [.ref a, .int x] h (sQ9 h A P) (sX9 h A P)) (hk : hK h a = 13) (hV : ∀ v, A = .inr v → ∃ w, v = .int w) (hA : ∀ Ex, A = .inl Ex → Ex = IOB) : zMetW l E yL_scrap cL_scrap 3 (some .int) [(0, 5, 6, 13)] ({ frames := 8, cells := 1, slots := 6, locals := 230 } : Room) 1 6 [.ref a, .int x] h (lwR A (fun _ => -1001) P) (fun _ _ => False) := by
  refine zMW_start hzs hst (by decide) (Nat.le_of_ble_eq_true rfl) (fun X C G F => ?_)
  show zV X 0 0 _ 0 [(0, .ref a), (1, .int x)] []
  have xh : ∀ Ex h9, sX9 h A P Ex h9 → zVX X (0 + 1) (0 + 6) h9 2 [(0, .ref a), (1, .int x)] [] Ex := by
    intro Ex h9 ⟨eA, p9⟩
    rcases hA Ex eA with rfl
    · refine zVX.catch C F [] (0, 5, 6, 13) [] rfl (fun z hz => by cases hz) (by decide) (by decide) lk_L_13 ca_java_lang_IndexOutOfBoundsException_java_lang_IndexOutOfBoundsException (fun q => ?_)
      show zV X _ _ h9 6 _ _
      refine zV.astore_n (lo' := [(0, _), (1, _), (2, _)]) C dL_scrap_6 rfl (by decide) rfl rfl rfl ?_
      refine zV.si (v := -1001) C dL_scrap_7 (by decide) ?_
      refine zV.iretW C F dL_scrap_10 rfl ?_
      exact ⟨by rw [eA]; try rfl, p9⟩
  refine zV.aload_n C dL_scrap_0 rfl rfl ?_
  refine zV.iload_n C dL_scrap_1 rfl ?_
  refine zV.callV (n := 1) C G dL_scrap_2 hM rfl ⟨cd_X9_scrapChair, lk_L_51, im_X9_scrapChair, se_X9_X9_scrapChair, in_X9⟩ ⟨⟨by decide, by decide⟩, by decide⟩ rfl rfl rfl hk ⟨rfl, by decide⟩ (zafX (fun r9 h9 q9 => ?_)) (fun Ex h9 q9 _ => xh Ex h9 q9)
  obtain ⟨⟨v9, eA, rfl⟩, p9⟩ := q9
  obtain ⟨w, rfl⟩ := hV v9 eA
  show zV X _ _ h9 5 _ (.int w :: [])
  refine zV.iretW C F dL_scrap_5 rfl ?_
  exact ⟨by rw [eA]; try rfl, p9⟩
set_option maxHeartbeats 4000000 in
set_option maxRecDepth 100000 in
theorem s_Lmigrate {l : Launch} {E : zG} (hzs : zS E) (hst : l.stackTraces = false) {h : zH} {a : Nat} {x : Int32} {y : Int32} {A : zAn} {P : zH → Prop} (hM : zMet l E yX9_migrate cX9_migrate 3 (some .int) ({ frames := 7, cells := 1, slots := 6, locals := 209 } : Room) 1 6 [.ref a, .int x, .int y] h (sQ9 h A P) (sX9 h A P)) (hk : hK h a = 13) (hV : ∀ v, A = .inr v → ∃ w, v = .int w) (hA : ∀ Ex, A = .inl Ex → Ex = IOB ∨ Ex = UOE) : zMetW l E yL_migrate cL_migrate 4 (some .int) [(0, 6, 7, 13), (0, 6, 12, 17)] ({ frames := 8, cells := 1, slots := 6, locals := 231 } : Room) 1 6 [.ref a, .int x, .int y] h (lwR A (fun Ex => if Ex = IOB then -1001 else -1002) P) (fun _ _ => False) := by
  refine zMW_start hzs hst (by decide) (Nat.le_of_ble_eq_true rfl) (fun X C G F => ?_)
  show zV X 0 0 _ 0 [(0, .ref a), (1, .int x), (2, .int y)] []
  have xh : ∀ Ex h9, sX9 h A P Ex h9 → zVX X (0 + 1) (0 + 6) h9 3 [(0, .ref a), (1, .int x), (2, .int y)] [] Ex := by
    intro Ex h9 ⟨eA, p9⟩
    rcases hA Ex eA with rfl | rfl
    · refine zVX.catch C F [] (0, 6, 7, 13) [(0, 6, 12, 17)] rfl (fun z hz => by cases hz) (by decide) (by decide) lk_L_13 ca_java_lang_IndexOutOfBoundsException_java_lang_IndexOutOfBoundsException (fun q => ?_)
      show zV X _ _ h9 7 _ _
      refine zV.astore_n (lo' := [(0, _), (1, _), (2, _), (3, _)]) C dL_migrate_7 rfl (by decide) rfl rfl rfl ?_
      refine zV.si (v := -1001) C dL_migrate_8 (by decide) ?_
      refine zV.iretW C F dL_migrate_11 rfl ?_
      exact ⟨by rw [eA]; try rfl, p9⟩
    · refine zVX.catch C F [(0, 6, 7, 13)] (0, 6, 12, 17) [] rfl (fun z hz => by
        rcases List.mem_cons.mp hz with rfl | hz
        · exact ⟨by decide, _, lk_L_13, nc_UOE_IOB⟩
        cases hz) (by decide) (by decide) lk_L_17 ca_java_lang_UnsupportedOperationException_java_lang_UnsupportedOperationException (fun q => ?_)
      show zV X _ _ h9 12 _ _
      refine zV.astore_n (lo' := [(0, _), (1, _), (2, _), (3, _)]) C dL_migrate_12 rfl (by decide) rfl rfl rfl ?_
      refine zV.si (v := -1002) C dL_migrate_13 (by decide) ?_
      refine zV.iretW C F dL_migrate_16 rfl ?_
      exact ⟨by rw [eA]; try rfl, p9⟩
  refine zV.aload_n C dL_migrate_0 rfl rfl ?_
  refine zV.iload_n C dL_migrate_1 rfl ?_
  refine zV.iload_n C dL_migrate_2 rfl ?_
  refine zV.callV (n := 2) C G dL_migrate_3 hM rfl ⟨cd_X9_migrate, lk_L_63, im_X9_migrate, se_X9_X9_migrate, in_X9⟩ ⟨⟨by decide, by decide⟩, by decide⟩ rfl rfl rfl hk ⟨rfl, by decide⟩ (zafX (fun r9 h9 q9 => ?_)) (fun Ex h9 q9 _ => xh Ex h9 q9)
  obtain ⟨⟨v9, eA, rfl⟩, p9⟩ := q9
  obtain ⟨w, rfl⟩ := hV v9 eA
  show zV X _ _ h9 6 _ (.int w :: [])
  refine zV.iretW C F dL_migrate_6 rfl ?_
  exact ⟨by rw [eA]; try rfl, p9⟩
set_option maxHeartbeats 4000000 in
set_option maxRecDepth 100000 in
theorem s_LherdSize {l : Launch} {E : zG} (hzs : zS E) (hst : l.stackTraces = false) {h : zH} {a : Nat} {x : Int32} {A : zAn} {P : zH → Prop} (hM : zMet l E yX9_herdSize cX9_herdSize 2 (some .int) ({ frames := 7, cells := 1, slots := 6, locals := 115 } : Room) 1 6 [.ref a, .int x] h (sQ9 h A P) (sX9 h A P)) (hk : hK h a = 13) (hV : ∀ v, A = .inr v → ∃ w, v = .int w) (hA : ∀ Ex, A = .inl Ex → Ex = IOB) : zMetW l E yL_herdSize cL_herdSize 3 (some .int) [(0, 5, 6, 13)] ({ frames := 8, cells := 1, slots := 6, locals := 136 } : Room) 1 6 [.ref a, .int x] h (lwR A (fun _ => -1001) P) (fun _ _ => False) := by
  refine zMW_start hzs hst (by decide) (Nat.le_of_ble_eq_true rfl) (fun X C G F => ?_)
  show zV X 0 0 _ 0 [(0, .ref a), (1, .int x)] []
  have xh : ∀ Ex h9, sX9 h A P Ex h9 → zVX X (0 + 1) (0 + 6) h9 2 [(0, .ref a), (1, .int x)] [] Ex := by
    intro Ex h9 ⟨eA, p9⟩
    rcases hA Ex eA with rfl
    · refine zVX.catch C F [] (0, 5, 6, 13) [] rfl (fun z hz => by cases hz) (by decide) (by decide) lk_L_13 ca_java_lang_IndexOutOfBoundsException_java_lang_IndexOutOfBoundsException (fun q => ?_)
      show zV X _ _ h9 6 _ _
      refine zV.astore_n (lo' := [(0, _), (1, _), (2, _)]) C dL_herdSize_6 rfl (by decide) rfl rfl rfl ?_
      refine zV.si (v := -1001) C dL_herdSize_7 (by decide) ?_
      refine zV.iretW C F dL_herdSize_10 rfl ?_
      exact ⟨by rw [eA]; try rfl, p9⟩
  refine zV.aload_n C dL_herdSize_0 rfl rfl ?_
  refine zV.iload_n C dL_herdSize_1 rfl ?_
  refine zV.callV (n := 1) C G dL_herdSize_2 hM rfl ⟨cd_X9_herdSize, lk_L_88, im_X9_herdSize, se_X9_X9_herdSize, in_X9⟩ ⟨⟨by decide, by decide⟩, by decide⟩ rfl rfl rfl hk ⟨rfl, by decide⟩ (zafX (fun r9 h9 q9 => ?_)) (fun Ex h9 q9 _ => xh Ex h9 q9)
  obtain ⟨⟨v9, eA, rfl⟩, p9⟩ := q9
  obtain ⟨w, rfl⟩ := hV v9 eA
  show zV X _ _ h9 5 _ (.int w :: [])
  refine zV.iretW C F dL_herdSize_5 rfl ?_
  exact ⟨by rw [eA]; try rfl, p9⟩
set_option maxHeartbeats 4000000 in
set_option maxRecDepth 100000 in
theorem s_LpassDays {l : Launch} {E : zG} (hzs : zS E) (hst : l.stackTraces = false) {h : zH} {a : Nat} {x : Int32} {A : zAn} {P : zH → Prop} (hM : zMet l E yX9_passDays cX9_passDays 2 (some .int) ({ frames := 7, cells := 1, slots := 6, locals := 209 } : Room) 1 6 [.ref a, .int x] h (sQ9 h A P) (sX9 h A P)) (hk : hK h a = 13) (hV : ∀ v, A = .inr v → ∃ w, v = .int w) (hA : ∀ Ex, A = .inl Ex → Ex = IAE) : zMetW l E yL_passDays cL_passDays 3 (some .int) [(0, 5, 6, 15)] ({ frames := 8, cells := 1, slots := 6, locals := 230 } : Room) 1 6 [.ref a, .int x] h (lwR A (fun _ => -1001) P) (fun _ _ => False) := by
  refine zMW_start hzs hst (by decide) (Nat.le_of_ble_eq_true rfl) (fun X C G F => ?_)
  show zV X 0 0 _ 0 [(0, .ref a), (1, .int x)] []
  have xh : ∀ Ex h9, sX9 h A P Ex h9 → zVX X (0 + 1) (0 + 6) h9 2 [(0, .ref a), (1, .int x)] [] Ex := by
    intro Ex h9 ⟨eA, p9⟩
    rcases hA Ex eA with rfl
    · refine zVX.catch C F [] (0, 5, 6, 15) [] rfl (fun z hz => by cases hz) (by decide) (by decide) lk_L_15 ca_java_lang_IllegalArgumentException_java_lang_IllegalArgumentException (fun q => ?_)
      show zV X _ _ h9 6 _ _
      refine zV.astore_n (lo' := [(0, _), (1, _), (2, _)]) C dL_passDays_6 rfl (by decide) rfl rfl rfl ?_
      refine zV.si (v := -1001) C dL_passDays_7 (by decide) ?_
      refine zV.iretW C F dL_passDays_10 rfl ?_
      exact ⟨by rw [eA]; try rfl, p9⟩
  refine zV.aload_n C dL_passDays_0 rfl rfl ?_
  refine zV.iload_n C dL_passDays_1 rfl ?_
  refine zV.callV (n := 1) C G dL_passDays_2 hM rfl ⟨cd_X9_passDays, lk_L_106, im_X9_passDays, se_X9_X9_passDays, in_X9⟩ ⟨⟨by decide, by decide⟩, by decide⟩ rfl rfl rfl hk ⟨rfl, by decide⟩ (zafX (fun r9 h9 q9 => ?_)) (fun Ex h9 q9 _ => xh Ex h9 q9)
  obtain ⟨⟨v9, eA, rfl⟩, p9⟩ := q9
  obtain ⟨w, rfl⟩ := hV v9 eA
  show zV X _ _ h9 5 _ (.int w :: [])
  refine zV.iretW C F dL_passDays_5 rfl ?_
  exact ⟨by rw [eA]; try rfl, p9⟩
set_option maxHeartbeats 4000000 in
set_option maxRecDepth 100000 in
theorem s_Lappend {l : Launch} {E : zG} (hzs : zS E) (hst : l.stackTraces = false) {h : zH} {a : Nat} {x : Int32} {A : zAn} {P : zH → Prop} (hM : zMet l E yX9_appendInput cX9_appendInput 2 (some .int) ({ frames := 6, cells := 1, slots := 6, locals := 95 } : Room) 1 6 [.ref a, .int x] h (sQ9 h A P) (sX9 h A P)) (hk : hK h a = 13) (hV : ∀ v, A = .inr v → ∃ w, v = .int w) (hA : ∀ Ex, A = .inl Ex → Ex = IAE ∨ Ex = ISE) : zMetW l E yL_append cL_append 3 (some .int) [(0, 5, 6, 15), (0, 5, 11, 148)] ({ frames := 7, cells := 1, slots := 6, locals := 116 } : Room) 1 6 [.ref a, .int x] h (lwR A (fun Ex => if Ex = IAE then -1001 else -1002) P) (fun _ _ => False) := by
  refine zMW_start hzs hst (by decide) (Nat.le_of_ble_eq_true rfl) (fun X C G F => ?_)
  show zV X 0 0 _ 0 [(0, .ref a), (1, .int x)] []
  have xh : ∀ Ex h9, sX9 h A P Ex h9 → zVX X (0 + 1) (0 + 6) h9 2 [(0, .ref a), (1, .int x)] [] Ex := by
    intro Ex h9 ⟨eA, p9⟩
    rcases hA Ex eA with rfl | rfl
    · refine zVX.catch C F [] (0, 5, 6, 15) [(0, 5, 11, 148)] rfl (fun z hz => by cases hz) (by decide) (by decide) lk_L_15 ca_java_lang_IllegalArgumentException_java_lang_IllegalArgumentException (fun q => ?_)
      show zV X _ _ h9 6 _ _
      refine zV.astore_n (lo' := [(0, _), (1, _), (2, _)]) C dL_append_6 rfl (by decide) rfl rfl rfl ?_
      refine zV.si (v := -1001) C dL_append_7 (by decide) ?_
      refine zV.iretW C F dL_append_10 rfl ?_
      exact ⟨by rw [eA]; try rfl, p9⟩
    · refine zVX.catch C F [(0, 5, 6, 15)] (0, 5, 11, 148) [] rfl (fun z hz => by
        rcases List.mem_cons.mp hz with rfl | hz
        · exact ⟨by decide, _, lk_L_15, nc_ISE_IAE⟩
        cases hz) (by decide) (by decide) lk_L_148 ca_java_lang_IllegalStateException_java_lang_IllegalStateException (fun q => ?_)
      show zV X _ _ h9 11 _ _
      refine zV.astore_n (lo' := [(0, _), (1, _), (2, _)]) C dL_append_11 rfl (by decide) rfl rfl rfl ?_
      refine zV.si (v := -1002) C dL_append_12 (by decide) ?_
      refine zV.iretW C F dL_append_15 rfl ?_
      exact ⟨by rw [eA]; try rfl, p9⟩
  refine zV.aload_n C dL_append_0 rfl rfl ?_
  refine zV.iload_n C dL_append_1 rfl ?_
  refine zV.callV (n := 1) C G dL_append_2 hM rfl ⟨cd_X9_appendInput, lk_L_144, im_X9_appendInput, se_X9_X9_appendInput, in_X9⟩ ⟨⟨by decide, by decide⟩, by decide⟩ rfl rfl rfl hk ⟨rfl, by decide⟩ (zafX (fun r9 h9 q9 => ?_)) (fun Ex h9 q9 _ => xh Ex h9 q9)
  obtain ⟨⟨v9, eA, rfl⟩, p9⟩ := q9
  obtain ⟨w, rfl⟩ := hV v9 eA
  show zV X _ _ h9 5 _ (.int w :: [])
  refine zV.iretW C F dL_append_5 rfl ?_
  exact ⟨by rw [eA]; try rfl, p9⟩
set_option maxHeartbeats 4000000 in
set_option maxRecDepth 100000 in
theorem s_Lexecute {l : Launch} {E : zG} (hzs : zS E) (hst : l.stackTraces = false) {h : zH} {a : Nat} {A : zAn} {P : zH → Prop} (hM : zMet l E yX9_execute cX9_execute 3 (some .int) ({ frames := 7, cells := 1, slots := 6, locals := 185 } : Room) 1 6 [.ref a] h (sQ9 h A P) (sX9 h A P)) (hk : hK h a = 13) (hV : ∀ v, A = .inr v → ∃ w, v = .int w) (hA : ∀ Ex, A = .inl Ex → Ex = IAE ∨ Ex = ISE ∨ Ex = UOE) : zMetW l E yL_execute cL_execute 2 (some .int) [(0, 4, 5, 15), (0, 4, 10, 148), (0, 4, 15, 17)] ({ frames := 8, cells := 1, slots := 6, locals := 207 } : Room) 1 6 [.ref a] h (lwR A (fun Ex => if Ex = IAE then -1001 else if Ex = ISE then -1002 else -1003) P) (fun _ _ => False) := by
  refine zMW_start hzs hst (by decide) (Nat.le_of_ble_eq_true rfl) (fun X C G F => ?_)
  show zV X 0 0 _ 0 [(0, .ref a)] []
  have xh : ∀ Ex h9, sX9 h A P Ex h9 → zVX X (0 + 1) (0 + 6) h9 1 [(0, .ref a)] [] Ex := by
    intro Ex h9 ⟨eA, p9⟩
    rcases hA Ex eA with rfl | rfl | rfl
    · refine zVX.catch C F [] (0, 4, 5, 15) [(0, 4, 10, 148), (0, 4, 15, 17)] rfl (fun z hz => by cases hz) (by decide) (by decide) lk_L_15 ca_java_lang_IllegalArgumentException_java_lang_IllegalArgumentException (fun q => ?_)
      show zV X _ _ h9 5 _ _
      refine zV.astore_n (lo' := [(0, _), (1, _)]) C dL_execute_5 rfl (by decide) rfl rfl rfl ?_
      refine zV.si (v := -1001) C dL_execute_6 (by decide) ?_
      refine zV.iretW C F dL_execute_9 rfl ?_
      exact ⟨by rw [eA]; try rfl, p9⟩
    · refine zVX.catch C F [(0, 4, 5, 15)] (0, 4, 10, 148) [(0, 4, 15, 17)] rfl (fun z hz => by
        rcases List.mem_cons.mp hz with rfl | hz
        · exact ⟨by decide, _, lk_L_15, nc_ISE_IAE⟩
        cases hz) (by decide) (by decide) lk_L_148 ca_java_lang_IllegalStateException_java_lang_IllegalStateException (fun q => ?_)
      show zV X _ _ h9 10 _ _
      refine zV.astore_n (lo' := [(0, _), (1, _)]) C dL_execute_10 rfl (by decide) rfl rfl rfl ?_
      refine zV.si (v := -1002) C dL_execute_11 (by decide) ?_
      refine zV.iretW C F dL_execute_14 rfl ?_
      exact ⟨by rw [eA]; try rfl, p9⟩
    · refine zVX.catch C F [(0, 4, 5, 15), (0, 4, 10, 148)] (0, 4, 15, 17) [] rfl (fun z hz => by
        rcases List.mem_cons.mp hz with rfl | hz
        · exact ⟨by decide, _, lk_L_15, nc_UOE_IAE⟩
        rcases List.mem_cons.mp hz with rfl | hz
        · exact ⟨by decide, _, lk_L_148, nc_UOE_ISE⟩
        cases hz) (by decide) (by decide) lk_L_17 ca_java_lang_UnsupportedOperationException_java_lang_UnsupportedOperationException (fun q => ?_)
      show zV X _ _ h9 15 _ _
      refine zV.astore_n (lo' := [(0, _), (1, _)]) C dL_execute_15 rfl (by decide) rfl rfl rfl ?_
      refine zV.si (v := -1003) C dL_execute_16 (by decide) ?_
      refine zV.iretW C F dL_execute_19 rfl ?_
      exact ⟨by rw [eA]; try rfl, p9⟩
  refine zV.aload_n C dL_execute_0 rfl rfl ?_
  refine zV.callV (n := 0) C G dL_execute_1 hM rfl ⟨cd_X9_execute, lk_L_150, im_X9_execute, se_X9_X9_execute, in_X9⟩ ⟨⟨by decide, by decide⟩, by decide⟩ rfl rfl rfl hk ⟨rfl, by decide⟩ (zafX (fun r9 h9 q9 => ?_)) (fun Ex h9 q9 _ => xh Ex h9 q9)
  obtain ⟨⟨v9, eA, rfl⟩, p9⟩ := q9
  obtain ⟨w, rfl⟩ := hV v9 eA
  show zV X _ _ h9 4 _ (.int w :: [])
  refine zV.iretW C F dL_execute_4 rfl ?_
  exact ⟨by rw [eA]; try rfl, p9⟩
set_option maxHeartbeats 4000000 in
set_option maxRecDepth 100000 in
theorem s_LsyntaxError {l : Launch} {E : zG} (hzs : zS E) (hst : l.stackTraces = false) {h : zH} {a : Nat} {A : zAn} {P : zH → Prop} (hM : zMet l E yX9_syntaxErrorOffset cX9_syntaxErrorOffset 1 (some .int) ({ frames := 7, cells := 1, slots := 6, locals := 115 } : Room) 1 6 [.ref a] h (sQ9 h A P) (sX9 h A P)) (hk : hK h a = 13) (hV : ∀ v, A = .inr v → ∃ w, v = .int w) (hA : ∀ Ex, A = .inl Ex → Ex = NSE) : zMetW l E yL_syntaxError cL_syntaxError 2 (some .int) [(0, 4, 5, 29)] ({ frames := 8, cells := 1, slots := 6, locals := 135 } : Room) 1 6 [.ref a] h (lwR A (fun _ => -1001) P) (fun _ _ => False) := by
  refine zMW_start hzs hst (by decide) (Nat.le_of_ble_eq_true rfl) (fun X C G F => ?_)
  show zV X 0 0 _ 0 [(0, .ref a)] []
  have xh : ∀ Ex h9, sX9 h A P Ex h9 → zVX X (0 + 1) (0 + 6) h9 1 [(0, .ref a)] [] Ex := by
    intro Ex h9 ⟨eA, p9⟩
    rcases hA Ex eA with rfl
    · refine zVX.catch C F [] (0, 4, 5, 29) [] rfl (fun z hz => by cases hz) (by decide) (by decide) lk_L_29 ca_java_util_NoSuchElementException_java_util_NoSuchElementException (fun q => ?_)
      show zV X _ _ h9 5 _ _
      refine zV.astore_n (lo' := [(0, _), (1, _)]) C dL_syntaxError_5 rfl (by decide) rfl rfl rfl ?_
      refine zV.si (v := -1001) C dL_syntaxError_6 (by decide) ?_
      refine zV.iretW C F dL_syntaxError_9 rfl ?_
      exact ⟨by rw [eA]; try rfl, p9⟩
  refine zV.aload_n C dL_syntaxError_0 rfl rfl ?_
  refine zV.callV (n := 0) C G dL_syntaxError_1 hM rfl ⟨cd_X9_syntaxErrorOffset, lk_L_154, im_X9_syntaxErrorOffset, se_X9_X9_syntaxErrorOffset, in_X9⟩ ⟨⟨by decide, by decide⟩, by decide⟩ rfl rfl rfl hk ⟨rfl, by decide⟩ (zafX (fun r9 h9 q9 => ?_)) (fun Ex h9 q9 _ => xh Ex h9 q9)
  obtain ⟨⟨v9, eA, rfl⟩, p9⟩ := q9
  obtain ⟨w, rfl⟩ := hV v9 eA
  show zV X _ _ h9 4 _ (.int w :: [])
  refine zV.iretW C F dL_syntaxError_4 rfl ?_
  exact ⟨by rw [eA]; try rfl, p9⟩
set_option maxHeartbeats 4000000 in
set_option maxRecDepth 100000 in
theorem s_Lundo {l : Launch} {E : zG} (hzs : zS E) (hst : l.stackTraces = false) {h : zH} {a : Nat} {A : zAn} {P : zH → Prop} (hM : zMet l E yX9_undo cX9_undo 1 (some .int) ({ frames := 6, cells := 1, slots := 6, locals := 185 } : Room) 1 6 [.ref a] h (sQ9 h A P) (sX9 h A P)) (hk : hK h a = 13) (hV : ∀ v, A = .inr v → ∃ w, v = .int w) (hA : ∀ Ex, A = .inl Ex → Ex = ISE) : zMetW l E yL_undo cL_undo 2 (some .int) [(0, 4, 5, 148)] ({ frames := 7, cells := 1, slots := 6, locals := 205 } : Room) 1 6 [.ref a] h (lwR A (fun _ => -1001) P) (fun _ _ => False) := by
  refine zMW_start hzs hst (by decide) (Nat.le_of_ble_eq_true rfl) (fun X C G F => ?_)
  show zV X 0 0 _ 0 [(0, .ref a)] []
  have xh : ∀ Ex h9, sX9 h A P Ex h9 → zVX X (0 + 1) (0 + 6) h9 1 [(0, .ref a)] [] Ex := by
    intro Ex h9 ⟨eA, p9⟩
    rcases hA Ex eA with rfl
    · refine zVX.catch C F [] (0, 4, 5, 148) [] rfl (fun z hz => by cases hz) (by decide) (by decide) lk_L_148 ca_java_lang_IllegalStateException_java_lang_IllegalStateException (fun q => ?_)
      show zV X _ _ h9 5 _ _
      refine zV.astore_n (lo' := [(0, _), (1, _)]) C dL_undo_5 rfl (by decide) rfl rfl rfl ?_
      refine zV.si (v := -1001) C dL_undo_6 (by decide) ?_
      refine zV.iretW C F dL_undo_9 rfl ?_
      exact ⟨by rw [eA]; try rfl, p9⟩
  refine zV.aload_n C dL_undo_0 rfl rfl ?_
  refine zV.callV (n := 0) C G dL_undo_1 hM rfl ⟨cd_X9_undo, lk_L_166, im_X9_undo, se_X9_X9_undo, in_X9⟩ ⟨⟨by decide, by decide⟩, by decide⟩ rfl rfl rfl hk ⟨rfl, by decide⟩ (zafX (fun r9 h9 q9 => ?_)) (fun Ex h9 q9 _ => xh Ex h9 q9)
  obtain ⟨⟨v9, eA, rfl⟩, p9⟩ := q9
  obtain ⟨w, rfl⟩ := hV v9 eA
  show zV X _ _ h9 4 _ (.int w :: [])
  refine zV.iretW C F dL_undo_4 rfl ?_
  exact ⟨by rw [eA]; try rfl, p9⟩
set_option maxHeartbeats 4000000 in
set_option maxRecDepth 100000 in
theorem s_Lrestore {l : Launch} {E : zG} (hzs : zS E) (hst : l.stackTraces = false) {h : zH} {a : Nat} {A : zAn} {P : zH → Prop} (hM : zMet l E yX9_restoreSnapshot cX9_restoreSnapshot 1 (some .int) ({ frames := 6, cells := 1, slots := 6, locals := 164 } : Room) 1 6 [.ref a] h (sQ9 h A P) (sX9 h A P)) (hk : hK h a = 13) (hV : ∀ v, A = .inr v → ∃ w, v = .int w) (hA : ∀ Ex, A = .inl Ex → Ex = ISE) : zMetW l E yL_restore cL_restore 2 (some .int) [(0, 4, 5, 148)] ({ frames := 7, cells := 1, slots := 6, locals := 184 } : Room) 1 6 [.ref a] h (lwR A (fun _ => -1001) P) (fun _ _ => False) := by
  refine zMW_start hzs hst (by decide) (Nat.le_of_ble_eq_true rfl) (fun X C G F => ?_)
  show zV X 0 0 _ 0 [(0, .ref a)] []
  have xh : ∀ Ex h9, sX9 h A P Ex h9 → zVX X (0 + 1) (0 + 6) h9 1 [(0, .ref a)] [] Ex := by
    intro Ex h9 ⟨eA, p9⟩
    rcases hA Ex eA with rfl
    · refine zVX.catch C F [] (0, 4, 5, 148) [] rfl (fun z hz => by cases hz) (by decide) (by decide) lk_L_148 ca_java_lang_IllegalStateException_java_lang_IllegalStateException (fun q => ?_)
      show zV X _ _ h9 5 _ _
      refine zV.astore_n (lo' := [(0, _), (1, _)]) C dL_restore_5 rfl (by decide) rfl rfl rfl ?_
      refine zV.si (v := -1001) C dL_restore_6 (by decide) ?_
      refine zV.iretW C F dL_restore_9 rfl ?_
      exact ⟨by rw [eA]; try rfl, p9⟩
  refine zV.aload_n C dL_restore_0 rfl rfl ?_
  refine zV.callV (n := 0) C G dL_restore_1 hM rfl ⟨cd_X9_restoreSnapshot, lk_L_169, im_X9_restoreSnapshot, se_X9_X9_restoreSnapshot, in_X9⟩ ⟨⟨by decide, by decide⟩, by decide⟩ rfl rfl rfl hk ⟨rfl, by decide⟩ (zafX (fun r9 h9 q9 => ?_)) (fun Ex h9 q9 _ => xh Ex h9 q9)
  obtain ⟨⟨v9, eA, rfl⟩, p9⟩ := q9
  obtain ⟨w, rfl⟩ := hV v9 eA
  show zV X _ _ h9 4 _ (.int w :: [])
  refine zV.iretW C F dL_restore_4 rfl ?_
  exact ⟨by rw [eA]; try rfl, p9⟩
set_option maxHeartbeats 4000000 in
set_option maxRecDepth 100000 in
theorem s_Lreason {l : Launch} {E : zG} (hzs : zS E) (hst : l.stackTraces = false) {h : zH} {a : Nat} {A : zAn} {P : zH → Prop} (hM : zMet l E yX9_rejectionReason cX9_rejectionReason 1 (some .int) ({ frames := 7, cells := 1, slots := 6, locals := 115 } : Room) 1 6 [.ref a] h (sQ9 h A P) (sX9 h A P)) (hk : hK h a = 13) (hV : ∀ v, A = .inr v → ∃ w, v = .int w) (hA : ∀ Ex, A = .inl Ex → Ex = NSE) : zMetW l E yL_reason cL_reason 2 (some .int) [(0, 4, 5, 29)] ({ frames := 8, cells := 1, slots := 6, locals := 135 } : Room) 1 6 [.ref a] h (lwR A (fun _ => -1001) P) (fun _ _ => False) := by
  refine zMW_start hzs hst (by decide) (Nat.le_of_ble_eq_true rfl) (fun X C G F => ?_)
  show zV X 0 0 _ 0 [(0, .ref a)] []
  have xh : ∀ Ex h9, sX9 h A P Ex h9 → zVX X (0 + 1) (0 + 6) h9 1 [(0, .ref a)] [] Ex := by
    intro Ex h9 ⟨eA, p9⟩
    rcases hA Ex eA with rfl
    · refine zVX.catch C F [] (0, 4, 5, 29) [] rfl (fun z hz => by cases hz) (by decide) (by decide) lk_L_29 ca_java_util_NoSuchElementException_java_util_NoSuchElementException (fun q => ?_)
      show zV X _ _ h9 5 _ _
      refine zV.astore_n (lo' := [(0, _), (1, _)]) C dL_reason_5 rfl (by decide) rfl rfl rfl ?_
      refine zV.si (v := -1001) C dL_reason_6 (by decide) ?_
      refine zV.iretW C F dL_reason_9 rfl ?_
      exact ⟨by rw [eA]; try rfl, p9⟩
  refine zV.aload_n C dL_reason_0 rfl rfl ?_
  refine zV.callV (n := 0) C G dL_reason_1 hM rfl ⟨cd_X9_rejectionReason, lk_L_157, im_X9_rejectionReason, se_X9_X9_rejectionReason, in_X9⟩ ⟨⟨by decide, by decide⟩, by decide⟩ rfl rfl rfl hk ⟨rfl, by decide⟩ (zafX (fun r9 h9 q9 => ?_)) (fun Ex h9 q9 _ => xh Ex h9 q9)
  obtain ⟨⟨v9, eA, rfl⟩, p9⟩ := q9
  obtain ⟨w, rfl⟩ := hV v9 eA
  show zV X _ _ h9 4 _ (.int w :: [])
  refine zV.iretW C F dL_reason_4 rfl ?_
  exact ⟨by rw [eA]; try rfl, p9⟩
set_option maxHeartbeats 4000000 in
set_option maxRecDepth 100000 in
theorem s_Ldetail {l : Launch} {E : zG} (hzs : zS E) (hst : l.stackTraces = false) {h : zH} {a : Nat} {A : zAn} {P : zH → Prop} (hM : zMet l E yX9_rejectionDetail cX9_rejectionDetail 1 (some .int) ({ frames := 7, cells := 1, slots := 6, locals := 115 } : Room) 1 6 [.ref a] h (sQ9 h A P) (sX9 h A P)) (hk : hK h a = 13) (hV : ∀ v, A = .inr v → ∃ w, v = .int w) (hA : ∀ Ex, A = .inl Ex → Ex = NSE) : zMetW l E yL_detail cL_detail 2 (some .int) [(0, 4, 5, 29)] ({ frames := 8, cells := 1, slots := 6, locals := 135 } : Room) 1 6 [.ref a] h (lwR A (fun _ => -1001) P) (fun _ _ => False) := by
  refine zMW_start hzs hst (by decide) (Nat.le_of_ble_eq_true rfl) (fun X C G F => ?_)
  show zV X 0 0 _ 0 [(0, .ref a)] []
  have xh : ∀ Ex h9, sX9 h A P Ex h9 → zVX X (0 + 1) (0 + 6) h9 1 [(0, .ref a)] [] Ex := by
    intro Ex h9 ⟨eA, p9⟩
    rcases hA Ex eA with rfl
    · refine zVX.catch C F [] (0, 4, 5, 29) [] rfl (fun z hz => by cases hz) (by decide) (by decide) lk_L_29 ca_java_util_NoSuchElementException_java_util_NoSuchElementException (fun q => ?_)
      show zV X _ _ h9 5 _ _
      refine zV.astore_n (lo' := [(0, _), (1, _)]) C dL_detail_5 rfl (by decide) rfl rfl rfl ?_
      refine zV.si (v := -1001) C dL_detail_6 (by decide) ?_
      refine zV.iretW C F dL_detail_9 rfl ?_
      exact ⟨by rw [eA]; try rfl, p9⟩
  refine zV.aload_n C dL_detail_0 rfl rfl ?_
  refine zV.callV (n := 0) C G dL_detail_1 hM rfl ⟨cd_X9_rejectionDetail, lk_L_160, im_X9_rejectionDetail, se_X9_X9_rejectionDetail, in_X9⟩ ⟨⟨by decide, by decide⟩, by decide⟩ rfl rfl rfl hk ⟨rfl, by decide⟩ (zafX (fun r9 h9 q9 => ?_)) (fun Ex h9 q9 _ => xh Ex h9 q9)
  obtain ⟨⟨v9, eA, rfl⟩, p9⟩ := q9
  obtain ⟨w, rfl⟩ := hV v9 eA
  show zV X _ _ h9 4 _ (.int w :: [])
  refine zV.iretW C F dL_detail_4 rfl ?_
  exact ⟨by rw [eA]; try rfl, p9⟩
set_option maxHeartbeats 4000000 in
set_option maxRecDepth 100000 in
theorem s_Lcause {l : Launch} {E : zG} (hzs : zS E) (hst : l.stackTraces = false) {h : zH} {a : Nat} {A : zAn} {P : zH → Prop} (hM : zMet l E yX9_causeReason cX9_causeReason 1 (some .int) ({ frames := 6, cells := 1, slots := 6, locals := 95 } : Room) 1 6 [.ref a] h (sQ9 h A P) (sX9 h A P)) (hk : hK h a = 13) (hV : ∀ v, A = .inr v → ∃ w, v = .int w) (hA : ∀ Ex, A = .inl Ex → Ex = NSE) : zMetW l E yL_cause cL_cause 2 (some .int) [(0, 4, 5, 29)] ({ frames := 7, cells := 1, slots := 6, locals := 115 } : Room) 1 6 [.ref a] h (lwR A (fun _ => -1001) P) (fun _ _ => False) := by
  refine zMW_start hzs hst (by decide) (Nat.le_of_ble_eq_true rfl) (fun X C G F => ?_)
  show zV X 0 0 _ 0 [(0, .ref a)] []
  have xh : ∀ Ex h9, sX9 h A P Ex h9 → zVX X (0 + 1) (0 + 6) h9 1 [(0, .ref a)] [] Ex := by
    intro Ex h9 ⟨eA, p9⟩
    rcases hA Ex eA with rfl
    · refine zVX.catch C F [] (0, 4, 5, 29) [] rfl (fun z hz => by cases hz) (by decide) (by decide) lk_L_29 ca_java_util_NoSuchElementException_java_util_NoSuchElementException (fun q => ?_)
      show zV X _ _ h9 5 _ _
      refine zV.astore_n (lo' := [(0, _), (1, _)]) C dL_cause_5 rfl (by decide) rfl rfl rfl ?_
      refine zV.si (v := -1001) C dL_cause_6 (by decide) ?_
      refine zV.iretW C F dL_cause_9 rfl ?_
      exact ⟨by rw [eA]; try rfl, p9⟩
  refine zV.aload_n C dL_cause_0 rfl rfl ?_
  refine zV.callV (n := 0) C G dL_cause_1 hM rfl ⟨cd_X9_causeReason, lk_L_163, im_X9_causeReason, se_X9_X9_causeReason, in_X9⟩ ⟨⟨by decide, by decide⟩, by decide⟩ rfl rfl rfl hk ⟨rfl, by decide⟩ (zafX (fun r9 h9 q9 => ?_)) (fun Ex h9 q9 _ => xh Ex h9 q9)
  obtain ⟨⟨v9, eA, rfl⟩, p9⟩ := q9
  obtain ⟨w, rfl⟩ := hV v9 eA
  show zV X _ _ h9 4 _ (.int w :: [])
  refine zV.iretW C F dL_cause_4 rfl ?_
  exact ⟨by rw [eA]; try rfl, p9⟩
set_option maxHeartbeats 4000000 in
set_option maxRecDepth 100000 in
theorem s_LsetShade {l : Launch} {E : zG} (hzs : zS E) (hst : l.stackTraces = false) {h : zH} {a : Nat} {x : Int32} {y : Int32} {A : zAn} {P : zH → Prop} (hM : zMet l E yX9_setShade cX9_setShade 3 (some .int) ({ frames := 7, cells := 1, slots := 6, locals := 209 } : Room) 1 6 [.ref a, .int x, .int y] h (sQ9 h A P) (sX9 h A P)) (hk : hK h a = 13) (hV : ∀ v, A = .inr v → ∃ w, v = .int w) (hA : ∀ Ex, A = .inl Ex → Ex = IOB ∨ Ex = IAE) : zMetW l E yL_setShade cL_setShade 4 (some .int) [(0, 6, 7, 13), (0, 6, 12, 15)] ({ frames := 8, cells := 1, slots := 6, locals := 231 } : Room) 1 6 [.ref a, .int x, .int y] h (lwR A (fun Ex => if Ex = IOB then -1001 else -1002) P) (fun _ _ => False) := by
  refine zMW_start hzs hst (by decide) (Nat.le_of_ble_eq_true rfl) (fun X C G F => ?_)
  show zV X 0 0 _ 0 [(0, .ref a), (1, .int x), (2, .int y)] []
  have xh : ∀ Ex h9, sX9 h A P Ex h9 → zVX X (0 + 1) (0 + 6) h9 3 [(0, .ref a), (1, .int x), (2, .int y)] [] Ex := by
    intro Ex h9 ⟨eA, p9⟩
    rcases hA Ex eA with rfl | rfl
    · refine zVX.catch C F [] (0, 6, 7, 13) [(0, 6, 12, 15)] rfl (fun z hz => by cases hz) (by decide) (by decide) lk_L_13 ca_java_lang_IndexOutOfBoundsException_java_lang_IndexOutOfBoundsException (fun q => ?_)
      show zV X _ _ h9 7 _ _
      refine zV.astore_n (lo' := [(0, _), (1, _), (2, _), (3, _)]) C dL_setShade_7 rfl (by decide) rfl rfl rfl ?_
      refine zV.si (v := -1001) C dL_setShade_8 (by decide) ?_
      refine zV.iretW C F dL_setShade_11 rfl ?_
      exact ⟨by rw [eA]; try rfl, p9⟩
    · refine zVX.catch C F [(0, 6, 7, 13)] (0, 6, 12, 15) [] rfl (fun z hz => by
        rcases List.mem_cons.mp hz with rfl | hz
        · exact ⟨by decide, _, lk_L_13, nc_IAE_IOB⟩
        cases hz) (by decide) (by decide) lk_L_15 ca_java_lang_IllegalArgumentException_java_lang_IllegalArgumentException (fun q => ?_)
      show zV X _ _ h9 12 _ _
      refine zV.astore_n (lo' := [(0, _), (1, _), (2, _), (3, _)]) C dL_setShade_12 rfl (by decide) rfl rfl rfl ?_
      refine zV.si (v := -1002) C dL_setShade_13 (by decide) ?_
      refine zV.iretW C F dL_setShade_16 rfl ?_
      exact ⟨by rw [eA]; try rfl, p9⟩
  refine zV.aload_n C dL_setShade_0 rfl rfl ?_
  refine zV.iload_n C dL_setShade_1 rfl ?_
  refine zV.iload_n C dL_setShade_2 rfl ?_
  refine zV.callV (n := 2) C G dL_setShade_3 hM rfl ⟨cd_X9_setShade, lk_L_42, im_X9_setShade, se_X9_X9_setShade, in_X9⟩ ⟨⟨by decide, by decide⟩, by decide⟩ rfl rfl rfl hk ⟨rfl, by decide⟩ (zafX (fun r9 h9 q9 => ?_)) (fun Ex h9 q9 _ => xh Ex h9 q9)
  obtain ⟨⟨v9, eA, rfl⟩, p9⟩ := q9
  obtain ⟨w, rfl⟩ := hV v9 eA
  show zV X _ _ h9 6 _ (.int w :: [])
  refine zV.iretW C F dL_setShade_6 rfl ?_
  exact ⟨by rw [eA]; try rfl, p9⟩
set_option maxHeartbeats 4000000 in
set_option maxRecDepth 100000 in
theorem s_Lfold {l : Launch} {E : zG} (hzs : zS E) (hst : l.stackTraces = false) {h : zH} {a : Nat} {x : Int32} {A : zAn} {P : zH → Prop} (hM : zMet l E yX9_fold cX9_fold 2 (some .int) ({ frames := 7, cells := 1, slots := 6, locals := 209 } : Room) 1 6 [.ref a, .int x] h (sQ9 h A P) (sX9 h A P)) (hk : hK h a = 13) (hV : ∀ v, A = .inr v → ∃ w, v = .int w) (hA : ∀ Ex, A = .inl Ex → Ex = IOB ∨ Ex = UOE) : zMetW l E yL_fold cL_fold 3 (some .int) [(0, 5, 6, 13), (0, 5, 11, 17)] ({ frames := 8, cells := 1, slots := 6, locals := 230 } : Room) 1 6 [.ref a, .int x] h (lwR A (fun Ex => if Ex = IOB then -1001 else -1002) P) (fun _ _ => False) := by
  refine zMW_start hzs hst (by decide) (Nat.le_of_ble_eq_true rfl) (fun X C G F => ?_)
  show zV X 0 0 _ 0 [(0, .ref a), (1, .int x)] []
  have xh : ∀ Ex h9, sX9 h A P Ex h9 → zVX X (0 + 1) (0 + 6) h9 2 [(0, .ref a), (1, .int x)] [] Ex := by
    intro Ex h9 ⟨eA, p9⟩
    rcases hA Ex eA with rfl | rfl
    · refine zVX.catch C F [] (0, 5, 6, 13) [(0, 5, 11, 17)] rfl (fun z hz => by cases hz) (by decide) (by decide) lk_L_13 ca_java_lang_IndexOutOfBoundsException_java_lang_IndexOutOfBoundsException (fun q => ?_)
      show zV X _ _ h9 6 _ _
      refine zV.astore_n (lo' := [(0, _), (1, _), (2, _)]) C dL_fold_6 rfl (by decide) rfl rfl rfl ?_
      refine zV.si (v := -1001) C dL_fold_7 (by decide) ?_
      refine zV.iretW C F dL_fold_10 rfl ?_
      exact ⟨by rw [eA]; try rfl, p9⟩
    · refine zVX.catch C F [(0, 5, 6, 13)] (0, 5, 11, 17) [] rfl (fun z hz => by
        rcases List.mem_cons.mp hz with rfl | hz
        · exact ⟨by decide, _, lk_L_13, nc_UOE_IOB⟩
        cases hz) (by decide) (by decide) lk_L_17 ca_java_lang_UnsupportedOperationException_java_lang_UnsupportedOperationException (fun q => ?_)
      show zV X _ _ h9 11 _ _
      refine zV.astore_n (lo' := [(0, _), (1, _), (2, _)]) C dL_fold_11 rfl (by decide) rfl rfl rfl ?_
      refine zV.si (v := -1002) C dL_fold_12 (by decide) ?_
      refine zV.iretW C F dL_fold_15 rfl ?_
      exact ⟨by rw [eA]; try rfl, p9⟩
  refine zV.aload_n C dL_fold_0 rfl rfl ?_
  refine zV.iload_n C dL_fold_1 rfl ?_
  refine zV.callV (n := 1) C G dL_fold_2 hM rfl ⟨cd_X9_fold, lk_L_54, im_X9_fold, se_X9_X9_fold, in_X9⟩ ⟨⟨by decide, by decide⟩, by decide⟩ rfl rfl rfl hk ⟨rfl, by decide⟩ (zafX (fun r9 h9 q9 => ?_)) (fun Ex h9 q9 _ => xh Ex h9 q9)
  obtain ⟨⟨v9, eA, rfl⟩, p9⟩ := q9
  obtain ⟨w, rfl⟩ := hV v9 eA
  show zV X _ _ h9 5 _ (.int w :: [])
  refine zV.iretW C F dL_fold_5 rfl ?_
  exact ⟨by rw [eA]; try rfl, p9⟩
set_option maxHeartbeats 4000000 in
set_option maxRecDepth 100000 in
theorem s_LmeanRust {l : Launch} {E : zG} (hzs : zS E) (hst : l.stackTraces = false) {h : zH} {a : Nat} {A : zAn} {P : zH → Prop} (hM : zMet l E yX9_meanRust cX9_meanRust 1 (some .double) ({ frames := 7, cells := 1, slots := 6, locals := 115 } : Room) 1 6 [.ref a] h (sQ9 h A P) (sX9 h A P)) (hk : hK h a = 13) (hV : ∀ v, A = .inr v → ∃ w, v = .double w) (hA : ∀ Ex, A = .inl Ex → Ex = ARE) : zMetW l E yL_meanRust cL_meanRust 2 (some .double) [(0, 4, 5, 128)] ({ frames := 8, cells := 1, slots := 6, locals := 135 } : Room) 1 6 [.ref a] h (lwRD A P) (fun _ _ => False) := by
  refine zMW_start hzs hst (by decide) (Nat.le_of_ble_eq_true rfl) (fun X C G F => ?_)
  show zV X 0 0 _ 0 [(0, .ref a)] []
  have xh : ∀ Ex h9, sX9 h A P Ex h9 → zVX X (0 + 1) (0 + 6) h9 1 [(0, .ref a)] [] Ex := by
    intro Ex h9 ⟨eA, p9⟩
    rcases hA Ex eA with rfl
    · refine zVX.catch C F [] (0, 4, 5, 128) [] rfl (fun z hz => by cases hz) (by decide) (by decide) lk_L_128 ca_java_lang_ArithmeticException_java_lang_ArithmeticException (fun q => ?_)
      show zV X _ _ h9 5 _ _
      refine zV.astore_n (lo' := [(0, _), (1, _)]) C dL_meanRust_5 rfl (by decide) rfl rfl rfl ?_
      refine zV.ldcD C dL_meanRust_6 co_L_130 ?_
      refine zV.dretW C F dL_meanRust_9 rfl ?_
      exact ⟨by rw [eA]; try rfl, p9⟩
  refine zV.aload_n C dL_meanRust_0 rfl rfl ?_
  refine zV.callV (n := 0) C G dL_meanRust_1 hM rfl ⟨cd_X9_meanRust, lk_L_124, im_X9_meanRust, se_X9_X9_meanRust, in_X9⟩ ⟨⟨by decide, by decide⟩, by decide⟩ rfl rfl rfl hk ⟨rfl, by decide⟩ (zafX (fun r9 h9 q9 => ?_)) (fun Ex h9 q9 _ => xh Ex h9 q9)
  obtain ⟨⟨v9, eA, rfl⟩, p9⟩ := q9
  obtain ⟨w, rfl⟩ := hV v9 eA
  show zV X _ _ h9 4 _ (.double w :: [])
  refine zV.dretW C F dL_meanRust_4 rfl ?_
  exact ⟨by rw [eA]; try rfl, p9⟩
set_option maxHeartbeats 4000000 in
set_option maxRecDepth 100000 in
theorem s_LfoldedShare {l : Launch} {E : zG} (hzs : zS E) (hst : l.stackTraces = false) {h : zH} {a : Nat} {A : zAn} {P : zH → Prop} (hM : zMet l E yX9_foldedShare cX9_foldedShare 1 (some .float) ({ frames := 7, cells := 1, slots := 6, locals := 115 } : Room) 1 6 [.ref a] h (sQ9 h A P) (sX9 h A P)) (hk : hK h a = 13) (hV : ∀ v, A = .inr v → ∃ w, v = .float w) (hA : ∀ Ex, A = .inl Ex → Ex = ARE) : zMetW l E yL_foldedShare cL_foldedShare 2 (some .float) [(0, 4, 5, 128)] ({ frames := 8, cells := 1, slots := 6, locals := 135 } : Room) 1 6 [.ref a] h (lwRF A P) (fun _ _ => False) := by
  refine zMW_start hzs hst (by decide) (Nat.le_of_ble_eq_true rfl) (fun X C G F => ?_)
  show zV X 0 0 _ 0 [(0, .ref a)] []
  have xh : ∀ Ex h9, sX9 h A P Ex h9 → zVX X (0 + 1) (0 + 6) h9 1 [(0, .ref a)] [] Ex := by
    intro Ex h9 ⟨eA, p9⟩
    rcases hA Ex eA with rfl
    · refine zVX.catch C F [] (0, 4, 5, 128) [] rfl (fun z hz => by cases hz) (by decide) (by decide) lk_L_128 ca_java_lang_ArithmeticException_java_lang_ArithmeticException (fun q => ?_)
      show zV X _ _ h9 5 _ _
      refine zV.astore_n (lo' := [(0, _), (1, _)]) C dL_foldedShare_5 rfl (by decide) rfl rfl rfl ?_
      refine zV.ldcF C dL_foldedShare_6 co_L_136 ?_
      refine zV.fretW C F dL_foldedShare_8 rfl ?_
      exact ⟨by rw [eA]; try rfl, p9⟩
  refine zV.aload_n C dL_foldedShare_0 rfl rfl ?_
  refine zV.callV (n := 0) C G dL_foldedShare_1 hM rfl ⟨cd_X9_foldedShare, lk_L_132, im_X9_foldedShare, se_X9_X9_foldedShare, in_X9⟩ ⟨⟨by decide, by decide⟩, by decide⟩ rfl rfl rfl hk ⟨rfl, by decide⟩ (zafX (fun r9 h9 q9 => ?_)) (fun Ex h9 q9 _ => xh Ex h9 q9)
  obtain ⟨⟨v9, eA, rfl⟩, p9⟩ := q9
  obtain ⟨w, rfl⟩ := hV v9 eA
  show zV X _ _ h9 4 _ (.float w :: [])
  refine zV.fretW C F dL_foldedShare_4 rfl ?_
  exact ⟨by rw [eA]; try rfl, p9⟩
set_option maxHeartbeats 4000000 in
set_option maxRecDepth 100000 in
theorem s_LwouldCollapse {l : Launch} {E : zG} (hzs : zS E) (hst : l.stackTraces = false) {h : zH} {a : Nat} {x : Int32} {A : zAn} {P : zH → Prop} (hM : zMet l E yX9_wouldCollapse cX9_wouldCollapse 2 (some .int) ({ frames := 6, cells := 1, slots := 6, locals := 164 } : Room) 1 6 [.ref a, .int x] h (sQ9 h A P) (sX9 h A P)) (hk : hK h a = 13) (hV : ∀ v, A = .inr v → ∃ w, v = .int w) (hA : ∀ Ex, A = .inl Ex → Ex = IAE) : zMetW l E yL_wouldCollapse cL_wouldCollapse 3 (some .int) [(0, 5, 6, 15)] ({ frames := 7, cells := 1, slots := 6, locals := 185 } : Room) 1 6 [.ref a, .int x] h (lwR A (fun _ => -1001) P) (fun _ _ => False) := by
  refine zMW_start hzs hst (by decide) (Nat.le_of_ble_eq_true rfl) (fun X C G F => ?_)
  show zV X 0 0 _ 0 [(0, .ref a), (1, .int x)] []
  have xh : ∀ Ex h9, sX9 h A P Ex h9 → zVX X (0 + 1) (0 + 6) h9 2 [(0, .ref a), (1, .int x)] [] Ex := by
    intro Ex h9 ⟨eA, p9⟩
    rcases hA Ex eA with rfl
    · refine zVX.catch C F [] (0, 5, 6, 15) [] rfl (fun z hz => by cases hz) (by decide) (by decide) lk_L_15 ca_java_lang_IllegalArgumentException_java_lang_IllegalArgumentException (fun q => ?_)
      show zV X _ _ h9 6 _ _
      refine zV.astore_n (lo' := [(0, _), (1, _), (2, _)]) C dL_wouldCollapse_6 rfl (by decide) rfl rfl rfl ?_
      refine zV.si (v := -1001) C dL_wouldCollapse_7 (by decide) ?_
      refine zV.iretW C F dL_wouldCollapse_10 rfl ?_
      exact ⟨by rw [eA]; try rfl, p9⟩
  refine zV.aload_n C dL_wouldCollapse_0 rfl rfl ?_
  refine zV.iload_n C dL_wouldCollapse_1 rfl ?_
  refine zV.callV (n := 1) C G dL_wouldCollapse_2 hM rfl ⟨cd_X9_wouldCollapse, lk_L_112, im_X9_wouldCollapse, se_X9_X9_wouldCollapse, in_X9⟩ ⟨⟨by decide, by decide⟩, by decide⟩ rfl rfl rfl hk ⟨rfl, by decide⟩ (zafX (fun r9 h9 q9 => ?_)) (fun Ex h9 q9 _ => xh Ex h9 q9)
  obtain ⟨⟨v9, eA, rfl⟩, p9⟩ := q9
  obtain ⟨w, rfl⟩ := hV v9 eA
  show zV X _ _ h9 5 _ (.int w :: [])
  refine zV.iretW C F dL_wouldCollapse_5 rfl ?_
  exact ⟨by rw [eA]; try rfl, p9⟩
set_option maxHeartbeats 4000000 in
set_option maxRecDepth 100000 in
theorem s_Lelder {l : Launch} {E : zG} (hzs : zS E) (hst : l.stackTraces = false) {h : zH} {a : Nat} {x : Int32} {A : zAn} {P : zH → Prop} (hM : zMet l E yX9_elderOf cX9_elderOf 2 (some .int) ({ frames := 7, cells := 2, slots := 12, locals := 115 } : Room) 2 12 [.ref a, .int x] h (sQ9 h A P) (sX9 h A P)) (hk : hK h a = 13) (hV : ∀ v, A = .inr v → ∃ w, v = .int w) (hA : ∀ Ex, A = .inl Ex → Ex = IOB ∨ Ex = NSE) : zMetW l E yL_elder cL_elder 3 (some .int) [(0, 5, 6, 13), (0, 5, 11, 29)] ({ frames := 8, cells := 2, slots := 12, locals := 136 } : Room) 2 12 [.ref a, .int x] h (lwR A (fun Ex => if Ex = IOB then -1001 else -1002) P) (fun _ _ => False) := by
  refine zMW_start hzs hst (by decide) (Nat.le_of_ble_eq_true rfl) (fun X C G F => ?_)
  show zV X 0 0 _ 0 [(0, .ref a), (1, .int x)] []
  have xh : ∀ Ex h9, sX9 h A P Ex h9 → zVX X (0 + 2) (0 + 12) h9 2 [(0, .ref a), (1, .int x)] [] Ex := by
    intro Ex h9 ⟨eA, p9⟩
    rcases hA Ex eA with rfl | rfl
    · refine zVX.catch C F [] (0, 5, 6, 13) [(0, 5, 11, 29)] rfl (fun z hz => by cases hz) (by decide) (by decide) lk_L_13 ca_java_lang_IndexOutOfBoundsException_java_lang_IndexOutOfBoundsException (fun q => ?_)
      show zV X _ _ h9 6 _ _
      refine zV.astore_n (lo' := [(0, _), (1, _), (2, _)]) C dL_elder_6 rfl (by decide) rfl rfl rfl ?_
      refine zV.si (v := -1001) C dL_elder_7 (by decide) ?_
      refine zV.iretW C F dL_elder_10 rfl ?_
      exact ⟨by rw [eA]; try rfl, p9⟩
    · refine zVX.catch C F [(0, 5, 6, 13)] (0, 5, 11, 29) [] rfl (fun z hz => by
        rcases List.mem_cons.mp hz with rfl | hz
        · exact ⟨by decide, _, lk_L_13, nc_NSE_IOB⟩
        cases hz) (by decide) (by decide) lk_L_29 ca_java_util_NoSuchElementException_java_util_NoSuchElementException (fun q => ?_)
      show zV X _ _ h9 11 _ _
      refine zV.astore_n (lo' := [(0, _), (1, _), (2, _)]) C dL_elder_11 rfl (by decide) rfl rfl rfl ?_
      refine zV.si (v := -1002) C dL_elder_12 (by decide) ?_
      refine zV.iretW C F dL_elder_15 rfl ?_
      exact ⟨by rw [eA]; try rfl, p9⟩
  refine zV.aload_n C dL_elder_0 rfl rfl ?_
  refine zV.iload_n C dL_elder_1 rfl ?_
  refine zV.callV (n := 1) C G dL_elder_2 hM rfl ⟨cd_X9_elderOf, lk_L_97, im_X9_elderOf, se_X9_X9_elderOf, in_X9⟩ ⟨⟨by decide, by decide⟩, by decide⟩ rfl rfl rfl hk ⟨rfl, by decide⟩ (zafX (fun r9 h9 q9 => ?_)) (fun Ex h9 q9 _ => xh Ex h9 q9)
  obtain ⟨⟨v9, eA, rfl⟩, p9⟩ := q9
  obtain ⟨w, rfl⟩ := hV v9 eA
  show zV X _ _ h9 5 _ (.int w :: [])
  refine zV.iretW C F dL_elder_5 rfl ?_
  exact ⟨by rw [eA]; try rfl, p9⟩
set_option maxHeartbeats 4000000 in
set_option maxRecDepth 100000 in
theorem s_LbestNeighbour {l : Launch} {E : zG} (hzs : zS E) (hst : l.stackTraces = false) {h : zH} {a : Nat} {x : Int32} {A : zAn} {P : zH → Prop} (hM : zMet l E yX9_bestNeighbour cX9_bestNeighbour 2 (some .int) ({ frames := 7, cells := 2, slots := 12, locals := 115 } : Room) 2 12 [.ref a, .int x] h (sQ9 h A P) (sX9 h A P)) (hk : hK h a = 13) (hV : ∀ v, A = .inr v → ∃ w, v = .int w) (hA : ∀ Ex, A = .inl Ex → Ex = IOB ∨ Ex = NSE) : zMetW l E yL_bestNeighbour cL_bestNeighbour 3 (some .int) [(0, 5, 6, 13), (0, 5, 11, 29)] ({ frames := 8, cells := 2, slots := 12, locals := 136 } : Room) 2 12 [.ref a, .int x] h (lwR A (fun Ex => if Ex = IOB then -1001 else -1002) P) (fun _ _ => False) := by
  refine zMW_start hzs hst (by decide) (Nat.le_of_ble_eq_true rfl) (fun X C G F => ?_)
  show zV X 0 0 _ 0 [(0, .ref a), (1, .int x)] []
  have xh : ∀ Ex h9, sX9 h A P Ex h9 → zVX X (0 + 2) (0 + 12) h9 2 [(0, .ref a), (1, .int x)] [] Ex := by
    intro Ex h9 ⟨eA, p9⟩
    rcases hA Ex eA with rfl | rfl
    · refine zVX.catch C F [] (0, 5, 6, 13) [(0, 5, 11, 29)] rfl (fun z hz => by cases hz) (by decide) (by decide) lk_L_13 ca_java_lang_IndexOutOfBoundsException_java_lang_IndexOutOfBoundsException (fun q => ?_)
      show zV X _ _ h9 6 _ _
      refine zV.astore_n (lo' := [(0, _), (1, _), (2, _)]) C dL_bestNeighbour_6 rfl (by decide) rfl rfl rfl ?_
      refine zV.si (v := -1001) C dL_bestNeighbour_7 (by decide) ?_
      refine zV.iretW C F dL_bestNeighbour_10 rfl ?_
      exact ⟨by rw [eA]; try rfl, p9⟩
    · refine zVX.catch C F [(0, 5, 6, 13)] (0, 5, 11, 29) [] rfl (fun z hz => by
        rcases List.mem_cons.mp hz with rfl | hz
        · exact ⟨by decide, _, lk_L_13, nc_NSE_IOB⟩
        cases hz) (by decide) (by decide) lk_L_29 ca_java_util_NoSuchElementException_java_util_NoSuchElementException (fun q => ?_)
      show zV X _ _ h9 11 _ _
      refine zV.astore_n (lo' := [(0, _), (1, _), (2, _)]) C dL_bestNeighbour_11 rfl (by decide) rfl rfl rfl ?_
      refine zV.si (v := -1002) C dL_bestNeighbour_12 (by decide) ?_
      refine zV.iretW C F dL_bestNeighbour_15 rfl ?_
      exact ⟨by rw [eA]; try rfl, p9⟩
  refine zV.aload_n C dL_bestNeighbour_0 rfl rfl ?_
  refine zV.iload_n C dL_bestNeighbour_1 rfl ?_
  refine zV.callV (n := 1) C G dL_bestNeighbour_2 hM rfl ⟨cd_X9_bestNeighbour, lk_L_103, im_X9_bestNeighbour, se_X9_X9_bestNeighbour, in_X9⟩ ⟨⟨by decide, by decide⟩, by decide⟩ rfl rfl rfl hk ⟨rfl, by decide⟩ (zafX (fun r9 h9 q9 => ?_)) (fun Ex h9 q9 _ => xh Ex h9 q9)
  obtain ⟨⟨v9, eA, rfl⟩, p9⟩ := q9
  obtain ⟨w, rfl⟩ := hV v9 eA
  show zV X _ _ h9 5 _ (.int w :: [])
  refine zV.iretW C F dL_bestNeighbour_5 rfl ?_
  exact ⟨by rw [eA]; try rfl, p9⟩
set_option maxHeartbeats 4000000 in
set_option maxRecDepth 100000 in
theorem s_LbyShade {l : Launch} {E : zG} (hzs : zS E) (hst : l.stackTraces = false) {h : zH} {a : Nat} {x : Int32} {A : zAn} {P : zH → Prop} (hM : zMet l E yX9_lawnByShade cX9_lawnByShade 2 (some .int) ({ frames := 7, cells := 1, slots := 6, locals := 115 } : Room) 1 6 [.ref a, .int x] h (sQ9 h A P) (sX9 h A P)) (hk : hK h a = 13) (hV : ∀ v, A = .inr v → ∃ w, v = .int w) (hA : ∀ Ex, A = .inl Ex → Ex = NSE) : zMetW l E yL_byShade cL_byShade 3 (some .int) [(0, 5, 6, 29)] ({ frames := 8, cells := 1, slots := 6, locals := 136 } : Room) 1 6 [.ref a, .int x] h (lwR A (fun _ => -1001) P) (fun _ _ => False) := by
  refine zMW_start hzs hst (by decide) (Nat.le_of_ble_eq_true rfl) (fun X C G F => ?_)
  show zV X 0 0 _ 0 [(0, .ref a), (1, .int x)] []
  have xh : ∀ Ex h9, sX9 h A P Ex h9 → zVX X (0 + 1) (0 + 6) h9 2 [(0, .ref a), (1, .int x)] [] Ex := by
    intro Ex h9 ⟨eA, p9⟩
    rcases hA Ex eA with rfl
    · refine zVX.catch C F [] (0, 5, 6, 29) [] rfl (fun z hz => by cases hz) (by decide) (by decide) lk_L_29 ca_java_util_NoSuchElementException_java_util_NoSuchElementException (fun q => ?_)
      show zV X _ _ h9 6 _ _
      refine zV.astore_n (lo' := [(0, _), (1, _), (2, _)]) C dL_byShade_6 rfl (by decide) rfl rfl rfl ?_
      refine zV.si (v := -1001) C dL_byShade_7 (by decide) ?_
      refine zV.iretW C F dL_byShade_10 rfl ?_
      exact ⟨by rw [eA]; try rfl, p9⟩
  refine zV.aload_n C dL_byShade_0 rfl rfl ?_
  refine zV.iload_n C dL_byShade_1 rfl ?_
  refine zV.callV (n := 1) C G dL_byShade_2 hM rfl ⟨cd_X9_lawnByShade, lk_L_121, im_X9_lawnByShade, se_X9_X9_lawnByShade, in_X9⟩ ⟨⟨by decide, by decide⟩, by decide⟩ rfl rfl rfl hk ⟨rfl, by decide⟩ (zafX (fun r9 h9 q9 => ?_)) (fun Ex h9 q9 _ => xh Ex h9 q9)
  obtain ⟨⟨v9, eA, rfl⟩, p9⟩ := q9
  obtain ⟨w, rfl⟩ := hV v9 eA
  show zV X _ _ h9 5 _ (.int w :: [])
  refine zV.iretW C F dL_byShade_5 rfl ?_
  exact ⟨by rw [eA]; try rfl, p9⟩
set_option maxHeartbeats 4000000 in
set_option maxRecDepth 100000 in
theorem s_Ldistance {l : Launch} {E : zG} (hzs : zS E) (hst : l.stackTraces = false) {h : zH} {a : Nat} {x : Int32} {y : Int32} {A : zAn} {P : zH → Prop} (hM : zMet l E yX9_distance cX9_distance 3 (some .int) ({ frames := 7, cells := 3, slots := 18, locals := 115 } : Room) 3 18 [.ref a, .int x, .int y] h (sQ9 h A P) (sX9 h A P)) (hk : hK h a = 13) (hV : ∀ v, A = .inr v → ∃ w, v = .int w) (hA : ∀ Ex, A = .inl Ex → Ex = IOB ∨ Ex = NSE) : zMetW l E yL_distance cL_distance 4 (some .int) [(0, 6, 7, 13), (0, 6, 12, 29)] ({ frames := 8, cells := 3, slots := 18, locals := 137 } : Room) 3 18 [.ref a, .int x, .int y] h (lwR A (fun Ex => if Ex = IOB then -1001 else -1002) P) (fun _ _ => False) := by
  refine zMW_start hzs hst (by decide) (Nat.le_of_ble_eq_true rfl) (fun X C G F => ?_)
  show zV X 0 0 _ 0 [(0, .ref a), (1, .int x), (2, .int y)] []
  have xh : ∀ Ex h9, sX9 h A P Ex h9 → zVX X (0 + 3) (0 + 18) h9 3 [(0, .ref a), (1, .int x), (2, .int y)] [] Ex := by
    intro Ex h9 ⟨eA, p9⟩
    rcases hA Ex eA with rfl | rfl
    · refine zVX.catch C F [] (0, 6, 7, 13) [(0, 6, 12, 29)] rfl (fun z hz => by cases hz) (by decide) (by decide) lk_L_13 ca_java_lang_IndexOutOfBoundsException_java_lang_IndexOutOfBoundsException (fun q => ?_)
      show zV X _ _ h9 7 _ _
      refine zV.astore_n (lo' := [(0, _), (1, _), (2, _), (3, _)]) C dL_distance_7 rfl (by decide) rfl rfl rfl ?_
      refine zV.si (v := -1001) C dL_distance_8 (by decide) ?_
      refine zV.iretW C F dL_distance_11 rfl ?_
      exact ⟨by rw [eA]; try rfl, p9⟩
    · refine zVX.catch C F [(0, 6, 7, 13)] (0, 6, 12, 29) [] rfl (fun z hz => by
        rcases List.mem_cons.mp hz with rfl | hz
        · exact ⟨by decide, _, lk_L_13, nc_NSE_IOB⟩
        cases hz) (by decide) (by decide) lk_L_29 ca_java_util_NoSuchElementException_java_util_NoSuchElementException (fun q => ?_)
      show zV X _ _ h9 12 _ _
      refine zV.astore_n (lo' := [(0, _), (1, _), (2, _), (3, _)]) C dL_distance_12 rfl (by decide) rfl rfl rfl ?_
      refine zV.si (v := -1002) C dL_distance_13 (by decide) ?_
      refine zV.iretW C F dL_distance_16 rfl ?_
      exact ⟨by rw [eA]; try rfl, p9⟩
  refine zV.aload_n C dL_distance_0 rfl rfl ?_
  refine zV.iload_n C dL_distance_1 rfl ?_
  refine zV.iload_n C dL_distance_2 rfl ?_
  refine zV.callV (n := 2) C G dL_distance_3 hM rfl ⟨cd_X9_distance, lk_L_26, im_X9_distance, se_X9_X9_distance, in_X9⟩ ⟨⟨by decide, by decide⟩, by decide⟩ rfl rfl rfl hk ⟨rfl, by decide⟩ (zafX (fun r9 h9 q9 => ?_)) (fun Ex h9 q9 _ => xh Ex h9 q9)
  obtain ⟨⟨v9, eA, rfl⟩, p9⟩ := q9
  obtain ⟨w, rfl⟩ := hV v9 eA
  show zV X _ _ h9 6 _ (.int w :: [])
  refine zV.iretW C F dL_distance_6 rfl ?_
  exact ⟨by rw [eA]; try rfl, p9⟩
set_option maxHeartbeats 4000000 in
set_option maxRecDepth 100000 in
theorem s_LwriteLawn {l : Launch} {E : zG} (hzs : zS E) (hst : l.stackTraces = false) {h : zH} {a : Nat} {x : Int32} {A : zAn} {P : zH → Prop} (hM : zMet l E yX9_writeLawn cX9_writeLawn 2 (some .int) ({ frames := 7, cells := 30, slots := 5806, locals := 172 } : Room) 30 5806 [.ref a, .int x] h (sQ9 h A P) (sX9 h A P)) (hk : hK h a = 13) (hV : ∀ v, A = .inr v → ∃ w, v = .int w) (hA : ∀ Ex, A = .inl Ex → Ex = IOB) : zMetW l E yL_writeLawn cL_writeLawn 3 (some .int) [(0, 5, 6, 13)] ({ frames := 8, cells := 30, slots := 5806, locals := 193 } : Room) 30 5806 [.ref a, .int x] h (lwR A (fun _ => -1001) P) (fun _ _ => False) := by
  refine zMW_start hzs hst (by decide) (Nat.le_of_ble_eq_true rfl) (fun X C G F => ?_)
  show zV X 0 0 _ 0 [(0, .ref a), (1, .int x)] []
  have xh : ∀ Ex h9, sX9 h A P Ex h9 → zVX X (0 + 30) (0 + 5806) h9 2 [(0, .ref a), (1, .int x)] [] Ex := by
    intro Ex h9 ⟨eA, p9⟩
    rcases hA Ex eA with rfl
    · refine zVX.catch C F [] (0, 5, 6, 13) [] rfl (fun z hz => by cases hz) (by decide) (by decide) lk_L_13 ca_java_lang_IndexOutOfBoundsException_java_lang_IndexOutOfBoundsException (fun q => ?_)
      show zV X _ _ h9 6 _ _
      refine zV.astore_n (lo' := [(0, _), (1, _), (2, _)]) C dL_writeLawn_6 rfl (by decide) rfl rfl rfl ?_
      refine zV.si (v := -1001) C dL_writeLawn_7 (by decide) ?_
      refine zV.iretW C F dL_writeLawn_10 rfl ?_
      exact ⟨by rw [eA]; try rfl, p9⟩
  refine zV.aload_n C dL_writeLawn_0 rfl rfl ?_
  refine zV.iload_n C dL_writeLawn_1 rfl ?_
  refine zV.callV (n := 1) C G dL_writeLawn_2 hM rfl ⟨cd_X9_writeLawn, lk_L_137, im_X9_writeLawn, se_X9_X9_writeLawn, in_X9⟩ ⟨⟨by decide, by decide⟩, by decide⟩ rfl rfl rfl hk ⟨rfl, by decide⟩ (zafX (fun r9 h9 q9 => ?_)) (fun Ex h9 q9 _ => xh Ex h9 q9)
  obtain ⟨⟨v9, eA, rfl⟩, p9⟩ := q9
  obtain ⟨w, rfl⟩ := hV v9 eA
  show zV X _ _ h9 5 _ (.int w :: [])
  refine zV.iretW C F dL_writeLawn_5 rfl ?_
  exact ⟨by rw [eA]; try rfl, p9⟩
set_option maxHeartbeats 4000000 in
set_option maxRecDepth 100000 in
theorem s_LoutputAt {l : Launch} {E : zG} (hzs : zS E) (hst : l.stackTraces = false) {h : zH} {a : Nat} {x : Int32} {A : zAn} {P : zH → Prop} (hM : zMet l E yX9_outputAt cX9_outputAt 2 (some .char) ({ frames := 6, cells := 1, slots := 6, locals := 95 } : Room) 1 6 [.ref a, .int x] h (sQ9 h A P) (sX9 h A P)) (hk : hK h a = 13) (hV : ∀ v, A = .inr v → ∃ w, v = .int w) (hA : ∀ Ex, A = .inl Ex → Ex = IOB) : zMetW l E yL_outputAt cL_outputAt 3 (some .int) [(0, 5, 6, 13)] ({ frames := 7, cells := 1, slots := 6, locals := 116 } : Room) 1 6 [.ref a, .int x] h (lwR A (fun _ => -1001) P) (fun _ _ => False) := by
  refine zMW_start hzs hst (by decide) (Nat.le_of_ble_eq_true rfl) (fun X C G F => ?_)
  show zV X 0 0 _ 0 [(0, .ref a), (1, .int x)] []
  have xh : ∀ Ex h9, sX9 h A P Ex h9 → zVX X (0 + 1) (0 + 6) h9 2 [(0, .ref a), (1, .int x)] [] Ex := by
    intro Ex h9 ⟨eA, p9⟩
    rcases hA Ex eA with rfl
    · refine zVX.catch C F [] (0, 5, 6, 13) [] rfl (fun z hz => by cases hz) (by decide) (by decide) lk_L_13 ca_java_lang_IndexOutOfBoundsException_java_lang_IndexOutOfBoundsException (fun q => ?_)
      show zV X _ _ h9 6 _ _
      refine zV.astore_n (lo' := [(0, _), (1, _), (2, _)]) C dL_outputAt_6 rfl (by decide) rfl rfl rfl ?_
      refine zV.si (v := -1001) C dL_outputAt_7 (by decide) ?_
      refine zV.iretW C F dL_outputAt_10 rfl ?_
      exact ⟨by rw [eA]; try rfl, p9⟩
  refine zV.aload_n C dL_outputAt_0 rfl rfl ?_
  refine zV.iload_n C dL_outputAt_1 rfl ?_
  refine zV.callV (n := 1) C G dL_outputAt_2 hM rfl ⟨cd_X9_outputAt, lk_L_140, im_X9_outputAt, se_X9_X9_outputAt, in_X9⟩ ⟨⟨by decide, by decide⟩, by decide⟩ rfl rfl rfl hk ⟨rfl, by decide⟩ (zafX (fun r9 h9 q9 => ?_)) (fun Ex h9 q9 _ => xh Ex h9 q9)
  obtain ⟨⟨v9, eA, rfl⟩, p9⟩ := q9
  obtain ⟨w, rfl⟩ := hV v9 eA
  show zV X _ _ h9 5 _ (.int w :: [])
  refine zV.iretW C F dL_outputAt_5 rfl ?_
  exact ⟨by rw [eA]; try rfl, p9⟩
set_option maxHeartbeats 4000000 in
set_option maxRecDepth 100000 in
theorem s_LbyRust {l : Launch} {E : zG} (hzs : zS E) (hst : l.stackTraces = false) {h : zH} {a : Nat} {x : Int32} {A : zAn} {P : zH → Prop} (hM : zMet l E yX9_chairByRust cX9_chairByRust 2 (some .int) ({ frames := 7, cells := 1, slots := 6, locals := 115 } : Room) 1 6 [.ref a, .int x] h (sQ9 h A P) (sX9 h A P)) (hk : hK h a = 13) (hV : ∀ v, A = .inr v → ∃ w, v = .int w) (hA : ∀ Ex, A = .inl Ex → Ex = NSE) : zMetW l E yL_byRust cL_byRust 3 (some .int) [(0, 5, 6, 29)] ({ frames := 8, cells := 1, slots := 6, locals := 136 } : Room) 1 6 [.ref a, .int x] h (lwR A (fun _ => -1001) P) (fun _ _ => False) := by
  refine zMW_start hzs hst (by decide) (Nat.le_of_ble_eq_true rfl) (fun X C G F => ?_)
  show zV X 0 0 _ 0 [(0, .ref a), (1, .int x)] []
  have xh : ∀ Ex h9, sX9 h A P Ex h9 → zVX X (0 + 1) (0 + 6) h9 2 [(0, .ref a), (1, .int x)] [] Ex := by
    intro Ex h9 ⟨eA, p9⟩
    rcases hA Ex eA with rfl
    · refine zVX.catch C F [] (0, 5, 6, 29) [] rfl (fun z hz => by cases hz) (by decide) (by decide) lk_L_29 ca_java_util_NoSuchElementException_java_util_NoSuchElementException (fun q => ?_)
      show zV X _ _ h9 6 _ _
      refine zV.astore_n (lo' := [(0, _), (1, _), (2, _)]) C dL_byRust_6 rfl (by decide) rfl rfl rfl ?_
      refine zV.si (v := -1001) C dL_byRust_7 (by decide) ?_
      refine zV.iretW C F dL_byRust_10 rfl ?_
      exact ⟨by rw [eA]; try rfl, p9⟩
  refine zV.aload_n C dL_byRust_0 rfl rfl ?_
  refine zV.iload_n C dL_byRust_1 rfl ?_
  refine zV.callV (n := 1) C G dL_byRust_2 hM rfl ⟨cd_X9_chairByRust, lk_L_118, im_X9_chairByRust, se_X9_X9_chairByRust, in_X9⟩ ⟨⟨by decide, by decide⟩, by decide⟩ rfl rfl rfl hk ⟨rfl, by decide⟩ (zafX (fun r9 h9 q9 => ?_)) (fun Ex h9 q9 _ => xh Ex h9 q9)
  obtain ⟨⟨v9, eA, rfl⟩, p9⟩ := q9
  obtain ⟨w, rfl⟩ := hV v9 eA
  show zV X _ _ h9 5 _ (.int w :: [])
  refine zV.iretW C F dL_byRust_5 rfl ?_
  exact ⟨by rw [eA]; try rfl, p9⟩
set_option maxHeartbeats 4000000 in
set_option maxRecDepth 100000 in
theorem s_Lage {l : Launch} {E : zG} (hzs : zS E) (hst : l.stackTraces = false) {h : zH} {a : Nat} {x : Int32} {A : zAn} {P : zH → Prop} (hM : zMet l E yX9_ageOf cX9_ageOf 2 (some .int) ({ frames := 7, cells := 1, slots := 6, locals := 117 } : Room) 1 6 [.ref a, .int x] h (sQ9 h A P) (sX9 h A P)) (hk : hK h a = 13) (hV : ∀ v, A = .inr v → ∃ w, v = .int w) (hA : ∀ Ex, A = .inl Ex → Ex = IOB) : zMetW l E yL_age cL_age 3 (some .int) [(0, 5, 6, 13)] ({ frames := 8, cells := 1, slots := 6, locals := 138 } : Room) 1 6 [.ref a, .int x] h (lwR A (fun _ => -1001) P) (fun _ _ => False) := by
  refine zMW_start hzs hst (by decide) (Nat.le_of_ble_eq_true rfl) (fun X C G F => ?_)
  show zV X 0 0 _ 0 [(0, .ref a), (1, .int x)] []
  have xh : ∀ Ex h9, sX9 h A P Ex h9 → zVX X (0 + 1) (0 + 6) h9 2 [(0, .ref a), (1, .int x)] [] Ex := by
    intro Ex h9 ⟨eA, p9⟩
    rcases hA Ex eA with rfl
    · refine zVX.catch C F [] (0, 5, 6, 13) [] rfl (fun z hz => by cases hz) (by decide) (by decide) lk_L_13 ca_java_lang_IndexOutOfBoundsException_java_lang_IndexOutOfBoundsException (fun q => ?_)
      show zV X _ _ h9 6 _ _
      refine zV.astore_n (lo' := [(0, _), (1, _), (2, _)]) C dL_age_6 rfl (by decide) rfl rfl rfl ?_
      refine zV.si (v := -1001) C dL_age_7 (by decide) ?_
      refine zV.iretW C F dL_age_10 rfl ?_
      exact ⟨by rw [eA]; try rfl, p9⟩
  refine zV.aload_n C dL_age_0 rfl rfl ?_
  refine zV.iload_n C dL_age_1 rfl ?_
  refine zV.callV (n := 1) C G dL_age_2 hM rfl ⟨cd_X9_ageOf, lk_L_82, im_X9_ageOf, se_X9_X9_ageOf, in_X9⟩ ⟨⟨by decide, by decide⟩, by decide⟩ rfl rfl rfl hk ⟨rfl, by decide⟩ (zafX (fun r9 h9 q9 => ?_)) (fun Ex h9 q9 _ => xh Ex h9 q9)
  obtain ⟨⟨v9, eA, rfl⟩, p9⟩ := q9
  obtain ⟨w, rfl⟩ := hV v9 eA
  show zV X _ _ h9 5 _ (.int w :: [])
  refine zV.iretW C F dL_age_5 rfl ?_
  exact ⟨by rw [eA]; try rfl, p9⟩
set_option maxHeartbeats 4000000 in
set_option maxRecDepth 100000 in
theorem s_LremovePath {l : Launch} {E : zG} (hzs : zS E) (hst : l.stackTraces = false) {h : zH} {a : Nat} {x : Int32} {y : Int32} {A : zAn} {P : zH → Prop} (hM : zMet l E yX9_removePath cX9_removePath 3 (some .int) ({ frames := 7, cells := 1, slots := 6, locals := 209 } : Room) 1 6 [.ref a, .int x, .int y] h (sQ9 h A P) (sX9 h A P)) (hk : hK h a = 13) (hV : ∀ v, A = .inr v → ∃ w, v = .int w) (hA : ∀ Ex, A = .inl Ex → Ex = IOB ∨ Ex = IAE ∨ Ex = UOE) : zMetW l E yL_removePath cL_removePath 4 (some .int) [(0, 6, 7, 13), (0, 6, 12, 15), (0, 6, 17, 17)] ({ frames := 8, cells := 1, slots := 6, locals := 231 } : Room) 1 6 [.ref a, .int x, .int y] h (lwR A (fun Ex => if Ex = IOB then -1001 else if Ex = IAE then -1002 else -1003) P) (fun _ _ => False) := by
  refine zMW_start hzs hst (by decide) (Nat.le_of_ble_eq_true rfl) (fun X C G F => ?_)
  show zV X 0 0 _ 0 [(0, .ref a), (1, .int x), (2, .int y)] []
  have xh : ∀ Ex h9, sX9 h A P Ex h9 → zVX X (0 + 1) (0 + 6) h9 3 [(0, .ref a), (1, .int x), (2, .int y)] [] Ex := by
    intro Ex h9 ⟨eA, p9⟩
    rcases hA Ex eA with rfl | rfl | rfl
    · refine zVX.catch C F [] (0, 6, 7, 13) [(0, 6, 12, 15), (0, 6, 17, 17)] rfl (fun z hz => by cases hz) (by decide) (by decide) lk_L_13 ca_java_lang_IndexOutOfBoundsException_java_lang_IndexOutOfBoundsException (fun q => ?_)
      show zV X _ _ h9 7 _ _
      refine zV.astore_n (lo' := [(0, _), (1, _), (2, _), (3, _)]) C dL_removePath_7 rfl (by decide) rfl rfl rfl ?_
      refine zV.si (v := -1001) C dL_removePath_8 (by decide) ?_
      refine zV.iretW C F dL_removePath_11 rfl ?_
      exact ⟨by rw [eA]; try rfl, p9⟩
    · refine zVX.catch C F [(0, 6, 7, 13)] (0, 6, 12, 15) [(0, 6, 17, 17)] rfl (fun z hz => by
        rcases List.mem_cons.mp hz with rfl | hz
        · exact ⟨by decide, _, lk_L_13, nc_IAE_IOB⟩
        cases hz) (by decide) (by decide) lk_L_15 ca_java_lang_IllegalArgumentException_java_lang_IllegalArgumentException (fun q => ?_)
      show zV X _ _ h9 12 _ _
      refine zV.astore_n (lo' := [(0, _), (1, _), (2, _), (3, _)]) C dL_removePath_12 rfl (by decide) rfl rfl rfl ?_
      refine zV.si (v := -1002) C dL_removePath_13 (by decide) ?_
      refine zV.iretW C F dL_removePath_16 rfl ?_
      exact ⟨by rw [eA]; try rfl, p9⟩
    · refine zVX.catch C F [(0, 6, 7, 13), (0, 6, 12, 15)] (0, 6, 17, 17) [] rfl (fun z hz => by
        rcases List.mem_cons.mp hz with rfl | hz
        · exact ⟨by decide, _, lk_L_13, nc_UOE_IOB⟩
        rcases List.mem_cons.mp hz with rfl | hz
        · exact ⟨by decide, _, lk_L_15, nc_UOE_IAE⟩
        cases hz) (by decide) (by decide) lk_L_17 ca_java_lang_UnsupportedOperationException_java_lang_UnsupportedOperationException (fun q => ?_)
      show zV X _ _ h9 17 _ _
      refine zV.astore_n (lo' := [(0, _), (1, _), (2, _), (3, _)]) C dL_removePath_17 rfl (by decide) rfl rfl rfl ?_
      refine zV.si (v := -1003) C dL_removePath_18 (by decide) ?_
      refine zV.iretW C F dL_removePath_21 rfl ?_
      exact ⟨by rw [eA]; try rfl, p9⟩
  refine zV.aload_n C dL_removePath_0 rfl rfl ?_
  refine zV.iload_n C dL_removePath_1 rfl ?_
  refine zV.iload_n C dL_removePath_2 rfl ?_
  refine zV.callV (n := 2) C G dL_removePath_3 hM rfl ⟨cd_X9_removePath, lk_L_19, im_X9_removePath, se_X9_X9_removePath, in_X9⟩ ⟨⟨by decide, by decide⟩, by decide⟩ rfl rfl rfl hk ⟨rfl, by decide⟩ (zafX (fun r9 h9 q9 => ?_)) (fun Ex h9 q9 _ => xh Ex h9 q9)
  obtain ⟨⟨v9, eA, rfl⟩, p9⟩ := q9
  obtain ⟨w, rfl⟩ := hV v9 eA
  show zV X _ _ h9 6 _ (.int w :: [])
  refine zV.iretW C F dL_removePath_6 rfl ?_
  exact ⟨by rw [eA]; try rfl, p9⟩
set_option maxHeartbeats 4000000 in
set_option maxRecDepth 100000 in
theorem s_Lunfold {l : Launch} {E : zG} (hzs : zS E) (hst : l.stackTraces = false) {h : zH} {a : Nat} {x : Int32} {A : zAn} {P : zH → Prop} (hM : zMet l E yX9_unfold cX9_unfold 2 (some .int) ({ frames := 7, cells := 1, slots := 6, locals := 209 } : Room) 1 6 [.ref a, .int x] h (sQ9 h A P) (sX9 h A P)) (hk : hK h a = 13) (hV : ∀ v, A = .inr v → ∃ w, v = .int w) (hA : ∀ Ex, A = .inl Ex → Ex = IOB ∨ Ex = UOE) : zMetW l E yL_unfold cL_unfold 3 (some .int) [(0, 5, 6, 13), (0, 5, 11, 17)] ({ frames := 8, cells := 1, slots := 6, locals := 230 } : Room) 1 6 [.ref a, .int x] h (lwR A (fun Ex => if Ex = IOB then -1001 else -1002) P) (fun _ _ => False) := by
  refine zMW_start hzs hst (by decide) (Nat.le_of_ble_eq_true rfl) (fun X C G F => ?_)
  show zV X 0 0 _ 0 [(0, .ref a), (1, .int x)] []
  have xh : ∀ Ex h9, sX9 h A P Ex h9 → zVX X (0 + 1) (0 + 6) h9 2 [(0, .ref a), (1, .int x)] [] Ex := by
    intro Ex h9 ⟨eA, p9⟩
    rcases hA Ex eA with rfl | rfl
    · refine zVX.catch C F [] (0, 5, 6, 13) [(0, 5, 11, 17)] rfl (fun z hz => by cases hz) (by decide) (by decide) lk_L_13 ca_java_lang_IndexOutOfBoundsException_java_lang_IndexOutOfBoundsException (fun q => ?_)
      show zV X _ _ h9 6 _ _
      refine zV.astore_n (lo' := [(0, _), (1, _), (2, _)]) C dL_unfold_6 rfl (by decide) rfl rfl rfl ?_
      refine zV.si (v := -1001) C dL_unfold_7 (by decide) ?_
      refine zV.iretW C F dL_unfold_10 rfl ?_
      exact ⟨by rw [eA]; try rfl, p9⟩
    · refine zVX.catch C F [(0, 5, 6, 13)] (0, 5, 11, 17) [] rfl (fun z hz => by
        rcases List.mem_cons.mp hz with rfl | hz
        · exact ⟨by decide, _, lk_L_13, nc_UOE_IOB⟩
        cases hz) (by decide) (by decide) lk_L_17 ca_java_lang_UnsupportedOperationException_java_lang_UnsupportedOperationException (fun q => ?_)
      show zV X _ _ h9 11 _ _
      refine zV.astore_n (lo' := [(0, _), (1, _), (2, _)]) C dL_unfold_11 rfl (by decide) rfl rfl rfl ?_
      refine zV.si (v := -1002) C dL_unfold_12 (by decide) ?_
      refine zV.iretW C F dL_unfold_15 rfl ?_
      exact ⟨by rw [eA]; try rfl, p9⟩
  refine zV.aload_n C dL_unfold_0 rfl rfl ?_
  refine zV.iload_n C dL_unfold_1 rfl ?_
  refine zV.callV (n := 1) C G dL_unfold_2 hM rfl ⟨cd_X9_unfold, lk_L_57, im_X9_unfold, se_X9_X9_unfold, in_X9⟩ ⟨⟨by decide, by decide⟩, by decide⟩ rfl rfl rfl hk ⟨rfl, by decide⟩ (zafX (fun r9 h9 q9 => ?_)) (fun Ex h9 q9 _ => xh Ex h9 q9)
  obtain ⟨⟨v9, eA, rfl⟩, p9⟩ := q9
  obtain ⟨w, rfl⟩ := hV v9 eA
  show zV X _ _ h9 5 _ (.int w :: [])
  refine zV.iretW C F dL_unfold_5 rfl ?_
  exact ⟨by rw [eA]; try rfl, p9⟩
set_option maxHeartbeats 4000000 in
set_option maxRecDepth 100000 in
theorem s_Lmove {l : Launch} {E : zG} (hzs : zS E) (hst : l.stackTraces = false) {h : zH} {a : Nat} {x : Int32} {y : Int32} {A : zAn} {P : zH → Prop} (hM : zMet l E yX9_moveChair cX9_moveChair 3 (some .int) ({ frames := 7, cells := 1, slots := 6, locals := 209 } : Room) 1 6 [.ref a, .int x, .int y] h (sQ9 h A P) (sX9 h A P)) (hk : hK h a = 13) (hV : ∀ v, A = .inr v → ∃ w, v = .int w) (hA : ∀ Ex, A = .inl Ex → Ex = IOB ∨ Ex = UOE) : zMetW l E yL_move cL_move 4 (some .int) [(0, 6, 7, 13), (0, 6, 12, 17)] ({ frames := 8, cells := 1, slots := 6, locals := 231 } : Room) 1 6 [.ref a, .int x, .int y] h (lwR A (fun Ex => if Ex = IOB then -1001 else -1002) P) (fun _ _ => False) := by
  refine zMW_start hzs hst (by decide) (Nat.le_of_ble_eq_true rfl) (fun X C G F => ?_)
  show zV X 0 0 _ 0 [(0, .ref a), (1, .int x), (2, .int y)] []
  have xh : ∀ Ex h9, sX9 h A P Ex h9 → zVX X (0 + 1) (0 + 6) h9 3 [(0, .ref a), (1, .int x), (2, .int y)] [] Ex := by
    intro Ex h9 ⟨eA, p9⟩
    rcases hA Ex eA with rfl | rfl
    · refine zVX.catch C F [] (0, 6, 7, 13) [(0, 6, 12, 17)] rfl (fun z hz => by cases hz) (by decide) (by decide) lk_L_13 ca_java_lang_IndexOutOfBoundsException_java_lang_IndexOutOfBoundsException (fun q => ?_)
      show zV X _ _ h9 7 _ _
      refine zV.astore_n (lo' := [(0, _), (1, _), (2, _), (3, _)]) C dL_move_7 rfl (by decide) rfl rfl rfl ?_
      refine zV.si (v := -1001) C dL_move_8 (by decide) ?_
      refine zV.iretW C F dL_move_11 rfl ?_
      exact ⟨by rw [eA]; try rfl, p9⟩
    · refine zVX.catch C F [(0, 6, 7, 13)] (0, 6, 12, 17) [] rfl (fun z hz => by
        rcases List.mem_cons.mp hz with rfl | hz
        · exact ⟨by decide, _, lk_L_13, nc_UOE_IOB⟩
        cases hz) (by decide) (by decide) lk_L_17 ca_java_lang_UnsupportedOperationException_java_lang_UnsupportedOperationException (fun q => ?_)
      show zV X _ _ h9 12 _ _
      refine zV.astore_n (lo' := [(0, _), (1, _), (2, _), (3, _)]) C dL_move_12 rfl (by decide) rfl rfl rfl ?_
      refine zV.si (v := -1002) C dL_move_13 (by decide) ?_
      refine zV.iretW C F dL_move_16 rfl ?_
      exact ⟨by rw [eA]; try rfl, p9⟩
  refine zV.aload_n C dL_move_0 rfl rfl ?_
  refine zV.iload_n C dL_move_1 rfl ?_
  refine zV.iload_n C dL_move_2 rfl ?_
  refine zV.callV (n := 2) C G dL_move_3 hM rfl ⟨cd_X9_moveChair, lk_L_60, im_X9_moveChair, se_X9_X9_moveChair, in_X9⟩ ⟨⟨by decide, by decide⟩, by decide⟩ rfl rfl rfl hk ⟨rfl, by decide⟩ (zafX (fun r9 h9 q9 => ?_)) (fun Ex h9 q9 _ => xh Ex h9 q9)
  obtain ⟨⟨v9, eA, rfl⟩, p9⟩ := q9
  obtain ⟨w, rfl⟩ := hV v9 eA
  show zV X _ _ h9 6 _ (.int w :: [])
  refine zV.iretW C F dL_move_6 rfl ?_
  exact ⟨by rw [eA]; try rfl, p9⟩
set_option maxHeartbeats 4000000 in
set_option maxRecDepth 100000 in
theorem s_LoilChair {l : Launch} {E : zG} (hzs : zS E) (hst : l.stackTraces = false) {h : zH} {a : Nat} {x : Int32} {A : zAn} {P : zH → Prop} (hM : zMet l E yX9_oilChair cX9_oilChair 2 (some .int) ({ frames := 7, cells := 1, slots := 6, locals := 209 } : Room) 1 6 [.ref a, .int x] h (sQ9 h A P) (sX9 h A P)) (hk : hK h a = 13) (hV : ∀ v, A = .inr v → ∃ w, v = .int w) (hA : ∀ Ex, A = .inl Ex → Ex = IOB ∨ Ex = UOE) : zMetW l E yL_oilChair cL_oilChair 3 (some .int) [(0, 5, 6, 13), (0, 5, 11, 17)] ({ frames := 8, cells := 1, slots := 6, locals := 230 } : Room) 1 6 [.ref a, .int x] h (lwR A (fun Ex => if Ex = IOB then -1001 else -1002) P) (fun _ _ => False) := by
  refine zMW_start hzs hst (by decide) (Nat.le_of_ble_eq_true rfl) (fun X C G F => ?_)
  show zV X 0 0 _ 0 [(0, .ref a), (1, .int x)] []
  have xh : ∀ Ex h9, sX9 h A P Ex h9 → zVX X (0 + 1) (0 + 6) h9 2 [(0, .ref a), (1, .int x)] [] Ex := by
    intro Ex h9 ⟨eA, p9⟩
    rcases hA Ex eA with rfl | rfl
    · refine zVX.catch C F [] (0, 5, 6, 13) [(0, 5, 11, 17)] rfl (fun z hz => by cases hz) (by decide) (by decide) lk_L_13 ca_java_lang_IndexOutOfBoundsException_java_lang_IndexOutOfBoundsException (fun q => ?_)
      show zV X _ _ h9 6 _ _
      refine zV.astore_n (lo' := [(0, _), (1, _), (2, _)]) C dL_oilChair_6 rfl (by decide) rfl rfl rfl ?_
      refine zV.si (v := -1001) C dL_oilChair_7 (by decide) ?_
      refine zV.iretW C F dL_oilChair_10 rfl ?_
      exact ⟨by rw [eA]; try rfl, p9⟩
    · refine zVX.catch C F [(0, 5, 6, 13)] (0, 5, 11, 17) [] rfl (fun z hz => by
        rcases List.mem_cons.mp hz with rfl | hz
        · exact ⟨by decide, _, lk_L_13, nc_UOE_IOB⟩
        cases hz) (by decide) (by decide) lk_L_17 ca_java_lang_UnsupportedOperationException_java_lang_UnsupportedOperationException (fun q => ?_)
      show zV X _ _ h9 11 _ _
      refine zV.astore_n (lo' := [(0, _), (1, _), (2, _)]) C dL_oilChair_11 rfl (by decide) rfl rfl rfl ?_
      refine zV.si (v := -1002) C dL_oilChair_12 (by decide) ?_
      refine zV.iretW C F dL_oilChair_15 rfl ?_
      exact ⟨by rw [eA]; try rfl, p9⟩
  refine zV.aload_n C dL_oilChair_0 rfl rfl ?_
  refine zV.iload_n C dL_oilChair_1 rfl ?_
  refine zV.callV (n := 1) C G dL_oilChair_2 hM rfl ⟨cd_X9_oilChair, lk_L_66, im_X9_oilChair, se_X9_X9_oilChair, in_X9⟩ ⟨⟨by decide, by decide⟩, by decide⟩ rfl rfl rfl hk ⟨rfl, by decide⟩ (zafX (fun r9 h9 q9 => ?_)) (fun Ex h9 q9 _ => xh Ex h9 q9)
  obtain ⟨⟨v9, eA, rfl⟩, p9⟩ := q9
  obtain ⟨w, rfl⟩ := hV v9 eA
  show zV X _ _ h9 5 _ (.int w :: [])
  refine zV.iretW C F dL_oilChair_5 rfl ?_
  exact ⟨by rw [eA]; try rfl, p9⟩
set_option maxHeartbeats 4000000 in
set_option maxRecDepth 100000 in
theorem s_LaddOil {l : Launch} {E : zG} (hzs : zS E) (hst : l.stackTraces = false) {h : zH} {a : Nat} {x : Int32} {A : zAn} {P : zH → Prop} (hM : zMet l E yX9_addOil cX9_addOil 2 (some .int) ({ frames := 7, cells := 1, slots := 6, locals := 209 } : Room) 1 6 [.ref a, .int x] h (sQ9 h A P) (sX9 h A P)) (hk : hK h a = 13) (hV : ∀ v, A = .inr v → ∃ w, v = .int w) (hA : ∀ Ex, A = .inl Ex → Ex = IAE ∨ Ex = UOE) : zMetW l E yL_addOil cL_addOil 3 (some .int) [(0, 5, 6, 15), (0, 5, 11, 17)] ({ frames := 8, cells := 1, slots := 6, locals := 230 } : Room) 1 6 [.ref a, .int x] h (lwR A (fun Ex => if Ex = IAE then -1001 else -1002) P) (fun _ _ => False) := by
  refine zMW_start hzs hst (by decide) (Nat.le_of_ble_eq_true rfl) (fun X C G F => ?_)
  show zV X 0 0 _ 0 [(0, .ref a), (1, .int x)] []
  have xh : ∀ Ex h9, sX9 h A P Ex h9 → zVX X (0 + 1) (0 + 6) h9 2 [(0, .ref a), (1, .int x)] [] Ex := by
    intro Ex h9 ⟨eA, p9⟩
    rcases hA Ex eA with rfl | rfl
    · refine zVX.catch C F [] (0, 5, 6, 15) [(0, 5, 11, 17)] rfl (fun z hz => by cases hz) (by decide) (by decide) lk_L_15 ca_java_lang_IllegalArgumentException_java_lang_IllegalArgumentException (fun q => ?_)
      show zV X _ _ h9 6 _ _
      refine zV.astore_n (lo' := [(0, _), (1, _), (2, _)]) C dL_addOil_6 rfl (by decide) rfl rfl rfl ?_
      refine zV.si (v := -1001) C dL_addOil_7 (by decide) ?_
      refine zV.iretW C F dL_addOil_10 rfl ?_
      exact ⟨by rw [eA]; try rfl, p9⟩
    · refine zVX.catch C F [(0, 5, 6, 15)] (0, 5, 11, 17) [] rfl (fun z hz => by
        rcases List.mem_cons.mp hz with rfl | hz
        · exact ⟨by decide, _, lk_L_15, nc_UOE_IAE⟩
        cases hz) (by decide) (by decide) lk_L_17 ca_java_lang_UnsupportedOperationException_java_lang_UnsupportedOperationException (fun q => ?_)
      show zV X _ _ h9 11 _ _
      refine zV.astore_n (lo' := [(0, _), (1, _), (2, _)]) C dL_addOil_11 rfl (by decide) rfl rfl rfl ?_
      refine zV.si (v := -1002) C dL_addOil_12 (by decide) ?_
      refine zV.iretW C F dL_addOil_15 rfl ?_
      exact ⟨by rw [eA]; try rfl, p9⟩
  refine zV.aload_n C dL_addOil_0 rfl rfl ?_
  refine zV.iload_n C dL_addOil_1 rfl ?_
  refine zV.callV (n := 1) C G dL_addOil_2 hM rfl ⟨cd_X9_addOil, lk_L_69, im_X9_addOil, se_X9_X9_addOil, in_X9⟩ ⟨⟨by decide, by decide⟩, by decide⟩ rfl rfl rfl hk ⟨rfl, by decide⟩ (zafX (fun r9 h9 q9 => ?_)) (fun Ex h9 q9 _ => xh Ex h9 q9)
  obtain ⟨⟨v9, eA, rfl⟩, p9⟩ := q9
  obtain ⟨w, rfl⟩ := hV v9 eA
  show zV X _ _ h9 5 _ (.int w :: [])
  refine zV.iretW C F dL_addOil_5 rfl ?_
  exact ⟨by rw [eA]; try rfl, p9⟩
set_option maxHeartbeats 4000000 in
set_option maxRecDepth 100000 in
theorem s_LisPath {l : Launch} {E : zG} (hzs : zS E) (hst : l.stackTraces = false) {h : zH} {a : Nat} {x : Int32} {y : Int32} {A : zAn} {P : zH → Prop} (hM : zMet l E yX9_isPath cX9_isPath 3 (some .boolean) ({ frames := 7, cells := 2, slots := 12, locals := 115 } : Room) 2 12 [.ref a, .int x, .int y] h (sQ9 h A P) (sX9 h A P)) (hk : hK h a = 13) (hV : ∀ v, A = .inr v → ∃ w, v = .int w) (hA : ∀ Ex, A = .inl Ex → Ex = IOB) : zMetW l E yL_isPath cL_isPath 4 (some .int) [(0, 14, 15, 13)] ({ frames := 8, cells := 2, slots := 12, locals := 137 } : Room) 2 12 [.ref a, .int x, .int y] h (lwRB A P) (fun _ _ => False) := by
  refine zMW_start hzs hst (by decide) (Nat.le_of_ble_eq_true rfl) (fun X C G F => ?_)
  show zV X 0 0 _ 0 [(0, .ref a), (1, .int x), (2, .int y)] []
  have xh : ∀ Ex h9, sX9 h A P Ex h9 → zVX X (0 + 2) (0 + 12) h9 3 [(0, .ref a), (1, .int x), (2, .int y)] [] Ex := by
    intro Ex h9 ⟨eA, p9⟩
    rcases hA Ex eA with rfl
    · refine zVX.catch C F [] (0, 14, 15, 13) [] rfl (fun z hz => by cases hz) (by decide) (by decide) lk_L_13 ca_java_lang_IndexOutOfBoundsException_java_lang_IndexOutOfBoundsException (fun q => ?_)
      show zV X _ _ h9 15 _ _
      refine zV.astore_n (lo' := [(0, _), (1, _), (2, _), (3, _)]) C dL_isPath_15 rfl (by decide) rfl rfl rfl ?_
      refine zV.si (v := -1001) C dL_isPath_16 (by decide) ?_
      refine zV.iretW C F dL_isPath_19 rfl ?_
      exact ⟨by rw [eA]; try rfl, p9⟩
  refine zV.aload_n C dL_isPath_0 rfl rfl ?_
  refine zV.iload_n C dL_isPath_1 rfl ?_
  refine zV.iload_n C dL_isPath_2 rfl ?_
  refine zV.callV (n := 2) C G dL_isPath_3 hM rfl ⟨cd_X9_isPath, lk_L_22, im_X9_isPath, se_X9_X9_isPath, in_X9⟩ ⟨⟨by decide, by decide⟩, by decide⟩ rfl rfl rfl hk ⟨rfl, by decide⟩ (zafX (fun r9 h9 q9 => ?_)) (fun Ex h9 q9 _ => xh Ex h9 q9)
  obtain ⟨⟨v9, eA, rfl⟩, p9⟩ := q9
  obtain ⟨w, rfl⟩ := hV v9 eA
  show zV X _ _ h9 6 _ (.int w :: [])
  refine zV.if_eq (tgt := 13) C dL_isPath_6 (by decide) (fun qb => ?_) (fun qb => ?_)
  · refine zV.ic (v := 0) C dL_isPath_13 (by decide) ?_
    refine zV.iretW C F dL_isPath_14 rfl ?_
    exact ⟨by rw [eA, qb]; rfl, p9⟩
  · refine zV.ic (v := 1) C dL_isPath_9 (by decide) ?_
    refine zV.goto (tgt := 14) C dL_isPath_10 (by decide) ?_
    refine zV.iretW C F dL_isPath_14 rfl ?_
    exact ⟨by rw [eA]; exact congrArg (fun z => some (Value.int z)) (if_neg qb).symm, p9⟩
set_option maxHeartbeats 4000000 in
set_option maxRecDepth 100000 in
theorem s_LisFolded {l : Launch} {E : zG} (hzs : zS E) (hst : l.stackTraces = false) {h : zH} {a : Nat} {x : Int32} {A : zAn} {P : zH → Prop} (hM : zMet l E yX9_isFolded cX9_isFolded 2 (some .boolean) ({ frames := 7, cells := 1, slots := 6, locals := 117 } : Room) 1 6 [.ref a, .int x] h (sQ9 h A P) (sX9 h A P)) (hk : hK h a = 13) (hV : ∀ v, A = .inr v → ∃ w, v = .int w) (hA : ∀ Ex, A = .inl Ex → Ex = IOB) : zMetW l E yL_isFolded cL_isFolded 3 (some .int) [(0, 13, 14, 13)] ({ frames := 8, cells := 1, slots := 6, locals := 138 } : Room) 1 6 [.ref a, .int x] h (lwRB A P) (fun _ _ => False) := by
  refine zMW_start hzs hst (by decide) (Nat.le_of_ble_eq_true rfl) (fun X C G F => ?_)
  show zV X 0 0 _ 0 [(0, .ref a), (1, .int x)] []
  have xh : ∀ Ex h9, sX9 h A P Ex h9 → zVX X (0 + 1) (0 + 6) h9 2 [(0, .ref a), (1, .int x)] [] Ex := by
    intro Ex h9 ⟨eA, p9⟩
    rcases hA Ex eA with rfl
    · refine zVX.catch C F [] (0, 13, 14, 13) [] rfl (fun z hz => by cases hz) (by decide) (by decide) lk_L_13 ca_java_lang_IndexOutOfBoundsException_java_lang_IndexOutOfBoundsException (fun q => ?_)
      show zV X _ _ h9 14 _ _
      refine zV.astore_n (lo' := [(0, _), (1, _), (2, _)]) C dL_isFolded_14 rfl (by decide) rfl rfl rfl ?_
      refine zV.si (v := -1001) C dL_isFolded_15 (by decide) ?_
      refine zV.iretW C F dL_isFolded_18 rfl ?_
      exact ⟨by rw [eA]; try rfl, p9⟩
  refine zV.aload_n C dL_isFolded_0 rfl rfl ?_
  refine zV.iload_n C dL_isFolded_1 rfl ?_
  refine zV.callV (n := 1) C G dL_isFolded_2 hM rfl ⟨cd_X9_isFolded, lk_L_78, im_X9_isFolded, se_X9_X9_isFolded, in_X9⟩ ⟨⟨by decide, by decide⟩, by decide⟩ rfl rfl rfl hk ⟨rfl, by decide⟩ (zafX (fun r9 h9 q9 => ?_)) (fun Ex h9 q9 _ => xh Ex h9 q9)
  obtain ⟨⟨v9, eA, rfl⟩, p9⟩ := q9
  obtain ⟨w, rfl⟩ := hV v9 eA
  show zV X _ _ h9 5 _ (.int w :: [])
  refine zV.if_eq (tgt := 12) C dL_isFolded_5 (by decide) (fun qb => ?_) (fun qb => ?_)
  · refine zV.ic (v := 0) C dL_isFolded_12 (by decide) ?_
    refine zV.iretW C F dL_isFolded_13 rfl ?_
    exact ⟨by rw [eA, qb]; rfl, p9⟩
  · refine zV.ic (v := 1) C dL_isFolded_8 (by decide) ?_
    refine zV.goto (tgt := 13) C dL_isFolded_9 (by decide) ?_
    refine zV.iretW C F dL_isFolded_13 rfl ?_
    exact ⟨by rw [eA]; exact congrArg (fun z => some (Value.int z)) (if_neg qb).symm, p9⟩
set_option maxHeartbeats 4000000 in
set_option maxRecDepth 100000 in
theorem s_LlawnOf {l : Launch} {E : zG} (hzs : zS E) (hst : l.stackTraces = false) {h : zH} {a : Nat} {x : Int32} {A : zAn} {P : zH → Prop} (hM : zMet l E yX9_lawnOf cX9_lawnOf 2 (some .int) ({ frames := 7, cells := 1, slots := 6, locals := 117 } : Room) 1 6 [.ref a, .int x] h (sQ9 h A P) (sX9 h A P)) (hk : hK h a = 13) (hV : ∀ v, A = .inr v → ∃ w, v = .int w) (hA : ∀ Ex, A = .inl Ex → Ex = IOB) : zMetW l E yL_lawnOf cL_lawnOf 3 (some .int) [(0, 5, 6, 13)] ({ frames := 8, cells := 1, slots := 6, locals := 138 } : Room) 1 6 [.ref a, .int x] h (lwR A (fun _ => -1001) P) (fun _ _ => False) := by
  refine zMW_start hzs hst (by decide) (Nat.le_of_ble_eq_true rfl) (fun X C G F => ?_)
  show zV X 0 0 _ 0 [(0, .ref a), (1, .int x)] []
  have xh : ∀ Ex h9, sX9 h A P Ex h9 → zVX X (0 + 1) (0 + 6) h9 2 [(0, .ref a), (1, .int x)] [] Ex := by
    intro Ex h9 ⟨eA, p9⟩
    rcases hA Ex eA with rfl
    · refine zVX.catch C F [] (0, 5, 6, 13) [] rfl (fun z hz => by cases hz) (by decide) (by decide) lk_L_13 ca_java_lang_IndexOutOfBoundsException_java_lang_IndexOutOfBoundsException (fun q => ?_)
      show zV X _ _ h9 6 _ _
      refine zV.astore_n (lo' := [(0, _), (1, _), (2, _)]) C dL_lawnOf_6 rfl (by decide) rfl rfl rfl ?_
      refine zV.si (v := -1001) C dL_lawnOf_7 (by decide) ?_
      refine zV.iretW C F dL_lawnOf_10 rfl ?_
      exact ⟨by rw [eA]; try rfl, p9⟩
  refine zV.aload_n C dL_lawnOf_0 rfl rfl ?_
  refine zV.iload_n C dL_lawnOf_1 rfl ?_
  refine zV.callV (n := 1) C G dL_lawnOf_2 hM rfl ⟨cd_X9_lawnOf, lk_L_72, im_X9_lawnOf, se_X9_X9_lawnOf, in_X9⟩ ⟨⟨by decide, by decide⟩, by decide⟩ rfl rfl rfl hk ⟨rfl, by decide⟩ (zafX (fun r9 h9 q9 => ?_)) (fun Ex h9 q9 _ => xh Ex h9 q9)
  obtain ⟨⟨v9, eA, rfl⟩, p9⟩ := q9
  obtain ⟨w, rfl⟩ := hV v9 eA
  show zV X _ _ h9 5 _ (.int w :: [])
  refine zV.iretW C F dL_lawnOf_5 rfl ?_
  exact ⟨by rw [eA]; try rfl, p9⟩
set_option maxHeartbeats 4000000 in
set_option maxRecDepth 100000 in
theorem s_Lrust {l : Launch} {E : zG} (hzs : zS E) (hst : l.stackTraces = false) {h : zH} {a : Nat} {x : Int32} {A : zAn} {P : zH → Prop} (hM : zMet l E yX9_rustOf cX9_rustOf 2 (some .int) ({ frames := 7, cells := 1, slots := 6, locals := 117 } : Room) 1 6 [.ref a, .int x] h (sQ9 h A P) (sX9 h A P)) (hk : hK h a = 13) (hV : ∀ v, A = .inr v → ∃ w, v = .int w) (hA : ∀ Ex, A = .inl Ex → Ex = IOB) : zMetW l E yL_rust cL_rust 3 (some .int) [(0, 5, 6, 13)] ({ frames := 8, cells := 1, slots := 6, locals := 138 } : Room) 1 6 [.ref a, .int x] h (lwR A (fun _ => -1001) P) (fun _ _ => False) := by
  refine zMW_start hzs hst (by decide) (Nat.le_of_ble_eq_true rfl) (fun X C G F => ?_)
  show zV X 0 0 _ 0 [(0, .ref a), (1, .int x)] []
  have xh : ∀ Ex h9, sX9 h A P Ex h9 → zVX X (0 + 1) (0 + 6) h9 2 [(0, .ref a), (1, .int x)] [] Ex := by
    intro Ex h9 ⟨eA, p9⟩
    rcases hA Ex eA with rfl
    · refine zVX.catch C F [] (0, 5, 6, 13) [] rfl (fun z hz => by cases hz) (by decide) (by decide) lk_L_13 ca_java_lang_IndexOutOfBoundsException_java_lang_IndexOutOfBoundsException (fun q => ?_)
      show zV X _ _ h9 6 _ _
      refine zV.astore_n (lo' := [(0, _), (1, _), (2, _)]) C dL_rust_6 rfl (by decide) rfl rfl rfl ?_
      refine zV.si (v := -1001) C dL_rust_7 (by decide) ?_
      refine zV.iretW C F dL_rust_10 rfl ?_
      exact ⟨by rw [eA]; try rfl, p9⟩
  refine zV.aload_n C dL_rust_0 rfl rfl ?_
  refine zV.iload_n C dL_rust_1 rfl ?_
  refine zV.callV (n := 1) C G dL_rust_2 hM rfl ⟨cd_X9_rustOf, lk_L_75, im_X9_rustOf, se_X9_X9_rustOf, in_X9⟩ ⟨⟨by decide, by decide⟩, by decide⟩ rfl rfl rfl hk ⟨rfl, by decide⟩ (zafX (fun r9 h9 q9 => ?_)) (fun Ex h9 q9 _ => xh Ex h9 q9)
  obtain ⟨⟨v9, eA, rfl⟩, p9⟩ := q9
  obtain ⟨w, rfl⟩ := hV v9 eA
  show zV X _ _ h9 5 _ (.int w :: [])
  refine zV.iretW C F dL_rust_5 rfl ?_
  exact ⟨by rw [eA]; try rfl, p9⟩
set_option maxHeartbeats 4000000 in
set_option maxRecDepth 100000 in
theorem s_LdistanceAgain {l : Launch} {E : zG} (hzs : zS E) (hst : l.stackTraces = false) {h : zH} {a : Nat} {x : Int32} {y : Int32} {A : zAn} {P : zH → Prop} (hM : zMet l E yX9_distanceByImprovement cX9_distanceByImprovement 3 (some .int) ({ frames := 7, cells := 3, slots := 18, locals := 115 } : Room) 3 18 [.ref a, .int x, .int y] h (sQ9 h A P) (sX9 h A P)) (hk : hK h a = 13) (hV : ∀ v, A = .inr v → ∃ w, v = .int w) (hA : ∀ Ex, A = .inl Ex → Ex = IOB ∨ Ex = NSE) : zMetW l E yL_distanceAgain cL_distanceAgain 4 (some .int) [(0, 6, 7, 13), (0, 6, 12, 29)] ({ frames := 8, cells := 3, slots := 18, locals := 137 } : Room) 3 18 [.ref a, .int x, .int y] h (lwR A (fun Ex => if Ex = IOB then -1001 else -1002) P) (fun _ _ => False) := by
  refine zMW_start hzs hst (by decide) (Nat.le_of_ble_eq_true rfl) (fun X C G F => ?_)
  show zV X 0 0 _ 0 [(0, .ref a), (1, .int x), (2, .int y)] []
  have xh : ∀ Ex h9, sX9 h A P Ex h9 → zVX X (0 + 3) (0 + 18) h9 3 [(0, .ref a), (1, .int x), (2, .int y)] [] Ex := by
    intro Ex h9 ⟨eA, p9⟩
    rcases hA Ex eA with rfl | rfl
    · refine zVX.catch C F [] (0, 6, 7, 13) [(0, 6, 12, 29)] rfl (fun z hz => by cases hz) (by decide) (by decide) lk_L_13 ca_java_lang_IndexOutOfBoundsException_java_lang_IndexOutOfBoundsException (fun q => ?_)
      show zV X _ _ h9 7 _ _
      refine zV.astore_n (lo' := [(0, _), (1, _), (2, _), (3, _)]) C dL_distanceAgain_7 rfl (by decide) rfl rfl rfl ?_
      refine zV.si (v := -1001) C dL_distanceAgain_8 (by decide) ?_
      refine zV.iretW C F dL_distanceAgain_11 rfl ?_
      exact ⟨by rw [eA]; try rfl, p9⟩
    · refine zVX.catch C F [(0, 6, 7, 13)] (0, 6, 12, 29) [] rfl (fun z hz => by
        rcases List.mem_cons.mp hz with rfl | hz
        · exact ⟨by decide, _, lk_L_13, nc_NSE_IOB⟩
        cases hz) (by decide) (by decide) lk_L_29 ca_java_util_NoSuchElementException_java_util_NoSuchElementException (fun q => ?_)
      show zV X _ _ h9 12 _ _
      refine zV.astore_n (lo' := [(0, _), (1, _), (2, _), (3, _)]) C dL_distanceAgain_12 rfl (by decide) rfl rfl rfl ?_
      refine zV.si (v := -1002) C dL_distanceAgain_13 (by decide) ?_
      refine zV.iretW C F dL_distanceAgain_16 rfl ?_
      exact ⟨by rw [eA]; try rfl, p9⟩
  refine zV.aload_n C dL_distanceAgain_0 rfl rfl ?_
  refine zV.iload_n C dL_distanceAgain_1 rfl ?_
  refine zV.iload_n C dL_distanceAgain_2 rfl ?_
  refine zV.callV (n := 2) C G dL_distanceAgain_3 hM rfl ⟨cd_X9_distanceByImprovement, lk_L_31, im_X9_distanceByImprovement, se_X9_X9_distanceByImprovement, in_X9⟩ ⟨⟨by decide, by decide⟩, by decide⟩ rfl rfl rfl hk ⟨rfl, by decide⟩ (zafX (fun r9 h9 q9 => ?_)) (fun Ex h9 q9 _ => xh Ex h9 q9)
  obtain ⟨⟨v9, eA, rfl⟩, p9⟩ := q9
  obtain ⟨w, rfl⟩ := hV v9 eA
  show zV X _ _ h9 6 _ (.int w :: [])
  refine zV.iretW C F dL_distanceAgain_6 rfl ?_
  exact ⟨by rw [eA]; try rfl, p9⟩
set_option maxHeartbeats 4000000 in
set_option maxRecDepth 100000 in
theorem s_LrouteAt {l : Launch} {E : zG} (hzs : zS E) (hst : l.stackTraces = false) {h : zH} {a : Nat} {x : Int32} {y : Int32} {z : Int32} {A : zAn} {P : zH → Prop} (hM : zMet l E yX9_routeAt cX9_routeAt 7 (some .int) ({ frames := 7, cells := 3, slots := 18, locals := 115 } : Room) 3 18 [.ref a, .int x, .int y, .int z] h (sQ9 h A P) (sX9 h A P)) (hk : hK h a = 13) (hV : ∀ v, A = .inr v → ∃ w, v = .int w) (hA : ∀ Ex, A = .inl Ex → Ex = IOB ∨ Ex = NSE) : zMetW l E yL_routeAt cL_routeAt 5 (some .int) [(0, 7, 8, 13), (0, 7, 14, 29)] ({ frames := 8, cells := 3, slots := 18, locals := 141 } : Room) 3 18 [.ref a, .int x, .int y, .int z] h (lwR A (fun Ex => if Ex = IOB then -1001 else -1002) P) (fun _ _ => False) := by
  refine zMW_start hzs hst (by decide) (Nat.le_of_ble_eq_true rfl) (fun X C G F => ?_)
  show zV X 0 0 _ 0 [(0, .ref a), (1, .int x), (2, .int y), (3, .int z)] []
  have xh : ∀ Ex h9, sX9 h A P Ex h9 → zVX X (0 + 3) (0 + 18) h9 4 [(0, .ref a), (1, .int x), (2, .int y), (3, .int z)] [] Ex := by
    intro Ex h9 ⟨eA, p9⟩
    rcases hA Ex eA with rfl | rfl
    · refine zVX.catch C F [] (0, 7, 8, 13) [(0, 7, 14, 29)] rfl (fun z hz => by cases hz) (by decide) (by decide) lk_L_13 ca_java_lang_IndexOutOfBoundsException_java_lang_IndexOutOfBoundsException (fun q => ?_)
      show zV X _ _ h9 8 _ _
      refine zV.astore (lo' := [(0, _), (1, _), (2, _), (3, _), (4, _)]) C dL_routeAt_8 rfl (by decide) rfl rfl rfl ?_
      refine zV.si (v := -1001) C dL_routeAt_10 (by decide) ?_
      refine zV.iretW C F dL_routeAt_13 rfl ?_
      exact ⟨by rw [eA]; try rfl, p9⟩
    · refine zVX.catch C F [(0, 7, 8, 13)] (0, 7, 14, 29) [] rfl (fun z hz => by
        rcases List.mem_cons.mp hz with rfl | hz
        · exact ⟨by decide, _, lk_L_13, nc_NSE_IOB⟩
        cases hz) (by decide) (by decide) lk_L_29 ca_java_util_NoSuchElementException_java_util_NoSuchElementException (fun q => ?_)
      show zV X _ _ h9 14 _ _
      refine zV.astore (lo' := [(0, _), (1, _), (2, _), (3, _), (4, _)]) C dL_routeAt_14 rfl (by decide) rfl rfl rfl ?_
      refine zV.si (v := -1002) C dL_routeAt_16 (by decide) ?_
      refine zV.iretW C F dL_routeAt_19 rfl ?_
      exact ⟨by rw [eA]; try rfl, p9⟩
  refine zV.aload_n C dL_routeAt_0 rfl rfl ?_
  refine zV.iload_n C dL_routeAt_1 rfl ?_
  refine zV.iload_n C dL_routeAt_2 rfl ?_
  refine zV.iload_n C dL_routeAt_3 rfl ?_
  refine zV.callV (n := 3) C G dL_routeAt_4 hM rfl ⟨cd_X9_routeAt, lk_L_34, im_X9_routeAt, se_X9_X9_routeAt, in_X9⟩ ⟨⟨by decide, by decide⟩, by decide⟩ rfl rfl rfl hk ⟨rfl, by decide⟩ (zafX (fun r9 h9 q9 => ?_)) (fun Ex h9 q9 _ => xh Ex h9 q9)
  obtain ⟨⟨v9, eA, rfl⟩, p9⟩ := q9
  obtain ⟨w, rfl⟩ := hV v9 eA
  show zV X _ _ h9 7 _ (.int w :: [])
  refine zV.iretW C F dL_routeAt_7 rfl ?_
  exact ⟨by rw [eA]; try rfl, p9⟩
set_option maxHeartbeats 4000000 in
set_option maxRecDepth 100000 in
theorem s_Lreachable {l : Launch} {E : zG} (hzs : zS E) (hst : l.stackTraces = false) {h : zH} {a : Nat} {x : Int32} {A : zAn} {P : zH → Prop} (hM : zMet l E yX9_reachableLawns cX9_reachableLawns 2 (some .int) ({ frames := 7, cells := 1, slots := 6, locals := 115 } : Room) 1 6 [.ref a, .int x] h (sQ9 h A P) (sX9 h A P)) (hk : hK h a = 13) (hV : ∀ v, A = .inr v → ∃ w, v = .int w) (hA : ∀ Ex, A = .inl Ex → Ex = IOB) : zMetW l E yL_reachable cL_reachable 3 (some .int) [(0, 5, 6, 13)] ({ frames := 8, cells := 1, slots := 6, locals := 136 } : Room) 1 6 [.ref a, .int x] h (lwR A (fun _ => -1001) P) (fun _ _ => False) := by
  refine zMW_start hzs hst (by decide) (Nat.le_of_ble_eq_true rfl) (fun X C G F => ?_)
  show zV X 0 0 _ 0 [(0, .ref a), (1, .int x)] []
  have xh : ∀ Ex h9, sX9 h A P Ex h9 → zVX X (0 + 1) (0 + 6) h9 2 [(0, .ref a), (1, .int x)] [] Ex := by
    intro Ex h9 ⟨eA, p9⟩
    rcases hA Ex eA with rfl
    · refine zVX.catch C F [] (0, 5, 6, 13) [] rfl (fun z hz => by cases hz) (by decide) (by decide) lk_L_13 ca_java_lang_IndexOutOfBoundsException_java_lang_IndexOutOfBoundsException (fun q => ?_)
      show zV X _ _ h9 6 _ _
      refine zV.astore_n (lo' := [(0, _), (1, _), (2, _)]) C dL_reachable_6 rfl (by decide) rfl rfl rfl ?_
      refine zV.si (v := -1001) C dL_reachable_7 (by decide) ?_
      refine zV.iretW C F dL_reachable_10 rfl ?_
      exact ⟨by rw [eA]; try rfl, p9⟩
  refine zV.aload_n C dL_reachable_0 rfl rfl ?_
  refine zV.iload_n C dL_reachable_1 rfl ?_
  refine zV.callV (n := 1) C G dL_reachable_2 hM rfl ⟨cd_X9_reachableLawns, lk_L_38, im_X9_reachableLawns, se_X9_X9_reachableLawns, in_X9⟩ ⟨⟨by decide, by decide⟩, by decide⟩ rfl rfl rfl hk ⟨rfl, by decide⟩ (zafX (fun r9 h9 q9 => ?_)) (fun Ex h9 q9 _ => xh Ex h9 q9)
  obtain ⟨⟨v9, eA, rfl⟩, p9⟩ := q9
  obtain ⟨w, rfl⟩ := hV v9 eA
  show zV X _ _ h9 5 _ (.int w :: [])
  refine zV.iretW C F dL_reachable_5 rfl ?_
  exact ⟨by rw [eA]; try rfl, p9⟩
set_option maxHeartbeats 4000000 in
set_option maxRecDepth 100000 in
theorem s_Lshade {l : Launch} {E : zG} (hzs : zS E) (hst : l.stackTraces = false) {h : zH} {a : Nat} {x : Int32} {A : zAn} {P : zH → Prop} (hM : zMet l E yX9_shadeOf cX9_shadeOf 2 (some .int) ({ frames := 7, cells := 1, slots := 6, locals := 115 } : Room) 1 6 [.ref a, .int x] h (sQ9 h A P) (sX9 h A P)) (hk : hK h a = 13) (hV : ∀ v, A = .inr v → ∃ w, v = .int w) (hA : ∀ Ex, A = .inl Ex → Ex = IOB) : zMetW l E yL_shade cL_shade 3 (some .int) [(0, 5, 6, 13)] ({ frames := 8, cells := 1, slots := 6, locals := 136 } : Room) 1 6 [.ref a, .int x] h (lwR A (fun _ => -1001) P) (fun _ _ => False) := by
  refine zMW_start hzs hst (by decide) (Nat.le_of_ble_eq_true rfl) (fun X C G F => ?_)
  show zV X 0 0 _ 0 [(0, .ref a), (1, .int x)] []
  have xh : ∀ Ex h9, sX9 h A P Ex h9 → zVX X (0 + 1) (0 + 6) h9 2 [(0, .ref a), (1, .int x)] [] Ex := by
    intro Ex h9 ⟨eA, p9⟩
    rcases hA Ex eA with rfl
    · refine zVX.catch C F [] (0, 5, 6, 13) [] rfl (fun z hz => by cases hz) (by decide) (by decide) lk_L_13 ca_java_lang_IndexOutOfBoundsException_java_lang_IndexOutOfBoundsException (fun q => ?_)
      show zV X _ _ h9 6 _ _
      refine zV.astore_n (lo' := [(0, _), (1, _), (2, _)]) C dL_shade_6 rfl (by decide) rfl rfl rfl ?_
      refine zV.si (v := -1001) C dL_shade_7 (by decide) ?_
      refine zV.iretW C F dL_shade_10 rfl ?_
      exact ⟨by rw [eA]; try rfl, p9⟩
  refine zV.aload_n C dL_shade_0 rfl rfl ?_
  refine zV.iload_n C dL_shade_1 rfl ?_
  refine zV.callV (n := 1) C G dL_shade_2 hM rfl ⟨cd_X9_shadeOf, lk_L_45, im_X9_shadeOf, se_X9_X9_shadeOf, in_X9⟩ ⟨⟨by decide, by decide⟩, by decide⟩ rfl rfl rfl hk ⟨rfl, by decide⟩ (zafX (fun r9 h9 q9 => ?_)) (fun Ex h9 q9 _ => xh Ex h9 q9)
  obtain ⟨⟨v9, eA, rfl⟩, p9⟩ := q9
  obtain ⟨w, rfl⟩ := hV v9 eA
  show zV X _ _ h9 5 _ (.int w :: [])
  refine zV.iretW C F dL_shade_5 rfl ?_
  exact ⟨by rw [eA]; try rfl, p9⟩
set_option maxHeartbeats 4000000 in
set_option maxRecDepth 100000 in
theorem s_Lposition {l : Launch} {E : zG} (hzs : zS E) (hst : l.stackTraces = false) {h : zH} {a : Nat} {x : Int32} {A : zAn} {P : zH → Prop} (hM : zMet l E yX9_positionOf cX9_positionOf 2 (some .int) ({ frames := 7, cells := 1, slots := 6, locals := 117 } : Room) 1 6 [.ref a, .int x] h (sQ9 h A P) (sX9 h A P)) (hk : hK h a = 13) (hV : ∀ v, A = .inr v → ∃ w, v = .int w) (hA : ∀ Ex, A = .inl Ex → Ex = IOB) : zMetW l E yL_position cL_position 3 (some .int) [(0, 5, 6, 13)] ({ frames := 8, cells := 1, slots := 6, locals := 138 } : Room) 1 6 [.ref a, .int x] h (lwR A (fun _ => -1001) P) (fun _ _ => False) := by
  refine zMW_start hzs hst (by decide) (Nat.le_of_ble_eq_true rfl) (fun X C G F => ?_)
  show zV X 0 0 _ 0 [(0, .ref a), (1, .int x)] []
  have xh : ∀ Ex h9, sX9 h A P Ex h9 → zVX X (0 + 1) (0 + 6) h9 2 [(0, .ref a), (1, .int x)] [] Ex := by
    intro Ex h9 ⟨eA, p9⟩
    rcases hA Ex eA with rfl
    · refine zVX.catch C F [] (0, 5, 6, 13) [] rfl (fun z hz => by cases hz) (by decide) (by decide) lk_L_13 ca_java_lang_IndexOutOfBoundsException_java_lang_IndexOutOfBoundsException (fun q => ?_)
      show zV X _ _ h9 6 _ _
      refine zV.astore_n (lo' := [(0, _), (1, _), (2, _)]) C dL_position_6 rfl (by decide) rfl rfl rfl ?_
      refine zV.si (v := -1001) C dL_position_7 (by decide) ?_
      refine zV.iretW C F dL_position_10 rfl ?_
      exact ⟨by rw [eA]; try rfl, p9⟩
  refine zV.aload_n C dL_position_0 rfl rfl ?_
  refine zV.iload_n C dL_position_1 rfl ?_
  refine zV.callV (n := 1) C G dL_position_2 hM rfl ⟨cd_X9_positionOf, lk_L_85, im_X9_positionOf, se_X9_X9_positionOf, in_X9⟩ ⟨⟨by decide, by decide⟩, by decide⟩ rfl rfl rfl hk ⟨rfl, by decide⟩ (zafX (fun r9 h9 q9 => ?_)) (fun Ex h9 q9 _ => xh Ex h9 q9)
  obtain ⟨⟨v9, eA, rfl⟩, p9⟩ := q9
  obtain ⟨w, rfl⟩ := hV v9 eA
  show zV X _ _ h9 5 _ (.int w :: [])
  refine zV.iretW C F dL_position_5 rfl ?_
  exact ⟨by rw [eA]; try rfl, p9⟩
set_option maxHeartbeats 4000000 in
set_option maxRecDepth 100000 in
theorem s_LherdSizeAgain {l : Launch} {E : zG} (hzs : zS E) (hst : l.stackTraces = false) {h : zH} {a : Nat} {x : Int32} {A : zAn} {P : zH → Prop} (hM : zMet l E yX9_herdSizeByChairs cX9_herdSizeByChairs 2 (some .int) ({ frames := 7, cells := 1, slots := 6, locals := 115 } : Room) 1 6 [.ref a, .int x] h (sQ9 h A P) (sX9 h A P)) (hk : hK h a = 13) (hV : ∀ v, A = .inr v → ∃ w, v = .int w) (hA : ∀ Ex, A = .inl Ex → Ex = IOB) : zMetW l E yL_herdSizeAgain cL_herdSizeAgain 3 (some .int) [(0, 5, 6, 13)] ({ frames := 8, cells := 1, slots := 6, locals := 136 } : Room) 1 6 [.ref a, .int x] h (lwR A (fun _ => -1001) P) (fun _ _ => False) := by
  refine zMW_start hzs hst (by decide) (Nat.le_of_ble_eq_true rfl) (fun X C G F => ?_)
  show zV X 0 0 _ 0 [(0, .ref a), (1, .int x)] []
  have xh : ∀ Ex h9, sX9 h A P Ex h9 → zVX X (0 + 1) (0 + 6) h9 2 [(0, .ref a), (1, .int x)] [] Ex := by
    intro Ex h9 ⟨eA, p9⟩
    rcases hA Ex eA with rfl
    · refine zVX.catch C F [] (0, 5, 6, 13) [] rfl (fun z hz => by cases hz) (by decide) (by decide) lk_L_13 ca_java_lang_IndexOutOfBoundsException_java_lang_IndexOutOfBoundsException (fun q => ?_)
      show zV X _ _ h9 6 _ _
      refine zV.astore_n (lo' := [(0, _), (1, _), (2, _)]) C dL_herdSizeAgain_6 rfl (by decide) rfl rfl rfl ?_
      refine zV.si (v := -1001) C dL_herdSizeAgain_7 (by decide) ?_
      refine zV.iretW C F dL_herdSizeAgain_10 rfl ?_
      exact ⟨by rw [eA]; try rfl, p9⟩
  refine zV.aload_n C dL_herdSizeAgain_0 rfl rfl ?_
  refine zV.iload_n C dL_herdSizeAgain_1 rfl ?_
  refine zV.callV (n := 1) C G dL_herdSizeAgain_2 hM rfl ⟨cd_X9_herdSizeByChairs, lk_L_91, im_X9_herdSizeByChairs, se_X9_X9_herdSizeByChairs, in_X9⟩ ⟨⟨by decide, by decide⟩, by decide⟩ rfl rfl rfl hk ⟨rfl, by decide⟩ (zafX (fun r9 h9 q9 => ?_)) (fun Ex h9 q9 _ => xh Ex h9 q9)
  obtain ⟨⟨v9, eA, rfl⟩, p9⟩ := q9
  obtain ⟨w, rfl⟩ := hV v9 eA
  show zV X _ _ h9 5 _ (.int w :: [])
  refine zV.iretW C F dL_herdSizeAgain_5 rfl ?_
  exact ⟨by rw [eA]; try rfl, p9⟩
set_option maxHeartbeats 4000000 in
set_option maxRecDepth 100000 in
theorem s_LchairAt {l : Launch} {E : zG} (hzs : zS E) (hst : l.stackTraces = false) {h : zH} {a : Nat} {x : Int32} {y : Int32} {A : zAn} {P : zH → Prop} (hM : zMet l E yX9_chairAt cX9_chairAt 3 (some .int) ({ frames := 7, cells := 2, slots := 12, locals := 115 } : Room) 2 12 [.ref a, .int x, .int y] h (sQ9 h A P) (sX9 h A P)) (hk : hK h a = 13) (hV : ∀ v, A = .inr v → ∃ w, v = .int w) (hA : ∀ Ex, A = .inl Ex → Ex = IOB ∨ Ex = NSE) : zMetW l E yL_chairAt cL_chairAt 4 (some .int) [(0, 6, 7, 13), (0, 6, 12, 29)] ({ frames := 8, cells := 2, slots := 12, locals := 137 } : Room) 2 12 [.ref a, .int x, .int y] h (lwR A (fun Ex => if Ex = IOB then -1001 else -1002) P) (fun _ _ => False) := by
  refine zMW_start hzs hst (by decide) (Nat.le_of_ble_eq_true rfl) (fun X C G F => ?_)
  show zV X 0 0 _ 0 [(0, .ref a), (1, .int x), (2, .int y)] []
  have xh : ∀ Ex h9, sX9 h A P Ex h9 → zVX X (0 + 2) (0 + 12) h9 3 [(0, .ref a), (1, .int x), (2, .int y)] [] Ex := by
    intro Ex h9 ⟨eA, p9⟩
    rcases hA Ex eA with rfl | rfl
    · refine zVX.catch C F [] (0, 6, 7, 13) [(0, 6, 12, 29)] rfl (fun z hz => by cases hz) (by decide) (by decide) lk_L_13 ca_java_lang_IndexOutOfBoundsException_java_lang_IndexOutOfBoundsException (fun q => ?_)
      show zV X _ _ h9 7 _ _
      refine zV.astore_n (lo' := [(0, _), (1, _), (2, _), (3, _)]) C dL_chairAt_7 rfl (by decide) rfl rfl rfl ?_
      refine zV.si (v := -1001) C dL_chairAt_8 (by decide) ?_
      refine zV.iretW C F dL_chairAt_11 rfl ?_
      exact ⟨by rw [eA]; try rfl, p9⟩
    · refine zVX.catch C F [(0, 6, 7, 13)] (0, 6, 12, 29) [] rfl (fun z hz => by
        rcases List.mem_cons.mp hz with rfl | hz
        · exact ⟨by decide, _, lk_L_13, nc_NSE_IOB⟩
        cases hz) (by decide) (by decide) lk_L_29 ca_java_util_NoSuchElementException_java_util_NoSuchElementException (fun q => ?_)
      show zV X _ _ h9 12 _ _
      refine zV.astore_n (lo' := [(0, _), (1, _), (2, _), (3, _)]) C dL_chairAt_12 rfl (by decide) rfl rfl rfl ?_
      refine zV.si (v := -1002) C dL_chairAt_13 (by decide) ?_
      refine zV.iretW C F dL_chairAt_16 rfl ?_
      exact ⟨by rw [eA]; try rfl, p9⟩
  refine zV.aload_n C dL_chairAt_0 rfl rfl ?_
  refine zV.iload_n C dL_chairAt_1 rfl ?_
  refine zV.iload_n C dL_chairAt_2 rfl ?_
  refine zV.callV (n := 2) C G dL_chairAt_3 hM rfl ⟨cd_X9_chairAt, lk_L_94, im_X9_chairAt, se_X9_X9_chairAt, in_X9⟩ ⟨⟨by decide, by decide⟩, by decide⟩ rfl rfl rfl hk ⟨rfl, by decide⟩ (zafX (fun r9 h9 q9 => ?_)) (fun Ex h9 q9 _ => xh Ex h9 q9)
  obtain ⟨⟨v9, eA, rfl⟩, p9⟩ := q9
  obtain ⟨w, rfl⟩ := hV v9 eA
  show zV X _ _ h9 6 _ (.int w :: [])
  refine zV.iretW C F dL_chairAt_6 rfl ?_
  exact ⟨by rw [eA]; try rfl, p9⟩
set_option maxHeartbeats 4000000 in
set_option maxRecDepth 100000 in
theorem s_Lhungry {l : Launch} {E : zG} (hzs : zS E) (hst : l.stackTraces = false) {h : zH} {a : Nat} {x : Int32} {A : zAn} {P : zH → Prop} (hM : zMet l E yX9_hungryChairs cX9_hungryChairs 2 (some .int) ({ frames := 7, cells := 1, slots := 6, locals := 115 } : Room) 1 6 [.ref a, .int x] h (sQ9 h A P) (sX9 h A P)) (hk : hK h a = 13) (hV : ∀ v, A = .inr v → ∃ w, v = .int w) (hA : ∀ Ex, A = .inl Ex → Ex = IOB) : zMetW l E yL_hungry cL_hungry 3 (some .int) [(0, 5, 6, 13)] ({ frames := 8, cells := 1, slots := 6, locals := 136 } : Room) 1 6 [.ref a, .int x] h (lwR A (fun _ => -1001) P) (fun _ _ => False) := by
  refine zMW_start hzs hst (by decide) (Nat.le_of_ble_eq_true rfl) (fun X C G F => ?_)
  show zV X 0 0 _ 0 [(0, .ref a), (1, .int x)] []
  have xh : ∀ Ex h9, sX9 h A P Ex h9 → zVX X (0 + 1) (0 + 6) h9 2 [(0, .ref a), (1, .int x)] [] Ex := by
    intro Ex h9 ⟨eA, p9⟩
    rcases hA Ex eA with rfl
    · refine zVX.catch C F [] (0, 5, 6, 13) [] rfl (fun z hz => by cases hz) (by decide) (by decide) lk_L_13 ca_java_lang_IndexOutOfBoundsException_java_lang_IndexOutOfBoundsException (fun q => ?_)
      show zV X _ _ h9 6 _ _
      refine zV.astore_n (lo' := [(0, _), (1, _), (2, _)]) C dL_hungry_6 rfl (by decide) rfl rfl rfl ?_
      refine zV.si (v := -1001) C dL_hungry_7 (by decide) ?_
      refine zV.iretW C F dL_hungry_10 rfl ?_
      exact ⟨by rw [eA]; try rfl, p9⟩
  refine zV.aload_n C dL_hungry_0 rfl rfl ?_
  refine zV.iload_n C dL_hungry_1 rfl ?_
  refine zV.callV (n := 1) C G dL_hungry_2 hM rfl ⟨cd_X9_hungryChairs, lk_L_100, im_X9_hungryChairs, se_X9_X9_hungryChairs, in_X9⟩ ⟨⟨by decide, by decide⟩, by decide⟩ rfl rfl rfl hk ⟨rfl, by decide⟩ (zafX (fun r9 h9 q9 => ?_)) (fun Ex h9 q9 _ => xh Ex h9 q9)
  obtain ⟨⟨v9, eA, rfl⟩, p9⟩ := q9
  obtain ⟨w, rfl⟩ := hV v9 eA
  show zV X _ _ h9 5 _ (.int w :: [])
  refine zV.iretW C F dL_hungry_5 rfl ?_
  exact ⟨by rw [eA]; try rfl, p9⟩
set_option maxHeartbeats 4000000 in
set_option maxRecDepth 100000 in
theorem s_LdaysUntil {l : Launch} {E : zG} (hzs : zS E) (hst : l.stackTraces = false) {h : zH} {a : Nat} {x : Int32} {A : zAn} {P : zH → Prop} (hM : zMet l E yX9_daysUntil cX9_daysUntil 3 (some .int) ({ frames := 6, cells := 1, slots := 6, locals := 95 } : Room) 1 6 [.ref a, .int x] h (sQ9 h A P) (sX9 h A P)) (hk : hK h a = 13) (hV : ∀ v, A = .inr v → ∃ w, v = .int w) (hA : ∀ Ex, A = .inl Ex → Ex = IAE) : zMetW l E yL_daysUntil cL_daysUntil 3 (some .int) [(0, 5, 6, 15)] ({ frames := 7, cells := 1, slots := 6, locals := 117 } : Room) 1 6 [.ref a, .int x] h (lwR A (fun _ => -1001) P) (fun _ _ => False) := by
  refine zMW_start hzs hst (by decide) (Nat.le_of_ble_eq_true rfl) (fun X C G F => ?_)
  show zV X 0 0 _ 0 [(0, .ref a), (1, .int x)] []
  have xh : ∀ Ex h9, sX9 h A P Ex h9 → zVX X (0 + 1) (0 + 6) h9 2 [(0, .ref a), (1, .int x)] [] Ex := by
    intro Ex h9 ⟨eA, p9⟩
    rcases hA Ex eA with rfl
    · refine zVX.catch C F [] (0, 5, 6, 15) [] rfl (fun z hz => by cases hz) (by decide) (by decide) lk_L_15 ca_java_lang_IllegalArgumentException_java_lang_IllegalArgumentException (fun q => ?_)
      show zV X _ _ h9 6 _ _
      refine zV.astore_n (lo' := [(0, _), (1, _), (2, _)]) C dL_daysUntil_6 rfl (by decide) rfl rfl rfl ?_
      refine zV.si (v := -1001) C dL_daysUntil_7 (by decide) ?_
      refine zV.iretW C F dL_daysUntil_10 rfl ?_
      exact ⟨by rw [eA]; try rfl, p9⟩
  refine zV.aload_n C dL_daysUntil_0 rfl rfl ?_
  refine zV.iload_n C dL_daysUntil_1 rfl ?_
  refine zV.callV (n := 1) C G dL_daysUntil_2 hM rfl ⟨cd_X9_daysUntil, lk_L_109, im_X9_daysUntil, se_X9_X9_daysUntil, in_X9⟩ ⟨⟨by decide, by decide⟩, by decide⟩ rfl rfl rfl hk ⟨rfl, by decide⟩ (zafX (fun r9 h9 q9 => ?_)) (fun Ex h9 q9 _ => xh Ex h9 q9)
  obtain ⟨⟨v9, eA, rfl⟩, p9⟩ := q9
  obtain ⟨w, rfl⟩ := hV v9 eA
  show zV X _ _ h9 5 _ (.int w :: [])
  refine zV.iretW C F dL_daysUntil_5 rfl ?_
  exact ⟨by rw [eA]; try rfl, p9⟩
set_option maxHeartbeats 4000000 in
set_option maxRecDepth 100000 in
theorem s_LcollapseDay {l : Launch} {E : zG} (hzs : zS E) (hst : l.stackTraces = false) {h : zH} {a : Nat} {x : Int32} {A : zAn} {P : zH → Prop} (hM : zMet l E yX9_collapseDay cX9_collapseDay 3 (some .int) ({ frames := 7, cells := 2, slots := 12, locals := 164 } : Room) 2 12 [.ref a, .int x] h (sQ9 h A P) (sX9 h A P)) (hk : hK h a = 13) (hV : ∀ v, A = .inr v → ∃ w, v = .int w) (hA : ∀ Ex, A = .inl Ex → Ex = IOB ∨ Ex = NSE) : zMetW l E yL_collapseDay cL_collapseDay 3 (some .int) [(0, 5, 6, 13), (0, 5, 11, 29)] ({ frames := 8, cells := 2, slots := 12, locals := 186 } : Room) 2 12 [.ref a, .int x] h (lwR A (fun Ex => if Ex = IOB then -1001 else -1002) P) (fun _ _ => False) := by
  refine zMW_start hzs hst (by decide) (Nat.le_of_ble_eq_true rfl) (fun X C G F => ?_)
  show zV X 0 0 _ 0 [(0, .ref a), (1, .int x)] []
  have xh : ∀ Ex h9, sX9 h A P Ex h9 → zVX X (0 + 2) (0 + 12) h9 2 [(0, .ref a), (1, .int x)] [] Ex := by
    intro Ex h9 ⟨eA, p9⟩
    rcases hA Ex eA with rfl | rfl
    · refine zVX.catch C F [] (0, 5, 6, 13) [(0, 5, 11, 29)] rfl (fun z hz => by cases hz) (by decide) (by decide) lk_L_13 ca_java_lang_IndexOutOfBoundsException_java_lang_IndexOutOfBoundsException (fun q => ?_)
      show zV X _ _ h9 6 _ _
      refine zV.astore_n (lo' := [(0, _), (1, _), (2, _)]) C dL_collapseDay_6 rfl (by decide) rfl rfl rfl ?_
      refine zV.si (v := -1001) C dL_collapseDay_7 (by decide) ?_
      refine zV.iretW C F dL_collapseDay_10 rfl ?_
      exact ⟨by rw [eA]; try rfl, p9⟩
    · refine zVX.catch C F [(0, 5, 6, 13)] (0, 5, 11, 29) [] rfl (fun z hz => by
        rcases List.mem_cons.mp hz with rfl | hz
        · exact ⟨by decide, _, lk_L_13, nc_NSE_IOB⟩
        cases hz) (by decide) (by decide) lk_L_29 ca_java_util_NoSuchElementException_java_util_NoSuchElementException (fun q => ?_)
      show zV X _ _ h9 11 _ _
      refine zV.astore_n (lo' := [(0, _), (1, _), (2, _)]) C dL_collapseDay_11 rfl (by decide) rfl rfl rfl ?_
      refine zV.si (v := -1002) C dL_collapseDay_12 (by decide) ?_
      refine zV.iretW C F dL_collapseDay_15 rfl ?_
      exact ⟨by rw [eA]; try rfl, p9⟩
  refine zV.aload_n C dL_collapseDay_0 rfl rfl ?_
  refine zV.iload_n C dL_collapseDay_1 rfl ?_
  refine zV.callV (n := 1) C G dL_collapseDay_2 hM rfl ⟨cd_X9_collapseDay, lk_L_115, im_X9_collapseDay, se_X9_X9_collapseDay, in_X9⟩ ⟨⟨by decide, by decide⟩, by decide⟩ rfl rfl rfl hk ⟨rfl, by decide⟩ (zafX (fun r9 h9 q9 => ?_)) (fun Ex h9 q9 _ => xh Ex h9 q9)
  obtain ⟨⟨v9, eA, rfl⟩, p9⟩ := q9
  obtain ⟨w, rfl⟩ := hV v9 eA
  show zV X _ _ h9 5 _ (.int w :: [])
  refine zV.iretW C F dL_collapseDay_5 rfl ?_
  exact ⟨by rw [eA]; try rfl, p9⟩
