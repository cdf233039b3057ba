/-! the wrappers of the law that answer boolean, double, float -/
def lwHB (A : zAn) (ob : Nat) (h1 : zH) : zH := match A with
  | .inr (.int w) => saJ h1 ob 0 (if w = 0 then 0 else 1)
  | _ => h1
def lwHD (A : zAn) (ob : Nat) (h1 : zH) : zH := match A with
  | .inr (.double w) => saD h1 ob 0 w
  | _ => h1
def lwHF (A : zAn) (ob : Nat) (h1 : zH) : zH := match A with
  | .inr (.float w) => saD h1 ob 0 (FP.f2d w)
  | _ => h1
def lwQB (A : zAn) (cf : String → Nat) (P : zH → Prop) (ob : Nat) : Option Value → zH → Prop := fun r h' => r = some (.int (nI (match A with | .inl Ex => cf Ex | .inr _ => 0))) ∧ ∃ h1, P h1 ∧ h' = lwHB A ob h1
def lwQD (A : zAn) (cf : String → Nat) (P : zH → Prop) (ob : Nat) : Option Value → zH → Prop := fun r h' => r = some (.int (nI (match A with | .inl Ex => cf Ex | .inr _ => 0))) ∧ ∃ h1, P h1 ∧ h' = lwHD A ob h1
def lwQF (A : zAn) (cf : String → Nat) (P : zH → Prop) (ob : Nat) : Option Value → zH → Prop := fun r h' => r = some (.int (nI (match A with | .inl Ex => cf Ex | .inr _ => 0))) ∧ ∃ h1, P h1 ∧ h' = lwHF A ob h1
set_option maxHeartbeats 4000000 in
set_option maxRecDepth 100000 in
theorem s_LisPath {l : Launch} {E : zG} (hzs : zS E) (hst : l.stackTraces = false) (h : zH) (a ob : Nat) (x : Int32) (y : Int32) (A : zAn) (P : zH → Prop) (hM : zMet l E yX9_isPath cX9_isPath 3 (some .boolean) ({ frames := 7, cells := 2, slots := 12, locals := 115 } : Room) 2 12 [.ref a, .int x, .int y] h (sQ9 h A P) (sX9 h A P)) (hk : hK h a = 13) (hob : ∀ h1, P h1 → hK h1 ob = 104 ∧ hL h1 ob = 1) (hV : ∀ v, A = .inr v → ∃ w, v = .int w) (hA : ∀ Ex, A = .inl Ex → Ex = IOB) : zMetW l E yL_isPath cL_isPath 5 (some .int) [(0, 17, 20, 13)] ({ frames := 8, cells := 2, slots := 12, locals := 137 } : Room) 2 12 [.ref a, .int x, .int y, .ref ob] h (lwQB A (fun Ex => 1) P ob) (fun _ _ => False) := by
  refine zMW_start hzs hst (by decide) (Nat.le_of_ble_eq_true rfl) (fun X C G F => ?_)
  show zV X 0 0 _ 0 [(0, .ref a), (1, .int x), (2, .int y), (3, .ref ob)] []
  have xh : ∀ Ex h9, sX9 h A P Ex h9 → zVX X (0 + 2) (0 + 12) h9 5 [(0, .ref a), (1, .int x), (2, .int y), (3, .ref ob)] [.int (nI 0), .ref ob] Ex := by
    intro Ex h9 ⟨eA, p9⟩
    rcases hA Ex eA with rfl
    · refine zVX.catch C F [] (0, 17, 20, 13) [] rfl (fun z hz => by cases hz) (by decide) (by decide) lk_L_13 ca_java_lang_IndexOutOfBoundsException_java_lang_IndexOutOfBoundsException (fun q => ?_)
      show zV X _ _ h9 20 _ _
      refine zV.astore (lo' := [(0, _), (1, _), (2, _), (3, _), (4, _)]) C dL_isPath_20 rfl (by decide) rfl rfl rfl ?_
      refine zV.ic (v := nI 1) C dL_isPath_22 (by decide) ?_
      refine zV.iretW C F dL_isPath_23 rfl ?_
      exact ⟨by rw [eA]; try rfl, h9, p9, by rw [eA]; try rfl⟩
  refine zV.aload_n C dL_isPath_0 rfl rfl ?_
  refine zV.ic (v := nI 0) C dL_isPath_1 (by decide) ?_
  refine zV.aload_n C dL_isPath_2 rfl rfl ?_
  refine zV.iload_n C dL_isPath_3 rfl ?_
  refine zV.iload_n C dL_isPath_4 rfl ?_
  refine zV.callV (n := 2) C G dL_isPath_5 hM rfl ⟨cd_X9_isPath, lk_L_22, im_X9_isPath, se_X9_X9_isPath, in_X9⟩ ⟨⟨by decide, by decide⟩, by decide⟩ rfl rfl rfl hk ⟨rfl, by decide⟩ (zafX (fun r9 h9 q9 => ?_)) (fun Ex h9 q9 _ => xh Ex h9 q9)
  obtain ⟨⟨v9, eA, rfl⟩, p9⟩ := q9
  obtain ⟨w, rfl⟩ := hV v9 eA
  obtain ⟨k1, k2⟩ := hob h9 p9
  show zV X _ _ h9 8 _ (.int w :: .int (nI 0) :: .ref ob :: [])
  refine zV.if_eq (tgt := 15) C dL_isPath_8 (by decide) (fun qb => ?_) (fun qb => ?_)
  · refine zV.lconst (v := 0) C dL_isPath_15 (by decide) ?_
    refine zV.last (j := 0) C dL_isPath_16 k1 rfl (by rw [k2]; decide) (by decide) ?_
    refine zV.goto (tgt := 24) C dL_isPath_17 (by decide) ?_
    refine zV.ic (v := nI 0) C dL_isPath_24 (by decide) ?_
    refine zV.iretW C F dL_isPath_25 rfl ?_
    exact ⟨by rw [eA], h9, p9, by rw [eA]; exact congrArg (saJ h9 ob 0) (if_pos qb).symm⟩
  · refine zV.lconst (v := 1) C dL_isPath_11 (by decide) ?_
    refine zV.goto (tgt := 16) C dL_isPath_12 (by decide) ?_
    refine zV.last (j := 0) C dL_isPath_16 k1 rfl (by rw [k2]; decide) (by decide) ?_
    refine zV.goto (tgt := 24) C dL_isPath_17 (by decide) ?_
    refine zV.ic (v := nI 0) C dL_isPath_24 (by decide) ?_
    refine zV.iretW C F dL_isPath_25 rfl ?_
    exact ⟨by rw [eA], h9, p9, by rw [eA]; exact congrArg (saJ h9 ob 0) (if_neg qb).symm⟩
set_option maxHeartbeats 4000000 in
set_option maxRecDepth 100000 in
theorem s_LisFolded {l : Launch} {E : zG} (hzs : zS E) (hst : l.stackTraces = false) (h : zH) (a ob : Nat) (x : Int32) (A : zAn) (P : zH → Prop) (hM : zMet l E yX9_isFolded cX9_isFolded 2 (some .boolean) ({ frames := 7, cells := 1, slots := 6, locals := 117 } : Room) 1 6 [.ref a, .int x] h (sQ9 h A P) (sX9 h A P)) (hk : hK h a = 13) (hob : ∀ h1, P h1 → hK h1 ob = 104 ∧ hL h1 ob = 1) (hV : ∀ v, A = .inr v → ∃ w, v = .int w) (hA : ∀ Ex, A = .inl Ex → Ex = IOB) : zMetW l E yL_isFolded cL_isFolded 4 (some .int) [(0, 16, 19, 13)] ({ frames := 8, cells := 1, slots := 6, locals := 138 } : Room) 1 6 [.ref a, .int x, .ref ob] h (lwQB A (fun Ex => 1) P ob) (fun _ _ => False) := by
  refine zMW_start hzs hst (by decide) (Nat.le_of_ble_eq_true rfl) (fun X C G F => ?_)
  show zV X 0 0 _ 0 [(0, .ref a), (1, .int x), (2, .ref ob)] []
  have xh : ∀ Ex h9, sX9 h A P Ex h9 → zVX X (0 + 1) (0 + 6) h9 4 [(0, .ref a), (1, .int x), (2, .ref ob)] [.int (nI 0), .ref ob] Ex := by
    intro Ex h9 ⟨eA, p9⟩
    rcases hA Ex eA with rfl
    · refine zVX.catch C F [] (0, 16, 19, 13) [] rfl (fun z hz => by cases hz) (by decide) (by decide) lk_L_13 ca_java_lang_IndexOutOfBoundsException_java_lang_IndexOutOfBoundsException (fun q => ?_)
      show zV X _ _ h9 19 _ _
      refine zV.astore_n (lo' := [(0, _), (1, _), (2, _), (3, _)]) C dL_isFolded_19 rfl (by decide) rfl rfl rfl ?_
      refine zV.ic (v := nI 1) C dL_isFolded_20 (by decide) ?_
      refine zV.iretW C F dL_isFolded_21 rfl ?_
      exact ⟨by rw [eA]; try rfl, h9, p9, by rw [eA]; try rfl⟩
  refine zV.aload_n C dL_isFolded_0 rfl rfl ?_
  refine zV.ic (v := nI 0) C dL_isFolded_1 (by decide) ?_
  refine zV.aload_n C dL_isFolded_2 rfl rfl ?_
  refine zV.iload_n C dL_isFolded_3 rfl ?_
  refine zV.callV (n := 1) C G dL_isFolded_4 hM rfl ⟨cd_X9_isFolded, lk_L_78, im_X9_isFolded, se_X9_X9_isFolded, in_X9⟩ ⟨⟨by decide, by decide⟩, by decide⟩ rfl rfl rfl hk ⟨rfl, by decide⟩ (zafX (fun r9 h9 q9 => ?_)) (fun Ex h9 q9 _ => xh Ex h9 q9)
  obtain ⟨⟨v9, eA, rfl⟩, p9⟩ := q9
  obtain ⟨w, rfl⟩ := hV v9 eA
  obtain ⟨k1, k2⟩ := hob h9 p9
  show zV X _ _ h9 7 _ (.int w :: .int (nI 0) :: .ref ob :: [])
  refine zV.if_eq (tgt := 14) C dL_isFolded_7 (by decide) (fun qb => ?_) (fun qb => ?_)
  · refine zV.lconst (v := 0) C dL_isFolded_14 (by decide) ?_
    refine zV.last (j := 0) C dL_isFolded_15 k1 rfl (by rw [k2]; decide) (by decide) ?_
    refine zV.goto (tgt := 22) C dL_isFolded_16 (by decide) ?_
    refine zV.ic (v := nI 0) C dL_isFolded_22 (by decide) ?_
    refine zV.iretW C F dL_isFolded_23 rfl ?_
    exact ⟨by rw [eA], h9, p9, by rw [eA]; exact congrArg (saJ h9 ob 0) (if_pos qb).symm⟩
  · refine zV.lconst (v := 1) C dL_isFolded_10 (by decide) ?_
    refine zV.goto (tgt := 15) C dL_isFolded_11 (by decide) ?_
    refine zV.last (j := 0) C dL_isFolded_15 k1 rfl (by rw [k2]; decide) (by decide) ?_
    refine zV.goto (tgt := 22) C dL_isFolded_16 (by decide) ?_
    refine zV.ic (v := nI 0) C dL_isFolded_22 (by decide) ?_
    refine zV.iretW C F dL_isFolded_23 rfl ?_
    exact ⟨by rw [eA], h9, p9, by rw [eA]; exact congrArg (saJ h9 ob 0) (if_neg qb).symm⟩
set_option maxHeartbeats 4000000 in
set_option maxRecDepth 100000 in
theorem s_LmeanRust {l : Launch} {E : zG} (hzs : zS E) (hst : l.stackTraces = false) (h : zH) (a ob : Nat) (A : zAn) (P : zH → Prop) (hM : zMet l E yX9_meanRust cX9_meanRust 1 (some .double) ({ frames := 7, cells := 1, slots := 6, locals := 115 } : Room) 1 6 [.ref a] h (sQ9 h A P) (sX9 h A P)) (hk : hK h a = 13) (hob : ∀ h1, P h1 → hK h1 ob = 105 ∧ hL h1 ob = 1) (hV : ∀ v, A = .inr v → ∃ w, v = .double w) (hA : ∀ Ex, A = .inl Ex → Ex = ARE) : zMetW l E yL_meanRust cL_meanRust 3 (some .int) [(0, 7, 10, 128)] ({ frames := 8, cells := 1, slots := 6, locals := 135 } : Room) 1 6 [.ref a, .ref ob] h (lwQD A (fun Ex => 1) P ob) (fun _ _ => False) := by
  refine zMW_start hzs hst (by decide) (Nat.le_of_ble_eq_true rfl) (fun X C G F => ?_)
  show zV X 0 0 _ 0 [(0, .ref a), (1, .ref ob)] []
  have xh : ∀ Ex h9, sX9 h A P Ex h9 → zVX X (0 + 1) (0 + 6) h9 3 [(0, .ref a), (1, .ref ob)] [.int (nI 0), .ref ob] Ex := by
    intro Ex h9 ⟨eA, p9⟩
    rcases hA Ex eA with rfl
    · refine zVX.catch C F [] (0, 7, 10, 128) [] rfl (fun z hz => by cases hz) (by decide) (by decide) lk_L_128 ca_java_lang_ArithmeticException_java_lang_ArithmeticException (fun q => ?_)
      show zV X _ _ h9 10 _ _
      refine zV.astore_n (lo' := [(0, _), (1, _), (2, _)]) C dL_meanRust_10 rfl (by decide) rfl rfl rfl ?_
      refine zV.ic (v := nI 1) C dL_meanRust_11 (by decide) ?_
      refine zV.iretW C F dL_meanRust_12 rfl ?_
      exact ⟨by rw [eA]; try rfl, h9, p9, by rw [eA]; try rfl⟩
  refine zV.aload_n C dL_meanRust_0 rfl rfl ?_
  refine zV.ic (v := nI 0) C dL_meanRust_1 (by decide) ?_
  refine zV.aload_n C dL_meanRust_2 rfl rfl ?_
  refine zV.callV (n := 0) C G dL_meanRust_3 hM rfl ⟨cd_X9_meanRust, lk_L_124, im_X9_meanRust, se_X9_X9_meanRust, in_X9⟩ ⟨⟨by decide, by decide⟩, by decide⟩ rfl rfl rfl hk ⟨rfl, by decide⟩ (zafX (fun r9 h9 q9 => ?_)) (fun Ex h9 q9 _ => xh Ex h9 q9)
  obtain ⟨⟨v9, eA, rfl⟩, p9⟩ := q9
  obtain ⟨w, rfl⟩ := hV v9 eA
  obtain ⟨k1, k2⟩ := hob h9 p9
  show zV X _ _ h9 6 _ (.double w :: .int (nI 0) :: .ref ob :: [])
  refine zV.dast (j := 0) C dL_meanRust_6 k1 rfl (by rw [k2]; decide) (by decide) ?_
  refine zV.goto (tgt := 13) C dL_meanRust_7 (by decide) ?_
  refine zV.ic (v := nI 0) C dL_meanRust_13 (by decide) ?_
  refine zV.iretW C F dL_meanRust_14 rfl ?_
  exact ⟨by rw [eA], h9, p9, by rw [eA]; rfl⟩
set_option maxHeartbeats 4000000 in
set_option maxRecDepth 100000 in
theorem s_LfoldedShare {l : Launch} {E : zG} (hzs : zS E) (hst : l.stackTraces = false) (h : zH) (a ob : Nat) (A : zAn) (P : zH → Prop) (hM : zMet l E yX9_foldedShare cX9_foldedShare 1 (some .float) ({ frames := 7, cells := 1, slots := 6, locals := 115 } : Room) 1 6 [.ref a] h (sQ9 h A P) (sX9 h A P)) (hk : hK h a = 13) (hob : ∀ h1, P h1 → hK h1 ob = 105 ∧ hL h1 ob = 1) (hV : ∀ v, A = .inr v → ∃ w, v = .float w ∧ vf_n64 (FP.f2d w)) (hA : ∀ Ex, A = .inl Ex → Ex = ARE) : zMetW l E yL_foldedShare cL_foldedShare 3 (some .int) [(0, 8, 11, 128)] ({ frames := 8, cells := 1, slots := 6, locals := 135 } : Room) 1 6 [.ref a, .ref ob] h (lwQF A (fun Ex => 1) P ob) (fun _ _ => False) := by
  refine zMW_start hzs hst (by decide) (Nat.le_of_ble_eq_true rfl) (fun X C G F => ?_)
  show zV X 0 0 _ 0 [(0, .ref a), (1, .ref ob)] []
  have xh : ∀ Ex h9, sX9 h A P Ex h9 → zVX X (0 + 1) (0 + 6) h9 3 [(0, .ref a), (1, .ref ob)] [.int (nI 0), .ref ob] Ex := by
    intro Ex h9 ⟨eA, p9⟩
    rcases hA Ex eA with rfl
    · refine zVX.catch C F [] (0, 8, 11, 128) [] rfl (fun z hz => by cases hz) (by decide) (by decide) lk_L_128 ca_java_lang_ArithmeticException_java_lang_ArithmeticException (fun q => ?_)
      show zV X _ _ h9 11 _ _
      refine zV.astore_n (lo' := [(0, _), (1, _), (2, _)]) C dL_foldedShare_11 rfl (by decide) rfl rfl rfl ?_
      refine zV.ic (v := nI 1) C dL_foldedShare_12 (by decide) ?_
      refine zV.iretW C F dL_foldedShare_13 rfl ?_
      exact ⟨by rw [eA]; try rfl, h9, p9, by rw [eA]; try rfl⟩
  refine zV.aload_n C dL_foldedShare_0 rfl rfl ?_
  refine zV.ic (v := nI 0) C dL_foldedShare_1 (by decide) ?_
  refine zV.aload_n C dL_foldedShare_2 rfl rfl ?_
  refine zV.callV (n := 0) C G dL_foldedShare_3 hM rfl ⟨cd_X9_foldedShare, lk_L_130, im_X9_foldedShare, se_X9_X9_foldedShare, in_X9⟩ ⟨⟨by decide, by decide⟩, by decide⟩ rfl rfl rfl hk ⟨rfl, by decide⟩ (zafX (fun r9 h9 q9 => ?_)) (fun Ex h9 q9 _ => xh Ex h9 q9)
  obtain ⟨⟨v9, eA, rfl⟩, p9⟩ := q9
  obtain ⟨w, rfl, hne⟩ := hV v9 eA
  obtain ⟨k1, k2⟩ := hob h9 p9
  show zV X _ _ h9 6 _ (.float w :: .int (nI 0) :: .ref ob :: [])
  refine zV.f2d C dL_foldedShare_6 hne ?_
  refine zV.dast (j := 0) C dL_foldedShare_7 k1 rfl (by rw [k2]; decide) (by decide) ?_
  refine zV.goto (tgt := 14) C dL_foldedShare_8 (by decide) ?_
  refine zV.ic (v := nI 0) C dL_foldedShare_14 (by decide) ?_
  refine zV.iretW C F dL_foldedShare_15 rfl ?_
  exact ⟨by rw [eA], h9, p9, by rw [eA]; rfl⟩
