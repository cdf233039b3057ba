/-! which exceptions a change throws -/
theorem chg_x {g : zGd} {d : Nat} {x y : Int32} {Ex : String} (h : chgA g d x y = .inl Ex) : ((jd g d x y).1 = 1 ∧ Ex = IOB) ∨ ((jd g d x y).1 = 2 ∧ Ex = IAE) ∨ ((jd g d x y).1 ≠ 0 ∧ (jd g d x y).1 ≠ 1 ∧ (jd g d x y).1 ≠ 2 ∧ Ex = UOE) := by
  unfold chgA at h
  by_cases e0 : (jd g d x y).1 = 0
  · rw [if_pos e0] at h; cases h
  · rw [if_neg e0] at h
    by_cases e1 : (jd g d x y).1 = 1
    · rw [if_pos e1] at h; cases h; exact Or.inl ⟨e1, rfl⟩
    · rw [if_neg e1] at h
      by_cases e2 : (jd g d x y).1 = 2
      · rw [if_pos e2] at h; cases h; exact Or.inr (Or.inl ⟨e2, rfl⟩)
      · rw [if_neg e2] at h; cases h; exact Or.inr (Or.inr ⟨e0, e1, e2, rfl⟩)
theorem chg_v {g : zGd} {d : Nat} {x y : Int32} {v : Value} (h : chgA g d x y = .inr v) : (jd g d x y).1 = 0 ∧ v = .int (ap g d x y).2 := by
  unfold chgA at h
  by_cases e0 : (jd g d x y).1 = 0
  · rw [if_pos e0] at h; cases h; exact ⟨e0, rfl⟩
  · rw [if_neg e0] at h
    split at h
    · cases h
    · split at h <;> cases h
theorem jd_104_3 {g : zGd} {x y : Int32} : (jd g 104 x y).1 ≠ 3 := by
  show (jSh x y).1 ≠ 3
  unfold jSh
  (repeat' split) <;> first | decide | (intro z; cases z)
theorem jd_115_2 {g : zGd} {x y : Int32} : (jd g 115 x y).1 ≠ 2 := by
  show (jSc g x).1 ≠ 2
  unfold jSc
  (repeat' split) <;> first | decide | (intro z; cases z)
theorem jd_115_3 {g : zGd} {x y : Int32} : (jd g 115 x y).1 ≠ 3 := by
  show (jSc g x).1 ≠ 3
  unfold jSc
  (repeat' split) <;> first | decide | (intro z; cases z)
theorem jd_102_2 {g : zGd} {x y : Int32} : (jd g 102 x y).1 ≠ 2 := by
  show (jFo g x).1 ≠ 2
  unfold jFo
  (repeat' split) <;> first | decide | (intro z; cases z)
theorem jd_117_2 {g : zGd} {x y : Int32} : (jd g 117 x y).1 ≠ 2 := by
  show (jUn g x).1 ≠ 2
  unfold jUn
  (repeat' split) <;> first | decide | (intro z; cases z)
theorem jd_109_2 {g : zGd} {x y : Int32} : (jd g 109 x y).1 ≠ 2 := by
  show (jMv g x y).1 ≠ 2
  unfold jMv
  (repeat' split) <;> first | decide | (intro z; cases z)
theorem jd_103_2 {g : zGd} {x y : Int32} : (jd g 103 x y).1 ≠ 2 := by
  show (jMg g x y).1 ≠ 2
  unfold jMg
  (repeat' split) <;> first | decide | (intro z; cases z)
theorem jd_111_2 {g : zGd} {x y : Int32} : (jd g 111 x y).1 ≠ 2 := by
  show (jOi g x).1 ≠ 2
  unfold jOi
  (repeat' split) <;> first | decide | (intro z; cases z)
theorem jd_97_1 {g : zGd} {x y : Int32} : (jd g 97 x y).1 ≠ 1 := by
  show (jAo g x).1 ≠ 1
  unfold jAo
  (repeat' split) <;> first | decide | (intro z; cases z)
theorem jd_100_1 {g : zGd} {x y : Int32} : (jd g 100 x y).1 ≠ 1 := by
  show (jDy x).1 ≠ 1
  unfold jDy
  (repeat' split) <;> first | decide | (intro z; cases z)
theorem jd_100_3 {g : zGd} {x y : Int32} : (jd g 100 x y).1 ≠ 3 := by
  show (jDy x).1 ≠ 3
  unfold jDy
  (repeat' split) <;> first | decide | (intro z; cases z)
