/-! the codes of the changes agree -/
theorem code_112 {g : zGd} {x y : Int32} : (match chgA g 112 x y with | .inl Ex => (fun Ex => if Ex = IOB then 1 else if Ex = IAE then 2 else 3) Ex | .inr _ => 0) = cod (jd g 112 x y) 1 2 3 := by
  unfold chgA cod
  by_cases e0 : (jd g 112 x y).1 = 0
  · rw [if_pos e0, if_pos e0]
  · rw [if_neg e0, if_neg e0]
    by_cases e1 : (jd g 112 x y).1 = 1
    · rw [if_pos e1, if_pos e1]
      all_goals (first | rfl | decide)
    · rw [if_neg e1, if_neg e1]
      by_cases e2 : (jd g 112 x y).1 = 2
      · rw [if_pos e2, if_pos e2]
        all_goals (first | rfl | decide)
      · rw [if_neg e2, if_neg e2]
        all_goals (first | rfl | decide)
theorem code_113 {g : zGd} {x y : Int32} : (match chgA g 113 x y with | .inl Ex => (fun Ex => if Ex = IOB then 1 else if Ex = IAE then 2 else 3) Ex | .inr _ => 0) = cod (jd g 113 x y) 1 2 3 := by
  unfold chgA cod
  by_cases e0 : (jd g 113 x y).1 = 0
  · rw [if_pos e0, if_pos e0]
  · rw [if_neg e0, if_neg e0]
    by_cases e1 : (jd g 113 x y).1 = 1
    · rw [if_pos e1, if_pos e1]
      all_goals (first | rfl | decide)
    · rw [if_neg e1, if_neg e1]
      by_cases e2 : (jd g 113 x y).1 = 2
      · rw [if_pos e2, if_pos e2]
        all_goals (first | rfl | decide)
      · rw [if_neg e2, if_neg e2]
        all_goals (first | rfl | decide)
theorem code_99 {g : zGd} {x y : Int32} : (match chgA g 99 x y with | .inl Ex => (fun Ex => if Ex = IOB then 1 else if Ex = IAE then 2 else 3) Ex | .inr _ => 0) = cod (jd g 99 x y) 1 2 3 := by
  unfold chgA cod
  by_cases e0 : (jd g 99 x y).1 = 0
  · rw [if_pos e0, if_pos e0]
  · rw [if_neg e0, if_neg e0]
    by_cases e1 : (jd g 99 x y).1 = 1
    · rw [if_pos e1, if_pos e1]
      all_goals (first | rfl | decide)
    · rw [if_neg e1, if_neg e1]
      by_cases e2 : (jd g 99 x y).1 = 2
      · rw [if_pos e2, if_pos e2]
        all_goals (first | rfl | decide)
      · rw [if_neg e2, if_neg e2]
        all_goals (first | rfl | decide)
theorem code_104 {g : zGd} {x y : Int32} : (match chgA g 104 x y with | .inl Ex => (fun Ex => if Ex = IOB then 1 else 2) Ex | .inr _ => 0) = cod (jd g 104 x y) 1 2 0 := by
  unfold chgA cod
  by_cases e0 : (jd g 104 x y).1 = 0
  · rw [if_pos e0, if_pos e0]
  · rw [if_neg e0, if_neg e0]
    by_cases e1 : (jd g 104 x y).1 = 1
    · rw [if_pos e1, if_pos e1]
      all_goals (first | rfl | decide)
    · rw [if_neg e1, if_neg e1]
      by_cases e2 : (jd g 104 x y).1 = 2
      · rw [if_pos e2, if_pos e2]
        all_goals (first | rfl | decide)
      · rw [if_neg e2, if_neg e2]
        have := jd_3 (g := g) (x := x) (y := y) (show isD 104 by unfold isD; decide)
        exact absurd (show (jd g 104 x y).1 = 3 by omega) jd_104_3
theorem code_115 {g : zGd} {x y : Int32} : (match chgA g 115 x y with | .inl Ex => (fun Ex => 1) Ex | .inr _ => 0) = cod (jd g 115 x y) 1 0 0 := by
  unfold chgA cod
  by_cases e0 : (jd g 115 x y).1 = 0
  · rw [if_pos e0, if_pos e0]
  · rw [if_neg e0, if_neg e0]
    by_cases e1 : (jd g 115 x y).1 = 1
    · rw [if_pos e1, if_pos e1]
      all_goals (first | rfl | decide)
    · rw [if_neg e1, if_neg e1]
      by_cases e2 : (jd g 115 x y).1 = 2
      · rw [if_pos e2, if_pos e2]
        exact absurd e2 jd_115_2
      · rw [if_neg e2, if_neg e2]
        have := jd_3 (g := g) (x := x) (y := y) (show isD 115 by unfold isD; decide)
        exact absurd (show (jd g 115 x y).1 = 3 by omega) jd_115_3
theorem code_102 {g : zGd} {x y : Int32} : (match chgA g 102 x y with | .inl Ex => (fun Ex => if Ex = IOB then 1 else 2) Ex | .inr _ => 0) = cod (jd g 102 x y) 1 0 2 := by
  unfold chgA cod
  by_cases e0 : (jd g 102 x y).1 = 0
  · rw [if_pos e0, if_pos e0]
  · rw [if_neg e0, if_neg e0]
    by_cases e1 : (jd g 102 x y).1 = 1
    · rw [if_pos e1, if_pos e1]
      all_goals (first | rfl | decide)
    · rw [if_neg e1, if_neg e1]
      by_cases e2 : (jd g 102 x y).1 = 2
      · rw [if_pos e2, if_pos e2]
        exact absurd e2 jd_102_2
      · rw [if_neg e2, if_neg e2]
        all_goals (first | rfl | decide)
theorem code_117 {g : zGd} {x y : Int32} : (match chgA g 117 x y with | .inl Ex => (fun Ex => if Ex = IOB then 1 else 2) Ex | .inr _ => 0) = cod (jd g 117 x y) 1 0 2 := by
  unfold chgA cod
  by_cases e0 : (jd g 117 x y).1 = 0
  · rw [if_pos e0, if_pos e0]
  · rw [if_neg e0, if_neg e0]
    by_cases e1 : (jd g 117 x y).1 = 1
    · rw [if_pos e1, if_pos e1]
      all_goals (first | rfl | decide)
    · rw [if_neg e1, if_neg e1]
      by_cases e2 : (jd g 117 x y).1 = 2
      · rw [if_pos e2, if_pos e2]
        exact absurd e2 jd_117_2
      · rw [if_neg e2, if_neg e2]
        all_goals (first | rfl | decide)
theorem code_109 {g : zGd} {x y : Int32} : (match chgA g 109 x y with | .inl Ex => (fun Ex => if Ex = IOB then 1 else 2) Ex | .inr _ => 0) = cod (jd g 109 x y) 1 0 2 := by
  unfold chgA cod
  by_cases e0 : (jd g 109 x y).1 = 0
  · rw [if_pos e0, if_pos e0]
  · rw [if_neg e0, if_neg e0]
    by_cases e1 : (jd g 109 x y).1 = 1
    · rw [if_pos e1, if_pos e1]
      all_goals (first | rfl | decide)
    · rw [if_neg e1, if_neg e1]
      by_cases e2 : (jd g 109 x y).1 = 2
      · rw [if_pos e2, if_pos e2]
        exact absurd e2 jd_109_2
      · rw [if_neg e2, if_neg e2]
        all_goals (first | rfl | decide)
theorem code_103 {g : zGd} {x y : Int32} : (match chgA g 103 x y with | .inl Ex => (fun Ex => if Ex = IOB then 1 else 2) Ex | .inr _ => 0) = cod (jd g 103 x y) 1 0 2 := by
  unfold chgA cod
  by_cases e0 : (jd g 103 x y).1 = 0
  · rw [if_pos e0, if_pos e0]
  · rw [if_neg e0, if_neg e0]
    by_cases e1 : (jd g 103 x y).1 = 1
    · rw [if_pos e1, if_pos e1]
      all_goals (first | rfl | decide)
    · rw [if_neg e1, if_neg e1]
      by_cases e2 : (jd g 103 x y).1 = 2
      · rw [if_pos e2, if_pos e2]
        exact absurd e2 jd_103_2
      · rw [if_neg e2, if_neg e2]
        all_goals (first | rfl | decide)
theorem code_111 {g : zGd} {x y : Int32} : (match chgA g 111 x y with | .inl Ex => (fun Ex => if Ex = IOB then 1 else 2) Ex | .inr _ => 0) = cod (jd g 111 x y) 1 0 2 := by
  unfold chgA cod
  by_cases e0 : (jd g 111 x y).1 = 0
  · rw [if_pos e0, if_pos e0]
  · rw [if_neg e0, if_neg e0]
    by_cases e1 : (jd g 111 x y).1 = 1
    · rw [if_pos e1, if_pos e1]
      all_goals (first | rfl | decide)
    · rw [if_neg e1, if_neg e1]
      by_cases e2 : (jd g 111 x y).1 = 2
      · rw [if_pos e2, if_pos e2]
        exact absurd e2 jd_111_2
      · rw [if_neg e2, if_neg e2]
        all_goals (first | rfl | decide)
theorem code_97 {g : zGd} {x y : Int32} : (match chgA g 97 x y with | .inl Ex => (fun Ex => if Ex = IAE then 1 else 2) Ex | .inr _ => 0) = cod (jd g 97 x y) 0 1 2 := by
  unfold chgA cod
  by_cases e0 : (jd g 97 x y).1 = 0
  · rw [if_pos e0, if_pos e0]
  · rw [if_neg e0, if_neg e0]
    by_cases e1 : (jd g 97 x y).1 = 1
    · rw [if_pos e1, if_pos e1]
      exact absurd e1 jd_97_1
    · rw [if_neg e1, if_neg e1]
      by_cases e2 : (jd g 97 x y).1 = 2
      · rw [if_pos e2, if_pos e2]
        all_goals (first | rfl | decide)
      · rw [if_neg e2, if_neg e2]
        all_goals (first | rfl | decide)
theorem code_100 {g : zGd} {x y : Int32} : (match chgA g 100 x y with | .inl Ex => (fun Ex => 1) Ex | .inr _ => 0) = cod (jd g 100 x y) 0 1 0 := by
  unfold chgA cod
  by_cases e0 : (jd g 100 x y).1 = 0
  · rw [if_pos e0, if_pos e0]
  · rw [if_neg e0, if_neg e0]
    by_cases e1 : (jd g 100 x y).1 = 1
    · rw [if_pos e1, if_pos e1]
      exact absurd e1 jd_100_1
    · rw [if_neg e1, if_neg e1]
      by_cases e2 : (jd g 100 x y).1 = 2
      · rw [if_pos e2, if_pos e2]
        all_goals (first | rfl | decide)
      · rw [if_neg e2, if_neg e2]
        have := jd_3 (g := g) (x := x) (y := y) (show isD 100 by unfold isD; decide)
        exact absurd (show (jd g 100 x y).1 = 3 by omega) jd_100_3
