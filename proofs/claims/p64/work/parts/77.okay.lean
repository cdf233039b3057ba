/-! what a question can answer -/
theorem isD_97 : isD 97 := by unfold isD; decide
theorem isD_99 : isD 99 := by unfold isD; decide
theorem isD_100 : isD 100 := by unfold isD; decide
theorem isD_102 : isD 102 := by unfold isD; decide
theorem isD_103 : isD 103 := by unfold isD; decide
theorem isD_104 : isD 104 := by unfold isD; decide
theorem isD_109 : isD 109 := by unfold isD; decide
theorem isD_111 : isD 111 := by unfold isD; decide
theorem isD_112 : isD 112 := by unfold isD; decide
theorem isD_113 : isD 113 := by unfold isD; decide
theorem isD_115 : isD 115 := by unfold isD; decide
theorem isD_117 : isD 117 := by unfold isD; decide
theorem chg_x {g : zGd} {d : Nat} {x y : Int32} {Ex : String} (h : chgA g d x y = .inl Ex) : ((jd g d x y).1 = 1 ∧ Ex = IOB) ∨ ((jd g d x y).1 = 2 ∧ Ex = IAE) ∨ ((jd g d x y).1 ≠ 0 ∧ (jd g d x y).1 ≠ 1 ∧ (jd g d x y).1 ≠ 2 ∧ Ex = UOE) := by
  unfold chgA at h
  by_cases e0 : (jd g d x y).1 = 0
  · rw [if_pos e0] at h; cases h
  · rw [if_neg e0] at h
    by_cases e1 : (jd g d x y).1 = 1
    · rw [if_pos e1] at h; cases h; exact Or.inl ⟨e1, rfl⟩
    · rw [if_neg e1] at h
      by_cases e2 : (jd g d x y).1 = 2
      · rw [if_pos e2] at h; cases h; exact Or.inr (Or.inl ⟨e2, rfl⟩)
      · rw [if_neg e2] at h; cases h; exact Or.inr (Or.inr ⟨e0, e1, e2, rfl⟩)
theorem chg_v {g : zGd} {d : Nat} {x y : Int32} {v : Value} (h : chgA g d x y = .inr v) : (jd g d x y).1 = 0 ∧ v = .int (ap g d x y).2 := by
  unfold chgA at h
  by_cases e0 : (jd g d x y).1 = 0
  · rw [if_pos e0] at h; cases h; exact ⟨e0, rfl⟩
  · rw [if_neg e0] at h
    split at h
    · cases h
    · split at h <;> cases h
theorem jd_104_3 {g : zGd} {x y : Int32} : (jd g 104 x y).1 ≠ 3 := by
  show (jSh x y).1 ≠ 3
  unfold jSh
  (repeat' split) <;> first | decide | (intro z; cases z)
theorem jd_115_2 {g : zGd} {x y : Int32} : (jd g 115 x y).1 ≠ 2 := by
  show (jSc g x).1 ≠ 2
  unfold jSc
  (repeat' split) <;> first | decide | (intro z; cases z)
theorem jd_115_3 {g : zGd} {x y : Int32} : (jd g 115 x y).1 ≠ 3 := by
  show (jSc g x).1 ≠ 3
  unfold jSc
  (repeat' split) <;> first | decide | (intro z; cases z)
theorem jd_102_2 {g : zGd} {x y : Int32} : (jd g 102 x y).1 ≠ 2 := by
  show (jFo g x).1 ≠ 2
  unfold jFo
  (repeat' split) <;> first | decide | (intro z; cases z)
theorem jd_117_2 {g : zGd} {x y : Int32} : (jd g 117 x y).1 ≠ 2 := by
  show (jUn g x).1 ≠ 2
  unfold jUn
  (repeat' split) <;> first | decide | (intro z; cases z)
theorem jd_109_2 {g : zGd} {x y : Int32} : (jd g 109 x y).1 ≠ 2 := by
  show (jMv g x y).1 ≠ 2
  unfold jMv
  (repeat' split) <;> first | decide | (intro z; cases z)
theorem jd_103_2 {g : zGd} {x y : Int32} : (jd g 103 x y).1 ≠ 2 := by
  show (jMg g x y).1 ≠ 2
  unfold jMg
  (repeat' split) <;> first | decide | (intro z; cases z)
theorem jd_111_2 {g : zGd} {x y : Int32} : (jd g 111 x y).1 ≠ 2 := by
  show (jOi g x).1 ≠ 2
  unfold jOi
  (repeat' split) <;> first | decide | (intro z; cases z)
theorem jd_97_1 {g : zGd} {x y : Int32} : (jd g 97 x y).1 ≠ 1 := by
  show (jAo g x).1 ≠ 1
  unfold jAo
  (repeat' split) <;> first | decide | (intro z; cases z)
theorem jd_100_1 {g : zGd} {x y : Int32} : (jd g 100 x y).1 ≠ 1 := by
  show (jDy x).1 ≠ 1
  unfold jDy
  (repeat' split) <;> first | decide | (intro z; cases z)
theorem jd_100_3 {g : zGd} {x y : Int32} : (jd g 100 x y).1 ≠ 3 := by
  show (jDy x).1 ≠ 3
  unfold jDy
  (repeat' split) <;> first | decide | (intro z; cases z)

theorem lawA_x {x : Int32} {f : Nat → zAn} {Ex : String} (h : lawA x f = .inl Ex) : Ex = IOB ∨ ∃ i, f i = .inl Ex := by
  rcases e : ln x with _ | i
  · rw [lawA_n e] at h; cases h; exact Or.inl rfl
  · rw [lawA_s e] at h; exact Or.inr ⟨i, h⟩
theorem lawA_v {x : Int32} {f : Nat → zAn} {v : Value} (h : lawA x f = .inr v) : ∃ i, f i = .inr v := by
  rcases e : ln x with _ | i
  · rw [lawA_n e] at h; cases h
  · rw [lawA_s e] at h; exact ⟨i, h⟩
theorem chQ_x {g : zGd} {x : Int32} {f : Nat → zCh → zAn} {Ex : String} (h : chQ g x f = .inl Ex) : Ex = IOB ∨ ∃ k c, f k c = .inl Ex := by
  rcases e : kc g x with _ | ⟨k, c⟩
  · rw [chQ_n e] at h; cases h; exact Or.inl rfl
  · rw [chQ_s e] at h; exact Or.inr ⟨k, c, h⟩
theorem chQ_v {g : zGd} {x : Int32} {f : Nat → zCh → zAn} {v : Value} (h : chQ g x f = .inr v) : ∃ k c, f k c = .inr v := by
  rcases e : kc g x with _ | ⟨k, c⟩
  · rw [chQ_n e] at h; cases h
  · rw [chQ_s e] at h; exact ⟨k, c, h⟩
theorem elA_xx {x : Int32} {Ex : String} (h : elA x = .inl Ex) : Ex = NSE := by
  unfold elA at h
  split at h <;> cases h
  rfl
theorem elA_vv {x : Int32} {v : Value} (h : elA x = .inr v) : v = .int x := by
  unfold elA at h
  split at h <;> cases h
  rfl

def okA (A : zAn) (S : String → Prop) : Prop := (∀ v, A = .inr v → ∃ w, v = .int w) ∧ ∀ Ex, A = .inl Ex → S Ex
theorem okA_v {w : Int32} {S : String → Prop} : okA (.inr (.int w)) S := ⟨fun v h => by cases h; exact ⟨w, rfl⟩, fun Ex h => by cases h⟩
theorem okA_x {Ex : String} {S : String → Prop} (hs : S Ex) : okA (.inl Ex) S := ⟨fun v h => (by cases h), fun E9 h => by cases h; exact hs⟩
theorem okA_law {x : Int32} {f : Nat → zAn} {S : String → Prop} (hs : S IOB) (hf : ∀ i, okA (f i) S) : okA (lawA x f) S := by
  rcases e : ln x with _ | i
  · rw [lawA_n e]; exact okA_x hs
  · rw [lawA_s e]; exact hf i
theorem okA_ch {g : zGd} {x : Int32} {f : Nat → zCh → zAn} {S : String → Prop} (hs : S IOB) (hf : ∀ k c, okA (f k c) S) : okA (chQ g x f) S := by
  rcases e : kc g x with _ | ⟨k, c⟩
  · rw [chQ_n e]; exact okA_x hs
  · rw [chQ_s e]; exact hf k c
theorem okA_el {x : Int32} {S : String → Prop} (hs : S NSE) : okA (elA x) S := by
  unfold elA
  split
  · exact okA_x hs
  · exact okA_v
theorem okA_rt {nb : Nat → Nat} {i j : Nat} {p : Int32} {S : String → Prop} (hs : S NSE) : okA (rtA nb i j p) S := by
  unfold rtA
  split
  · exact okA_x hs
  · exact okA_v
theorem okA_op {q : Option Nat} {S : String → Prop} (hs : S NSE) : okA (opA q) S := by
  unfold opA
  split
  · exact okA_x hs
  · exact okA_v
theorem okA_du {g : zGd} {x : Int32} {S : String → Prop} (hs : S IAE) : okA (duA g x) S := by
  unfold duA
  split
  · exact okA_x hs
  · exact okA_v
theorem okA_wc {g : zGd} {x : Int32} {S : String → Prop} (hs : S IAE) : okA (wcA g x) S := by
  unfold wcA
  split
  · exact okA_v
  · exact okA_x hs
theorem okA_ou {o : List Nat} {x : Int32} {S : String → Prop} (hs : S IOB) : okA (ouA o x) S := by
  unfold ouA
  split
  · exact okA_x hs
  · split
    · exact okA_x hs
    · exact okA_v
theorem okA_rj {rs v : Int32} {S : String → Prop} (hs : S NSE) : okA (rjA rs v) S := by
  unfold rjA
  split
  · exact okA_x hs
  · exact okA_v
theorem okA_cs {rs cs : Int32} {S : String → Prop} (hs : S NSE) : okA (csA rs cs) S := by
  unfold csA
  split
  · exact okA_v
  · exact okA_x hs
theorem okA_un {us : List zGd} {S : String → Prop} (hs : S ISE) : okA (unA us) S := by
  unfold unA
  split
  · exact okA_x hs
  · exact okA_v
theorem okA_rs {sn : Option zGd} {S : String → Prop} (hs : S ISE) : okA (rsA sn) S := by
  unfold rsA
  split
  · exact okA_x hs
  · exact okA_v
theorem okA_ai {t : List Nat} {x : Int32} {S : String → Prop} (h1 : S IAE) (h2 : S ISE) : okA (aiA t x) S := by
  unfold aiA
  split
  · exact okA_x h1
  · split
    · exact okA_v
    · exact okA_x h2
theorem okA_ex {g : zGd} {t : List Nat} {S : String → Prop} (h1 : S IAE) (h2 : S ISE) (h3 : S UOE) : okA (exA g t) S := by
  unfold exA
  split
  · exact okA_x h1
  · split
    · split
      · exact okA_x h3
      · exact okA_x h2
    · exact okA_v
theorem okA_chg {g : zGd} {d : Nat} {x y : Int32} {S : String → Prop} (hd : isD d) (h1 : (jd g d x y).1 = 1 → S IOB) (h2 : (jd g d x y).1 = 2 → S IAE) (h3 : (jd g d x y).1 = 3 → S UOE) : okA (chgA g d x y) S := by
  have := jd_3 (g := g) (x := x) (y := y) hd
  unfold chgA
  by_cases e0 : (jd g d x y).1 = 0
  · rw [if_pos e0]; exact okA_v
  · rw [if_neg e0]
    by_cases e1 : (jd g d x y).1 = 1
    · rw [if_pos e1]; exact okA_x (h1 e1)
    · rw [if_neg e1]
      by_cases e2 : (jd g d x y).1 = 2
      · rw [if_pos e2]; exact okA_x (h2 e2)
      · rw [if_neg e2]; exact okA_x (h3 (by omega))

