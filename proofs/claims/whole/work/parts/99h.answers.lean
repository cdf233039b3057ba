/-! which exceptions a question throws, what it answers -/
theorem lawA_x {x : Int32} {f : Nat → zAn} {Ex : String} (h : lawA x f = .inl Ex) : Ex = IOB ∨ ∃ i, f i = .inl Ex := by
  rcases e : ln x with _ | i
  · rw [lawA_n e] at h; cases h; exact Or.inl rfl
  · rw [lawA_s e] at h; exact Or.inr ⟨i, h⟩
theorem lawA_v {x : Int32} {f : Nat → zAn} {v : Value} (h : lawA x f = .inr v) : ∃ i, f i = .inr v := by
  rcases e : ln x with _ | i
  · rw [lawA_n e] at h; cases h
  · rw [lawA_s e] at h; exact ⟨i, h⟩
theorem chQ_x {g : zGd} {x : Int32} {f : Nat → zCh → zAn} {Ex : String} (h : chQ g x f = .inl Ex) : Ex = IOB ∨ ∃ k c, f k c = .inl Ex := by
  rcases e : kc g x with _ | ⟨k, c⟩
  · rw [chQ_n e] at h; cases h; exact Or.inl rfl
  · rw [chQ_s e] at h; exact Or.inr ⟨k, c, h⟩
theorem chQ_v {g : zGd} {x : Int32} {f : Nat → zCh → zAn} {v : Value} (h : chQ g x f = .inr v) : ∃ k c, f k c = .inr v := by
  rcases e : kc g x with _ | ⟨k, c⟩
  · rw [chQ_n e] at h; cases h
  · rw [chQ_s e] at h; exact ⟨k, c, h⟩
theorem elA_xx {x : Int32} {Ex : String} (h : elA x = .inl Ex) : Ex = NSE := by
  unfold elA at h
  split at h <;> cases h
  rfl
theorem elA_vv {x : Int32} {v : Value} (h : elA x = .inr v) : v = .int x := by
  unfold elA at h
  split at h <;> cases h
  rfl
