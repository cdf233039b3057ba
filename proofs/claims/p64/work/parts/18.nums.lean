/-! small numbers -/
theorem inc1 (a : Nat) : nI a + Int32.ofInt 1 = nI (a + 1) := nI_1 a
theorem nI_or (a b : Nat) : nI a ||| nI b = nI (a ||| b) := fa_or a b
theorem sh1 : ∀ j, j < 6 → nI 1 <<< (nI j &&& 31) = nI (2 ^ j) := by decide
def setb (s j : Nat) : Nat := s ||| 2 ^ j
def clrb (s j : Nat) : Nat := s &&& (63 ^^^ 2 ^ j)
theorem clrb_i : ∀ s, s < 64 → ∀ j, j < 6 → nI s &&& (nI (2 ^ j) ^^^ (-1)) = nI (clrb s j) := by decide +kernel
theorem clrb_lt (s j : Nat) : clrb s j < 64 ∨ 6 ≤ j := by
  rcases Nat.lt_or_ge j 6 with h | h
  · left
    unfold clrb
    refine Nat.lt_of_le_of_lt Nat.and_le_right ?_
    exact (show ∀ j, j < 6 → 63 ^^^ 2 ^ j < 64 by decide) j h
  · exact Or.inr h
theorem setb_lt {s j : Nat} (hs : s < 64) (hj : j < 6) : setb s j < 64 := by
  unfold setb
  exact Nat.or_lt_two_pow (n := 6) hs ((show ∀ j, j < 6 → 2 ^ j < 64 by decide) j hj)
theorem holds_i : ∀ s, s < 64 → ∀ j, j < 6 → ((nI s >>> (nI j &&& 31)) &&& nI 1 = 0 ↔ s.testBit j = false) := by decide +kernel
theorem i32e {a b : Nat} (h : a = b) : nI a = nI b := congrArg nI h
theorem nlt {a b : Nat} (ha : a < 2 ^ 31) (hb : b < 2 ^ 31) (h : ¬ nI b ≤ nI a) : a < b := by
  rw [nI_leI hb ha] at h; omega
theorem nle {a b : Nat} (ha : a < 2 ^ 31) (hb : b < 2 ^ 31) (h : nI b ≤ nI a) : b ≤ a := (nI_leI hb ha).mp h
theorem neq {a b : Nat} (ha : a < 2 ^ 31) (hb : b < 2 ^ 31) (h : nI a = nI b) : a = b := (nI_eq ha hb).mp h
theorem nne {a b : Nat} (ha : a < 2 ^ 31) (hb : b < 2 ^ 31) (h : ¬ nI a = nI b) : a ≠ b := fun z => h (congrArg nI z)
theorem b01 {c : Prop} [Decidable c] : nI (if c then 1 else 0) = 0 ↔ ¬ c := by
  by_cases h : c
  · rw [if_pos h]; exact ⟨fun z => absurd z (by decide), fun z => absurd h z⟩
  · rw [if_neg h]; exact ⟨fun _ => h, fun _ => rfl⟩
theorem b01z {c : Prop} [Decidable c] : narrow .boolean (.int (nI (if c then 1 else 0))) = .int (nI (if c then 1 else 0)) := by split <;> rfl
theorem ilt_irrefl (x : Int32) : ¬ x < x := by rw [Int32.lt_iff_toInt_lt]; omega
theorem ifc {c d : Prop} [Decidable c] [Decidable d] (h : c ↔ d) : some (Value.int (nI (if c then 1 else 0))) = some (.int (nI (if d then 1 else 0))) := by
  by_cases z : c
  · rw [if_pos z, if_pos (h.mp z)]
  · rw [if_neg z, if_neg (fun q => z (h.mpr q))]
