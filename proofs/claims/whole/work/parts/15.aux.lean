/-! after a call that answers one value and leaves the heap at h2 -/
theorem zaf {X : zX} {kc ks : Nat} {h2 : zH} {pc : Nat} {lo : List (Nat × Value)} {rest : List Value} {v : Value} {n : Nat} (k : zV X kc ks h2 pc lo (v :: rest)) : ∀ (r : Option Value) (h' : zH), (r = some v ∧ h' = h2) → n ≤ hN h' → zV X kc ks h' pc lo (r.toList ++ rest) := fun r h' q _ => by
  obtain ⟨rfl, rfl⟩ := q
  exact k
theorem zafv {X : zX} {kc ks : Nat} {h2 : zH} {pc : Nat} {lo : List (Nat × Value)} {rest : List Value} {n : Nat} (k : zV X kc ks h2 pc lo rest) : ∀ (r : Option Value) (h' : zH), (r = none ∧ h' = h2) → n ≤ hN h' → zV X kc ks h' pc lo (r.toList ++ rest) := fun r h' q _ => by
  obtain ⟨rfl, rfl⟩ := q
  exact k
theorem zno {X : zX} {kc ks : Nat} {h : zH} {pc : Nat} {lo : List (Nat × Value)} {rest : List Value} : ∀ (Ex : String) (h' : zH), False → hN h ≤ hN h' → zVX X kc ks h' pc lo rest Ex := fun _ _ q _ => q.elim
-- shapes
def zLs (h : zH) (a : Nat) : Prop := hK h a = 11 ∧ hR h 320 a = some (a + 1) ∧ hK h (a + 1) = 103 ∧ hL h (a + 1) = 6
def zPs (h : zH) (a : Nat) : Prop := hK h a = 12 ∧ hR h 352 a = some (a + 1) ∧ zLs h (a + 1)
def zGs (h : zH) (b : Nat) : Prop := hK h b = 7 ∧ hR h 192 b = some (b + 1) ∧ hR h 193 b = some (b + 4) ∧ hR h 194 b = some (b + 6) ∧ hR h 195 b = some (b + 8) ∧ zPs h (b + 1) ∧ zLs h (b + 4) ∧ zLs h (b + 6) ∧ (hK h (b + 8) = 106 ∧ hL h (b + 8) = 12) ∧ ∀ i, i < 12 → hK h (b + 9 + i) = 5
theorem i32_lt0 {x : Int32} : x < 0 ↔ x.toInt < 0 := by rw [Int32.lt_iff_toInt_lt]; rfl
theorem ge6 {x : Int32} (h1 : ¬ x < 0) (h2 : ¬ 6 ≤ x) : ∃ j : Nat, j < 6 ∧ x = nI j := by
  obtain ⟨j, hj, rfl⟩ := nI_of h1
  refine ⟨j, ?_, rfl⟩
  have h3 : ¬ nI 6 ≤ nI j := h2
  rw [nI_leI (by decide) hj] at h3
  omega
