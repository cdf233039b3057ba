/-! what one object of the law changes is not the other's -/
/-- the reference reads its nine cells only -/
theorem rSt_f {h h' : zH} {r : Nat} {g : zGd} {us : List zGd} {sn : Option zGd} {off rs dt cs : Int32} {t o : List Nat} (q : rSt h r g us sn off rs dt cs t o) (e : ∀ c, r ≤ c → c < r + 9 → zEq h h' c) : rSt h' r g us sn off rs dt cs t o := by
  obtain ⟨q1, q2, q3, q4, q5, q6, q7⟩ := q
  have a : ∀ i, i < 9 → aI h' (r + i) = aI h (r + i) := fun i hi => (e (r + i) (by omega) (by omega)).2.2.2.2.1
  have k : ∀ i, i < 9 → hK h' (r + i) = hK h (r + i) := fun i hi => (e (r + i) (by omega) (by omega)).1
  have z : ∀ i, i < 9 → hL h' (r + i) = hL h (r + i) := fun i hi => (e (r + i) (by omega) (by omega)).2.1
  have k0 : hK h' r = hK h r := k 0 (by decide)
  have f : ∀ n, hI h' n r = hI h n r := (e r (Nat.le_refl _) (by omega)).2.2.2.1
  have R : ∀ n, hR h' n r = hR h n r := (e r (Nat.le_refl _) (by omega)).2.2.1
  refine ⟨?_, by rw [a 1 (by decide)]; exact q2, ⟨(f _).trans q3.1, q3.2.1, fun k u hk => by rw [a 4 (by decide)]; exact q3.2.2 k u hk⟩, ⟨(f _).trans q4.1, fun s hs => by rw [a 5 (by decide)]; exact q4.2 s hs⟩, ⟨(f _).trans q5.1, (f _).trans q5.2.1, (f _).trans q5.2.2.1, (f _).trans q5.2.2.2⟩, ⟨(f _).trans q6.1, q6.2.1, fun i c hc => by rw [a 7 (by decide)]; exact q6.2.2 i c hc⟩, ⟨(f _).trans q7.1, q7.2.1, fun i c hc => by rw [a 6 (by decide)]; exact q7.2.2 i c hc⟩⟩
  unfold zMs at q1 ⊢
  simpa only [k0, R, k 1 (by decide), k 2 (by decide), k 3 (by decide), k 4 (by decide), k 5 (by decide), k 6 (by decide), k 7 (by decide), k 8 (by decide), z 1 (by decide), z 2 (by decide), z 3 (by decide), z 4 (by decide), z 5 (by decide), z 6 (by decide), z 7 (by decide), z 8 (by decide)] using q1
/-- what the class changes leaves the cells behind it, up to lo -/
theorem zXf_c {h h' : zH} {a lo : Nat} (f : zXf h h' a lo) {c : Nat} (h1 : a + 271 ≤ c) (h2 : c < lo) : zEq h h' c := f.2 c (Or.inr h1) h2
