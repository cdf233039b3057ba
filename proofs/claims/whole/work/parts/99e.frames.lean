/-! what one object of the law changes is not the other's -/
/-- the reference reads its nine cells only -/
theorem rSt_f {h h' : zH} {r : Nat} {g : zGd} {us : List zGd} {sn : Option zGd} {off rs dt cs : Int32} {t o : List Nat} (q : rSt h r g us sn off rs dt cs t o) (e : ∀ c, r ≤ c → c < r + 9 → zEq h h' c) : rSt h' r g us sn off rs dt cs t o := by
  obtain ⟨q1, q2, q3, q4, q5, q6, q7⟩ := q
  have a : ∀ i, i < 9 → aI h' (r + i) = aI h (r + i) := fun i hi => (e (r + i) (by omega) (by omega)).2.2.2.2.1
  have k : ∀ i, i < 9 → hK h' (r + i) = hK h (r + i) := fun i hi => (e (r + i) (by omega) (by omega)).1
  have z : ∀ i, i < 9 → hL h' (r + i) = hL h (r + i) := fun i hi => (e (r + i) (by omega) (by omega)).2.1
  have k0 : hK h' r = hK h r := k 0 (by decide)
  have f : ∀ n, hI h' n r = hI h n r := (e r (Nat.le_refl _) (by omega)).2.2.2.1
  have R : ∀ n, hR h' n r = hR h n r := (e r (Nat.le_refl _) (by omega)).2.2.1
  refine ⟨?_, by rw [a 1 (by decide)]; exact q2, ⟨(f _).trans q3.1, q3.2.1, fun k u hk => by rw [a 4 (by decide)]; exact q3.2.2 k u hk⟩, ⟨(f _).trans q4.1, fun s hs => by rw [a 5 (by decide)]; exact q4.2 s hs⟩, ⟨(f _).trans q5.1, (f _).trans q5.2.1, (f _).trans q5.2.2.1, (f _).trans q5.2.2.2⟩, ⟨(f _).trans q6.1, q6.2.1, fun i c hc => by rw [a 7 (by decide)]; exact q6.2.2 i c hc⟩, ⟨(f _).trans q7.1, q7.2.1, fun i c hc => by rw [a 6 (by decide)]; exact q7.2.2 i c hc⟩⟩
  unfold zMs at q1 ⊢
  simpa only [k0, R, k 1 (by decide), k 2 (by decide), k 3 (by decide), k 4 (by decide), k 5 (by decide), k 6 (by decide), k 7 (by decide), k 8 (by decide), z 1 (by decide), z 2 (by decide), z 3 (by decide), z 4 (by decide), z 5 (by decide), z 6 (by decide), z 7 (by decide), z 8 (by decide)] using q1
/-- what the class changes leaves the cells behind it, up to lo -/
theorem zXf_c {h h' : zH} {a lo : Nat} (f : zXf h h' a lo) {c : Nat} (h1 : a + 271 ≤ c) (h2 : c < lo) : zEq h h' c := f.2 c (Or.inr h1) h2
/-- the class's object stays where its own cells and those from lo on stay -/
theorem zXa_x {h h' : zH} {a lo : Nat} {g : zGd} {us : List zGd} {sn : Option zGd} {off rs dt cs : Int32} {t o : List Nat} (q : zXa h a lo g us sn off rs dt cs t o) (hn9 : hN h ≤ hN h') (e1 : ∀ c, a ≤ c → c < a + 271 → zEq h h' c) (e2 : ∀ c, lo ≤ c → c < hN h → zEq h h' c) : zXa h' a lo g us sn off rs dt cs t o := by
  obtain ⟨hx, ⟨hg, hf, hb⟩, hs, hH, hI, hJ, hin, hou, hn, hlo, hl9⟩ := id q
  obtain ⟨v0, u0⟩ := zOu_v hou
  have ev : zEq h h' v0 := by
    rcases u0.2.2.2.2.1 with z | z
    · exact e1 v0 (by omega) (by omega)
    · exact e2 v0 z u0.2.2.2.2.2.1
  have e : ∀ c, a ≤ c → c < a + 269 → zEq h h' c := fun c h1 h2 => e1 c h1 (by omega)
  have ea := e a (by omega) (by omega)
  exact ⟨zXs_e hx ea, ⟨zGa_e hg hl9 (fun c h1 h2 => e c (by omega) (by omega)), zGt_e hf (fun c h1 h2 => e c (by omega) (by omega)), zGt_e hb (fun c h1 h2 => e c (by omega) (by omega))⟩, ⟨zGt_e hs.1 (fun c h1 h2 => e c (by omega) (by omega)), fun s hs9 => ⟨zGa_e (hs.2 s hs9).1 (hs.2 s hs9).2 (fun c h1 h2 => e c (by omega) (by omega)), (hs.2 s hs9).2⟩⟩, zHi_e hH (fun c h1 h2 => e c (by omega) (by omega)), zIs_e hI (fun c h1 h2 => e c (by omega) (by omega)), (e (a + 263) (by omega) (by omega)).1.trans hJ, zIn_e hin (fun c h1 h2 => e c (by omega) (by omega)), zOv_u (zOv_e u0 hn9 (e1 _ (by omega) (by omega)) ev), ⟨(ea.2.2.2.1 _).trans hn.1, (ea.2.2.2.1 _).trans hn.2.1, (ea.2.2.2.1 _).trans hn.2.2.1, (ea.2.2.2.1 _).trans hn.2.2.2.1, (ea.2.2.2.1 _).trans hn.2.2.2.2⟩, hlo, hl9⟩
