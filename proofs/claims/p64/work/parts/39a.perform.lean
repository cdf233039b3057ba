/-! perform -/
theorem nI_cl {n : Nat} (h : n < 2 ^ 31) : (nI n).toNatClampNeg = n := nI_clamp h
theorem j0Pv {g : zGd} {x y : Int32} (h : (jPv g x y).1 = 0) : ∃ i j, ln x = some i ∧ ln y = some j ∧ i < 6 ∧ j < 6 ∧ x = nI i ∧ y = nI j ∧ i ≠ j ∧ ¬ (gN g i).testBit j = true := by
  unfold jPv at h
  rcases hx : ln x with _ | i
  · rw [hx] at h; exact (Nat.succ_ne_zero _ h).elim
  · rcases hy : ln y with _ | j
    · rw [hx, hy] at h; exact (Nat.succ_ne_zero _ h).elim
    · rw [hx, hy] at h
      dsimp only at h
      split at h
      · exact (Nat.succ_ne_zero _ h).elim
      · split at h
        · exact (Nat.succ_ne_zero _ h).elim
        · exact ⟨i, j, rfl, rfl, (ln_some hx).1, (ln_some hy).1, (ln_some hx).2, (ln_some hy).2, by assumption, by assumption⟩
theorem j0Dg {g : zGd} {x y : Int32} (h : (jDg g x y).1 = 0) : ∃ i j, ln x = some i ∧ ln y = some j ∧ i < 6 ∧ j < 6 ∧ x = nI i ∧ y = nI j ∧ i ≠ j ∧ (gN g i).testBit j = true := by
  unfold jDg at h
  rcases hx : ln x with _ | i
  · rw [hx] at h; exact (Nat.succ_ne_zero _ h).elim
  · rcases hy : ln y with _ | j
    · rw [hx, hy] at h; exact (Nat.succ_ne_zero _ h).elim
    · rw [hx, hy] at h
      dsimp only at h
      split at h
      · exact (Nat.succ_ne_zero _ h).elim
      · split at h
        · exact ⟨i, j, rfl, rfl, (ln_some hx).1, (ln_some hy).1, (ln_some hx).2, (ln_some hy).2, by assumption, by assumption⟩
        · exact (Nat.succ_ne_zero _ h).elim
theorem j0Sh {x y : Int32} (h : (jSh x y).1 = 0) : ∃ i s, ln x = some i ∧ i < 6 ∧ x = nI i ∧ y = nI s ∧ s ≤ 20 := by
  unfold jSh at h
  rcases hx : ln x with _ | i
  · rw [hx] at h; exact (Nat.succ_ne_zero _ h).elim
  · rw [hx] at h
    dsimp only at h
    split at h
    · exact (Nat.succ_ne_zero _ h).elim
    · split at h
      · obtain ⟨s, h1, h2⟩ := nI_of2 (n := 20) (by decide) (show ¬ y < 0 by assumption) (show y ≤ nI 20 by assumption)
        exact ⟨i, s, rfl, (ln_some hx).1, (ln_some hx).2, h2, h1⟩
      · exact (Nat.succ_ne_zero _ h).elim
theorem j0Cm {g : zGd} {x y : Int32} (h : (jCm g x y).1 = 0) : ∃ i s, ln x = some i ∧ i < 6 ∧ x = nI i ∧ y = nI s ∧ s ≤ 9 ∧ (gC g).length < 12 ∧ hsz (gC g) i < 5 := by
  unfold jCm at h
  rcases hx : ln x with _ | i
  · rw [hx] at h; exact (Nat.succ_ne_zero _ h).elim
  · rw [hx] at h
    dsimp only at h
    split at h
    · exact (Nat.succ_ne_zero _ h).elim
    · split at h
      · obtain ⟨s, h1, h2⟩ := nI_of2 (n := 9) (by decide) (show ¬ y < 0 by assumption) (show y ≤ nI 9 by assumption)
        split at h
        · exact (Nat.succ_ne_zero _ h).elim
        · split at h
          · exact (Nat.succ_ne_zero _ h).elim
          · exact ⟨i, s, rfl, (ln_some hx).1, (ln_some hx).2, h2, h1, by omega, by omega⟩
      · exact (Nat.succ_ne_zero _ h).elim
theorem j0Sc {g : zGd} {x : Int32} (h : (jSc g x).1 = 0) : ∃ k c, kc g x = some (k, c) := by
  unfold jSc at h
  rcases hx : kc g x with _ | ⟨k, c⟩
  · rw [hx] at h; exact (Nat.succ_ne_zero _ h).elim
  · exact ⟨k, c, rfl⟩
theorem j0Fo {g : zGd} {x : Int32} (h : (jFo g x).1 = 0) : ∃ k c, kc g x = some (k, c) ∧ ¬ chF c = true := by
  unfold jFo at h
  rcases hx : kc g x with _ | ⟨k, c⟩
  · rw [hx] at h; exact (Nat.succ_ne_zero _ h).elim
  · rw [hx] at h
    dsimp only at h
    split at h
    · exact (Nat.succ_ne_zero _ h).elim
    · exact ⟨k, c, rfl, by assumption⟩
theorem j0Un {g : zGd} {x : Int32} (h : (jUn g x).1 = 0) : ∃ k c, kc g x = some (k, c) ∧ chF c = true := by
  unfold jUn at h
  rcases hx : kc g x with _ | ⟨k, c⟩
  · rw [hx] at h; exact (Nat.succ_ne_zero _ h).elim
  · rw [hx] at h
    dsimp only at h
    split at h
    · exact ⟨k, c, rfl, by assumption⟩
    · exact (Nat.succ_ne_zero _ h).elim
theorem j0Oi {g : zGd} {x : Int32} (h : (jOi g x).1 = 0) : ∃ k c, kc g x = some (k, c) ∧ 0 < chR c ∧ 0 < gO g := by
  unfold jOi at h
  rcases hx : kc g x with _ | ⟨k, c⟩
  · rw [hx] at h; exact (Nat.succ_ne_zero _ h).elim
  · rw [hx] at h
    dsimp only at h
    split at h
    · exact (Nat.succ_ne_zero _ h).elim
    · split at h
      · exact (Nat.succ_ne_zero _ h).elim
      · exact ⟨k, c, rfl, by omega, by omega⟩
theorem j0Mv {g : zGd} {x y : Int32} (h : (jMv g x y).1 = 0) : ∃ k c j, kc g x = some (k, c) ∧ ln y = some j ∧ j < 6 ∧ y = nI j ∧ ¬ chF c = true ∧ (gN g (chL c)).testBit j = true ∧ hsz (gC g) j < 5 := by
  unfold jMv at h
  rcases hx : kc g x with _ | ⟨k, c⟩
  · rw [hx] at h; exact (Nat.succ_ne_zero _ h).elim
  · rcases hy : ln y with _ | j
    · rw [hx, hy] at h; exact (Nat.succ_ne_zero _ h).elim
    · rw [hx, hy] at h
      dsimp only at h
      split at h
      · exact (Nat.succ_ne_zero _ h).elim
      · split at h
        · split at h
          · exact (Nat.succ_ne_zero _ h).elim
          · exact ⟨k, c, j, rfl, rfl, (ln_some hy).1, (ln_some hy).2, by assumption, by assumption, by omega⟩
        · exact (Nat.succ_ne_zero _ h).elim
theorem j0Mg {g : zGd} {x y : Int32} (h : (jMg g x y).1 = 0) : ∃ i j, ln x = some i ∧ ln y = some j ∧ i < 6 ∧ j < 6 ∧ x = nI i ∧ y = nI j ∧ (gN g i).testBit j = true ∧ 0 < (gC g).countP (chGr i) ∧ hsz (gC g) j < 5 := by
  unfold jMg at h
  rcases hx : ln x with _ | i
  · rw [hx] at h; exact (Nat.succ_ne_zero _ h).elim
  · rcases hy : ln y with _ | j
    · rw [hx, hy] at h; exact (Nat.succ_ne_zero _ h).elim
    · rw [hx, hy] at h
      dsimp only at h
      split at h
      · split at h
        · exact (Nat.succ_ne_zero _ h).elim
        · split at h
          · exact (Nat.succ_ne_zero _ h).elim
          · exact ⟨i, j, rfl, rfl, (ln_some hx).1, (ln_some hy).1, (ln_some hx).2, (ln_some hy).2, by assumption, by omega, by omega⟩
      · exact (Nat.succ_ne_zero _ h).elim
theorem j0Ao {g : zGd} {x : Int32} (ho : gO g ≤ 20) (h : (jAo g x).1 = 0) : ∃ n, x = nI n ∧ 1 ≤ n ∧ n ≤ 10 ∧ gO g + n ≤ 20 := by
  unfold jAo at h
  split at h
  · exact (Nat.succ_ne_zero _ h).elim
  · split at h
    · rename_i q1 q2
      obtain ⟨n, h1, h2⟩ := nI_of2 (n := 10) (x := x) (by decide) (fun z => q1 (Int32.lt_trans z (by decide))) q2
      subst h2
      have h3 : 1 ≤ n := by
        rcases Nat.lt_or_ge n 1 with z | z
        · exact absurd (nI_lt z (by decide)) q1
        · exact z
      split at h
      · rename_i q3
        rw [nI_add] at q3
        exact ⟨n, rfl, h3, h1, nle (by decide) (by omega) q3⟩
      · exact (Nat.succ_ne_zero _ h).elim
    · exact (Nat.succ_ne_zero _ h).elim
theorem dyB_t {x : Int32} (h : dyB x = true) : ∃ n, x = nI n ∧ 1 ≤ n ∧ n ≤ 20 := by
  unfold dyB at h
  obtain ⟨h1, h2⟩ := Bool.and_eq_true_iff.mp h
  have q1 : ¬ x < nI 1 := fun z => by rw [decide_eq_true z] at h1; cases h1
  obtain ⟨n, h3, h4⟩ := nI_of2 (n := 20) (x := x) (by decide) (fun z => q1 (Int32.lt_trans z (by decide))) (of_decide_eq_true h2)
  subst h4
  refine ⟨n, rfl, ?_, h3⟩
  rcases Nat.lt_or_ge n 1 with z | z
  · exact absurd (nI_lt z (by decide)) q1
  · exact z
theorem j0Dy {x : Int32} (h : (jDy x).1 = 0) : ∃ n, x = nI n ∧ 1 ≤ n ∧ n ≤ 20 := by
  unfold jDy at h
  split at h
  · exact dyB_t (by assumption)
  · exact (Nat.succ_ne_zero _ h).elim
-- the changes
def pvN (g : zGd) (i j : Nat) : zGd := gwN g (upN (upN (gN g) i (setb (gN g i) j)) j (setb (gN g j) i)) (gP g + 1)
def dgN (g : zGd) (i j : Nat) : zGd := gwN g (upN (upN (gN g) i (clrb (gN g i) j)) j (clrb (gN g j) i)) (gP g - 1)
def aLL (g : zGd) (x y : Int32) (f : Nat → Nat → zGd × Int32) : zGd × Int32 := match ln x with
  | none => (g, -1)
  | some i => match ln y with
    | none => (g, -1)
    | some j => f i j
def aL (g : zGd) (x : Int32) (f : Nat → zGd × Int32) : zGd × Int32 := match ln x with
  | none => (g, -1)
  | some i => f i
def aK (g : zGd) (x : Int32) (f : Nat → zCh → zGd × Int32) : zGd × Int32 := match kc g x with
  | none => (g, -1)
  | some (k, c) => f k c
theorem aLL_e {g : zGd} {x y : Int32} {f : Nat → Nat → zGd × Int32} {i j : Nat} (hx : ln x = some i) (hy : ln y = some j) : aLL g x y f = f i j := by unfold aLL; rw [hx, hy]
theorem aL_e {g : zGd} {x : Int32} {f : Nat → zGd × Int32} {i : Nat} (hx : ln x = some i) : aL g x f = f i := by unfold aL; rw [hx]
theorem aK_e {g : zGd} {x : Int32} {f : Nat → zCh → zGd × Int32} {k : Nat} {c : zCh} (hx : kc g x = some (k, c)) : aK g x f = f k c := by unfold aK; rw [hx]
def mgN (g : zGd) (i j : Nat) : Nat := min ((gC g).countP (chGr i)) (5 - hsz (gC g) j)
def ap (g : zGd) (d : Nat) (x y : Int32) : zGd × Int32 :=
  if d = 112 then aLL g x y (fun i j => (pvN g i j, nI (gP g + 1)))
  else if d = 113 then aLL g x y (fun i j => (dgN g i j, nI (gP g - 1)))
  else if d = 104 then aL g x (fun i => (opSh g i y.toNatClampNeg, nI (gS g i)))
  else if d = 99 then aL g x (fun i => (opSt g i y.toNatClampNeg, nI (gX g)))
  else if d = 115 then aK g x (fun k c => (opSc g k, nI (chR c)))
  else if d = 102 then aK g x (fun k c => (opFo g k c true, nI ((gC (opFo g k c true)).countP chF)))
  else if d = 117 then aK g x (fun k c => (opFo g k c false, nI ((gC (opFo g k c false)).countP chF)))
  else if d = 111 then aK g x (fun k c => (opOi g k c, nI (chR c - 3)))
  else if d = 109 then aK g x (fun k c => aL g y (fun j => (opMv g k c j, nI (chL c))))
  else if d = 103 then aLL g x y (fun i j => (opHd i j (mgN g i j) g, nI (mgN g i j)))
  else if d = 97 then (gwO g (gO g + x.toNatClampNeg), nI (gO g + x.toNatClampNeg))
  else (days g x.toNatClampNeg, nI (gF (days g x.toNatClampNeg) - gF g))
/-- the paths are the same in both directions, none leads from a lawn to itself, and they are counted -/
def gPt (g : zGd) : Prop := (∀ i, i < 6 → gN g i < 64) ∧ (∀ i j, i < 6 → j < 6 → (gN g i).testBit j = (gN g j).testBit i) ∧ (∀ i, i < 6 → (gN g i).testBit i = false) ∧ 2 * gP g = popc (gN g 0) + popc (gN g 1) + popc (gN g 2) + popc (gN g 3) + popc (gN g 4) + popc (gN g 5)
theorem gPt_same {g g' : zGd} (p : gPt g) (h1 : gN g' = gN g) (h2 : gP g' = gP g) : gPt g' := by unfold gPt; rw [h1, h2]; exact p
theorem popc_5 : ∀ s, s < 64 → ∀ i, i < 6 → s.testBit i = false → popc s ≤ 5 := by decide +kernel
theorem popc_1 : ∀ s, s < 64 → ∀ i, i < 6 → s.testBit i = true → 1 ≤ popc s := by decide +kernel
theorem popc_set : ∀ s, s < 64 → ∀ i, i < 6 → s.testBit i = false → popc (setb s i) = popc s + 1 := by decide +kernel
theorem popc_clr : ∀ s, s < 64 → ∀ i, i < 6 → s.testBit i = true → popc (clrb s i) + 1 = popc s := by decide +kernel
theorem bit_set : ∀ s, s < 64 → ∀ i, i < 6 → ∀ k, k < 6 → (setb s i).testBit k = (s.testBit k || decide (k = i)) := by decide +kernel
theorem bit_clr : ∀ s, s < 64 → ∀ i, i < 6 → ∀ k, k < 6 → (clrb s i).testBit k = (s.testBit k && !decide (k = i)) := by decide +kernel
theorem gPt_15 {g : zGd} (p : gPt g) : gP g ≤ 15 := by
  obtain ⟨p1, p2, p3, p4⟩ := p
  have h0 := popc_5 _ (p1 0 (by omega)) 0 (by omega) (p3 0 (by omega))
  have h1 := popc_5 _ (p1 1 (by omega)) 1 (by omega) (p3 1 (by omega))
  have h2 := popc_5 _ (p1 2 (by omega)) 2 (by omega) (p3 2 (by omega))
  have h3 := popc_5 _ (p1 3 (by omega)) 3 (by omega) (p3 3 (by omega))
  have h4 := popc_5 _ (p1 4 (by omega)) 4 (by omega) (p3 4 (by omega))
  have h5 := popc_5 _ (p1 5 (by omega)) 5 (by omega) (p3 5 (by omega))
  omega
theorem lt6 {i : Nat} (h : i < 6) : i = 0 ∨ i = 1 ∨ i = 2 ∨ i = 3 ∨ i = 4 ∨ i = 5 := by omega
theorem sum6_up {f : Nat → Nat} {i j u v a c : Nat} (hi : i < 6) (hj : j < 6) (hij : i ≠ j) (h1 : popc u + a = popc (f i) + c) (h2 : popc v + a = popc (f j) + c) :
    popc (upN (upN f i u) j v 0) + popc (upN (upN f i u) j v 1) + popc (upN (upN f i u) j v 2) + popc (upN (upN f i u) j v 3) + popc (upN (upN f i u) j v 4) + popc (upN (upN f i u) j v 5) + 2 * a = popc (f 0) + popc (f 1) + popc (f 2) + popc (f 3) + popc (f 4) + popc (f 5) + 2 * c := by
  rcases lt6 hi with rfl | rfl | rfl | rfl | rfl | rfl <;> rcases lt6 hj with rfl | rfl | rfl | rfl | rfl | rfl <;> first | exact absurd rfl hij | (simp [upN]; omega)
theorem upN2 {f : Nat → Nat} {i j u v k : Nat} (hij : i ≠ j) : upN (upN f i u) j v k = if k = j then v else if k = i then u else f k := rfl
theorem gPt_pv {g : zGd} {i j : Nat} (p : gPt g) (hi : i < 6) (hj : j < 6) (hij : i ≠ j) (hb : ¬ (gN g i).testBit j = true) : gPt (pvN g i j) := by
  obtain ⟨p1, p2, p3, p4⟩ := p
  have hb : (gN g i).testBit j = false := Bool.eq_false_iff.mpr hb
  have hb2 : (gN g j).testBit i = false := by rw [← p2 i j hi hj]; exact hb
  refine ⟨fun k hk => ?_, fun k m hk hm => ?_, fun k hk => ?_, ?_⟩
  · show upN (upN (gN g) i _) j _ k < 64
    rw [upN2 hij]
    split
    · exact setb_lt (p1 j hj) hi
    · split
      · exact setb_lt (p1 i hi) hj
      · exact p1 k hk
  · show (upN (upN (gN g) i _) j _ k).testBit m = (upN (upN (gN g) i _) j _ m).testBit k
    rw [upN2 hij, upN2 hij]
    have e1 := fun m hm => bit_set (gN g j) (p1 j hj) i hi m hm
    have e2 := fun m hm => bit_set (gN g i) (p1 i hi) j hj m hm
    by_cases a1 : k = j <;> by_cases a2 : k = i <;> by_cases a3 : m = j <;> by_cases a4 : m = i <;> simp only [a1, a2, a3, a4, if_true, if_false, e1, e2, hk, hm, hi, hj] <;> first | (exact absurd (a2.symm.trans a1) hij) | (exact absurd (a4.symm.trans a3) hij) | skip
    all_goals first | rfl | (subst_vars; simp_all) | skip
  · show (upN (upN (gN g) i _) j _ k).testBit k = false
    rw [upN2 hij]
    split
    · subst_vars
      rw [bit_set _ (p1 _ hj) i hi _ hj, p3 _ hj, decide_eq_false (fun z => hij z.symm)]; rfl
    · split
      · subst_vars
        rw [bit_set _ (p1 _ hi) j hj _ hi, p3 _ hi, decide_eq_false hij]; rfl
      · exact p3 k hk
  · show 2 * (gP g + 1) = popc (upN (upN (gN g) i (setb (gN g i) j)) j (setb (gN g j) i) 0) + popc (upN (upN (gN g) i (setb (gN g i) j)) j (setb (gN g j) i) 1) + popc (upN (upN (gN g) i (setb (gN g i) j)) j (setb (gN g j) i) 2) + popc (upN (upN (gN g) i (setb (gN g i) j)) j (setb (gN g j) i) 3) + popc (upN (upN (gN g) i (setb (gN g i) j)) j (setb (gN g j) i) 4) + popc (upN (upN (gN g) i (setb (gN g i) j)) j (setb (gN g j) i) 5)
    have := sum6_up (f := gN g) (i := i) (j := j) (u := setb (gN g i) j) (v := setb (gN g j) i) (a := 0) (c := 1) hi hj hij (popc_set _ (p1 i hi) j hj hb) (popc_set _ (p1 j hj) i hi hb2)
    omega
theorem gPt_dg {g : zGd} {i j : Nat} (p : gPt g) (hi : i < 6) (hj : j < 6) (hij : i ≠ j) (hb : (gN g i).testBit j = true) : gPt (dgN g i j) ∧ 0 < gP g := by
  obtain ⟨p1, p2, p3, p4⟩ := p
  have hb2 : (gN g j).testBit i = true := by rw [← p2 i j hi hj]; exact hb
  have hs := sum6_up (f := gN g) (i := i) (j := j) (u := clrb (gN g i) j) (v := clrb (gN g j) i) (a := 1) (c := 0) hi hj hij (popc_clr _ (p1 i hi) j hj hb) (popc_clr _ (p1 j hj) i hi hb2)
  have h0 : 0 < gP g := by omega
  refine ⟨⟨fun k hk => ?_, fun k m hk hm => ?_, fun k hk => ?_, ?_⟩, h0⟩
  · show upN (upN (gN g) i _) j _ k < 64
    rw [upN2 hij]
    split
    · exact (clrb_lt _ _).resolve_right (by omega)
    · split
      · exact (clrb_lt _ _).resolve_right (by omega)
      · exact p1 k hk
  · show (upN (upN (gN g) i _) j _ k).testBit m = (upN (upN (gN g) i _) j _ m).testBit k
    rw [upN2 hij, upN2 hij]
    have e1 := fun m hm => bit_clr (gN g j) (p1 j hj) i hi m hm
    have e2 := fun m hm => bit_clr (gN g i) (p1 i hi) j hj m hm
    by_cases a1 : k = j <;> by_cases a2 : k = i <;> by_cases a3 : m = j <;> by_cases a4 : m = i <;> simp only [a1, a2, a3, a4, if_true, if_false, e1, e2, hk, hm, hi, hj] <;> first | (exact absurd (a2.symm.trans a1) hij) | (exact absurd (a4.symm.trans a3) hij) | skip
    all_goals first | rfl | (subst_vars; simp_all) | skip
  · show (upN (upN (gN g) i _) j _ k).testBit k = false
    rw [upN2 hij]
    split
    · subst_vars
      rw [bit_clr _ (p1 _ hj) i hi _ hj, p3 _ hj]; rfl
    · split
      · subst_vars
        rw [bit_clr _ (p1 _ hi) j hj _ hi, p3 _ hi]; rfl
      · exact p3 k hk
  · show 2 * (gP g - 1) = popc (upN (upN (gN g) i (clrb (gN g i) j)) j (clrb (gN g j) i) 0) + popc (upN (upN (gN g) i (clrb (gN g i) j)) j (clrb (gN g j) i) 1) + popc (upN (upN (gN g) i (clrb (gN g i) j)) j (clrb (gN g j) i) 2) + popc (upN (upN (gN g) i (clrb (gN g i) j)) j (clrb (gN g j) i) 3) + popc (upN (upN (gN g) i (clrb (gN g i) j)) j (clrb (gN g j) i) 4) + popc (upN (upN (gN g) i (clrb (gN g i) j)) j (clrb (gN g j) i) 5)
    omega
/-- what holds between the calls; m bounds the counters -/
def gR (m : Nat) (g : zGd) : Prop := gQ m g ∧ gPt g
theorem gR_mono {m n : Nat} {g : zGd} (q : gR m g) (h : m ≤ n) : gR n g := ⟨gQ_mono q.1 h, q.2⟩
theorem gQ_list {m m' : Nat} {g : zGd} {cs : List zCh} (q : gQ m g) (w : gW0 (gwC g cs)) (h9 : ∀ c ∈ cs, chR c ≤ 9) (h5 : ∀ j, j < 6 → hsz cs j ≤ 5) (hm : m ≤ m') : gQ m' (gwC g cs) := ⟨w, h9, h5, gV_mono (g := g) q.2.2.2 hm⟩
theorem hsz_mv {cs : List zCh} {k l : Nat} {c : zCh} (h : cs[k]? = some c) (i : Nat) : hsz (cs.eraseIdx k ++ [wL c l]) i + (if chL c = i then 1 else 0) = hsz cs i + (if l = i then 1 else 0) := by
  rw [hsz_app, hsz_one, ← hsz_erase h i, show chL (wL c l) = l from rfl]
  omega
theorem gQ_mv {m k l : Nat} {g : zGd} {c : zCh} (q : gQ m g) (h : (gC g)[k]? = some c) (hl : l < 6) (h5 : hsz (gC g) l < 5) : gQ (m + 1) (opMv g k c l) := by
  obtain ⟨w, h9, hz, v⟩ := q
  refine ⟨gW0_mv w h hl, fun d hd => ?_, fun i hi => ?_, ?_⟩
  · rcases List.mem_append.mp (show d ∈ (gC g).eraseIdx k ++ [wL c l] from hd) with hd | hd
    · exact h9 d ((List.eraseIdx_sublist _ _).subset hd)
    · rw [List.mem_singleton.mp hd]; exact h9 c (List.mem_of_getElem? h)
  · show hsz ((gC g).eraseIdx k ++ [wL c l]) i ≤ 5
    have e := hsz_mv (l := l) h i
    have z := hz i hi
    by_cases a : l = i
    · subst a; simp at e; split at e <;> omega
    · rw [if_neg a] at e; omega
  · obtain ⟨v1, v2, v3, v4, v5, v6⟩ := v
    exact ⟨Nat.le_succ_of_le v1, Nat.le_succ_of_le v2, Nat.le_succ_of_le v3, Nat.le_succ_of_le v4, Nat.succ_le_succ v5, Nat.le_succ_of_le v6⟩
theorem gQ_hd {i j : Nat} (hj : j < 6) : ∀ {n m : Nat} {g : zGd}, gQ m g → hsz (gC g) j + n ≤ 5 → gQ (m + n) (opHd i j n g) ∧ gN (opHd i j n g) = gN g ∧ gP (opHd i j n g) = gP g
  | 0, m, g, q, _ => ⟨q, rfl, rfl⟩
  | n + 1, m, g, q, h5 => by
    rw [opHd]
    rcases hfg : fgF i (gC g) 0 with _ | k
    · exact ⟨gQ_mono q (by omega), rfl, rfl⟩
    · obtain ⟨c, hc, hgr, hkl⟩ := fg_some hfg
      simp only [opMk_of hc]
      have q1 := gQ_mv q hc hj (by omega)
      have e := hsz_mv (l := j) hc j
      rw [if_pos rfl] at e
      obtain ⟨h1, h2, h3⟩ := gQ_hd hj (n := n) q1 (by show hsz ((gC g).eraseIdx k ++ [wL c j]) j + n ≤ 5; omega)
      exact ⟨by rw [show m + (n + 1) = m + 1 + n by omega]; exact h1, h2, h3⟩
theorem sub_mem {cs : List zCh} {k : Nat} {d : zCh} (h : d ∈ cs.eraseIdx k) : d ∈ cs := (List.eraseIdx_sublist _ _).subset h
theorem gR_set {m k : Nat} {g : zGd} {c c' : zCh} (q : gR m g) (h : (gC g)[k]? = some c) (e1 : chI c' = chI c) (e2 : chL c' = chL c) (e3 : chR c' ≤ 9) (e4 : chD c' = chD c) : gR m (gwC g ((gC g).set k c')) := by
  obtain ⟨⟨w, h9, hz, v⟩, p⟩ := q
  have hL := (w.1 c (List.mem_of_getElem? h)).2.1
  refine ⟨⟨gW0_set w h e1 (by rw [e2]; exact hL) (by omega) e4, fun d hd => ?_, fun i hi => ?_, v⟩, p⟩
  · rcases mem_set_or (show d ∈ (gC g).set k c' from hd) with rfl | hd
    · exact e3
    · exact h9 d hd
  · show hsz ((gC g).set k c') i ≤ 5
    rw [hsz_set h e2]; exact hz i hi
theorem ap_R {m d : Nat} {g : zGd} {x y : Int32} (hd : isD d) (q : gR m g) (h : (jd g d x y).1 = 0) : gR (m + 600) (ap g d x y).1 := by
  obtain ⟨⟨w, h9, hz, v⟩, p⟩ := id q
  obtain ⟨w1, w2, w3, w4, w5, w6⟩ := id w
  rcases hd with rfl | rfl | rfl | rfl | rfl | rfl | rfl | rfl | rfl | rfl | rfl | rfl
  · obtain ⟨i, j, hx, hy, hi, hj, -, -, hij, hb⟩ := j0Pv h
    rw [show ap g 112 x y = (pvN g i j, nI (gP g + 1)) from aLL_e hx hy]
    have p2 := gPt_pv p hi hj hij hb
    exact gR_mono (m := m) ⟨⟨⟨w1, w2, w3, w4, w5, gPt_15 p2⟩, h9, hz, v⟩, p2⟩ (by omega)
  · obtain ⟨i, j, hx, hy, hi, hj, -, -, hij, hb⟩ := j0Dg h
    rw [show ap g 113 x y = (dgN g i j, nI (gP g - 1)) from aLL_e hx hy]
    have p2 := (gPt_dg p hi hj hij hb).1
    exact gR_mono (m := m) ⟨⟨⟨w1, w2, w3, w4, w5, gPt_15 p2⟩, h9, hz, v⟩, p2⟩ (by omega)
  · obtain ⟨i, s, hx, hi, -, rfl, hs⟩ := j0Sh h
    rw [show ap g 104 x (nI s) = (opSh g i (nI s).toNatClampNeg, nI (gS g i)) from aL_e hx, nI_cl (by omega)]
    refine gR_mono (m := m) ⟨⟨⟨w1, w2, w3, fun k hk => ?_, w5, w6⟩, h9, hz, v⟩, p⟩ (by omega)
    show upN (gS g) i s k ≤ 20
    unfold upN
    split
    · exact hs
    · exact w4 k hk
  · obtain ⟨i, s, hx, hi, -, rfl, hs, hn, h5⟩ := j0Cm h
    rw [show ap g 99 x (nI s) = (opSt g i (nI s).toNatClampNeg, nI (gX g)) from aL_e hx, nI_cl (by omega)]
    obtain ⟨v1, v2, v3, v4, v5, v6⟩ := id v
    refine ⟨⟨gW0_st w hn hi hs, fun d hd => ?_, fun k hk => ?_, ⟨by show gX g + 1 ≤ _; omega, by show gD g ≤ _; omega, by show gF g ≤ _; omega, by show gU g ≤ _; omega, by show gM g ≤ _; omega, by show gZ g ≤ _; omega⟩⟩, p⟩
    · rcases List.mem_append.mp (show d ∈ gC g ++ [(gX g, i, s, gD g, false)] from hd) with hd | hd
      · exact h9 d hd
      · rw [List.mem_singleton.mp hd]; exact hs
    · show hsz (gC g ++ [(gX g, i, s, gD g, false)]) k ≤ 5
      rw [hsz_app, hsz_one]
      have := hz k hk
      split
      · have e : i = k := by assumption
        subst e; omega
      · omega
  · obtain ⟨k, c, hk⟩ := j0Sc h
    obtain ⟨hix, hc, hid, hkl⟩ := kc_some hk
    rw [show ap g 115 x y = (opSc g k, nI (chR c)) from aK_e hk]
    obtain ⟨v1, v2, v3, v4, v5, v6⟩ := id v
    have w9 := gW0_list (g := g) w (List.eraseIdx_sublist (gC g) k)
    refine ⟨⟨⟨w9.1, w9.2.1, w9.2.2.1, w9.2.2.2.1, w9.2.2.2.2.1, w9.2.2.2.2.2⟩, fun d hd => h9 d (sub_mem hd), fun i hi => ?_, ⟨by show gX g ≤ _; omega, by show gD g ≤ _; omega, by show gF g ≤ _; omega, by show gU g + 1 ≤ _; omega, by show gM g ≤ _; omega, by show gZ g ≤ _; omega⟩⟩, p⟩
    show hsz ((gC g).eraseIdx k) i ≤ 5
    have := hsz_erase hc i
    have := hz i hi
    omega
  · obtain ⟨k, c, hk, hf⟩ := j0Fo h
    obtain ⟨hix, hc, hid, hkl⟩ := kc_some hk
    rw [show ap g 102 x y = (opFo g k c true, _) from aK_e hk]
    exact gR_mono (gR_set q hc rfl rfl (h9 c (List.mem_of_getElem? hc)) rfl) (by omega)
  · obtain ⟨k, c, hk, hf⟩ := j0Un h
    obtain ⟨hix, hc, hid, hkl⟩ := kc_some hk
    rw [show ap g 117 x y = (opFo g k c false, _) from aK_e hk]
    exact gR_mono (gR_set q hc rfl rfl (h9 c (List.mem_of_getElem? hc)) rfl) (by omega)
  · obtain ⟨k, c, hk, hr, ho⟩ := j0Oi h
    obtain ⟨hix, hc, hid, hkl⟩ := kc_some hk
    rw [show ap g 111 x y = (opOi g k c, _) from aK_e hk]
    have c9 := h9 c (List.mem_of_getElem? hc)
    obtain ⟨⟨a1, a2, a3, a4⟩, a5⟩ := gR_set (c' := wR c (chR c - 3)) q hc rfl rfl (by show chR c - 3 ≤ 9; omega) rfl
    exact gR_mono (m := m) ⟨⟨⟨a1.1, a1.2.1, a1.2.2.1, a1.2.2.2.1, by show gO g - 1 ≤ 20; omega, a1.2.2.2.2.2⟩, a2, a3, a4⟩, a5⟩ (by omega)
  · obtain ⟨k, c, j, hk, hy, hj, -, hf, hb, h5⟩ := j0Mv h
    obtain ⟨hix, hc, hid, hkl⟩ := kc_some hk
    rw [show ap g 109 x y = (opMv g k c j, nI (chL c)) from (aK_e hk).trans (aL_e hy)]
    exact gR_mono (m := m + 1) ⟨gQ_mv ⟨w, h9, hz, v⟩ hc hj h5, p⟩ (by omega)
  · obtain ⟨i, j, hx, hy, hi, hj, -, -, hb, hc, h5⟩ := j0Mg h
    rw [show ap g 103 x y = (opHd i j (mgN g i j) g, nI (mgN g i j)) from aLL_e hx hy]
    obtain ⟨a1, a2, a3⟩ := gQ_hd (i := i) hj (n := mgN g i j) ⟨w, h9, hz, v⟩ (by unfold mgN; omega)
    exact gR_mono (m := m + mgN g i j) ⟨a1, gPt_same p a2 a3⟩ (by unfold mgN; omega)
  · obtain ⟨n, rfl, h1, h10, ho⟩ := j0Ao w5 h
    rw [show ap g 97 (nI n) y = (gwO g (gO g + (nI n).toNatClampNeg), _) from rfl, nI_cl (by omega)]
    exact gR_mono (m := m) ⟨⟨⟨w1, w2, w3, w4, ho, w6⟩, h9, hz, v⟩, p⟩ (by omega)
  · obtain ⟨n, rfl, h1, h20⟩ := j0Dy h
    rw [show ap g 100 (nI n) y = (days g (nI n).toNatClampNeg, _) from rfl, nI_cl (by omega)]
    have dp := days_P g n
    exact gR_mono (m := m + 30 * n) ⟨days_Q ⟨w, h9, hz, v⟩ n, gPt_same p dp.1 dp.2.1⟩ (by omega)
/-- a path's cells are written -/
theorem zGa_pth {h : zH} {b i j u v c : Nat} {g : zGd} (hg : zGa h b g) (hl : (gC g).length ≤ 12) (hij : i ≠ j) (hu : u < 64) (hv : v < 64) : zGa (sI (saI (saI h (b + 1 + 2) i (nI u)) (b + 1 + 2) j (nI v)) 353 (b + 1) (nI c)) b (gwN g (upN (upN (gN g) i u) j v) c) ∧ zFr h (sI (saI (saI h (b + 1 + 2) i (nI u)) (b + 1 + 2) j (nI v)) 353 (b + 1) (nI c)) b := by
  have f : zFr h (sI (saI (saI h (b + 1 + 2) i (nI u)) (b + 1 + 2) j (nI v)) 353 (b + 1) (nI c)) b := (((zFr.refl h b).saI (by omega) (by omega)).saI (by omega) (by omega)).sI (by omega) (by omega)
  obtain ⟨q1, q2, q3, q4, q5, q6, q7⟩ := hg
  refine ⟨⟨q1, ⟨q2.1, fun k hk => ?_⟩, hI_sI, fun k hk => ?_, fun k hk => ?_, ?_, zNs_same q7 (fun f => hI_sI_a (by omega))⟩, f⟩
  · show up2 (up2 (aI h) (b + 1 + 2) i (nI u)) (b + 1 + 2) j (nI v) (b + 1 + 2) k = nI (upN (upN (gN g) i u) j v k) ∧ upN (upN (gN g) i u) j v k < 64
    rw [upN2 hij]
    unfold up2
    by_cases z : k = j
    · rw [if_pos ⟨rfl, z⟩, if_pos z]; exact ⟨rfl, hv⟩
    · rw [if_neg (fun y => z y.2), if_neg z]
      by_cases z2 : k = i
      · rw [if_pos ⟨rfl, z2⟩, if_pos z2]; exact ⟨rfl, hu⟩
      · rw [if_neg (fun y => z2 y.2), if_neg z2]; exact q2.2 k hk
  · exact ((aI_saI_a (by omega)).trans (aI_saI_a (by omega))).trans (q4 k hk)
  · exact ((aI_saI_a (by omega)).trans (aI_saI_a (by omega))).trans (q5 k hk)
  · refine zCs_same q6 (fun _ => rfl) (fun f k hk => ?_) (fun _ _ => trivial) hl
    have := q6.1 k hk
    exact hI_sI_a (by omega)
