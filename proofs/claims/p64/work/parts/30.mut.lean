/-! the garden's picture but for the herd sizes; what a change leaves as it is -/
def zGx (h : zH) (b : Nat) (g : zGd) : Prop :=
  zGs h b ∧ zPa h (b + 1) (gN g) ∧ hI h 353 (b + 1) = nI (gP g) ∧ (∀ j, j < 6 → aI h (b + 5) j = nI (gS g j)) ∧ zCs h b (gC g) ∧ zNs h b g
def zSz (h : zH) (b : Nat) (z : Nat → Nat) : Prop := ∀ j, j < 6 → aI h (b + 7) j = nI (z j)
theorem zGa_x {h : zH} {b : Nat} {g : zGd} (q : zGa h b g) : zGx h b g := ⟨q.1, q.2.1, q.2.2.1, q.2.2.2.1, q.2.2.2.2.2.1, q.2.2.2.2.2.2⟩
theorem zGa_z {h : zH} {b : Nat} {g : zGd} (q : zGa h b g) : zSz h b (hsz (gC g)) := q.2.2.2.2.1
theorem zGa_of {h : zH} {b : Nat} {g : zGd} (q : zGx h b g) (z : zSz h b (hsz (gC g))) : zGa h b g := ⟨q.1, q.2.1, q.2.2.1, q.2.2.2.1, z, q.2.2.2.2.1, q.2.2.2.2.2⟩
def zFr (h h' : zH) (b : Nat) : Prop :=
  hN h' = hN h ∧ hK h' = hK h ∧ hL h' = hL h ∧ hR h' = hR h ∧ aJ h' = aJ h ∧ aD h' = aD h ∧ (∀ f a, (a < b ∨ b + 21 ≤ a) → hI h' f a = hI h f a) ∧ (∀ a i, (a < b ∨ b + 21 ≤ a) → aI h' a i = aI h a i ∧ aR h' a i = aR h a i)
theorem zFr.refl (h : zH) (b : Nat) : zFr h h b := ⟨rfl, rfl, rfl, rfl, rfl, rfl, fun _ _ _ => rfl, fun _ _ _ => ⟨rfl, rfl⟩⟩
theorem zFr.trans {h h1 h2 : zH} {b : Nat} (p : zFr h h1 b) (q : zFr h1 h2 b) : zFr h h2 b := by
  obtain ⟨p1, p2, p3, p4, p5, p6, p7, p8⟩ := p
  obtain ⟨q1, q2, q3, q4, q5, q6, q7, q8⟩ := q
  exact ⟨q1.trans p1, q2.trans p2, q3.trans p3, q4.trans p4, q5.trans p5, q6.trans p6, fun f a z => (q7 f a z).trans (p7 f a z), fun a i z => ⟨(q8 a i z).1.trans (p8 a i z).1, (q8 a i z).2.trans (p8 a i z).2⟩⟩
theorem zFr.sI {h h1 : zH} {b f a : Nat} {v : Int32} (p : zFr h h1 b) (h2 : b ≤ a) (h3 : a < b + 21) : zFr h (sI h1 f a v) b :=
  p.trans ⟨rfl, rfl, rfl, rfl, rfl, rfl, fun g c z => up2_ne (fun q => by omega), fun _ _ _ => ⟨rfl, rfl⟩⟩
theorem zFr.saI {h h1 : zH} {b a i : Nat} {v : Int32} (p : zFr h h1 b) (h2 : b ≤ a) (h3 : a < b + 21) : zFr h (saI h1 a i v) b :=
  p.trans ⟨rfl, rfl, rfl, rfl, rfl, rfl, fun _ _ _ => rfl, fun c j z => ⟨up2_ne (fun q => by omega), rfl⟩⟩
theorem zFr.saR {h h1 : zH} {b a i : Nat} {v : Option Nat} (p : zFr h h1 b) (h2 : b ≤ a) (h3 : a < b + 21) : zFr h (saR h1 a i v) b :=
  p.trans ⟨rfl, rfl, rfl, rfl, rfl, rfl, fun _ _ _ => rfl, fun c j z => ⟨rfl, up2_ne (fun q => by omega)⟩⟩
theorem zFr.sRow {h h1 : zH} {b a : Nat} {g : Nat → Int32} (p : zFr h h1 b) (h2 : b ≤ a) (h3 : a < b + 21) : zFr h (sRow h1 a g) b :=
  p.trans ⟨rfl, rfl, rfl, rfl, rfl, rfl, fun _ _ _ => rfl, fun c j z => ⟨congrFun (if_neg (fun q => by omega)) j, rfl⟩⟩
/-- a garden elsewhere is as it was -/
theorem zLs_same {h h' : zH} {a : Nat} (q : zLs h a) (h1 : hK h' = hK h) (h2 : hL h' = hL h) (h3 : hR h' = hR h) : zLs h' a := by
  unfold zLs; rw [h1, h2, h3]; exact q
theorem zPs_same {h h' : zH} {a : Nat} (q : zPs h a) (h1 : hK h' = hK h) (h2 : hL h' = hL h) (h3 : hR h' = hR h) : zPs h' a := by
  unfold zPs zLs; rw [h1, h2, h3]; exact q
theorem zGs_same {h h' : zH} {a : Nat} (q : zGs h a) (h1 : hK h' = hK h) (h2 : hL h' = hL h) (h3 : hR h' = hR h) : zGs h' a := by
  unfold zGs zPs zLs; rw [h1, h2, h3]; exact q
theorem zPa_same {h h' : zH} {a : Nat} {nb : Nat → Nat} (q : zPa h a nb) (h1 : hK h' = hK h) (h2 : hL h' = hL h) (h3 : hR h' = hR h) (h4 : ∀ j, aI h' (a + 2) j = aI h (a + 2) j) : zPa h' a nb :=
  ⟨zPs_same q.1 h1 h2 h3, fun j hj => ⟨(h4 j).trans (q.2 j hj).1, (q.2 j hj).2⟩⟩
theorem cA_same {h h' : zH} {b k : Nat} (h1 : aR h' (b + 8) k = aR h (b + 8) k) : cA h' b k = cA h b k := by unfold cA; rw [h1]
theorem chAt_same {h h' : zH} {a : Nat} {c : zCh} (h1 : ∀ f, hI h' f a = hI h f a) (q : chAt h a c) : chAt h' a c :=
  ⟨(h1 _).trans q.1, (h1 _).trans q.2.1, (h1 _).trans q.2.2.1, (h1 _).trans q.2.2.2.1, (h1 _).trans q.2.2.2.2⟩
theorem zCs_same {h h' : zH} {b : Nat} {cs : List zCh} (q : zCs h b cs) (h1 : ∀ k, aR h' (b + 8) k = aR h (b + 8) k) (h2 : ∀ f k, k < 12 → hI h' f (cA h b k) = hI h f (cA h b k)) : (∀ c ∈ cs, True) → cs.length ≤ 12 → zCs h' b cs := fun _ hl => by
  have e : ∀ k, cA h' b k = cA h b k := fun k => cA_same (h1 k)
  refine ⟨fun k hk => ?_, fun i j hi hj z => ?_, fun k c hc => ?_, fun k hk => ?_⟩
  · rw [e k, h1 k]; exact q.1 k hk
  · rw [e, e] at z; exact q.2.1 i j hi hj z
  · have hk : k < 12 := Nat.lt_of_lt_of_le (List.getElem?_eq_some_iff.mp hc).1 hl
    rw [e k]; exact chAt_same (fun f => h2 f k hk) (q.2.2.1 k c hc)
  · rw [e k, h2 132 k hk]; exact q.2.2.2 k hk
/-- the k-th chair alone is another now -/
theorem zCs_put {h h' : zH} {b k : Nat} {cs cs' : List zCh} {c' : zCh} (q : zCs h b cs) (hk : k < 12) (hl : cs'.length ≤ 12) (h1 : ∀ k, aR h' (b + 8) k = aR h (b + 8) k) (h2 : ∀ f a, a ≠ cA h b k → hI h' f a = hI h f a) (h3 : chAt h' (cA h b k) c') (h4 : ∀ (j : Nat) (d : zCh), j ≠ k → cs'[j]? = some d → cs[j]? = some d) (h5 : ∀ (d : zCh), cs'[k]? = some d → d = c') : zCs h' b cs' := by
  have e : ∀ k, cA h' b k = cA h b k := fun k => cA_same (h1 k)
  refine ⟨fun k hk => ?_, fun i j hi hj z => ?_, fun j c hc => ?_, fun j hj => ?_⟩
  · rw [e k, h1 k]; exact q.1 k hk
  · rw [e, e] at z; exact q.2.1 i j hi hj z
  · have hj : j < 12 := Nat.lt_of_lt_of_le (List.getElem?_eq_some_iff.mp hc).1 hl
    rw [e j]
    by_cases z : j = k
    · subst z
      rw [h5 c hc]; exact h3
    · exact chAt_same (fun f => h2 f _ (fun y => z (q.2.1 j k hj hk y))) (q.2.2.1 j c (h4 j c z hc))
  · rw [e j]
    by_cases z : j = k
    · subst z
      rw [h3.2.2.2.2]
      cases chF c'
      · exact Or.inl rfl
      · exact Or.inr rfl
    · rw [h2 132 _ (fun y => z (q.2.1 j k hj hk y))]; exact q.2.2.2 j hj
/-- the chairs stand at other places of the row -/
theorem zCs_perm {h h' : zH} {b : Nat} {cs cs' : List zCh} (σ : Nat → Nat) (q : zCs h b cs) (hl : cs'.length ≤ 12) (h1 : ∀ k, k < 12 → aR h' (b + 8) k = aR h (b + 8) (σ k)) (h2 : hI h' = hI h) (s1 : ∀ k, k < 12 → σ k < 12) (s2 : ∀ i j, i < 12 → j < 12 → σ i = σ j → i = j) (s3 : ∀ k c, k < 12 → cs'[k]? = some c → cs[σ k]? = some c) : zCs h' b cs' := by
  have e : ∀ k, k < 12 → cA h' b k = cA h b (σ k) := fun k hk => by unfold cA; rw [h1 k hk]
  refine ⟨fun k hk => ?_, fun i j hi hj z => ?_, fun k c hc => ?_, fun k hk => ?_⟩
  · rw [e k hk, h1 k hk]; exact q.1 _ (s1 k hk)
  · rw [e i hi, e j hj] at z; exact s2 i j hi hj (q.2.1 _ _ (s1 i hi) (s1 j hj) z)
  · have hk : k < 12 := Nat.lt_of_lt_of_le (List.getElem?_eq_some_iff.mp hc).1 hl
    rw [e k hk]; exact chAt_same (fun f => by rw [h2]) (q.2.2.1 _ c (s3 k c hk hc))
  · rw [e k hk, h2]; exact q.2.2.2 _ (s1 k hk)
theorem zCs_list {h : zH} {b : Nat} {cs cs' : List zCh} (q : zCs h b cs) (s : ∀ (k : Nat) (c : zCh), cs'[k]? = some c → cs[k]? = some c) : zCs h b cs' := ⟨q.1, q.2.1, fun k c hc => q.2.2.1 k c (s k c hc), q.2.2.2⟩
theorem zNs_same {h h' : zH} {b : Nat} {g : zGd} (q : zNs h b g) (h1 : ∀ f, hI h' f b = hI h f b) : zNs h' b g :=
  ⟨(h1 _).trans q.1, (h1 _).trans q.2.1, (h1 _).trans q.2.2.1, (h1 _).trans q.2.2.2.1, (h1 _).trans q.2.2.2.2.1, (h1 _).trans q.2.2.2.2.2.1, (h1 _).trans q.2.2.2.2.2.2.1, (h1 _).trans q.2.2.2.2.2.2.2⟩
theorem zNs_list {h : zH} {b : Nat} {g : zGd} {cs : List zCh} (q : zNs h b g) (e : cs.length = (gC g).length) : zNs h b (gwC g cs) := by
  refine ⟨?_, q.2⟩
  show hI h 196 b = nI cs.length
  rw [e]; exact q.1
/-- elsewhere: the whole picture -/
theorem zGa_else {h h' : zH} {b d : Nat} {g : zGd} (q : zGa h d g) (hl : (gC g).length ≤ 12) (f : zFr h h' b) (hd : d + 21 ≤ b ∨ b + 21 ≤ d) : zGa h' d g := by
  obtain ⟨f1, f2, f3, f4, f5, f6, f7, f8⟩ := f
  have cb := (zGa_cs q).1
  refine ⟨zGs_same q.1 f2 f3 f4, zPa_same (zGa_pa q) f2 f3 f4 (fun j => (f8 _ j (by omega)).1), (f7 _ _ (by omega)).trans (zGa_p q), fun j hj => ((f8 _ j (by omega)).1).trans (zGa_s q j hj), fun j hj => ((f8 _ j (by omega)).1).trans (zGa_h q j hj), zCs_same (zGa_cs q) (fun k => (f8 _ k (by omega)).2) (fun f k hk => f7 _ _ (by have := cb k hk; omega)) (fun _ _ => trivial) hl, zNs_same (zGa_n q) (fun f => f7 _ _ (by omega))⟩
section ZM
variable {h : zH} {b : Nat} {g : zGd}
/-- the k-th chair's field f is written -/
theorem zGx_ch {k f : Nat} {c c' : zCh} {v : Int32} (q : zGx h b g) (hl : (gC g).length ≤ 12) (hc : (gC g)[k]? = some c) (h3 : chAt (sI h f (cA h b k) v) (cA h b k) c') : zGx (sI h f (cA h b k) v) b (gwC g ((gC g).set k c')) := by
  obtain ⟨q1, q2, q3, q4, q5, q6⟩ := q
  have hk : k < (gC g).length := (List.getElem?_eq_some_iff.mp hc).1
  have cb := (q5.1 k (by omega)).2
  refine ⟨q1, zPa_same q2 rfl rfl rfl (fun _ => rfl), (hI_sI_a (by omega)).trans q3, q4, zCs_put q5 (k := k) (by omega) (by show ((gC g).set k c').length ≤ 12; rw [List.length_set]; exact hl) (fun _ => rfl) (fun f a z => hI_sI_a z) h3 (fun j d z w => ?_) (fun d w => ?_), zNs_list (zNs_same q6 (fun f => hI_sI_a (by omega))) (List.length_set)⟩
  · exact (by rw [← w]; exact (List.getElem?_set_ne (fun y => z y.symm)).symm)
  · have w : ((gC g).set k c')[k]? = some d := w
    rw [List.getElem?_set_self hk] at w
    exact (Option.some.inj w).symm
theorem zSz_I {f a : Nat} {v : Int32} {z : Nat → Nat} (q : zSz h b z) : zSz (sI h f a v) b z := q
/-- a shade is written -/
theorem zGx_shade {j v : Nat} (q : zGx h b g) : zGx (saI h (b + 5) j (nI v)) b (gwS g (fun i => if i = j then v else gS g i)) := by
  obtain ⟨q1, q2, q3, q4, q5, q6⟩ := q
  refine ⟨q1, zPa_same q2 rfl rfl rfl (fun j => aI_saI_a (by omega)), q3, fun i hi => ?_, q5, q6⟩
  show up2 (aI h) (b + 5) j (nI v) (b + 5) i = nI (if i = j then v else gS g i)
  unfold up2
  by_cases z : i = j
  · rw [if_pos ⟨rfl, z⟩, if_pos z]
  · rw [if_neg (fun y => z y.2), if_neg z]; exact q4 i hi
theorem zSz_shade {j : Nat} {v : Int32} {z : Nat → Nat} (q : zSz h b z) : zSz (saI h (b + 5) j v) b z := fun i hi => (aI_saI_a (by omega)).trans (q i hi)
/-- a herd's size is written -/
theorem zGx_size {j : Nat} {v : Int32} (q : zGx h b g) : zGx (saI h (b + 7) j v) b g := by
  obtain ⟨q1, q2, q3, q4, q5, q6⟩ := q
  exact ⟨q1, zPa_same q2 rfl rfl rfl (fun j => aI_saI_a (by omega)), q3, fun i hi => (aI_saI_a (by omega)).trans (q4 i hi), q5, q6⟩
theorem zSz_size {j : Nat} {v : Int32} {n : Nat} {z z' : Nat → Nat} (q : zSz h b z) (hv : v = nI n) (h1 : z' j = n) (h2 : ∀ i, i ≠ j → z' i = z i) : zSz (saI h (b + 7) j v) b z' := fun i hi => by
  subst hv
  by_cases e : i = j
  · subst e; rw [h1]; exact aI_saI
  · rw [h2 i e]; exact (aI_saI_i e).trans (q i hi)
-- the numbers, one by one
theorem zGx_num {f : Nat} {v : Int32} {g' : zGd} (q : zGx h b g) (h1 : gN g' = gN g) (h2 : gP g' = gP g) (h3 : gS g' = gS g) (h4 : zCs h b (gC g')) (hl : (gC g').length ≤ 12) (h5 : zNs (sI h f b v) b g') : zGx (sI h f b v) b g' := by
  obtain ⟨q1, q2, q3, q4, q5, q6⟩ := q
  refine ⟨q1, zPa_same (by rw [h1]; exact q2) rfl rfl rfl (fun j => rfl), (hI_sI_a (by omega)).trans (by rw [h2]; exact q3), fun i hi => by rw [h3]; exact q4 i hi, zCs_same h4 (fun _ => rfl) (fun f k hk => hI_sI_a (by have := h4.1 k hk; omega)) (fun _ _ => trivial) hl, h5⟩
theorem zNs_196 {cs : List zCh} (q : zNs h b g) : zNs (sI h 196 b (nI cs.length)) b (gwC g cs) := ⟨hI_sI, (hI_sI_f (by decide)).trans q.2.1, (hI_sI_f (by decide)).trans q.2.2.1, (hI_sI_f (by decide)).trans q.2.2.2.1, (hI_sI_f (by decide)).trans q.2.2.2.2.1, (hI_sI_f (by decide)).trans q.2.2.2.2.2.1, (hI_sI_f (by decide)).trans q.2.2.2.2.2.2.1, (hI_sI_f (by decide)).trans q.2.2.2.2.2.2.2⟩
theorem zGx_197 {v : Nat} (q : zGx h b g) (hl : (gC g).length ≤ 12) : zGx (sI h 197 b (nI v)) b (gwX g v) := by
  refine zGx_num q rfl rfl rfl q.2.2.2.2.1 hl ?_
  have q := q.2.2.2.2.2
  exact ⟨(hI_sI_f (by decide)).trans q.1, hI_sI, (hI_sI_f (by decide)).trans q.2.2.1, (hI_sI_f (by decide)).trans q.2.2.2.1, (hI_sI_f (by decide)).trans q.2.2.2.2.1, (hI_sI_f (by decide)).trans q.2.2.2.2.2.1, (hI_sI_f (by decide)).trans q.2.2.2.2.2.2.1, (hI_sI_f (by decide)).trans q.2.2.2.2.2.2.2⟩
theorem zGx_198 {v : Nat} (q : zGx h b g) (hl : (gC g).length ≤ 12) : zGx (sI h 198 b (nI v)) b (gwD g v) := by
  refine zGx_num q rfl rfl rfl q.2.2.2.2.1 hl ?_
  have q := q.2.2.2.2.2
  exact ⟨(hI_sI_f (by decide)).trans q.1, (hI_sI_f (by decide)).trans q.2.1, hI_sI, (hI_sI_f (by decide)).trans q.2.2.2.1, (hI_sI_f (by decide)).trans q.2.2.2.2.1, (hI_sI_f (by decide)).trans q.2.2.2.2.2.1, (hI_sI_f (by decide)).trans q.2.2.2.2.2.2.1, (hI_sI_f (by decide)).trans q.2.2.2.2.2.2.2⟩
theorem zGx_199 {v : Nat} (q : zGx h b g) (hl : (gC g).length ≤ 12) : zGx (sI h 199 b (nI v)) b (gwO g v) := by
  refine zGx_num q rfl rfl rfl q.2.2.2.2.1 hl ?_
  have q := q.2.2.2.2.2
  exact ⟨(hI_sI_f (by decide)).trans q.1, (hI_sI_f (by decide)).trans q.2.1, (hI_sI_f (by decide)).trans q.2.2.1, hI_sI, (hI_sI_f (by decide)).trans q.2.2.2.2.1, (hI_sI_f (by decide)).trans q.2.2.2.2.2.1, (hI_sI_f (by decide)).trans q.2.2.2.2.2.2.1, (hI_sI_f (by decide)).trans q.2.2.2.2.2.2.2⟩
theorem zGx_200 {v : Nat} (q : zGx h b g) (hl : (gC g).length ≤ 12) : zGx (sI h 200 b (nI v)) b (gwF g v) := by
  refine zGx_num q rfl rfl rfl q.2.2.2.2.1 hl ?_
  have q := q.2.2.2.2.2
  exact ⟨(hI_sI_f (by decide)).trans q.1, (hI_sI_f (by decide)).trans q.2.1, (hI_sI_f (by decide)).trans q.2.2.1, (hI_sI_f (by decide)).trans q.2.2.2.1, hI_sI, (hI_sI_f (by decide)).trans q.2.2.2.2.2.1, (hI_sI_f (by decide)).trans q.2.2.2.2.2.2.1, (hI_sI_f (by decide)).trans q.2.2.2.2.2.2.2⟩
theorem zGx_201 {v : Nat} (q : zGx h b g) (hl : (gC g).length ≤ 12) : zGx (sI h 201 b (nI v)) b (gwU g v) := by
  refine zGx_num q rfl rfl rfl q.2.2.2.2.1 hl ?_
  have q := q.2.2.2.2.2
  exact ⟨(hI_sI_f (by decide)).trans q.1, (hI_sI_f (by decide)).trans q.2.1, (hI_sI_f (by decide)).trans q.2.2.1, (hI_sI_f (by decide)).trans q.2.2.2.1, (hI_sI_f (by decide)).trans q.2.2.2.2.1, hI_sI, (hI_sI_f (by decide)).trans q.2.2.2.2.2.2.1, (hI_sI_f (by decide)).trans q.2.2.2.2.2.2.2⟩
theorem zGx_202 {v : Nat} (q : zGx h b g) (hl : (gC g).length ≤ 12) : zGx (sI h 202 b (nI v)) b (gwM g v) := by
  refine zGx_num q rfl rfl rfl q.2.2.2.2.1 hl ?_
  have q := q.2.2.2.2.2
  exact ⟨(hI_sI_f (by decide)).trans q.1, (hI_sI_f (by decide)).trans q.2.1, (hI_sI_f (by decide)).trans q.2.2.1, (hI_sI_f (by decide)).trans q.2.2.2.1, (hI_sI_f (by decide)).trans q.2.2.2.2.1, (hI_sI_f (by decide)).trans q.2.2.2.2.2.1, hI_sI, (hI_sI_f (by decide)).trans q.2.2.2.2.2.2.2⟩
theorem zGx_203 {v : Nat} (q : zGx h b g) (hl : (gC g).length ≤ 12) : zGx (sI h 203 b (nI v)) b (gwZ g v) := by
  refine zGx_num q rfl rfl rfl q.2.2.2.2.1 hl ?_
  have q := q.2.2.2.2.2
  exact ⟨(hI_sI_f (by decide)).trans q.1, (hI_sI_f (by decide)).trans q.2.1, (hI_sI_f (by decide)).trans q.2.2.1, (hI_sI_f (by decide)).trans q.2.2.2.1, (hI_sI_f (by decide)).trans q.2.2.2.2.1, (hI_sI_f (by decide)).trans q.2.2.2.2.2.1, (hI_sI_f (by decide)).trans q.2.2.2.2.2.2.1, hI_sI⟩
/-- the number of chairs is written -/
theorem zGx_196 {cs : List zCh} (q : zGx h b g) (hl : cs.length ≤ 12) (hc : zCs h b cs) : zGx (sI h 196 b (nI cs.length)) b (gwC g cs) := zGx_num q rfl rfl rfl hc hl (zNs_196 q.2.2.2.2.2)
end ZM
