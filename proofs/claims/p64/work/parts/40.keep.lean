/-! what stays as it is, cell by cell; a new garden -/
/-- the cell c is the same in both heaps -/
def zEq (h h' : zH) (c : Nat) : Prop := hK h' c = hK h c ∧ hL h' c = hL h c ∧ (∀ f, hR h' f c = hR h f c) ∧ (∀ f, hI h' f c = hI h f c) ∧ aI h' c = aI h c ∧ aR h' c = aR h c ∧ aJ h' c = aJ h c ∧ aD h' c = aD h c
theorem zEq.refl (h : zH) (c : Nat) : zEq h h c := ⟨rfl, rfl, fun _ => rfl, fun _ => rfl, rfl, rfl, rfl, rfl⟩
theorem zEq.trans {h h1 h2 : zH} {c : Nat} (p : zEq h h1 c) (q : zEq h1 h2 c) : zEq h h2 c := by
  obtain ⟨p1, p2, p3, p4, p5, p6, p7, p8⟩ := p
  obtain ⟨q1, q2, q3, q4, q5, q6, q7, q8⟩ := q
  exact ⟨q1.trans p1, q2.trans p2, fun f => (q3 f).trans (p3 f), fun f => (q4 f).trans (p4 f), q5.trans p5, q6.trans p6, q7.trans p7, q8.trans p8⟩
theorem zEq_sI {h : zH} {f a c : Nat} {v : Int32} (q : c ≠ a) : zEq h (sI h f a v) c := ⟨rfl, rfl, fun _ => rfl, fun _ => hI_sI_a q, rfl, rfl, rfl, rfl⟩
theorem zEq_sR {h : zH} {f a c : Nat} {v : Option Nat} (q : c ≠ a) : zEq h (sR h f a v) c := ⟨rfl, rfl, fun _ => hR_sR_a q, fun _ => rfl, rfl, rfl, rfl, rfl⟩
theorem zEq_saI {h : zH} {a i c : Nat} {v : Int32} (q : c ≠ a) : zEq h (saI h a i v) c := ⟨rfl, rfl, fun _ => rfl, fun _ => rfl, funext fun _ => aI_saI_a q, rfl, rfl, rfl⟩
theorem zEq_saR {h : zH} {a i c : Nat} {v : Option Nat} (q : c ≠ a) : zEq h (saR h a i v) c := ⟨rfl, rfl, fun _ => rfl, fun _ => rfl, rfl, funext fun _ => aR_saR_a q, rfl, rfl⟩
theorem zEq_sQ {h : zH} {a c : Nat} {r : Nat → Option Nat} (q : c ≠ a) : zEq h (sQ h a r) c := ⟨rfl, rfl, fun _ => rfl, fun _ => rfl, rfl, if_neg q, rfl, rfl⟩
theorem zEq_saJ {h : zH} {a i c : Nat} {v : Int64} (q : c ≠ a) : zEq h (saJ h a i v) c := ⟨rfl, rfl, fun _ => rfl, fun _ => rfl, rfl, rfl, funext fun _ => up2_ne (fun z => q z.1), rfl⟩
theorem zEq_saD {h : zH} {a i c : Nat} {v : UInt64} (q : c ≠ a) : zEq h (saD h a i v) c := ⟨rfl, rfl, fun _ => rfl, fun _ => rfl, rfl, rfl, rfl, funext fun _ => up2_ne (fun z => q z.1)⟩
theorem zEq_new {h : zH} {k z c : Nat} (q : c ≠ hN h) : zEq h (hNew h k z) c := ⟨if_neg q, if_neg q, fun _ => if_neg q, fun _ => if_neg q, funext fun _ => if_neg q, funext fun _ => if_neg q, funext fun _ => if_neg q, funext fun _ => if_neg q⟩
theorem zFq.e {h h' : zH} {a e c : Nat} (f : zFq h h' a e) (hc : c < a ∨ e ≤ c) : zEq h h' c := by
  obtain ⟨f1, f2, f3, f4, f5, f6, f7, f8⟩ := f
  exact ⟨by rw [f2], by rw [f3], fun _ => by rw [f4], fun _ => f7 _ _ hc, funext fun i => (f8 c i hc).1, funext fun i => (f8 c i hc).2, by rw [f5], by rw [f6]⟩
/-- nothing below b is another, and nothing went -/
def zEx (h h' : zH) (b : Nat) : Prop := hN h ≤ hN h' ∧ ∀ c, c < b → zEq h h' c
theorem zEx.refl (h : zH) (b : Nat) : zEx h h b := ⟨Nat.le_refl _, fun c _ => zEq.refl h c⟩
theorem zEx.trans {h h1 h2 : zH} {b : Nat} (p : zEx h h1 b) (q : zEx h1 h2 b) : zEx h h2 b := ⟨Nat.le_trans p.1 q.1, fun c hc => (p.2 c hc).trans (q.2 c hc)⟩
theorem zEx.mono {h h1 : zH} {b d : Nat} (p : zEx h h1 b) (q : d ≤ b) : zEx h h1 d := ⟨p.1, fun c hc => p.2 c (by omega)⟩
theorem zEx.sI {h h1 : zH} {b f a : Nat} {v : Int32} (p : zEx h h1 b) (q : b ≤ a) : zEx h (sI h1 f a v) b := ⟨p.1, fun c hc => (p.2 c hc).trans (zEq_sI (by omega))⟩
theorem zEx.sR {h h1 : zH} {b f a : Nat} {v : Option Nat} (p : zEx h h1 b) (q : b ≤ a) : zEx h (sR h1 f a v) b := ⟨p.1, fun c hc => (p.2 c hc).trans (zEq_sR (by omega))⟩
theorem zEx.saI {h h1 : zH} {b i a : Nat} {v : Int32} (p : zEx h h1 b) (q : b ≤ a) : zEx h (saI h1 a i v) b := ⟨p.1, fun c hc => (p.2 c hc).trans (zEq_saI (by omega))⟩
theorem zEx.saR {h h1 : zH} {b i a : Nat} {v : Option Nat} (p : zEx h h1 b) (q : b ≤ a) : zEx h (saR h1 a i v) b := ⟨p.1, fun c hc => (p.2 c hc).trans (zEq_saR (by omega))⟩
theorem zEx.new {h h1 : zH} {b k z : Nat} (p : zEx h h1 b) (q : b ≤ hN h1) : zEx h (hNew h1 k z) b := ⟨Nat.le_succ_of_le p.1, fun c hc => (p.2 c hc).trans (zEq_new (by omega))⟩
theorem zLs_e {h h' : zH} {a : Nat} (q : zLs h a) (e1 : zEq h h' a) (e2 : zEq h h' (a + 1)) : zLs h' a := ⟨e1.1.trans q.1, (e1.2.2.1 _).trans q.2.1, e2.1.trans q.2.2.1, e2.2.1.trans q.2.2.2⟩
theorem zPs_e {h h' : zH} {a : Nat} (q : zPs h a) (e1 : zEq h h' a) (e2 : zEq h h' (a + 1)) (e3 : zEq h h' (a + 2)) : zPs h' a := ⟨e1.1.trans q.1, (e1.2.2.1 _).trans q.2.1, zLs_e q.2.2 e2 e3⟩
theorem zGs_e {h h' : zH} {b : Nat} (q : zGs h b) (e : ∀ c, b ≤ c → c < b + 21 → zEq h h' c) : zGs h' b := by
  obtain ⟨q1, q2, q3, q4, q5, q6, q7, q8, q9, q10⟩ := q
  have e0 := e b (by omega) (by omega)
  exact ⟨e0.1.trans q1, (e0.2.2.1 _).trans q2, (e0.2.2.1 _).trans q3, (e0.2.2.1 _).trans q4, (e0.2.2.1 _).trans q5, zPs_e q6 (e _ (by omega) (by omega)) (e _ (by omega) (by omega)) (e _ (by omega) (by omega)), zLs_e q7 (e _ (by omega) (by omega)) (e _ (by omega) (by omega)), zLs_e q8 (e _ (by omega) (by omega)) (e _ (by omega) (by omega)),
    ⟨(e (b + 8) (by omega) (by omega)).1.trans q9.1, (e (b + 8) (by omega) (by omega)).2.1.trans q9.2⟩, fun i hi => (e (b + 9 + i) (by omega) (by omega)).1.trans (q10 i hi)⟩
theorem zCs_e {h h' : zH} {b : Nat} {cs : List zCh} (q : zCs h b cs) (hl : cs.length ≤ 12) (e : ∀ c, b ≤ c → c < b + 21 → zEq h h' c) : zCs h' b cs :=
  zCs_same q (fun k => congrFun (e (b + 8) (by omega) (by omega)).2.2.2.2.2.1 k) (fun f k hk => (e _ (by have := q.1 k hk; omega) (by have := q.1 k hk; omega)).2.2.2.1 f) (fun _ _ => trivial) hl
theorem zGa_e {h h' : zH} {b : Nat} {g : zGd} (q : zGa h b g) (hl : (gC g).length ≤ 12) (e : ∀ c, b ≤ c → c < b + 21 → zEq h h' c) : zGa h' b g := by
  have p := zGa_pa q
  refine ⟨zGs_e q.1 e, ⟨zPs_e p.1 (e _ (by omega) (by omega)) (e _ (by omega) (by omega)) (e _ (by omega) (by omega)), fun j hj => ⟨(congrFun (e (b + 1 + 2) (by omega) (by omega)).2.2.2.2.1 j).trans (p.2 j hj).1, (p.2 j hj).2⟩⟩, ((e (b + 1) (by omega) (by omega)).2.2.2.1 _).trans (zGa_p q), fun j hj => (congrFun (e (b + 5) (by omega) (by omega)).2.2.2.2.1 j).trans (zGa_s q j hj), fun j hj => (congrFun (e (b + 7) (by omega) (by omega)).2.2.2.2.1 j).trans (zGa_h q j hj), zCs_e (zGa_cs q) hl e, zNs_same (zGa_n q) (fun f => (e b (by omega) (by omega)).2.2.2.1 f)⟩
theorem zGt_e {h h' : zH} {b : Nat} (q : zGt h b) (e : ∀ c, b ≤ c → c < b + 21 → zEq h h' c) : zGt h' b := ⟨zGs_e q.1 e, zCs_e q.2 (Nat.zero_le _) e⟩
/-- a garden in the making: the shades s, m chairs -/
def zGi (h : zH) (b : Nat) (s : Nat → Nat) (m : Nat) : Prop :=
  hN h = b + 9 + m ∧ hK h b = 7 ∧ hR h 192 b = some (b + 1) ∧ hR h 193 b = some (b + 4) ∧ hR h 194 b = some (b + 6) ∧ hR h 195 b = some (b + 8) ∧ zPs h (b + 1) ∧ zLs h (b + 4) ∧ zLs h (b + 6) ∧ (hK h (b + 8) = 106 ∧ hL h (b + 8) = 12) ∧
  (∀ i, i < m → hK h (b + 9 + i) = 5 ∧ aR h (b + 8) i = some (b + 9 + i) ∧ hI h 132 (b + 9 + i) = 0) ∧ (∀ j, j < 6 → aI h (b + 3) j = 0) ∧ hI h 353 (b + 1) = 0 ∧ (∀ j, j < 6 → aI h (b + 5) j = nI (s j)) ∧ (∀ j, j < 6 → aI h (b + 7) j = 0) ∧
  (hI h 196 b = 0 ∧ hI h 197 b = 0 ∧ hI h 198 b = 0 ∧ hI h 199 b = nI 3 ∧ hI h 200 b = 0 ∧ hI h 201 b = 0 ∧ hI h 202 b = 0 ∧ hI h 203 b = 0)
theorem zGi_shade {h : zH} {b m k : Nat} {s : Nat → Nat} (q : zGi h b s m) : zGi (saI h (b + 5) k (nI 5)) b (upN s k 5) m := by
  obtain ⟨q1, q2, q3, q4, q5, q6, q7, q8, q9, q10, q11, q12, q13, q14, q15, q16⟩ := q
  refine ⟨q1, q2, q3, q4, q5, q6, q7, q8, q9, q10, q11, fun j hj => (aI_saI_a (by omega)).trans (q12 j hj), q13, fun j hj => ?_, fun j hj => (aI_saI_a (by omega)).trans (q15 j hj), q16⟩
  unfold upN
  by_cases z : j = k
  · subst z; rw [if_pos rfl]; exact aI_saI
  · rw [if_neg z]; exact (aI_saI_i z).trans (q14 j hj)
theorem zGi_chair {h : zH} {b m : Nat} {s : Nat → Nat} (q : zGi h b s m) : zGi (saR (hNew h 5 0) (b + 8) m (some (b + 9 + m))) b s (m + 1) := by
  obtain ⟨q1, q2, q3, q4, q5, q6, q7, q8, q9, q10, q11, q12, q13, q14, q15, q16⟩ := q
  have e : ∀ c, c < b + 9 + m → c ≠ b + 8 → zEq h (saR (hNew h 5 0) (b + 8) m (some (b + 9 + m))) c := fun c h1 h2 => (zEq_new (by omega)).trans (zEq_saR h2)
  have e0 := e b (by omega) (by omega)
  refine ⟨congrArg (· + 1) q1, e0.1.trans q2, (e0.2.2.1 _).trans q3, (e0.2.2.1 _).trans q4, (e0.2.2.1 _).trans q5, (e0.2.2.1 _).trans q6, zPs_e q7 (e _ (by omega) (by omega)) (e _ (by omega) (by omega)) (e _ (by omega) (by omega)), zLs_e q8 (e _ (by omega) (by omega)) (e _ (by omega) (by omega)), zLs_e q9 (e _ (by omega) (by omega)) (e _ (by omega) (by omega)), ⟨(hK_new (k := 5) (z := 0) (by omega)).trans q10.1, (hL_new (k := 5) (z := 0) (by omega)).trans q10.2⟩, fun i hi => ?_, fun j hj => (congrFun (e (b + 3) (by omega) (by omega)).2.2.2.2.1 j).trans (q12 j hj), ((e (b + 1) (by omega) (by omega)).2.2.2.1 _).trans q13, fun j hj => (congrFun (e (b + 5) (by omega) (by omega)).2.2.2.2.1 j).trans (q14 j hj), fun j hj => (congrFun (e (b + 7) (by omega) (by omega)).2.2.2.2.1 j).trans (q15 j hj), ?_⟩
  · by_cases z : i = m
    · subst z
      refine ⟨?_, aR_saR, ?_⟩
      · rw [← q1]; exact hK_newE (k := 5) (z := 0)
      · rw [← q1]; exact hI_newE (k := 5) (z := 0)
    · have h1 := e (b + 9 + i) (by omega) (by omega)
      obtain ⟨a1, a2, a3⟩ := q11 i (by omega)
      exact ⟨h1.1.trans a1, (aR_saR_i z).trans ((aR_new (by omega)).trans a2), (h1.2.2.2.1 _).trans a3⟩
  · obtain ⟨n1, n2, n3, n4, n5, n6, n7, n8⟩ := q16
    exact ⟨(e0.2.2.2.1 _).trans n1, (e0.2.2.2.1 _).trans n2, (e0.2.2.2.1 _).trans n3, (e0.2.2.2.1 _).trans n4, (e0.2.2.2.1 _).trans n5, (e0.2.2.2.1 _).trans n6, (e0.2.2.2.1 _).trans n7, (e0.2.2.2.1 _).trans n8⟩
/-- the garden at the start -/
def g00 : zGd := (fun _ => 0, 0, fun _ => 5, [], 0, 0, 3, 0, 0, 0, 0)
theorem zGi_end {h : zH} {b : Nat} {s : Nat → Nat} (q : zGi h b s 12) (hs : ∀ j, j < 6 → s j = 5) : zGa h b g00 := by
  obtain ⟨q1, q2, q3, q4, q5, q6, q7, q8, q9, q10, q11, q12, q13, q14, q15, q16⟩ := q
  have ec : ∀ k, k < 12 → cA h b k = b + 9 + k := fun k hk => by unfold cA; rw [(q11 k hk).2.1]; rfl
  refine ⟨⟨q2, q3, q4, q5, q6, q7, q8, q9, q10, fun i hi => (q11 i hi).1⟩, ⟨q7, fun j hj => ⟨q12 j hj, by show 0 < 64; omega⟩⟩, q13, fun j hj => (q14 j hj).trans (congrArg nI (hs j hj)), fun j hj => q15 j hj, ⟨fun k hk => ?_, fun i j hi hj e => ?_, fun k c hc => (by cases k <;> cases hc), fun k hk => ?_⟩, q16⟩
  · rw [ec k hk]; exact ⟨(q11 k hk).2.1, by omega, by omega⟩
  · rw [ec i hi, ec j hj] at e; omega
  · rw [ec k hk]; exact Or.inl (q11 k hk).2.2
/-- a row of lawns is made at n, and is the garden's field f -/
theorem gi_row {h : zH} {b n f : Nat} (hn : hN h = n) (hb : b < n) : ∃ H, H = sR (sR (hNew (hNew h 11 0) 103 6) 320 n (some (n + 1))) f b (some n) ∧ hN H = n + 2 ∧ zLs H n ∧ (∀ j, aI H (n + 1) j = 0) ∧ (∀ c, c < n → c ≠ b → zEq h H c) ∧ hR H f b = some n ∧ (∀ g, g ≠ f → hR H g b = hR h g b) ∧ hK H b = hK h b ∧ (∀ g, hI H g b = hI h g b) := by
  subst hn
  have e1 : hN (hNew h 11 0) = hN h + 1 := rfl
  refine ⟨_, rfl, rfl, ⟨?_, ?_, ?_, ?_⟩, fun j => ?_, fun c h1 h2 => ?_, hR_sR, fun g hg => ?_, ?_, fun g => ?_⟩
  · show hK (hNew (hNew h 11 0) 103 6) (hN h) = 11
    rw [hK_new (by rw [e1]; omega)]; exact hK_newE
  · rw [hR_sR_a (by omega)]; exact hR_sR
  · show hK (hNew (hNew h 11 0) 103 6) (hN h + 1) = 103
    exact hK_newE (h := hNew h 11 0)
  · show hL (hNew (hNew h 11 0) 103 6) (hN h + 1) = 6
    exact hL_newE (h := hNew h 11 0)
  · show aI (hNew (hNew h 11 0) 103 6) (hN h + 1) j = 0
    exact aI_newE (h := hNew h 11 0)
  · exact (((zEq_new (by omega)).trans (zEq_new (by rw [e1]; omega))).trans (zEq_sR (by omega))).trans (zEq_sR h2)
  · rw [hR_sR_f hg, hR_sR_a (by omega), hR_new (by rw [e1]; omega), hR_new (by omega)]
  · show hK (hNew (hNew h 11 0) 103 6) b = hK h b
    rw [hK_new (by rw [e1]; omega), hK_new (by omega)]
  · show hI (hNew (hNew h 11 0) 103 6) g b = hI h g b
    rw [hI_new (by rw [e1]; omega), hI_new (by omega)]
theorem gi1 {h : zH} {b : Nat} (hk : hK h b = 7) (hn : hN h = b + 1) (h0 : ∀ f, hI h f b = 0) : ∃ H, H = (sR (sR (sR (hNew (hNew (hNew h 12 0) 11 0) 103 6) 320 (b + 1 + 1) (some (b + 1 + 2))) 352 (b + 1) (some (b + 1 + 1))) 192 b (some (b + 1))) ∧ hN H = b + 4 ∧ zPs H (b + 1) ∧ (∀ j, aI H (b + 3) j = 0) ∧ hI H 353 (b + 1) = 0 ∧ (∀ c, c < b → zEq h H c) ∧ hR H 192 b = some (b + 1) ∧ hK H b = 7 ∧ (∀ g, hI H g b = 0) := by
  have e1 : hN (hNew h 12 0) = b + 2 := congrArg (· + 1) hn
  have e2 : hN (hNew (hNew h 12 0) 11 0) = b + 3 := congrArg (· + 1) e1
  refine ⟨_, rfl, congrArg (· + 1) e2, ⟨?_, ?_, ⟨?_, ?_, ?_, ?_⟩⟩, fun j => ?_, ?_, fun c hc => ?_, hR_sR, ?_, fun g => ?_⟩
  · show hK (hNew (hNew (hNew h 12 0) 11 0) 103 6) (b + 1) = 12
    rw [hK_new (by omega), hK_new (by omega), ← hn]; exact hK_newE
  · rw [hR_sR_a (by omega)]; exact hR_sR
  · show hK (hNew (hNew (hNew h 12 0) 11 0) 103 6) (b + 2) = 11
    rw [hK_new (by omega), ← e1]; exact hK_newE
  · rw [hR_sR_a (by omega), hR_sR_a (by omega)]; exact hR_sR
  · show hK (hNew (hNew (hNew h 12 0) 11 0) 103 6) (b + 3) = 103
    rw [← e2]; exact hK_newE
  · show hL (hNew (hNew (hNew h 12 0) 11 0) 103 6) (b + 3) = 6
    rw [← e2]; exact hL_newE
  · show aI (hNew (hNew (hNew h 12 0) 11 0) 103 6) (b + 3) j = 0
    rw [← e2]; exact aI_newE
  · show hI (hNew (hNew (hNew h 12 0) 11 0) 103 6) 353 (b + 1) = 0
    rw [hI_new (by omega), hI_new (by omega), ← hn]; exact hI_newE
  · exact (((((zEq_new (by omega)).trans (zEq_new (by omega))).trans (zEq_new (by omega))).trans (zEq_sR (by omega))).trans (zEq_sR (by omega))).trans (zEq_sR (by omega))
  · show hK (hNew (hNew (hNew h 12 0) 11 0) 103 6) b = 7
    rw [hK_new (by omega), hK_new (by omega), hK_new (by omega), hk]
  · show hI (hNew (hNew (hNew h 12 0) 11 0) 103 6) g b = 0
    rw [hI_new (by omega), hI_new (by omega), hI_new (by omega), h0]
theorem gi2 {h A B D : zH} {b : Nat} (a1 : hN A = b + 4) (a2 : zPs A (b + 1)) (a3 : ∀ j, aI A (b + 3) j = 0) (a4 : hI A 353 (b + 1) = 0) (a5 : ∀ c, c < b → zEq h A c) (a6 : hR A 192 b = some (b + 1)) (a7 : hK A b = 7) (a8 : ∀ g, hI A g b = 0) (hle : hN h ≤ hN A)
    (b2 : zLs B (b + 4)) (b3 : ∀ j, aI B (b + 4 + 1) j = 0) (b4 : ∀ c, c < b + 4 → c ≠ b → zEq A B c) (b5 : hR B 193 b = some (b + 4)) (b6 : ∀ g, g ≠ 193 → hR B g b = hR A g b) (b7 : hK B b = hK A b) (b8 : ∀ g, hI B g b = hI A g b)
    (d1 : hN D = b + 8) (d2 : zLs D (b + 6)) (d3 : ∀ j, aI D (b + 6 + 1) j = 0) (d4 : ∀ c, c < b + 6 → c ≠ b → zEq B D c) (d5 : hR D 194 b = some (b + 6)) (d6 : ∀ g, g ≠ 194 → hR D g b = hR B g b) (d7 : hK D b = hK B b) (d8 : ∀ g, hI D g b = hI B g b) :
    zGi (sI (sR (hNew D 106 12) 195 b (some (b + 8))) 199 b (nI 3)) b (fun _ => 0) 0 ∧ zEx h (sI (sR (hNew D 106 12) 195 b (some (b + 8))) 199 b (nI 3)) b := by
  have e9 : ∀ c, c < b + 8 → c ≠ b → zEq D (sI (sR (hNew D 106 12) 195 b (some (b + 8))) 199 b (nI 3)) c := fun c h1 h2 => ((zEq_new (by omega)).trans (zEq_sR h2)).trans (zEq_sI h2)
  have i9 : ∀ f, f ≠ 199 → hI (sI (sR (hNew D 106 12) 195 b (some (b + 8))) 199 b (nI 3)) f b = 0 := fun f hf => by
    rw [hI_sI_f hf]
    show hI (hNew D 106 12) f b = 0
    rw [hI_new (by omega), d8, b8, a8]
  have r9 : ∀ f, f ≠ 195 → hR (sI (sR (hNew D 106 12) 195 b (some (b + 8))) 199 b (nI 3)) f b = hR D f b := fun f hf => by
    show hR (sR (hNew D 106 12) 195 b (some (b + 8))) f b = _
    rw [hR_sR_f hf, hR_new (by omega)]
  refine ⟨⟨congrArg (· + 1) d1, ?_, ?_, ?_, ?_, hR_sR, ?_, ?_, ?_, ⟨?_, ?_⟩, fun i hi => absurd hi (by omega), fun j hj => ?_, ?_, fun j hj => ?_, fun j hj => ?_, i9 _ (by decide), i9 _ (by decide), i9 _ (by decide), hI_sI, i9 _ (by decide), i9 _ (by decide), i9 _ (by decide), i9 _ (by decide)⟩, ?_⟩
  · show hK (hNew D 106 12) b = 7
    rw [hK_new (by omega), d7, b7, a7]
  · rw [r9 _ (by decide), d6 _ (by decide), b6 _ (by decide), a6]
  · rw [r9 _ (by decide), d6 _ (by decide), b5]
  · rw [r9 _ (by decide), d5]
  · exact zPs_e (zPs_e (zPs_e a2 (b4 _ (by omega) (by omega)) (b4 _ (by omega) (by omega)) (b4 _ (by omega) (by omega))) (d4 _ (by omega) (by omega)) (d4 _ (by omega) (by omega)) (d4 _ (by omega) (by omega))) (e9 _ (by omega) (by omega)) (e9 _ (by omega) (by omega)) (e9 _ (by omega) (by omega))
  · exact zLs_e (zLs_e b2 (d4 _ (by omega) (by omega)) (d4 _ (by omega) (by omega))) (e9 _ (by omega) (by omega)) (e9 _ (by omega) (by omega))
  · exact zLs_e d2 (e9 _ (by omega) (by omega)) (e9 _ (by omega) (by omega))
  · show hK (hNew D 106 12) (b + 8) = 106
    rw [← d1]; exact hK_newE
  · show hL (hNew D 106 12) (b + 8) = 12
    rw [← d1]; exact hL_newE
  · exact (congrFun (((b4 (b + 3) (by omega) (by omega)).trans (d4 (b + 3) (by omega) (by omega))).trans (e9 _ (by omega) (by omega))).2.2.2.2.1 j).trans (a3 j)
  · exact ((((b4 (b + 1) (by omega) (by omega)).trans (d4 (b + 1) (by omega) (by omega))).trans (e9 _ (by omega) (by omega))).2.2.2.1 _).trans a4
  · exact (congrFun ((d4 (b + 5) (by omega) (by omega)).trans (e9 _ (by omega) (by omega))).2.2.2.2.1 j).trans (b3 j)
  · exact (congrFun (e9 (b + 7) (by omega) (by omega)).2.2.2.2.1 j).trans (d3 j)
  · refine ⟨?_, fun c hc => (((a5 c hc).trans (b4 c (by omega) (by omega))).trans (d4 c (by omega) (by omega))).trans (e9 c (by omega) (by omega))⟩
    show hN h ≤ hN D + 1
    omega
theorem ch9 {X : zX} {kc ks pc m b : Nat} {h h0 : zH} {s : Nat → Nat} {lo : List (Nat × Value)} {st : List Value} (q : zGi h b s m) (f : zEx h0 h b) (k : ∀ h', zGi h' b s (m + 1) → zEx h0 h' b → zV X kc ks h' pc lo st) : zV X kc ks (saR (hNew h 5 0) (b + 8) m (some (hN h))) pc lo st := by
  rw [show hN h = b + 9 + m from q.1]
  exact k _ (zGi_chair q) ((f.new (by have := q.1; omega)).saR (by omega))
theorem sh9 {X : zX} {kc ks pc m b k : Nat} {h h0 : zH} {s : Nat → Nat} {lo : List (Nat × Value)} {st : List Value} (q : zGi h b s m) (f : zEx h0 h b) (kk : ∀ h', zGi h' b (upN s k 5) m → zEx h0 h' b → zV X kc ks h' pc lo st) : zV X kc ks (saI h (b + 4 + 1) k (nI 5)) pc lo st := kk _ (zGi_shade q) (f.saI (by omega))
set_option maxHeartbeats 4000000 in
set_option maxRecDepth 100000 in
theorem s_Ginit {l : Launch} {E : zG} (hzs : zS E) (hst : l.stackTraces = false) (h0 : zH) (b : Nat) (hk : hK h0 b = 7) (hn : hN h0 = b + 1) (h9 : ∀ f, hI h0 f b = 0) : zMet l E yX3_init cX3_init 2 none ({ frames := 3, cells := 20, slots := 95, locals := 60 } : Room) 20 95 [.ref b] h0 (fun r h' => r = none ∧ zGa h' b g00 ∧ hN h' = b + 21 ∧ zEx h0 h' b) (fun _ _ => False) := by
  refine zM_start hzs hst (by decide) (Nat.le_of_ble_eq_true rfl) (fun X C G F I => ?_)
  show zV X 0 0 _ 0 [(0, _)] []
  have I := I rfl
  refine zV.aload_n C dX3_init_0 rfl rfl ?_
  refine zV.obj C G dX3_init_1 ⟨lk_X3_3, im_Oinit, cd_Oinit⟩ rfl rfl ?_
  refine zV.aload_n C dX3_init_4 rfl rfl ?_
  refine zV.new C G dX3_init_5 zcl_X8 ⟨lk_X3_9, it_X8, in_X8⟩ (by decide) rfl ?_
  refine zV.dup C dX3_init_8 rfl ?_
  refine zV.callIN (n := 0) C G dX3_init_9 (s_Paths_init hzs hst (hNew h0 12 0) (hN h0) hK_newE rfl) rfl ⟨cd_X8_init, lk_X3_11, im_X8_init, in_X8⟩ rfl ⟨⟨by decide, by decide⟩, by decide⟩ rfl rfl rfl (zafv ?_) (zno)
  refine zV.pFR 192 (k := 0) C dX3_init_12 zcl_X3 (by decide) rfl lk_X3_12 rfl I rfl ((hK_new (h := hNew (hNew h0 12 0) 11 0) (k := 103) (z := 6) (by show b ≠ hN h0 + 1 + 1; omega)).trans ((hK_new (h := hNew h0 12 0) (k := 11) (z := 0) (by show b ≠ hN h0 + 1; omega)).trans ((hK_new (h := h0) (k := 12) (z := 0) (by omega)).trans hk))) rfl (fun _ => ⟨rfl, rfl⟩) ?_
  obtain ⟨A, eA, a1, a2, a3, a4, a5, a6, a7, a8⟩ := gi1 hk hn h9
  rw [hn, ← eA]
  have hle : hN h0 ≤ hN A := by omega
  clear eA
  refine zV.aload_n C dX3_init_15 rfl rfl ?_
  refine zV.new C G dX3_init_16 zcl_X7 ⟨lk_X3_18, it_X7, in_X7⟩ (by decide) rfl ?_
  refine zV.dup C dX3_init_19 rfl ?_
  refine zV.callIN (n := 0) C G dX3_init_20 (s_LawnRow_init hzs hst (hNew A 11 0) (hN A) hK_newE rfl) rfl ⟨cd_X7_init, lk_X3_20, im_X7_init, in_X7⟩ rfl ⟨⟨by decide, by decide⟩, by decide⟩ rfl rfl rfl (zafv ?_) (zno)
  refine zV.pFR 193 (k := 1) C dX3_init_23 zcl_X3 (by decide) rfl lk_X3_21 rfl I rfl ((hK_new (h := hNew A 11 0) (k := 103) (z := 6) (by show b ≠ hN A + 1; omega)).trans ((hK_new (h := A) (k := 11) (z := 0) (by omega)).trans a7)) rfl (fun _ => ⟨rfl, rfl⟩) ?_
  obtain ⟨B, eB, b1, b2, b3, b4, b5, b6, b7, b8⟩ := gi_row (f := 193) a1 (by omega : b < b + 4)
  rw [a1, ← eB]
  clear eB
  have b1 : hN B = b + 6 := b1
  refine zV.aload_n C dX3_init_26 rfl rfl ?_
  refine zV.new C G dX3_init_27 zcl_X7 ⟨lk_X3_18, it_X7, in_X7⟩ (by decide) rfl ?_
  refine zV.dup C dX3_init_30 rfl ?_
  refine zV.callIN (n := 0) C G dX3_init_31 (s_LawnRow_init hzs hst (hNew B 11 0) (hN B) hK_newE rfl) rfl ⟨cd_X7_init, lk_X3_20, im_X7_init, in_X7⟩ rfl ⟨⟨by decide, by decide⟩, by decide⟩ rfl rfl rfl (zafv ?_) (zno)
  refine zV.pFR 194 (k := 2) C dX3_init_34 zcl_X3 (by decide) rfl lk_X3_25 rfl I rfl ((hK_new (h := hNew B 11 0) (k := 103) (z := 6) (by show b ≠ hN B + 1; omega)).trans ((hK_new (h := B) (k := 11) (z := 0) (by omega)).trans (b7.trans a7))) rfl (fun _ => ⟨rfl, rfl⟩) ?_
  obtain ⟨D, eD, d1, d2, d3, d4, d5, d6, d7, d8⟩ := gi_row (f := 194) b1 (by omega : b < b + 6)
  rw [b1, ← eD]
  clear eD
  have d1 : hN D = b + 8 := d1
  refine zV.aload_n C dX3_init_37 rfl rfl ?_
  refine zV.bi (v := nI 12) C dX3_init_38 (by decide) ?_
  refine zV.newQC (n := 12) C G dX3_init_40 ⟨lk_X3_28, ao_object_ChairMigration_Chair⟩ (rfl) (by decide) rfl ?_
  refine zV.pFR 195 (k := 3) C dX3_init_43 zcl_X3 (by decide) rfl lk_X3_30 rfl I rfl ((hK_new (h := D) (k := 106) (z := 12) (by omega)).trans (d7.trans (b7.trans a7))) rfl (fun _ => ⟨rfl, rfl⟩) ?_
  refine zV.aload_n C dX3_init_46 rfl rfl ?_
  refine zV.ic (v := nI 3) C dX3_init_47 (by decide) ?_
  refine zV.pI 199 (k := 7) C dX3_init_48 zcl_X3 (by decide) rfl lk_X3_34 rfl ((hK_new (h := D) (k := 106) (z := 12) (by omega)).trans (d7.trans (b7.trans a7))) rfl ⟨rfl, rfl⟩ ?_
  rw [d1]
  obtain ⟨q, f⟩ := gi2 a1 a2 a3 a4 a5 a6 a7 a8 hle b2 b3 b4 b5 b6 b7 b8 d1 d2 d3 d4 d5 d6 d7 d8
  generalize sI (sR (hNew D 106 12) 195 b (some (b + 8))) 199 b (nI 3) = h at q f ⊢
  refine zV.ic (v := nI 0) C dX3_init_51 (by decide) ?_
  refine zV.istore_n (lo' := [(0, _), (1, _)]) C dX3_init_52 (by decide) rfl rfl rfl ?_
  refine zV.iload_n C dX3_init_53 rfl ?_
  refine zV.bi (v := nI 6) C dX3_init_54 (by decide) ?_
  refine zV.icmp_ge (tgt := 74) C dX3_init_56 (by decide) (fun q56 => ?_) (fun q56 => ?_)
  · exact absurd q56 (by decide)
  · refine zV.aload_n C dX3_init_59 rfl rfl ?_
    refine zV.gR 193 (k := 1) C dX3_init_60 zcl_X3 (by decide) rfl lk_X3_21 (q.2.1) rfl (q.2.2.2.1) ?_
    refine zV.iload_n C dX3_init_63 rfl ?_
    refine zV.ic (v := nI 5) C dX3_init_64 (by decide) ?_
    refine zV.callV (n := 2) C G dX3_init_65 (s_LawnRow_set hzs hst h (b + 4) 0 (nI 5) (by decide) q.2.2.2.2.2.2.2.1) rfl ⟨cd_X7_set, lk_X3_38, im_X7_set, se_X7_X7_set, in_X7⟩ ⟨⟨by decide, by decide⟩, by decide⟩ rfl rfl rfl (q.2.2.2.2.2.2.2.1.1) ⟨rfl, by decide⟩ (zafv ?_) (zno)
    refine zV.iinc (lo' := [(0, _), (1, _)]) C dX3_init_68 rfl (by decide) rfl rfl rfl ?_
    refine zV.goto (tgt := 53) C dX3_init_71 (by decide) ?_
    rw [inc1]
    refine sh9 (k := 0) q f (fun h q f => ?_)
    refine zV.iload_n C dX3_init_53 rfl ?_
    refine zV.bi (v := nI 6) C dX3_init_54 (by decide) ?_
    refine zV.icmp_ge (tgt := 74) C dX3_init_56 (by decide) (fun q56 => ?_) (fun q56 => ?_)
    · exact absurd q56 (by decide)
    · refine zV.aload_n C dX3_init_59 rfl rfl ?_
      refine zV.gR 193 (k := 1) C dX3_init_60 zcl_X3 (by decide) rfl lk_X3_21 (q.2.1) rfl (q.2.2.2.1) ?_
      refine zV.iload_n C dX3_init_63 rfl ?_
      refine zV.ic (v := nI 5) C dX3_init_64 (by decide) ?_
      refine zV.callV (n := 2) C G dX3_init_65 (s_LawnRow_set hzs hst h (b + 4) 1 (nI 5) (by decide) q.2.2.2.2.2.2.2.1) rfl ⟨cd_X7_set, lk_X3_38, im_X7_set, se_X7_X7_set, in_X7⟩ ⟨⟨by decide, by decide⟩, by decide⟩ rfl rfl rfl (q.2.2.2.2.2.2.2.1.1) ⟨rfl, by decide⟩ (zafv ?_) (zno)
      refine zV.iinc (lo' := [(0, _), (1, _)]) C dX3_init_68 rfl (by decide) rfl rfl rfl ?_
      refine zV.goto (tgt := 53) C dX3_init_71 (by decide) ?_
      rw [inc1]
      refine sh9 (k := 1) q f (fun h q f => ?_)
      refine zV.iload_n C dX3_init_53 rfl ?_
      refine zV.bi (v := nI 6) C dX3_init_54 (by decide) ?_
      refine zV.icmp_ge (tgt := 74) C dX3_init_56 (by decide) (fun q56 => ?_) (fun q56 => ?_)
      · exact absurd q56 (by decide)
      · refine zV.aload_n C dX3_init_59 rfl rfl ?_
        refine zV.gR 193 (k := 1) C dX3_init_60 zcl_X3 (by decide) rfl lk_X3_21 (q.2.1) rfl (q.2.2.2.1) ?_
        refine zV.iload_n C dX3_init_63 rfl ?_
        refine zV.ic (v := nI 5) C dX3_init_64 (by decide) ?_
        refine zV.callV (n := 2) C G dX3_init_65 (s_LawnRow_set hzs hst h (b + 4) 2 (nI 5) (by decide) q.2.2.2.2.2.2.2.1) rfl ⟨cd_X7_set, lk_X3_38, im_X7_set, se_X7_X7_set, in_X7⟩ ⟨⟨by decide, by decide⟩, by decide⟩ rfl rfl rfl (q.2.2.2.2.2.2.2.1.1) ⟨rfl, by decide⟩ (zafv ?_) (zno)
        refine zV.iinc (lo' := [(0, _), (1, _)]) C dX3_init_68 rfl (by decide) rfl rfl rfl ?_
        refine zV.goto (tgt := 53) C dX3_init_71 (by decide) ?_
        rw [inc1]
        refine sh9 (k := 2) q f (fun h q f => ?_)
        refine zV.iload_n C dX3_init_53 rfl ?_
        refine zV.bi (v := nI 6) C dX3_init_54 (by decide) ?_
        refine zV.icmp_ge (tgt := 74) C dX3_init_56 (by decide) (fun q56 => ?_) (fun q56 => ?_)
        · exact absurd q56 (by decide)
        · refine zV.aload_n C dX3_init_59 rfl rfl ?_
          refine zV.gR 193 (k := 1) C dX3_init_60 zcl_X3 (by decide) rfl lk_X3_21 (q.2.1) rfl (q.2.2.2.1) ?_
          refine zV.iload_n C dX3_init_63 rfl ?_
          refine zV.ic (v := nI 5) C dX3_init_64 (by decide) ?_
          refine zV.callV (n := 2) C G dX3_init_65 (s_LawnRow_set hzs hst h (b + 4) 3 (nI 5) (by decide) q.2.2.2.2.2.2.2.1) rfl ⟨cd_X7_set, lk_X3_38, im_X7_set, se_X7_X7_set, in_X7⟩ ⟨⟨by decide, by decide⟩, by decide⟩ rfl rfl rfl (q.2.2.2.2.2.2.2.1.1) ⟨rfl, by decide⟩ (zafv ?_) (zno)
          refine zV.iinc (lo' := [(0, _), (1, _)]) C dX3_init_68 rfl (by decide) rfl rfl rfl ?_
          refine zV.goto (tgt := 53) C dX3_init_71 (by decide) ?_
          rw [inc1]
          refine sh9 (k := 3) q f (fun h q f => ?_)
          refine zV.iload_n C dX3_init_53 rfl ?_
          refine zV.bi (v := nI 6) C dX3_init_54 (by decide) ?_
          refine zV.icmp_ge (tgt := 74) C dX3_init_56 (by decide) (fun q56 => ?_) (fun q56 => ?_)
          · exact absurd q56 (by decide)
          · refine zV.aload_n C dX3_init_59 rfl rfl ?_
            refine zV.gR 193 (k := 1) C dX3_init_60 zcl_X3 (by decide) rfl lk_X3_21 (q.2.1) rfl (q.2.2.2.1) ?_
            refine zV.iload_n C dX3_init_63 rfl ?_
            refine zV.ic (v := nI 5) C dX3_init_64 (by decide) ?_
            refine zV.callV (n := 2) C G dX3_init_65 (s_LawnRow_set hzs hst h (b + 4) 4 (nI 5) (by decide) q.2.2.2.2.2.2.2.1) rfl ⟨cd_X7_set, lk_X3_38, im_X7_set, se_X7_X7_set, in_X7⟩ ⟨⟨by decide, by decide⟩, by decide⟩ rfl rfl rfl (q.2.2.2.2.2.2.2.1.1) ⟨rfl, by decide⟩ (zafv ?_) (zno)
            refine zV.iinc (lo' := [(0, _), (1, _)]) C dX3_init_68 rfl (by decide) rfl rfl rfl ?_
            refine zV.goto (tgt := 53) C dX3_init_71 (by decide) ?_
            rw [inc1]
            refine sh9 (k := 4) q f (fun h q f => ?_)
            refine zV.iload_n C dX3_init_53 rfl ?_
            refine zV.bi (v := nI 6) C dX3_init_54 (by decide) ?_
            refine zV.icmp_ge (tgt := 74) C dX3_init_56 (by decide) (fun q56 => ?_) (fun q56 => ?_)
            · exact absurd q56 (by decide)
            · refine zV.aload_n C dX3_init_59 rfl rfl ?_
              refine zV.gR 193 (k := 1) C dX3_init_60 zcl_X3 (by decide) rfl lk_X3_21 (q.2.1) rfl (q.2.2.2.1) ?_
              refine zV.iload_n C dX3_init_63 rfl ?_
              refine zV.ic (v := nI 5) C dX3_init_64 (by decide) ?_
              refine zV.callV (n := 2) C G dX3_init_65 (s_LawnRow_set hzs hst h (b + 4) 5 (nI 5) (by decide) q.2.2.2.2.2.2.2.1) rfl ⟨cd_X7_set, lk_X3_38, im_X7_set, se_X7_X7_set, in_X7⟩ ⟨⟨by decide, by decide⟩, by decide⟩ rfl rfl rfl (q.2.2.2.2.2.2.2.1.1) ⟨rfl, by decide⟩ (zafv ?_) (zno)
              refine zV.iinc (lo' := [(0, _), (1, _)]) C dX3_init_68 rfl (by decide) rfl rfl rfl ?_
              refine zV.goto (tgt := 53) C dX3_init_71 (by decide) ?_
              rw [inc1]
              refine sh9 (k := 5) q f (fun h q f => ?_)
              refine zV.iload_n C dX3_init_53 rfl ?_
              refine zV.bi (v := nI 6) C dX3_init_54 (by decide) ?_
              refine zV.icmp_ge (tgt := 74) C dX3_init_56 (by decide) (fun q56 => ?_) (fun q56 => ?_)
              · refine zV.ic (v := nI 0) C dX3_init_74 (by decide) ?_
                refine zV.istore_n (lo' := [(0, _), (1, _)]) C dX3_init_75 (by decide) rfl rfl rfl ?_
                refine zV.iload_n C dX3_init_76 rfl ?_
                refine zV.bi (v := nI 12) C dX3_init_77 (by decide) ?_
                refine zV.icmp_ge (tgt := 101) C dX3_init_79 (by decide) (fun q79 => ?_) (fun q79 => ?_)
                · exact absurd q79 (by decide)
                · refine zV.aload_n C dX3_init_82 rfl rfl ?_
                  refine zV.gR 195 (k := 3) C dX3_init_83 zcl_X3 (by decide) rfl lk_X3_30 (q.2.1) rfl (q.2.2.2.2.2.1) ?_
                  refine zV.iload_n C dX3_init_86 rfl ?_
                  refine zV.new C G dX3_init_87 zcl_X0 ⟨lk_X3_28, it_X0, in_X0⟩ (by decide) rfl ?_
                  refine zV.dup C dX3_init_90 rfl ?_
                  refine zV.callIN (n := 0) C G dX3_init_91 (s_Chair_init hzs hst (hNew h 5 0) (hN h) hK_newE) rfl ⟨cd_X0_init, lk_X3_42, im_X0_init, in_X0⟩ rfl ⟨⟨by decide, by decide⟩, by decide⟩ rfl rfl rfl (zafv ?_) (zno)
                  refine zV.aastC (j := 0) C dX3_init_94 ((hK_new (by have := q.1; omega)).trans q.2.2.2.2.2.2.2.2.2.1.1) (rfl) (Nat.lt_of_lt_of_eq (show 0 < 12 by decide) ((hL_new (by have := q.1; omega)).trans q.2.2.2.2.2.2.2.2.2.1.2).symm) (by omega) (hK_newE (h := h)) ?_
                  refine zV.iinc (lo' := [(0, _), (1, _)]) C dX3_init_95 rfl (by decide) rfl rfl rfl ?_
                  refine zV.goto (tgt := 76) C dX3_init_98 (by decide) ?_
                  rw [inc1]
                  refine ch9 q f (fun h q f => ?_)
                  refine zV.iload_n C dX3_init_76 rfl ?_
                  refine zV.bi (v := nI 12) C dX3_init_77 (by decide) ?_
                  refine zV.icmp_ge (tgt := 101) C dX3_init_79 (by decide) (fun q79 => ?_) (fun q79 => ?_)
                  · exact absurd q79 (by decide)
                  · refine zV.aload_n C dX3_init_82 rfl rfl ?_
                    refine zV.gR 195 (k := 3) C dX3_init_83 zcl_X3 (by decide) rfl lk_X3_30 (q.2.1) rfl (q.2.2.2.2.2.1) ?_
                    refine zV.iload_n C dX3_init_86 rfl ?_
                    refine zV.new C G dX3_init_87 zcl_X0 ⟨lk_X3_28, it_X0, in_X0⟩ (by decide) rfl ?_
                    refine zV.dup C dX3_init_90 rfl ?_
                    refine zV.callIN (n := 0) C G dX3_init_91 (s_Chair_init hzs hst (hNew h 5 0) (hN h) hK_newE) rfl ⟨cd_X0_init, lk_X3_42, im_X0_init, in_X0⟩ rfl ⟨⟨by decide, by decide⟩, by decide⟩ rfl rfl rfl (zafv ?_) (zno)
                    refine zV.aastC (j := 1) C dX3_init_94 ((hK_new (by have := q.1; omega)).trans q.2.2.2.2.2.2.2.2.2.1.1) (rfl) (Nat.lt_of_lt_of_eq (show 1 < 12 by decide) ((hL_new (by have := q.1; omega)).trans q.2.2.2.2.2.2.2.2.2.1.2).symm) (by omega) (hK_newE (h := h)) ?_
                    refine zV.iinc (lo' := [(0, _), (1, _)]) C dX3_init_95 rfl (by decide) rfl rfl rfl ?_
                    refine zV.goto (tgt := 76) C dX3_init_98 (by decide) ?_
                    rw [inc1]
                    refine ch9 q f (fun h q f => ?_)
                    refine zV.iload_n C dX3_init_76 rfl ?_
                    refine zV.bi (v := nI 12) C dX3_init_77 (by decide) ?_
                    refine zV.icmp_ge (tgt := 101) C dX3_init_79 (by decide) (fun q79 => ?_) (fun q79 => ?_)
                    · exact absurd q79 (by decide)
                    · refine zV.aload_n C dX3_init_82 rfl rfl ?_
                      refine zV.gR 195 (k := 3) C dX3_init_83 zcl_X3 (by decide) rfl lk_X3_30 (q.2.1) rfl (q.2.2.2.2.2.1) ?_
                      refine zV.iload_n C dX3_init_86 rfl ?_
                      refine zV.new C G dX3_init_87 zcl_X0 ⟨lk_X3_28, it_X0, in_X0⟩ (by decide) rfl ?_
                      refine zV.dup C dX3_init_90 rfl ?_
                      refine zV.callIN (n := 0) C G dX3_init_91 (s_Chair_init hzs hst (hNew h 5 0) (hN h) hK_newE) rfl ⟨cd_X0_init, lk_X3_42, im_X0_init, in_X0⟩ rfl ⟨⟨by decide, by decide⟩, by decide⟩ rfl rfl rfl (zafv ?_) (zno)
                      refine zV.aastC (j := 2) C dX3_init_94 ((hK_new (by have := q.1; omega)).trans q.2.2.2.2.2.2.2.2.2.1.1) (rfl) (Nat.lt_of_lt_of_eq (show 2 < 12 by decide) ((hL_new (by have := q.1; omega)).trans q.2.2.2.2.2.2.2.2.2.1.2).symm) (by omega) (hK_newE (h := h)) ?_
                      refine zV.iinc (lo' := [(0, _), (1, _)]) C dX3_init_95 rfl (by decide) rfl rfl rfl ?_
                      refine zV.goto (tgt := 76) C dX3_init_98 (by decide) ?_
                      rw [inc1]
                      refine ch9 q f (fun h q f => ?_)
                      refine zV.iload_n C dX3_init_76 rfl ?_
                      refine zV.bi (v := nI 12) C dX3_init_77 (by decide) ?_
                      refine zV.icmp_ge (tgt := 101) C dX3_init_79 (by decide) (fun q79 => ?_) (fun q79 => ?_)
                      · exact absurd q79 (by decide)
                      · refine zV.aload_n C dX3_init_82 rfl rfl ?_
                        refine zV.gR 195 (k := 3) C dX3_init_83 zcl_X3 (by decide) rfl lk_X3_30 (q.2.1) rfl (q.2.2.2.2.2.1) ?_
                        refine zV.iload_n C dX3_init_86 rfl ?_
                        refine zV.new C G dX3_init_87 zcl_X0 ⟨lk_X3_28, it_X0, in_X0⟩ (by decide) rfl ?_
                        refine zV.dup C dX3_init_90 rfl ?_
                        refine zV.callIN (n := 0) C G dX3_init_91 (s_Chair_init hzs hst (hNew h 5 0) (hN h) hK_newE) rfl ⟨cd_X0_init, lk_X3_42, im_X0_init, in_X0⟩ rfl ⟨⟨by decide, by decide⟩, by decide⟩ rfl rfl rfl (zafv ?_) (zno)
                        refine zV.aastC (j := 3) C dX3_init_94 ((hK_new (by have := q.1; omega)).trans q.2.2.2.2.2.2.2.2.2.1.1) (rfl) (Nat.lt_of_lt_of_eq (show 3 < 12 by decide) ((hL_new (by have := q.1; omega)).trans q.2.2.2.2.2.2.2.2.2.1.2).symm) (by omega) (hK_newE (h := h)) ?_
                        refine zV.iinc (lo' := [(0, _), (1, _)]) C dX3_init_95 rfl (by decide) rfl rfl rfl ?_
                        refine zV.goto (tgt := 76) C dX3_init_98 (by decide) ?_
                        rw [inc1]
                        refine ch9 q f (fun h q f => ?_)
                        refine zV.iload_n C dX3_init_76 rfl ?_
                        refine zV.bi (v := nI 12) C dX3_init_77 (by decide) ?_
                        refine zV.icmp_ge (tgt := 101) C dX3_init_79 (by decide) (fun q79 => ?_) (fun q79 => ?_)
                        · exact absurd q79 (by decide)
                        · refine zV.aload_n C dX3_init_82 rfl rfl ?_
                          refine zV.gR 195 (k := 3) C dX3_init_83 zcl_X3 (by decide) rfl lk_X3_30 (q.2.1) rfl (q.2.2.2.2.2.1) ?_
                          refine zV.iload_n C dX3_init_86 rfl ?_
                          refine zV.new C G dX3_init_87 zcl_X0 ⟨lk_X3_28, it_X0, in_X0⟩ (by decide) rfl ?_
                          refine zV.dup C dX3_init_90 rfl ?_
                          refine zV.callIN (n := 0) C G dX3_init_91 (s_Chair_init hzs hst (hNew h 5 0) (hN h) hK_newE) rfl ⟨cd_X0_init, lk_X3_42, im_X0_init, in_X0⟩ rfl ⟨⟨by decide, by decide⟩, by decide⟩ rfl rfl rfl (zafv ?_) (zno)
                          refine zV.aastC (j := 4) C dX3_init_94 ((hK_new (by have := q.1; omega)).trans q.2.2.2.2.2.2.2.2.2.1.1) (rfl) (Nat.lt_of_lt_of_eq (show 4 < 12 by decide) ((hL_new (by have := q.1; omega)).trans q.2.2.2.2.2.2.2.2.2.1.2).symm) (by omega) (hK_newE (h := h)) ?_
                          refine zV.iinc (lo' := [(0, _), (1, _)]) C dX3_init_95 rfl (by decide) rfl rfl rfl ?_
                          refine zV.goto (tgt := 76) C dX3_init_98 (by decide) ?_
                          rw [inc1]
                          refine ch9 q f (fun h q f => ?_)
                          refine zV.iload_n C dX3_init_76 rfl ?_
                          refine zV.bi (v := nI 12) C dX3_init_77 (by decide) ?_
                          refine zV.icmp_ge (tgt := 101) C dX3_init_79 (by decide) (fun q79 => ?_) (fun q79 => ?_)
                          · exact absurd q79 (by decide)
                          · refine zV.aload_n C dX3_init_82 rfl rfl ?_
                            refine zV.gR 195 (k := 3) C dX3_init_83 zcl_X3 (by decide) rfl lk_X3_30 (q.2.1) rfl (q.2.2.2.2.2.1) ?_
                            refine zV.iload_n C dX3_init_86 rfl ?_
                            refine zV.new C G dX3_init_87 zcl_X0 ⟨lk_X3_28, it_X0, in_X0⟩ (by decide) rfl ?_
                            refine zV.dup C dX3_init_90 rfl ?_
                            refine zV.callIN (n := 0) C G dX3_init_91 (s_Chair_init hzs hst (hNew h 5 0) (hN h) hK_newE) rfl ⟨cd_X0_init, lk_X3_42, im_X0_init, in_X0⟩ rfl ⟨⟨by decide, by decide⟩, by decide⟩ rfl rfl rfl (zafv ?_) (zno)
                            refine zV.aastC (j := 5) C dX3_init_94 ((hK_new (by have := q.1; omega)).trans q.2.2.2.2.2.2.2.2.2.1.1) (rfl) (Nat.lt_of_lt_of_eq (show 5 < 12 by decide) ((hL_new (by have := q.1; omega)).trans q.2.2.2.2.2.2.2.2.2.1.2).symm) (by omega) (hK_newE (h := h)) ?_
                            refine zV.iinc (lo' := [(0, _), (1, _)]) C dX3_init_95 rfl (by decide) rfl rfl rfl ?_
                            refine zV.goto (tgt := 76) C dX3_init_98 (by decide) ?_
                            rw [inc1]
                            refine ch9 q f (fun h q f => ?_)
                            refine zV.iload_n C dX3_init_76 rfl ?_
                            refine zV.bi (v := nI 12) C dX3_init_77 (by decide) ?_
                            refine zV.icmp_ge (tgt := 101) C dX3_init_79 (by decide) (fun q79 => ?_) (fun q79 => ?_)
                            · exact absurd q79 (by decide)
                            · refine zV.aload_n C dX3_init_82 rfl rfl ?_
                              refine zV.gR 195 (k := 3) C dX3_init_83 zcl_X3 (by decide) rfl lk_X3_30 (q.2.1) rfl (q.2.2.2.2.2.1) ?_
                              refine zV.iload_n C dX3_init_86 rfl ?_
                              refine zV.new C G dX3_init_87 zcl_X0 ⟨lk_X3_28, it_X0, in_X0⟩ (by decide) rfl ?_
                              refine zV.dup C dX3_init_90 rfl ?_
                              refine zV.callIN (n := 0) C G dX3_init_91 (s_Chair_init hzs hst (hNew h 5 0) (hN h) hK_newE) rfl ⟨cd_X0_init, lk_X3_42, im_X0_init, in_X0⟩ rfl ⟨⟨by decide, by decide⟩, by decide⟩ rfl rfl rfl (zafv ?_) (zno)
                              refine zV.aastC (j := 6) C dX3_init_94 ((hK_new (by have := q.1; omega)).trans q.2.2.2.2.2.2.2.2.2.1.1) (rfl) (Nat.lt_of_lt_of_eq (show 6 < 12 by decide) ((hL_new (by have := q.1; omega)).trans q.2.2.2.2.2.2.2.2.2.1.2).symm) (by omega) (hK_newE (h := h)) ?_
                              refine zV.iinc (lo' := [(0, _), (1, _)]) C dX3_init_95 rfl (by decide) rfl rfl rfl ?_
                              refine zV.goto (tgt := 76) C dX3_init_98 (by decide) ?_
                              rw [inc1]
                              refine ch9 q f (fun h q f => ?_)
                              refine zV.iload_n C dX3_init_76 rfl ?_
                              refine zV.bi (v := nI 12) C dX3_init_77 (by decide) ?_
                              refine zV.icmp_ge (tgt := 101) C dX3_init_79 (by decide) (fun q79 => ?_) (fun q79 => ?_)
                              · exact absurd q79 (by decide)
                              · refine zV.aload_n C dX3_init_82 rfl rfl ?_
                                refine zV.gR 195 (k := 3) C dX3_init_83 zcl_X3 (by decide) rfl lk_X3_30 (q.2.1) rfl (q.2.2.2.2.2.1) ?_
                                refine zV.iload_n C dX3_init_86 rfl ?_
                                refine zV.new C G dX3_init_87 zcl_X0 ⟨lk_X3_28, it_X0, in_X0⟩ (by decide) rfl ?_
                                refine zV.dup C dX3_init_90 rfl ?_
                                refine zV.callIN (n := 0) C G dX3_init_91 (s_Chair_init hzs hst (hNew h 5 0) (hN h) hK_newE) rfl ⟨cd_X0_init, lk_X3_42, im_X0_init, in_X0⟩ rfl ⟨⟨by decide, by decide⟩, by decide⟩ rfl rfl rfl (zafv ?_) (zno)
                                refine zV.aastC (j := 7) C dX3_init_94 ((hK_new (by have := q.1; omega)).trans q.2.2.2.2.2.2.2.2.2.1.1) (rfl) (Nat.lt_of_lt_of_eq (show 7 < 12 by decide) ((hL_new (by have := q.1; omega)).trans q.2.2.2.2.2.2.2.2.2.1.2).symm) (by omega) (hK_newE (h := h)) ?_
                                refine zV.iinc (lo' := [(0, _), (1, _)]) C dX3_init_95 rfl (by decide) rfl rfl rfl ?_
                                refine zV.goto (tgt := 76) C dX3_init_98 (by decide) ?_
                                rw [inc1]
                                refine ch9 q f (fun h q f => ?_)
                                refine zV.iload_n C dX3_init_76 rfl ?_
                                refine zV.bi (v := nI 12) C dX3_init_77 (by decide) ?_
                                refine zV.icmp_ge (tgt := 101) C dX3_init_79 (by decide) (fun q79 => ?_) (fun q79 => ?_)
                                · exact absurd q79 (by decide)
                                · refine zV.aload_n C dX3_init_82 rfl rfl ?_
                                  refine zV.gR 195 (k := 3) C dX3_init_83 zcl_X3 (by decide) rfl lk_X3_30 (q.2.1) rfl (q.2.2.2.2.2.1) ?_
                                  refine zV.iload_n C dX3_init_86 rfl ?_
                                  refine zV.new C G dX3_init_87 zcl_X0 ⟨lk_X3_28, it_X0, in_X0⟩ (by decide) rfl ?_
                                  refine zV.dup C dX3_init_90 rfl ?_
                                  refine zV.callIN (n := 0) C G dX3_init_91 (s_Chair_init hzs hst (hNew h 5 0) (hN h) hK_newE) rfl ⟨cd_X0_init, lk_X3_42, im_X0_init, in_X0⟩ rfl ⟨⟨by decide, by decide⟩, by decide⟩ rfl rfl rfl (zafv ?_) (zno)
                                  refine zV.aastC (j := 8) C dX3_init_94 ((hK_new (by have := q.1; omega)).trans q.2.2.2.2.2.2.2.2.2.1.1) (rfl) (Nat.lt_of_lt_of_eq (show 8 < 12 by decide) ((hL_new (by have := q.1; omega)).trans q.2.2.2.2.2.2.2.2.2.1.2).symm) (by omega) (hK_newE (h := h)) ?_
                                  refine zV.iinc (lo' := [(0, _), (1, _)]) C dX3_init_95 rfl (by decide) rfl rfl rfl ?_
                                  refine zV.goto (tgt := 76) C dX3_init_98 (by decide) ?_
                                  rw [inc1]
                                  refine ch9 q f (fun h q f => ?_)
                                  refine zV.iload_n C dX3_init_76 rfl ?_
                                  refine zV.bi (v := nI 12) C dX3_init_77 (by decide) ?_
                                  refine zV.icmp_ge (tgt := 101) C dX3_init_79 (by decide) (fun q79 => ?_) (fun q79 => ?_)
                                  · exact absurd q79 (by decide)
                                  · refine zV.aload_n C dX3_init_82 rfl rfl ?_
                                    refine zV.gR 195 (k := 3) C dX3_init_83 zcl_X3 (by decide) rfl lk_X3_30 (q.2.1) rfl (q.2.2.2.2.2.1) ?_
                                    refine zV.iload_n C dX3_init_86 rfl ?_
                                    refine zV.new C G dX3_init_87 zcl_X0 ⟨lk_X3_28, it_X0, in_X0⟩ (by decide) rfl ?_
                                    refine zV.dup C dX3_init_90 rfl ?_
                                    refine zV.callIN (n := 0) C G dX3_init_91 (s_Chair_init hzs hst (hNew h 5 0) (hN h) hK_newE) rfl ⟨cd_X0_init, lk_X3_42, im_X0_init, in_X0⟩ rfl ⟨⟨by decide, by decide⟩, by decide⟩ rfl rfl rfl (zafv ?_) (zno)
                                    refine zV.aastC (j := 9) C dX3_init_94 ((hK_new (by have := q.1; omega)).trans q.2.2.2.2.2.2.2.2.2.1.1) (rfl) (Nat.lt_of_lt_of_eq (show 9 < 12 by decide) ((hL_new (by have := q.1; omega)).trans q.2.2.2.2.2.2.2.2.2.1.2).symm) (by omega) (hK_newE (h := h)) ?_
                                    refine zV.iinc (lo' := [(0, _), (1, _)]) C dX3_init_95 rfl (by decide) rfl rfl rfl ?_
                                    refine zV.goto (tgt := 76) C dX3_init_98 (by decide) ?_
                                    rw [inc1]
                                    refine ch9 q f (fun h q f => ?_)
                                    refine zV.iload_n C dX3_init_76 rfl ?_
                                    refine zV.bi (v := nI 12) C dX3_init_77 (by decide) ?_
                                    refine zV.icmp_ge (tgt := 101) C dX3_init_79 (by decide) (fun q79 => ?_) (fun q79 => ?_)
                                    · exact absurd q79 (by decide)
                                    · refine zV.aload_n C dX3_init_82 rfl rfl ?_
                                      refine zV.gR 195 (k := 3) C dX3_init_83 zcl_X3 (by decide) rfl lk_X3_30 (q.2.1) rfl (q.2.2.2.2.2.1) ?_
                                      refine zV.iload_n C dX3_init_86 rfl ?_
                                      refine zV.new C G dX3_init_87 zcl_X0 ⟨lk_X3_28, it_X0, in_X0⟩ (by decide) rfl ?_
                                      refine zV.dup C dX3_init_90 rfl ?_
                                      refine zV.callIN (n := 0) C G dX3_init_91 (s_Chair_init hzs hst (hNew h 5 0) (hN h) hK_newE) rfl ⟨cd_X0_init, lk_X3_42, im_X0_init, in_X0⟩ rfl ⟨⟨by decide, by decide⟩, by decide⟩ rfl rfl rfl (zafv ?_) (zno)
                                      refine zV.aastC (j := 10) C dX3_init_94 ((hK_new (by have := q.1; omega)).trans q.2.2.2.2.2.2.2.2.2.1.1) (rfl) (Nat.lt_of_lt_of_eq (show 10 < 12 by decide) ((hL_new (by have := q.1; omega)).trans q.2.2.2.2.2.2.2.2.2.1.2).symm) (by omega) (hK_newE (h := h)) ?_
                                      refine zV.iinc (lo' := [(0, _), (1, _)]) C dX3_init_95 rfl (by decide) rfl rfl rfl ?_
                                      refine zV.goto (tgt := 76) C dX3_init_98 (by decide) ?_
                                      rw [inc1]
                                      refine ch9 q f (fun h q f => ?_)
                                      refine zV.iload_n C dX3_init_76 rfl ?_
                                      refine zV.bi (v := nI 12) C dX3_init_77 (by decide) ?_
                                      refine zV.icmp_ge (tgt := 101) C dX3_init_79 (by decide) (fun q79 => ?_) (fun q79 => ?_)
                                      · exact absurd q79 (by decide)
                                      · refine zV.aload_n C dX3_init_82 rfl rfl ?_
                                        refine zV.gR 195 (k := 3) C dX3_init_83 zcl_X3 (by decide) rfl lk_X3_30 (q.2.1) rfl (q.2.2.2.2.2.1) ?_
                                        refine zV.iload_n C dX3_init_86 rfl ?_
                                        refine zV.new C G dX3_init_87 zcl_X0 ⟨lk_X3_28, it_X0, in_X0⟩ (by decide) rfl ?_
                                        refine zV.dup C dX3_init_90 rfl ?_
                                        refine zV.callIN (n := 0) C G dX3_init_91 (s_Chair_init hzs hst (hNew h 5 0) (hN h) hK_newE) rfl ⟨cd_X0_init, lk_X3_42, im_X0_init, in_X0⟩ rfl ⟨⟨by decide, by decide⟩, by decide⟩ rfl rfl rfl (zafv ?_) (zno)
                                        refine zV.aastC (j := 11) C dX3_init_94 ((hK_new (by have := q.1; omega)).trans q.2.2.2.2.2.2.2.2.2.1.1) (rfl) (Nat.lt_of_lt_of_eq (show 11 < 12 by decide) ((hL_new (by have := q.1; omega)).trans q.2.2.2.2.2.2.2.2.2.1.2).symm) (by omega) (hK_newE (h := h)) ?_
                                        refine zV.iinc (lo' := [(0, _), (1, _)]) C dX3_init_95 rfl (by decide) rfl rfl rfl ?_
                                        refine zV.goto (tgt := 76) C dX3_init_98 (by decide) ?_
                                        rw [inc1]
                                        refine ch9 q f (fun h q f => ?_)
                                        refine zV.iload_n C dX3_init_76 rfl ?_
                                        refine zV.bi (v := nI 12) C dX3_init_77 (by decide) ?_
                                        refine zV.icmp_ge (tgt := 101) C dX3_init_79 (by decide) (fun q79 => ?_) (fun q79 => ?_)
                                        · refine zV.vret C F dX3_init_101 rfl ?_
                                          exact ⟨rfl, zGi_end q (fun j hj => by rcases lt6 hj with rfl | rfl | rfl | rfl | rfl | rfl <;> rfl), q.1, f⟩
                                        · exact absurd (show nI 12 ≤ nI 12 from by decide) q79
              · exact absurd (show nI 6 ≤ nI 6 from by decide) q56
