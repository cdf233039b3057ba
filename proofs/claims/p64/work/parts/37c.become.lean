/-- a garden that may be written over -/
def zGt (h : zH) (b : Nat) : Prop := zGs h b ∧ zCs h b []
theorem zGa_t {h : zH} {b : Nat} {g : zGd} (q : zGa h b g) : zGt h b := ⟨q.1, zCs_list (zGa_cs q) (fun k c hc => by cases k <;> cases hc)⟩
theorem zGt_fr {h h' : zH} {b d : Nat} (q : zGt h d) (f : zFr h h' b) (hd : d + 21 ≤ b ∨ b + 21 ≤ d) : zGt h' d := by
  obtain ⟨f1, f2, f3, f4, f5, f6, f7, f8⟩ := f
  exact ⟨zGs_same q.1 f2 f3 f4, zCs_same q.2 (fun k => (f8 _ k (by omega)).2) (fun f k hk => f7 _ _ (by have := q.2.1 k hk; omega)) (fun _ _ => trivial) (Nat.zero_le _)⟩
theorem chCopy_ne {h : zH} {a c f x : Nat} (q : x ≠ a) : hI (chCopy h a c) f x = hI h f x := (hI_sI_a q).trans ((hI_sI_a q).trans ((hI_sI_a q).trans ((hI_sI_a q).trans (hI_sI_a q))))
theorem chCopy_0 {h : zH} {a c : Nat} : hI (chCopy h a c) 128 a = hI h 128 c := (hI_sI_f (by decide)).trans ((hI_sI_f (by decide)).trans ((hI_sI_f (by decide)).trans ((hI_sI_f (by decide)).trans hI_sI)))
theorem chCopy_1 {h : zH} {a c : Nat} : hI (chCopy h a c) 129 a = hI h 129 c := (hI_sI_f (by decide)).trans ((hI_sI_f (by decide)).trans ((hI_sI_f (by decide)).trans hI_sI))
theorem chCopy_2 {h : zH} {a c : Nat} : hI (chCopy h a c) 130 a = hI h 130 c := (hI_sI_f (by decide)).trans ((hI_sI_f (by decide)).trans hI_sI)
theorem chCopy_3 {h : zH} {a c : Nat} : hI (chCopy h a c) 131 a = hI h 131 c := (hI_sI_f (by decide)).trans hI_sI
theorem chCopy_4 {h : zH} {a c : Nat} : hI (chCopy h a c) 132 a = hI h 132 c := hI_sI
theorem chCopy_fr {h : zH} {a c b : Nat} (h1 : b ≤ a) (h2 : a < b + 21) : zFr h (chCopy h a c) b := (((((zFr.refl h b).sI h1 h2).sI h1 h2).sI h1 h2).sI h1 h2).sI h1 h2
theorem zCs_put2 {h h' : zH} {b k : Nat} {cs cs' : List zCh} (q : zCs h b cs) (hk : k < 12) (hl : cs'.length ≤ 12) (h1 : ∀ k, aR h' (b + 8) k = aR h (b + 8) k) (h2 : ∀ f a, a ≠ cA h b k → hI h' f a = hI h f a) (h3 : hI h' 132 (cA h b k) = nI 0 ∨ hI h' 132 (cA h b k) = nI 1) (h4 : ∀ (j : Nat) (d : zCh), j ≠ k → cs'[j]? = some d → cs[j]? = some d) (h5 : ∀ (d : zCh), cs'[k]? = some d → chAt h' (cA h b k) d) : zCs h' b cs' := by
  have e : ∀ k, cA h' b k = cA h b k := fun k => cA_same (h1 k)
  refine ⟨fun k hk => ?_, fun i j hi hj z => ?_, fun j c hc => ?_, fun j hj => ?_⟩
  · rw [e k, h1 k]; exact q.1 k hk
  · rw [e, e] at z; exact q.2.1 i j hi hj z
  · have hj : j < 12 := Nat.lt_of_lt_of_le (List.getElem?_eq_some_iff.mp hc).1 hl
    rw [e j]
    by_cases z : j = k
    · subst z
      exact h5 c hc
    · exact chAt_same (fun f => h2 f _ (fun y => z (q.2.1 j k hj hk y))) (q.2.2.1 j c (h4 j c z hc))
  · rw [e j]
    by_cases z : j = k
    · subst z
      exact h3
    · rw [h2 132 _ (fun y => z (q.2.1 j k hj hk y))]; exact q.2.2.2 j hj
/-- the garden b once k chairs are copied -/
def zGm (h : zH) (b : Nat) (g : zGd) (k : Nat) : Prop := zGs h b ∧ zPa h (b + 1) (gN g) ∧ hI h 353 (b + 1) = nI (gP g) ∧ (∀ j, j < 6 → aI h (b + 5) j = nI (gS g j)) ∧ (∀ j, j < 6 → aI h (b + 7) j = nI (hsz (gC g) j)) ∧ zCs h b ((gC g).take k) ∧ hI h 196 b = nI (gC g).length
theorem zGm_step {h : zH} {b d k : Nat} {g : zGd} (q : zGm h b g k) (hk : k < 12) (hg : zGa h d g) (hl : (gC g).length ≤ 12) (hd : d + 21 ≤ b ∨ b + 21 ≤ d) : zGm (chCopy h (cA h b k) (cA h d k)) b g (k + 1) := by
  obtain ⟨q1, q2, q3, q4, q5, q6, q7⟩ := q
  have cb := (q6.1 k hk).2
  refine ⟨q1, q2, (chCopy_ne (by omega)).trans q3, q4, q5, zCs_put2 q6 hk (by rw [List.length_take]; omega) (fun _ => rfl) (fun f a z => chCopy_ne z) (by rw [chCopy_4]; exact zGa_f hg hk) (fun j c z w => ?_) (fun c w => ?_), (chCopy_ne (by omega)).trans q7⟩
  · rw [List.getElem?_take] at w ⊢
    split at w
    · rw [if_pos (by omega)]; exact w
    · cases w
  · rw [List.getElem?_take, if_pos (by omega)] at w
    obtain ⟨c1, c2, c3, c4, c5⟩ := zGa_c hg w
    exact ⟨chCopy_0.trans c1, chCopy_1.trans c2, chCopy_2.trans c3, chCopy_3.trans c4, chCopy_4.trans c5⟩
theorem cpy6 {f g : Nat → Int32} {j : Nat} (hj : j < 6) : va_cpy f g 0 0 6 j = f j := by
  unfold va_cpy
  rw [if_pos ⟨by omega, by omega⟩]
  congr 1
  omega
def bcH (h : zH) (b d : Nat) : zH := sI (sRow (sRow (sI (sRow h (b + 3) (va_cpy (aI h (d + 3)) (aI h (b + 3)) 0 0 6)) 353 (b + 1) (hI h 353 (d + 1))) (b + 5) (va_cpy (aI h (d + 5)) (aI h (b + 5)) 0 0 6)) (b + 7) (va_cpy (aI h (d + 7)) (aI h (b + 7)) 0 0 6)) 196 b (hI h 196 d)
theorem bc0 {h : zH} {b d : Nat} {g : zGd} (hb : zGt h b) (hg : zGa h d g) (hl : (gC g).length ≤ 12) (hd : d + 21 ≤ b ∨ b + 21 ≤ d) : zGm (bcH h b d) b g 0 ∧ zFr h (bcH h b d) b := by
  have f : zFr h (bcH h b d) b := (((((zFr.refl h b).sRow (by omega) (by omega)).sI (by omega) (by omega)).sRow (by omega) (by omega)).sRow (by omega) (by omega)).sI (by omega) (by omega)
  have e3 : ∀ j, j < 6 → aI (bcH h b d) (b + 3) j = aI h (d + 3) j := fun j hj => by
    show (if b + 3 = b + 7 then _ else if b + 3 = b + 5 then _ else if b + 3 = b + 3 then va_cpy (aI h (d + 3)) (aI h (b + 3)) 0 0 6 else _) j = _
    rw [if_neg (by omega), if_neg (by omega), if_pos rfl, cpy6 hj]
  have e5 : ∀ j, j < 6 → aI (bcH h b d) (b + 5) j = aI h (d + 5) j := fun j hj => by
    show (if b + 5 = b + 7 then _ else if b + 5 = b + 5 then va_cpy (aI h (d + 5)) (aI h (b + 5)) 0 0 6 else _) j = _
    rw [if_neg (by omega), if_pos rfl, cpy6 hj]
  have e7 : ∀ j, j < 6 → aI (bcH h b d) (b + 7) j = aI h (d + 7) j := fun j hj => by
    show (if b + 7 = b + 7 then va_cpy (aI h (d + 7)) (aI h (b + 7)) 0 0 6 else _) j = _
    rw [if_pos rfl, cpy6 hj]
  have p := zGa_pa hg
  refine ⟨⟨hb.1, ⟨hb.1.2.2.2.2.2.1, fun j hj => ⟨(e3 j hj).trans (p.2 j hj).1, (p.2 j hj).2⟩⟩, ?_, fun j hj => (e5 j hj).trans (zGa_s hg j hj), fun j hj => (e7 j hj).trans (zGa_h hg j hj), ?_, hI_sI.trans (zGa_len hg)⟩, f⟩
  · exact ((hI_sI_a (by omega)).trans hI_sI).trans (zGa_p hg)
  · rw [List.take_zero]
    refine zCs_same hb.2 (fun _ => rfl) (fun f k hk => ?_) (fun _ _ => trivial) (Nat.zero_le _)
    have := hb.2.1 k hk
    exact (hI_sI_a (by omega)).trans (hI_sI_a (by omega))
theorem bc9 {h : zH} {b d : Nat} {g : zGd} (q : zGm h b g 12) (hg : zGa h d g) (hl : (gC g).length ≤ 12) : zGa (sI (sI (sI (sI (sI (sI (sI h 197 b (hI h 197 d)) 198 b (hI h 198 d)) 199 b (hI h 199 d)) 200 b (hI h 200 d)) 201 b (hI h 201 d)) 202 b (hI h 202 d)) 203 b (hI h 203 d)) b g ∧ zFr h (sI (sI (sI (sI (sI (sI (sI h 197 b (hI h 197 d)) 198 b (hI h 198 d)) 199 b (hI h 199 d)) 200 b (hI h 200 d)) 201 b (hI h 201 d)) 202 b (hI h 202 d)) 203 b (hI h 203 d)) b := by
  have n := zGa_n hg
  have ht : (gC g).take 12 = gC g := List.take_of_length_le hl
  refine ⟨⟨q.1, q.2.1, ?_, q.2.2.2.1, q.2.2.2.2.1, ?_, ?_⟩, (((((((zFr.refl h b).sI (by omega) (by omega)).sI (by omega) (by omega)).sI (by omega) (by omega)).sI (by omega) (by omega)).sI (by omega) (by omega)).sI (by omega) (by omega)).sI (by omega) (by omega)⟩
  · exact (hI_sI_a (by omega)).trans ((hI_sI_a (by omega)).trans ((hI_sI_a (by omega)).trans ((hI_sI_a (by omega)).trans ((hI_sI_a (by omega)).trans ((hI_sI_a (by omega)).trans ((hI_sI_a (by omega)).trans (q.2.2.1)))))))
  · have c := q.2.2.2.2.2.1
    rw [ht] at c
    refine zCs_same c (fun _ => rfl) (fun f k hk => ?_) (fun _ _ => trivial) hl
    have := c.1 k hk
    exact (hI_sI_a (by omega)).trans ((hI_sI_a (by omega)).trans ((hI_sI_a (by omega)).trans ((hI_sI_a (by omega)).trans ((hI_sI_a (by omega)).trans ((hI_sI_a (by omega)).trans ((hI_sI_a (by omega)).trans (rfl)))))))
  · exact ⟨((hI_sI_f (by decide)).trans ((hI_sI_f (by decide)).trans ((hI_sI_f (by decide)).trans ((hI_sI_f (by decide)).trans ((hI_sI_f (by decide)).trans ((hI_sI_f (by decide)).trans ((hI_sI_f (by decide)).trans (q.2.2.2.2.2.2)))))))), ((hI_sI_f (by decide)).trans ((hI_sI_f (by decide)).trans ((hI_sI_f (by decide)).trans ((hI_sI_f (by decide)).trans ((hI_sI_f (by decide)).trans ((hI_sI_f (by decide)).trans (hI_sI.trans n.2.1))))))), ((hI_sI_f (by decide)).trans ((hI_sI_f (by decide)).trans ((hI_sI_f (by decide)).trans ((hI_sI_f (by decide)).trans ((hI_sI_f (by decide)).trans (hI_sI.trans n.2.2.1)))))), ((hI_sI_f (by decide)).trans ((hI_sI_f (by decide)).trans ((hI_sI_f (by decide)).trans ((hI_sI_f (by decide)).trans (hI_sI.trans n.2.2.2.1))))), ((hI_sI_f (by decide)).trans ((hI_sI_f (by decide)).trans ((hI_sI_f (by decide)).trans (hI_sI.trans n.2.2.2.2.1)))), ((hI_sI_f (by decide)).trans ((hI_sI_f (by decide)).trans (hI_sI.trans n.2.2.2.2.2.1))), ((hI_sI_f (by decide)).trans (hI_sI.trans n.2.2.2.2.2.2.1)), (hI_sI.trans n.2.2.2.2.2.2.2)⟩
