/-! Garden: the herds by their places -/
/-- the herd of the lawn l -/
def hd (cs : List zCh) (l : Nat) : List zCh := cs.filter (fun c => decide (chL c = l))
theorem hd_len (cs : List zCh) (l : Nat) : (hd cs l).length = hsz cs l := List.countP_eq_length_filter.symm
theorem hd_cons {c : zCh} {t : List zCh} {l : Nat} : hd (c :: t) l = if chL c = l then c :: hd t l else hd t l := by
  unfold hd
  rw [List.filter_cons]
  by_cases q : chL c = l
  · rw [if_pos (decide_eq_true q), if_pos q]
  · rw [if_neg (fun z => q (of_decide_eq_true z)), if_neg q]
theorem fdH_at {l p : Nat} : ∀ {t : List zCh} {q k : Nat}, q ≤ p → p < q + (hd t l).length → p < 2 ^ 30 → ∃ i c, fdH l (nI p) t q k = some (k + i) ∧ t[i]? = some c ∧ (hd t l)[p - q]? = some c ∧ chL c = l ∧ q + hsz (t.take i) l = p
  | [], q, k, h1, h2, _ => by simp [hd] at h2; omega
  | c :: t, q, k, h1, h2, h3 => by
    rw [hd_cons] at h2 ⊢
    rw [fdH]
    by_cases e : chL c = l
    · rw [if_pos e] at h2 ⊢
      rw [if_pos e]
      by_cases e2 : q = p
      · subst e2
        exact ⟨0, c, by rw [if_pos rfl]; rfl, rfl, by rw [Nat.sub_self]; rfl, e, rfl⟩
      · rw [if_neg (fun z => e2 ((neqn (by omega) (by omega)).mp z))]
        obtain ⟨i, d, f1, f2, f3, f4, f5⟩ := fdH_at (l := l) (p := p) (t := t) (q := q + 1) (k := k + 1) (by omega) (by simp only [List.length_cons] at h2; omega) h3
        refine ⟨i + 1, d, by rw [f1, show k + 1 + i = k + (i + 1) by omega], f2, by rw [show p - q = (p - (q + 1)) + 1 by omega]; exact f3, f4, ?_⟩
        rw [List.take_succ_cons, ← f5]
        unfold hsz
        rw [cnt_cons, if_pos (decide_eq_true e)]
        omega
    · rw [if_neg e] at h2 ⊢
      rw [if_neg e]
      obtain ⟨i, d, f1, f2, f3, f4, f5⟩ := fdH_at (l := l) (p := p) (t := t) (q := q) (k := k + 1) h1 h2 h3
      refine ⟨i + 1, d, by rw [f1, show k + 1 + i = k + (i + 1) by omega], f2, f3, f4, ?_⟩
      rw [List.take_succ_cons, ← f5]
      unfold hsz
      rw [cnt_cons, if_neg (fun z => e (of_decide_eq_true z))]
      omega
theorem fd_at {cs : List zCh} {l p : Nat} (h : p < hsz cs l) (h2 : p < 2 ^ 30) : ∃ k c, fdH l (nI p) cs 0 0 = some k ∧ cs[k]? = some c ∧ (hd cs l)[p]? = some c ∧ chL c = l ∧ hsz (cs.take k) l = p := by
  obtain ⟨i, c, f1, f2, f3, f4, f5⟩ := fdH_at (l := l) (p := p) (t := cs) (q := 0) (k := 0) (by omega) (by rw [hd_len]; omega) h2
  exact ⟨i, c, by rw [f1, Nat.zero_add], f2, f3, f4, by omega⟩
theorem hsz_lt {cs : List zCh} {i j l : Nat} {c : zCh} (h : cs[i]? = some c) (hc : chL c = l) (hij : i < j) (hj : j ≤ cs.length) : hsz (cs.take i) l < hsz (cs.take j) l := by
  have h1 := hsz_take h l
  rw [if_pos hc] at h1
  have h2 : hsz (cs.take (i + 1)) l ≤ hsz (cs.take j) l := by
    have e : cs.take (i + 1) = (cs.take j).take (i + 1) := by rw [List.take_take, Nat.min_eq_left (by omega)]
    rw [e]
    exact (List.take_sublist _ _).countP_le
  omega
theorem hsz_inj {cs : List zCh} {i j l : Nat} {c d : zCh} (h : cs[i]? = some c) (h2 : cs[j]? = some d) (hc : chL c = l) (hd9 : chL d = l) (e : hsz (cs.take i) l = hsz (cs.take j) l) : i = j := by
  have hi := (List.getElem?_eq_some_iff.mp h).1
  have hj := (List.getElem?_eq_some_iff.mp h2).1
  rcases Nat.lt_trichotomy i j with q | q | q
  · exact absurd (hsz_lt h hc q (by omega)) (by omega)
  · exact q
  · exact absurd (hsz_lt h2 hd9 q (by omega)) (by omega)
theorem rsum_app (a b : List zCh) : rsum (a ++ b) = rsum a + rsum b := by
  induction a with
  | nil => simp [rsum]
  | cons c t ih => simp only [List.cons_append, rsum, ih]; omega
theorem rsum_take {cs : List zCh} {k : Nat} {c : zCh} (h : cs[k]? = some c) : rsum (cs.take (k + 1)) = rsum (cs.take k) + chR c := by
  rw [List.take_add_one, h, rsum_app]
  rfl
-- the rust of the herds of the first n lawns
def rhS (cs : List zCh) : Nat → Nat
  | 0 => 0
  | n + 1 => rhS cs n + rsum (hd cs n)
theorem rhS_eq (n : Nat) : ∀ {cs : List zCh}, (∀ c ∈ cs, chL c < n) → rhS cs n = rsum cs := by
  have key : ∀ (cs : List zCh), rhS cs n = rsum (cs.filter (fun c => decide (chL c < n))) := by
    intro cs
    induction n with
    | zero =>
      rw [List.filter_eq_nil_iff.mpr (fun a _ z => absurd (of_decide_eq_true z) (Nat.not_lt_zero _))]
      rfl
    | succ n ih =>
      rw [rhS, ih]
      clear ih
      induction cs with
      | nil => rfl
      | cons c t ih =>
        rw [hd_cons, List.filter_cons, List.filter_cons]
        by_cases q1 : chL c < n
        · rw [if_pos (decide_eq_true q1), if_neg (by omega), if_pos (decide_eq_true (by omega)), rsum, rsum, ← ih]
          omega
        · by_cases q2 : chL c = n
          · rw [if_neg (fun z => q1 (of_decide_eq_true z)), if_pos q2, if_pos (decide_eq_true (by omega)), rsum, rsum, ← ih]
            omega
          · rw [if_neg (fun z => q1 (of_decide_eq_true z)), if_neg q2, if_neg (fun z => by have := of_decide_eq_true z; omega), ← ih]
  intro cs h
  rw [key, List.filter_eq_self.mpr (fun c hc => decide_eq_true (h c hc))]
/-- how often the chair was found: at the lawn m, ahead of the place p -/
def chSeen (cs : List zCh) (j : Nat) (c0 : zCh) (m p : Nat) : Nat := if chL c0 < m ∨ (chL c0 = m ∧ hsz (cs.take j) m < p) then 1 else 0