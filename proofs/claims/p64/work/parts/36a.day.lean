/-! Garden: collapse, a day -/
/-- the places i and s change their chairs -/
def swp (i s j : Nat) : Nat := if j = s then i else if j = i then s else j
theorem swp_lt {i s j : Nat} (h1 : i < 12) (h2 : s < 12) (h3 : j < 12) : swp i s j < 12 := by
  unfold swp
  split
  · exact h1
  · split <;> assumption
theorem swp_inj {i s j k : Nat} (e : swp i s j = swp i s k) : j = k := by
  unfold swp at e
  split at e <;> split at e <;> (try split at e) <;> (try split at e) <;> omega
-- A stays, B fell, C is still to come
theorem swp_list {A B C : List zCh} {c : zCh} : ∃ B' : List zCh, B'.length = B.length ∧ ∀ (j : Nat) (d : zCh), (A ++ [c] ++ B' ++ C)[j]? = some d → (A ++ B ++ c :: C)[swp (A.length + B.length) A.length j]? = some d := by
  cases B with
  | nil =>
    refine ⟨[], rfl, fun j d h => ?_⟩
    have e : swp (A.length + ([] : List zCh).length) A.length j = j := by
      unfold swp
      rw [List.length_nil, Nat.add_zero]
      split <;> simp_all
    rw [e]
    simpa using h
  | cons b0 B0 =>
    refine ⟨B0 ++ [b0], by simp, fun j d h => ?_⟩
    unfold swp
    by_cases q : j = A.length
    · rw [if_pos q]
      subst q
      have h1 : (A ++ [c] ++ (B0 ++ [b0]) ++ C)[A.length]? = some c := by
        rw [List.append_assoc, List.append_assoc, List.getElem?_append_right (Nat.le_refl _), Nat.sub_self]
        rfl
      rw [h1] at h
      rw [List.append_assoc, List.getElem?_append_right (by omega), Nat.add_sub_cancel_left, List.getElem?_append_right (Nat.le_refl _), Nat.sub_self]
      exact h
    · rw [if_neg q]
      by_cases q2 : j = A.length + (b0 :: B0).length
      · rw [if_pos q2]
        subst q2
        rw [List.append_assoc, List.append_assoc, List.getElem?_append_right (by omega), Nat.add_sub_cancel_left] at h
        rw [List.append_assoc, List.getElem?_append_right (Nat.le_refl _), Nat.sub_self]
        rw [List.length_cons, List.singleton_append, List.getElem?_cons_succ, List.append_assoc, List.getElem?_append_right (Nat.le_refl _), Nat.sub_self] at h
        exact h
      · rw [if_neg q2]
        rcases Nat.lt_or_ge j A.length with z | z
        · rw [List.append_assoc, List.append_assoc, List.getElem?_append_left z] at h
          rw [List.append_assoc, List.getElem?_append_left z]
          exact h
        · obtain ⟨k, rfl⟩ : ∃ k, j = A.length + k := ⟨j - A.length, by omega⟩
          obtain ⟨k, rfl⟩ : ∃ m, k = m + 1 := ⟨k - 1, by omega⟩
          rw [List.append_assoc, List.append_assoc, List.getElem?_append_right (by omega), Nat.add_sub_cancel_left, List.singleton_append, List.getElem?_cons_succ, List.append_assoc] at h
          rw [List.append_assoc, List.getElem?_append_right (by omega), Nat.add_sub_cancel_left, List.cons_append, List.getElem?_cons_succ]
          rw [List.length_cons] at q2
          rcases Nat.lt_or_ge k B0.length with y | y
          · rw [List.getElem?_append_left y] at h ⊢
            exact h
          · rw [List.getElem?_append_right y] at h ⊢
            obtain ⟨m, e⟩ : ∃ m, k - B0.length = m + 1 := ⟨k - B0.length - 1, by omega⟩
            rw [e] at h ⊢
            exact h
theorem zGx_swp {h : zH} {b i s : Nat} {g : zGd} {cs : List zCh} (q : zGx h b g) (hi : i < 12) (hs : s < 12) (e : cs.length = (gC g).length) (hl : (gC g).length ≤ 12) (hp : ∀ (j : Nat) (d : zCh), cs[j]? = some d → (gC g)[swp i s j]? = some d) : zGx (saR (saR h (b + 8) i (some (cA h b s))) (b + 8) s (some (cA h b i))) b (gwC g cs) := by
  obtain ⟨q1, q2, q3, q4, q5, q6⟩ := q
  refine ⟨q1, q2, q3, q4, zCs_perm (swp i s) q5 (by show cs.length ≤ 12; omega) (fun j hj => ?_) rfl (fun j hj => swp_lt hi hs hj) (fun j k _ _ e => swp_inj e) (fun j d _ hd => hp j d hd), zNs_list (show zNs _ b g from q6) e⟩
  unfold swp
  by_cases z : j = s
  · subst z
    rw [aR_saR, if_pos rfl, (q5.1 i hi).1]
  · rw [aR_saR_i z, if_neg z]
    by_cases y : j = i
    · subst y
      rw [aR_saR, if_pos rfl, (q5.1 s hs).1]
    · rw [aR_saR_i y, if_neg y]
theorem zSz_R {h : zH} {a i b : Nat} {v : Option Nat} {z : Nat → Nat} (q : zSz h b z) : zSz (saR h a i v) b z := q
theorem nGx {h : zH} {b : Nat} {g : zGd} (q : zGx h b g) : zNs h b g := q.2.2.2.2.2
theorem cGx {h : zH} {b : Nat} {g : zGd} (q : zGx h b g) : zCs h b (gC g) := q.2.2.2.2.1
