/-! the reference: lists of chairs -/
theorem er_key {α : Type} (key : α → Nat) {L : List α} {q : Nat} {a : α} (nd : (L.map key).Nodup) (h : L[q]? = some a) : L.eraseIdx q = L.filter (fun b => decide (key b ≠ key a)) := by
  induction L generalizing q with
  | nil => cases h
  | cons d t ih =>
    rw [List.map_cons, List.nodup_cons] at nd
    rcases q with _ | q
    · rw [List.getElem?_cons_zero] at h
      cases h
      rw [List.eraseIdx_cons_zero, List.filter_cons, if_neg (by simp)]
      refine (List.filter_eq_self.mpr (fun b hb => ?_)).symm
      exact decide_eq_true (fun e => nd.1 (e ▸ List.mem_map.mpr ⟨b, hb, rfl⟩))
    · rw [List.getElem?_cons_succ] at h
      rw [List.eraseIdx_cons_succ, List.filter_cons, if_pos (decide_eq_true (show key d ≠ key a from fun e => nd.1 (e ▸ List.mem_map.mpr ⟨a, List.mem_of_getElem? h, rfl⟩))), ih nd.2 h]
theorem perm_set {α : Type} {L : List α} {q : Nat} {a b : α} (h : L[q]? = some a) : (L.set q b).Perm (b :: L.eraseIdx q) := by
  induction L generalizing q with
  | nil => cases h
  | cons d t ih =>
    rcases q with _ | q
    · exact List.Perm.refl _
    · rw [List.getElem?_cons_succ] at h
      rw [List.set_cons_succ, List.eraseIdx_cons_succ]
      exact ((ih h).cons d).trans (List.Perm.swap b d _)
theorem perm_er {cs ds : List zCh} {j k : Nat} {c : zCh} (p : cs.Perm ds) (nd : (ds.map chI).Nodup) (h1 : cs[j]? = some c) (h2 : ds[k]? = some c) : (cs.eraseIdx j).Perm (ds.eraseIdx k) := by
  rw [er_key chI ((p.map chI).nodup_iff.mpr nd) h1, er_key chI nd h2]
  exact p.filter _
theorem perm_st {cs ds : List zCh} {j k : Nat} {c : zCh} (c' : zCh) (p : cs.Perm ds) (nd : (ds.map chI).Nodup) (h1 : cs[j]? = some c) (h2 : ds[k]? = some c) : (cs.set j c').Perm (ds.set k c') :=
  ((perm_set h1).trans ((perm_er p nd h1 h2).cons c')).trans (perm_set h2).symm
theorem perm_mv {cs ds : List zCh} {j k : Nat} {c : zCh} (c' : zCh) (p : cs.Perm ds) (nd : (ds.map chI).Nodup) (h1 : cs[j]? = some c) (h2 : ds[k]? = some c) : (cs.set j c').Perm (ds.eraseIdx k ++ [c']) :=
  ((perm_set h1).trans ((perm_er p nd h1 h2).cons c')).trans (List.perm_append_comm (l₁ := [c']))
theorem hrd_flt {cs : List zCh} {x l : Nat} : hrd (cs.filter (fun b => decide (chI b ≠ x))) l = (hrd cs l).filter (fun y => decide (y ≠ x)) := by
  induction cs with
  | nil => rfl
  | cons d t ih =>
    unfold hrd at *
    by_cases e : chI d = x <;> by_cases e2 : chL d = l <;> simp [e, e2] at ih ⊢ <;> exact ih
theorem hrd_er {ds : List zCh} {k q : Nat} {c : zCh} (nd : (ds.map chI).Nodup) (h : ds[k]? = some c) (hq : (hrd ds (chL c))[q]? = some (chI c)) (ndl : (hrd ds (chL c)).Nodup) (l : Nat) : hrd (ds.eraseIdx k) l = upH (hrd ds) (chL c) ((hrd ds (chL c)).eraseIdx q) l := by
  rw [er_key chI nd h, hrd_flt]
  unfold upH
  by_cases e : l = chL c
  · subst e
    rw [if_pos rfl, er_key id (by rw [List.map_id]; exact ndl) hq]; rfl
  · rw [if_neg e]
    refine List.filter_eq_self.mpr (fun y hy => decide_eq_true (fun e2 => ?_))
    obtain ⟨d, hd, h1, h2⟩ := hrd_mem.mp hy
    have := ch_inj nd hd (List.mem_of_getElem? h) (h1.trans e2)
    exact e (by rw [← h2, this])
theorem hrd_app {ds : List zCh} {c : zCh} (l : Nat) : hrd (ds ++ [c]) l = upH (hrd ds) (chL c) (hrd ds (chL c) ++ [chI c]) l := by
  unfold upH hrd
  by_cases e : l = chL c
  · subst e; rw [if_pos rfl]; simp
  · rw [if_neg e]; simp [Ne.symm e]
theorem hrd_set {ds : List zCh} {k : Nat} {c c' : zCh} (h : ds[k]? = some c) (e1 : chI c' = chI c) (e2 : chL c' = chL c) (l : Nat) : hrd (ds.set k c') l = hrd ds l := by
  induction ds generalizing k with
  | nil => cases h
  | cons d t ih =>
    rcases k with _ | k
    · rw [List.getElem?_cons_zero] at h
      cases h
      unfold hrd
      rw [List.set_cons_zero, List.filter_cons, List.filter_cons, e2]
      split
      · rw [List.map_cons, List.map_cons, e1]
      · rfl
    · rw [List.getElem?_cons_succ] at h
      have := ih h
      unfold hrd at *
      rw [List.set_cons_succ, List.filter_cons, List.filter_cons]
      split
      · rw [List.map_cons, List.map_cons, this]
      · exact this
theorem rF_H {f : Nat → Int32} {g : zGd} {cs : List zCh} {H H' : Nat → List Nat} (q : rF f g cs H) (e : ∀ l, l < 6 → H' l = H l) : rF f g cs H' :=
  ⟨q.1, fun l hl => by rw [e l hl]; exact q.2.1 l hl, q.2.2⟩
theorem pl_n {g : zGd} {cs : List zCh} {x : Int32} (p : cs.Perm (gC g)) (e : kc g x = none) : ixF x cs 0 = none := by
  rcases h : ixF x cs 0 with _ | j
  · rfl
  · obtain ⟨c, h1, h2, -⟩ := ix_some h
    exact absurd h2 (ixF_none (kc_none e) c (p.mem_iff.mp (List.mem_of_getElem? h1)))
theorem pl_s {g : zGd} {cs : List zCh} {H : Nat → List Nat} {x : Int32} {k : Nat} {c : zCh} (p : cs.Perm (gC g)) (w : rW g cs H) (e : kc g x = some (k, c)) : ∃ j, ixF x cs 0 = some j ∧ cs[j]? = some c ∧ j < 12 ∧ x = nI (chI c) ∧ (gC g)[k]? = some c := by
  obtain ⟨-, h2, h3, -⟩ := kc_some e
  obtain ⟨j, h4, h5, h6⟩ := pl_of w (p.mem_iff.mpr (List.mem_of_getElem? h2))
  exact ⟨j, by rw [← h3]; exact h4, h5, by have := w.1; omega, h3.symm, h2⟩
theorem rF_g {f f' : Nat → Int32} {g : zGd} {cs : List zCh} {H : Nat → List Nat} (q : rF f g cs H) (g' : zGd) (e1 : gS g' = gS g) (e2 : gN g' = gN g) (n : rNs f' g') (e : ∀ j, (j = 0 ∨ 8 ≤ j) → f' j = f j) : rF f' g' cs H :=
  rF_n q e n (fun l hl => by rw [e1, e2]; exact q.2.2.1 l hl)
