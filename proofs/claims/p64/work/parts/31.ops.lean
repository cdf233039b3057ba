/-! what a change makes of a garden -/
def wR (c : zCh) (v : Nat) : zCh := (c.1, c.2.1, v, c.2.2.2.1, c.2.2.2.2)
def wF (c : zCh) (v : Bool) : zCh := (c.1, c.2.1, c.2.2.1, c.2.2.2.1, v)
def wL (c : zCh) (v : Nat) : zCh := (c.1, v, c.2.2.1, c.2.2.2.1, c.2.2.2.2)
def upN (f : Nat → Nat) (j v : Nat) : Nat → Nat := fun i => if i = j then v else f i
def opSh (g : zGd) (l s : Nat) : zGd := gwS g (upN (gS g) l s)
def opSt (g : zGd) (l r : Nat) : zGd := gwX (gwC g (gC g ++ [(gX g, l, r, gD g, false)])) (gX g + 1)
def opSc (g : zGd) (k : Nat) : zGd := gwU (gwC g ((gC g).eraseIdx k)) (gU g + 1)
def opFo (g : zGd) (k : Nat) (c : zCh) (v : Bool) : zGd := gwC g ((gC g).set k (wF c v))
def opOi (g : zGd) (k : Nat) (c : zCh) : zGd := gwO (gwC g ((gC g).set k (wR c (chR c - 3)))) (gO g - 1)
def opMv (g : zGd) (k : Nat) (c : zCh) (l : Nat) : zGd := gwM (gwC g ((gC g).eraseIdx k ++ [wL c l])) (gM g + 1)
def opMk (g : zGd) (k l : Nat) : zGd := match (gC g)[k]? with
  | none => g
  | some c => opMv g k c l
/-- n chairs, each time the first that grazes on i, move to j -/
def opHd (i j : Nat) : Nat → zGd → zGd
  | 0, g => g
  | n + 1, g => match fgF i (gC g) 0 with
    | none => g
    | some k => opHd i j n (opMk g k j)
/-- one chair's day on the lawn l, at w more rust, with the shade s: the chair, the shade left, the shade eaten -/
def grS (l w : Nat) (c : zCh) (s : Nat) : zCh × Nat × Nat := if chGr l c = true then (if 0 < s then (wR c (chR c + w), s - 1, 1) else (wR c (chR c + 1 + w), s, 0)) else (c, s, 0)
def grC (l w : Nat) : List zCh → Nat → List zCh × Nat × Nat
  | [], s => ([], s, 0)
  | c :: t, s => ((grS l w c s).1 :: (grC l w t (grS l w c s).2.1).1, (grC l w t (grS l w c s).2.1).2.1, (grS l w c s).2.2 + (grC l w t (grS l w c s).2.1).2.2)
def wOf (s : Nat) : Nat := if s = 3 then 1 else 0
def grz (g : zGd) (l s : Nat) : zGd := gwZ (gwS (gwC g (grC l (wOf s) (gC g) (gS g l)).1) (upN (gS g) l (min 20 ((grC l (wOf s) (gC g) (gS g l)).2.1 + 3 - s)))) (gZ g + (grC l (wOf s) (gC g) (gS g l)).2.2)
def grs (g : zGd) (s : Nat) : Nat → zGd
  | 0 => g
  | k + 1 => grz (grs g s k) k s
def stay (c : zCh) : Bool := decide (chR c ≤ 9)
def col (g : zGd) : zGd := gwF (gwC g ((gC g).filter stay)) (gF g + ((gC g).length - ((gC g).filter stay).length))
def dayO (g : zGd) : zGd := gwD (col (grs g (gD g / 5 % 4) 6)) (gD g + 1)
def days (g : zGd) : Nat → zGd
  | 0 => g
  | n + 1 => dayO (days g n)
/-- the counters are at most m -/
def gV (m : Nat) (g : zGd) : Prop := gX g ≤ m ∧ gD g ≤ m ∧ gF g ≤ m ∧ gU g ≤ m ∧ gM g ≤ m ∧ gZ g ≤ m
/-- all but the counters -/
def gW0 (g : zGd) : Prop := (∀ c ∈ gC g, chI c < gX g ∧ chL c < 6 ∧ chR c ≤ 11 ∧ chD c ≤ gD g) ∧ ((gC g).map chI).Nodup ∧ (gC g).length ≤ 12 ∧ (∀ j, j < 6 → gS g j ≤ 20) ∧ gO g ≤ 20 ∧ gP g ≤ 15
theorem gW_of {g : zGd} {m : Nat} (w : gW0 g) (v : gV m g) (hm : m ≤ big) : gW g := by
  obtain ⟨v1, v2, v3, v4, v5, v6⟩ := v
  exact ⟨w.1, w.2.1, w.2.2.1, w.2.2.2.1, w.2.2.2.2.1, w.2.2.2.2.2, Nat.le_trans v1 hm, Nat.le_trans v2 hm, Nat.le_trans v3 hm, Nat.le_trans v4 hm, Nat.le_trans v5 hm, Nat.le_trans v6 hm⟩
theorem gW_0 {g : zGd} (w : gW g) : gW0 g := ⟨w.1, w.2.1, w.2.2.1, w.2.2.2.1, w.2.2.2.2.1, w.2.2.2.2.2.1⟩
theorem gV_big {g : zGd} (w : gW g) : gV big g := w.2.2.2.2.2.2
theorem gV_mono {g : zGd} {m n : Nat} (v : gV m g) (h : m ≤ n) : gV n g := by
  obtain ⟨v1, v2, v3, v4, v5, v6⟩ := v
  exact ⟨by omega, by omega, by omega, by omega, by omega, by omega⟩
def g9 (g : zGd) : Prop := ∀ c ∈ gC g, chR c ≤ 9
-- lists
theorem mem_set_or {α : Type} {cs : List α} {k : Nat} {c d : α} (h : d ∈ cs.set k c) : d = c ∨ d ∈ cs := (List.mem_or_eq_of_mem_set h).symm
theorem map_set_id {cs : List zCh} {k : Nat} {c c' : zCh} (h : cs[k]? = some c) (e : chI c' = chI c) : (cs.set k c').map chI = cs.map chI := by
  rw [List.map_set, e]
  apply List.ext_getElem?
  intro i
  rw [List.getElem?_set]
  by_cases q : k = i
  · subst q
    have hk := (List.getElem?_eq_some_iff.mp h).1
    rw [if_pos rfl, if_pos (by rw [List.length_map]; exact hk), List.getElem?_map, h]
    rfl
  · rw [if_neg q]
theorem gW0_set {g : zGd} {k : Nat} {c c' : zCh} (w : gW0 g) (h : (gC g)[k]? = some c) (e1 : chI c' = chI c) (e2 : chL c' < 6) (e3 : chR c' ≤ 11) (e4 : chD c' = chD c) : gW0 (gwC g ((gC g).set k c')) := by
  obtain ⟨w1, w2, w3, w4, w5, w6⟩ := w
  refine ⟨fun d hd => ?_, ?_, ?_, w4, w5, w6⟩
  · rcases mem_set_or hd with rfl | hd
    · have q := w1 c (List.mem_of_getElem? h)
      exact ⟨by rw [e1]; exact q.1, e2, e3, by rw [e4]; exact q.2.2.2⟩
    · exact w1 d hd
  · show (((gC g).set k c').map chI).Nodup
    rw [map_set_id h e1]; exact w2
  · show ((gC g).set k c').length ≤ 12
    rw [List.length_set]; exact w3
theorem gW0_list {g : zGd} {cs : List zCh} (w : gW0 g) (s : cs.Sublist (gC g)) : gW0 (gwC g cs) := by
  obtain ⟨w1, w2, w3, w4, w5, w6⟩ := w
  exact ⟨fun d hd => w1 d (s.subset hd), (s.map chI).nodup w2, Nat.le_trans s.length_le w3, w4, w5, w6⟩
theorem rot_perm {cs : List zCh} {k : Nat} {c : zCh} (h : cs[k]? = some c) : (cs.eraseIdx k ++ [c]).Perm cs := by
  have hk := (List.getElem?_eq_some_iff.mp h).1
  have e : cs = cs.take k ++ c :: cs.drop (k + 1) := by
    obtain ⟨d, hd, he⟩ := drop_cons hk
    rw [h] at hd
    cases hd
    rw [← he, List.take_append_drop]
  rw [List.eraseIdx_eq_take_drop_succ]
  refine (List.perm_append_singleton _ _).trans ?_
  rw [← List.cons_append]
  refine List.Perm.trans ?_ (List.Perm.of_eq e.symm)
  exact (List.perm_middle (l₁ := cs.take k) (l₂ := cs.drop (k + 1)) (a := c)).symm
theorem gW0_mv {g : zGd} {k l : Nat} {c : zCh} (w : gW0 g) (h : (gC g)[k]? = some c) (hl : l < 6) : gW0 (opMv g k c l) := by
  obtain ⟨w1, w2, w3, w4, w5, w6⟩ := w
  have q := w1 c (List.mem_of_getElem? h)
  refine ⟨fun d hd => ?_, ?_, ?_, w4, w5, w6⟩
  · rcases List.mem_append.mp (show d ∈ (gC g).eraseIdx k ++ [wL c l] from hd) with hd | hd
    · exact w1 d ((List.eraseIdx_sublist _ _).subset hd)
    · rw [List.mem_singleton.mp hd]
      exact ⟨q.1, hl, q.2.2.1, q.2.2.2⟩
  · show (((gC g).eraseIdx k ++ [wL c l]).map chI).Nodup
    have e : ((gC g).eraseIdx k ++ [wL c l]).map chI = ((gC g).eraseIdx k ++ [c]).map chI := by simp [wL, chI]
    rw [e]
    exact (List.Perm.nodup_iff ((rot_perm h).map chI)).mpr w2
  · show ((gC g).eraseIdx k ++ [wL c l]).length ≤ 12
    have hk := (List.getElem?_eq_some_iff.mp h).1
    rw [List.length_append, List.length_eraseIdx, if_pos hk]
    simp
    omega
theorem gW0_st {g : zGd} {l r : Nat} (w : gW0 g) (hn : (gC g).length < 12) (hl : l < 6) (hr : r ≤ 9) : gW0 (opSt g l r) := by
  obtain ⟨w1, w2, w3, w4, w5, w6⟩ := w
  refine ⟨fun d hd => ?_, ?_, ?_, w4, w5, w6⟩
  · rcases List.mem_append.mp (show d ∈ gC g ++ [(gX g, l, r, gD g, false)] from hd) with hd | hd
    · have q := w1 d hd
      exact ⟨Nat.lt_succ_of_lt q.1, q.2⟩
    · rw [List.mem_singleton.mp hd]
      exact ⟨Nat.lt_succ_self _, hl, (by show r ≤ 11; omega), Nat.le_refl _⟩
  · show ((gC g ++ [(gX g, l, r, gD g, false)]).map chI).Nodup
    rw [List.map_append, List.nodup_append]
    refine ⟨w2, by simp, fun a ha b hb e => ?_⟩
    obtain ⟨d, hd, rfl⟩ := List.mem_map.mp ha
    have hb : b = gX g := by simpa [chI] using hb
    have := (w1 d hd).1
    omega
  · show (gC g ++ [(gX g, l, r, gD g, false)]).length ≤ 12
    rw [List.length_append]
    simp
    omega
-- the sizes of the herds
theorem hsz_app (a b : List zCh) (l : Nat) : hsz (a ++ b) l = hsz a l + hsz b l := List.countP_append
theorem hsz_one (c : zCh) (l : Nat) : hsz [c] l = if chL c = l then 1 else 0 := by
  unfold hsz
  rw [cnt_cons]
  by_cases q : chL c = l
  · rw [if_pos (decide_eq_true q), if_pos q]; rfl
  · rw [if_neg (fun z => q (of_decide_eq_true z)), if_neg q]; rfl
theorem hsz_perm {a b : List zCh} (p : a.Perm b) (l : Nat) : hsz a l = hsz b l := p.countP_eq _
theorem hsz_erase {cs : List zCh} {k : Nat} {c : zCh} (h : cs[k]? = some c) (l : Nat) : hsz (cs.eraseIdx k) l + (if chL c = l then 1 else 0) = hsz cs l := by
  rw [← hsz_perm (rot_perm h) l, hsz_app, hsz_one]
theorem hsz_map {f : zCh → zCh} (hf : ∀ c, chL (f c) = chL c) (cs : List zCh) (l : Nat) : hsz (cs.map f) l = hsz cs l := by
  unfold hsz
  rw [List.countP_map]
  congr 1
  funext c
  show decide (chL (f c) = l) = decide (chL c = l)
  rw [hf]
theorem hsz_set {cs : List zCh} {k : Nat} {c c' : zCh} (h : cs[k]? = some c) (e : chL c' = chL c) (l : Nat) : hsz (cs.set k c') l = hsz cs l := by
  have hk := (List.getElem?_eq_some_iff.mp h).1
  have h2 : (cs.set k c')[k]? = some c' := List.getElem?_set_self hk
  have e2 : (cs.set k c').eraseIdx k = cs.eraseIdx k := by
    apply List.ext_getElem?
    intro i
    rw [List.getElem?_eraseIdx, List.getElem?_eraseIdx]
    by_cases q : i < k
    · rw [if_pos q, if_pos q, List.getElem?_set_ne (by omega)]
    · rw [if_neg q, if_neg q, List.getElem?_set_ne (by omega)]
  rw [← hsz_erase h2 l, ← hsz_erase h l, e2, e]
