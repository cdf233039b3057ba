/-! the reference: a chair leaves its herd, joins another, is removed -/
def fup (f : Nat → Int32) (i : Nat) (v : Int32) : Nat → Int32 := fun j => if j = i then v else f j
theorem fup_e {f : Nat → Int32} {i : Nat} {v : Int32} : fup f i v i = v := if_pos rfl
theorem fup_n {f : Nat → Int32} {i j : Nat} {v : Int32} (h : j ≠ i) : fup f i v j = f j := if_neg h
theorem saI_row {h : zH} {a i : Nat} {v : Int32} : saI h a i v = sRow h a (fup (aI h a) i v) := by
  unfold saI sRow
  rw [show up2 (aI h) a i v = fun x => if x = a then fup (aI h a) i v else aI h x from ?_]
  funext x j
  unfold up2 fup
  by_cases e : x = a
  · subst e
    by_cases e2 : j = i <;> simp [e2]
  · simp [e]
theorem sRow_row {h : zH} {a : Nat} {f f' : Nat → Int32} : sRow (sRow h a f) a f' = sRow h a f' := by
  unfold sRow
  rw [show (fun x => if x = a then f' else aI (hN h, hK h, hL h, hI h, hR h, (fun x => if x = a then f else aI h x), aR h, aJ h, aD h) x) = fun x => if x = a then f' else aI h x from ?_]
  · rfl
  · funext x
    by_cases e : x = a
    · simp [e]
    · rw [if_neg e, if_neg e]; exact if_neg e
theorem saI_row2 {h : zH} {a i : Nat} {f : Nat → Int32} {v : Int32} : saI (sRow h a f) a i v = sRow h a (fup f i v) := by
  rw [saI_row, sRow_row, aI_sRow]
def upH (H : Nat → List Nat) (l : Nat) (t : List Nat) : Nat → List Nat := fun i => if i = l then t else H i
/-- the numbers from a on up to m moved by d -/
def shL (f : Nat → Int32) (a d m : Nat) : Nat → Int32 := fun j => if a ≤ j ∧ j < m then f (j + d) else f j
theorem shL_0 {f : Nat → Int32} {a d : Nat} : shL f a d a = f := by funext j; unfold shL; exact if_neg (by omega)
theorem shL_s {f : Nat → Int32} {a d m : Nat} (h : a ≤ m) (hd : 0 < d) : fup (shL f a d m) m (shL f a d m (m + d)) = shL f a d (m + 1) := by
  funext j
  unfold fup shL
  by_cases e : j = m
  · subst e
    rw [if_pos rfl, if_neg (by omega), if_pos (by omega)]
  · rw [if_neg e]
    by_cases e2 : a ≤ j ∧ j < m
    · rw [if_pos e2, if_pos (by omega)]
    · rw [if_neg e2, if_neg (by omega)]
theorem shL_n {f : Nat → Int32} {a d m j : Nat} (h : j < a ∨ m ≤ j) : shL f a d m j = f j := by unfold shL; exact if_neg (by omega)
theorem shL_y {f : Nat → Int32} {a d m j : Nat} (h : a ≤ j ∧ j < m) : shL f a d m j = f (j + d) := by unfold shL; exact if_pos h
/-- only the numbers from a up to b are other -/
def fEq (f f' : Nat → Int32) (a b : Nat) : Prop := ∀ j, (j < a ∨ b ≤ j) → f' j = f j
theorem rCs_e {f f' : Nat → Int32} {cs : List zCh} {a b : Nat} (q : rCs f cs) (e : fEq f f' a b) (h1 : 0 < a) (h2 : b ≤ 56) : rCs f' cs := by
  refine ⟨(e 0 (by omega)).trans q.1, fun k c hc => ?_⟩
  obtain ⟨c1, c2, c3, c4, c5⟩ := q.2 k c hc
  exact ⟨(e _ (by omega)).trans c1, (e _ (by omega)).trans c2, (e _ (by omega)).trans c3, (e _ (by omega)).trans c4, (e _ (by omega)).trans c5⟩
theorem rNs_e {f f' : Nat → Int32} {g : zGd} {a b : Nat} (q : rNs f g) (e : fEq f f' a b) (h1 : 8 ≤ a) : rNs f' g := by
  obtain ⟨q1, q2, q3, q4, q5, q6, q7⟩ := q
  exact ⟨(e _ (by omega)).trans q1, (e _ (by omega)).trans q2, (e _ (by omega)).trans q3, (e _ (by omega)).trans q4, (e _ (by omega)).trans q5, (e _ (by omega)).trans q6, (e _ (by omega)).trans q7⟩
/-- the herd l is another -/
theorem rF_h {f f' : Nat → Int32} {g : zGd} {cs : List zCh} {H : Nat → List Nat} {l : Nat} {t : List Nat} (q : rF f g cs H) (hl : l < 6) (ht : t.length ≤ 5) (h5 : ∀ l, l < 6 → (H l).length ≤ 5) (e : fEq f f' (8 + 8 * l + 2) (8 + 8 * l + 8)) (n1 : f' (8 + 8 * l + 2) = nI t.length) (n2 : ∀ k x, t[k]? = some x → f' (8 + 8 * l + 3 + k) = nI x) : rF f' g cs (upH H l t) := by
  obtain ⟨qc, qh, ql, qn⟩ := q
  refine ⟨rCs_e qc e (by omega) (by omega), fun i hi => ?_, fun i hi => ⟨(e _ (by omega)).trans (ql i hi).1, (e _ (by omega)).trans (ql i hi).2⟩, rNs_e qn e (by omega)⟩
  unfold upH
  by_cases z : i = l
  · subst z
    rw [if_pos rfl]
    exact ⟨n1, n2⟩
  · rw [if_neg z]
    refine ⟨(e _ (by omega)).trans (qh i hi).1, fun k x hk => ?_⟩
    have := (List.getElem?_eq_some_iff.mp hk).1
    have := h5 i hi
    exact (e _ (by omega)).trans ((qh i hi).2 k x hk)
def lvF (f : Nat → Int32) (l q n : Nat) : Nat → Int32 := shL (fup f (8 + 8 * l + 2) (nI (n - 1))) (8 + 8 * l + 3 + q) 1 (8 + 8 * l + 3 + (n - 1))
theorem lvF_F {f : Nat → Int32} {g : zGd} {cs : List zCh} {H : Nat → List Nat} {l q : Nat} (w : rF f g cs H) (hl : l < 6) (h5 : ∀ l, l < 6 → (H l).length ≤ 5) (hq : q < (H l).length) : rF (lvF f l q (H l).length) g cs (upH H l ((H l).eraseIdx q)) := by
  have h5l := h5 l hl
  have e9 : ((H l).eraseIdx q).length = (H l).length - 1 := by rw [List.length_eraseIdx, if_pos hq]
  refine rF_h w hl (by omega) h5 (fun j hj => ?_) ?_ (fun k x hk => ?_)
  · unfold lvF
    rw [shL_n (by omega), fup_n (by omega)]
  · unfold lvF
    rw [shL_n (by omega), fup_e, e9]
  · have hk9 := (List.getElem?_eq_some_iff.mp hk).1
    unfold lvF
    rw [List.getElem?_eraseIdx] at hk
    by_cases e : k < q
    · rw [if_pos e] at hk
      rw [shL_n (by omega), fup_n (by omega)]
      exact (w.2.1 l hl).2 k x hk
    · rw [if_neg e] at hk
      rw [shL_y (by omega), fup_n (by omega), show 8 + 8 * l + 3 + k + 1 = 8 + 8 * l + 3 + (k + 1) by omega]
      exact (w.2.1 l hl).2 (k + 1) x hk
set_option maxHeartbeats 4000000 in
set_option maxRecDepth 100000 in
theorem s_mleavesE {X : zX} {l : Launch} {E : zG} {rm : Room} (hzs : zS E) (hst : l.stackTraces = false) (C : zC X cX10_leaves RX10 5) (G : zGX X l E rm) {h : zH} {r p n q : Nat} {x1 : Int32} {Qr : Option Value → zH → Prop} {Qx : String → zH → Prop} (F : zF X none 0 0 Qr Qx) (hm : zMs h r) (v9 : aI h (r + 1) (p + 2) = nI n) (hp : p < 100) (hn : n < 100) (kq : Qr none h) : zV X 0 0 h 55 [(0, .ref r), (1, .int x1), (2, .int (nI p)), (3, .int (nI q)), (4, .int (nI n))] [] := by
  
  refine zV.iload C dX10_leaves_55 rfl ?_
  refine zV.aload_n C dX10_leaves_57 rfl rfl ?_
  refine zV.gR 416 (k := 0) C dX10_leaves_58 zcl_X10 (by decide) rfl lk_X10_9 (hm.1) rfl (hm.2.1) ?_
  refine zV.iload_n C dX10_leaves_61 rfl ?_
  refine zV.ic (v := nI 2) C dX10_leaves_62 (by decide) ?_
  refine zV.iadd C dX10_leaves_63 ?_
  refine zV.ialdv (j := p + 2) C dX10_leaves_64 (hm.2.2.2.2.2.2.2.2.2.1.1) (by rw [nI_add]) (Nat.lt_of_lt_of_eq (show p + 2 < 116 by omega) (hm.2.2.2.2.2.2.2.2.2.1.2).symm) (by omega) (v9) ?_
  refine zV.icmp_ge (tgt := 96) C dX10_leaves_65 (by decide) (fun q65 => ?_) (fun q65 => ?_)
  · refine zV.vret C F dX10_leaves_96 rfl ?_
    exact kq
  · exact absurd (nI_le (Nat.le_refl n) (by omega)) q65
set_option maxHeartbeats 4000000 in
set_option maxRecDepth 100000 in
theorem L_mleaves2 {X : zX} {l : Launch} {E : zG} {rm : Room} (hzs : zS E) (hst : l.stackTraces = false) (C : zC X cX10_leaves RX10 5) (G : zGX X l E rm) {q : Nat} {Qr : Option Value → zH → Prop} {Qx : String → zH → Prop} (hr : rm = ({ frames := 1, cells := 0, slots := 0, locals := 22 } : Room)) (F : zF X none 0 0 Qr Qx) {h : zH} {r : Nat} {g : zGd} {cs : List zCh} {H : Nat → List Nat} (hm : zMs h r) (hf : rF (aI h (r + 1)) g cs H) (hw : rW g cs H) {k9 : Nat} {c : zCh} (hc : cs[k9]? = some c) (hq : q < (H (chL c)).length) (kq : Qr none (sRow h (r + 1) (lvF (aI h (r + 1)) (chL c) q (H (chL c)).length))) : ∀ n m, q ≤ m → m + n = (H (chL c)).length - 1 → zV X 0 0 (sRow h (r + 1) (shL (fup (aI h (r + 1)) (8 + 8 * chL c + 2) (nI ((H (chL c)).length - 1))) (8 + 8 * chL c + 3 + q) 1 (8 + 8 * chL c + 3 + m))) 55 [(0, .ref r), (1, .int (nI k9)), (2, .int (nI (8 + 8 * chL c))), (3, .int (nI q)), (4, .int (nI m))] [] := by
  subst hr
  obtain ⟨c1, c2, c3, c4, c5⟩ := hf.1.2 k9 c hc
  obtain ⟨b1, b2_, b3, b4⟩ := hw.2.1 c (List.mem_of_getElem? hc)
  have hk9 := (List.getElem?_eq_some_iff.mp hc).1
  have hl12 := hw.1
  have hb9 : (big : Nat) = 1000000000 := rfl
  have h5 := hw.2.2.1 (chL c) b2_
  intro n
  induction n with
  | zero =>
    intro m hm1 hm2
    have e9 : m = (H (chL c)).length - 1 := by omega
    subst e9
    have v9 : aI (sRow h (r + 1) (lvF (aI h (r + 1)) (chL c) q (H (chL c)).length)) (r + 1) (8 + 8 * chL c + 2) = nI ((H (chL c)).length - 1) := by
      rw [aI_sRow]; unfold lvF; rw [shL_n (by omega), fup_e]
    exact s_mleavesE hzs hst C G F hm v9 (by omega) (by omega) kq
  | succ n ih =>
    intro m hm1 hm2
    have v9 : aI (sRow h (r + 1) (shL (fup (aI h (r + 1)) (8 + 8 * chL c + 2) (nI ((H (chL c)).length - 1))) (8 + 8 * chL c + 3 + q) 1 (8 + 8 * chL c + 3 + m))) (r + 1) (8 + 8 * chL c + 2) = nI ((H (chL c)).length - 1) := by
      rw [aI_sRow, shL_n (by omega), fup_e]
    skip
    refine zV.iload C dX10_leaves_55 rfl ?_
    refine zV.aload_n C dX10_leaves_57 rfl rfl ?_
    refine zV.gR 416 (k := 0) C dX10_leaves_58 zcl_X10 (by decide) rfl lk_X10_9 (hm.1) rfl (hm.2.1) ?_
    refine zV.iload_n C dX10_leaves_61 rfl ?_
    refine zV.ic (v := nI 2) C dX10_leaves_62 (by decide) ?_
    refine zV.iadd C dX10_leaves_63 ?_
    refine zV.ialdv (j := 8 + 8 * chL c + 2) C dX10_leaves_64 (hm.2.2.2.2.2.2.2.2.2.1.1) (by rw [nI_add]) (Nat.lt_of_lt_of_eq (show 8 + 8 * chL c + 2 < 116 by omega) (hm.2.2.2.2.2.2.2.2.2.1.2).symm) (by omega) (v9) ?_
    refine zV.icmp_ge (tgt := 96) C dX10_leaves_65 (by decide) (fun q65 => ?_) (fun q65 => ?_)
    · exact absurd (nle (by omega) (by omega) q65) (by omega)
    · refine zV.aload_n C dX10_leaves_68 rfl rfl ?_
      refine zV.gR 416 (k := 0) C dX10_leaves_69 zcl_X10 (by decide) rfl lk_X10_9 (hm.1) rfl (hm.2.1) ?_
      refine zV.iload_n C dX10_leaves_72 rfl ?_
      refine zV.ic (v := nI 3) C dX10_leaves_73 (by decide) ?_
      refine zV.iadd C dX10_leaves_74 ?_
      refine zV.iload C dX10_leaves_75 rfl ?_
      refine zV.iadd C dX10_leaves_77 ?_
      refine zV.aload_n C dX10_leaves_78 rfl rfl ?_
      refine zV.gR 416 (k := 0) C dX10_leaves_79 zcl_X10 (by decide) rfl lk_X10_9 (hm.1) rfl (hm.2.1) ?_
      refine zV.iload_n C dX10_leaves_82 rfl ?_
      refine zV.ic (v := nI 4) C dX10_leaves_83 (by decide) ?_
      refine zV.iadd C dX10_leaves_84 ?_
      refine zV.iload C dX10_leaves_85 rfl ?_
      refine zV.iadd C dX10_leaves_87 ?_
      refine zV.iald (j := 8 + 8 * chL c + 4 + m) C dX10_leaves_88 (hm.2.2.2.2.2.2.2.2.2.1.1) (by rw [nI_add, nI_add]) (Nat.lt_of_lt_of_eq (show 8 + 8 * chL c + 4 + m < 116 by omega) (hm.2.2.2.2.2.2.2.2.2.1.2).symm) (by omega) ?_
      refine zV.iast (j := 8 + 8 * chL c + 3 + m) C dX10_leaves_89 (hm.2.2.2.2.2.2.2.2.2.1.1) (by rw [nI_add, nI_add]) (Nat.lt_of_lt_of_eq (show 8 + 8 * chL c + 3 + m < 116 by omega) (hm.2.2.2.2.2.2.2.2.2.1.2).symm) (by omega) ?_
      rw [aI_sRow, show 8 + 8 * chL c + 4 + m = 8 + 8 * chL c + 3 + m + 1 by omega, saI_row2, shL_s (by omega) (by decide)]
      refine zV.iinc (lo' := [(0, _), (1, _), (2, _), (3, _), (4, _)]) C dX10_leaves_90 rfl (by decide) rfl rfl rfl ?_
      refine zV.goto (tgt := 55) C dX10_leaves_93 (by decide) ?_
      rw [inc1]
      exact ih (m + 1) (by omega) (by omega)
theorem nd_idx {t : List Nat} (nd : t.Nodup) {i j x : Nat} (h1 : t[i]? = some x) (h2 : t[j]? = some x) : i = j := by
  induction t generalizing i j with
  | nil => cases h1
  | cons a t ih =>
    rw [List.nodup_cons] at nd
    rcases i with _ | i <;> rcases j with _ | j
    · rfl
    · rw [List.getElem?_cons_succ] at h2
      cases h1; exact absurd (List.mem_of_getElem? h2) nd.1
    · rw [List.getElem?_cons_succ] at h1
      cases h2; exact absurd (List.mem_of_getElem? h1) nd.1
    · rw [List.getElem?_cons_succ] at h1 h2
      exact congrArg (· + 1) (ih nd.2 h1 h2)
set_option maxHeartbeats 4000000 in
set_option maxRecDepth 100000 in
theorem L_mleaves {X : zX} {l : Launch} {E : zG} {rm : Room} (hzs : zS E) (hst : l.stackTraces = false) (C : zC X cX10_leaves RX10 5) (G : zGX X l E rm) {q : Nat} {Qr : Option Value → zH → Prop} {Qx : String → zH → Prop} (hr : rm = ({ frames := 1, cells := 0, slots := 0, locals := 22 } : Room)) (F : zF X none 0 0 Qr Qx) {h : zH} {r : Nat} {g : zGd} {cs : List zCh} {H : Nat → List Nat} (hm : zMs h r) (hf : rF (aI h (r + 1)) g cs H) (hw : rW g cs H) {k9 : Nat} {c : zCh} (hc : cs[k9]? = some c) (hq : (H (chL c))[q]? = some (chI c)) (kq : Qr none (sRow h (r + 1) (lvF (aI h (r + 1)) (chL c) q (H (chL c)).length))) : ∀ n k, k + n = q → zV X 0 0 h 15 [(0, .ref r), (1, .int (nI k9)), (2, .int (nI (8 + 8 * chL c))), (3, .int (nI k))] [] := by
  subst hr
  obtain ⟨c1, c2, c3, c4, c5⟩ := hf.1.2 k9 c hc
  obtain ⟨b1, b2_, b3, b4⟩ := hw.2.1 c (List.mem_of_getElem? hc)
  have hk9 := (List.getElem?_eq_some_iff.mp hc).1
  have hl12 := hw.1
  have hb9 : (big : Nat) = 1000000000 := rfl
  have h5 := hw.2.2.1 (chL c) b2_
  have hql := (List.getElem?_eq_some_iff.mp hq).1
  have hv := hf.2.1 (chL c) b2_
  have r9 : nI (8 + 8 * chL c) + nI 3 + nI 0 = nI (8 + 8 * chL c + 3 + 0) := by rw [nI_add, nI_add]
  intro n
  induction n with
  | zero =>
    intro k hk
    have e9 : k = q := by omega
    subst e9
    have w9 := hv.2 k _ hq
    refine zV.aload_n C dX10_leaves_15 rfl rfl ?_
    refine zV.gR 416 (k := 0) C dX10_leaves_16 zcl_X10 (by decide) rfl lk_X10_9 (hm.1) rfl (hm.2.1) ?_
    refine zV.iload_n C dX10_leaves_19 rfl ?_
    refine zV.ic (v := nI 3) C dX10_leaves_20 (by decide) ?_
    refine zV.iadd C dX10_leaves_21 ?_
    refine zV.iload_n C dX10_leaves_22 rfl ?_
    refine zV.iadd C dX10_leaves_23 ?_
    refine zV.ialdv (j := 8 + 8 * chL c + 3 + k) C dX10_leaves_24 (hm.2.2.2.2.2.2.2.2.2.1.1) (by rw [nI_add, nI_add]) (Nat.lt_of_lt_of_eq (show 8 + 8 * chL c + 3 + k < 116 by omega) (hm.2.2.2.2.2.2.2.2.2.1.2).symm) (by omega) (w9) ?_
    refine zV.aload_n C dX10_leaves_25 rfl rfl ?_
    refine zV.iload_n C dX10_leaves_26 rfl ?_
    refine zV.ic (v := nI 0) C dX10_leaves_27 (by decide) ?_
    refine zV.callV (n := 2) C G dX10_leaves_28 (s_mof hzs hst h r hm k9 0 (by omega) (by decide)) rfl ⟨cd_X10_of, lk_X10_65, im_X10_of, se_X10_X10_of, in_X10⟩ ⟨⟨by decide, by decide⟩, by decide⟩ rfl rfl rfl (hm.1) ⟨rfl, by decide⟩ (zaf ?_) (zno)
    rw [show 56 + 5 * k9 + 0 = 56 + 5 * k9 from rfl, c1]
    refine zV.icmp_eq (tgt := 40) C dX10_leaves_31 (by decide) (fun q31 => ?_) (fun q31 => ?_)
    · refine zV.aload_n C dX10_leaves_40 rfl rfl ?_
      refine zV.gR 416 (k := 0) C dX10_leaves_41 zcl_X10 (by decide) rfl lk_X10_9 (hm.1) rfl (hm.2.1) ?_
      refine zV.iload_n C dX10_leaves_44 rfl ?_
      refine zV.ic (v := nI 2) C dX10_leaves_45 (by decide) ?_
      refine zV.iadd C dX10_leaves_46 ?_
      refine zV.dup2 C dX10_leaves_47 rfl rfl ?_
      refine zV.ialdv (j := 8 + 8 * chL c + 2) C dX10_leaves_48 (hm.2.2.2.2.2.2.2.2.2.1.1) (by rw [nI_add]) (Nat.lt_of_lt_of_eq (show 8 + 8 * chL c + 2 < 116 by omega) (hm.2.2.2.2.2.2.2.2.2.1.2).symm) (by omega) (hv.1) ?_
      refine zV.ic (v := nI 1) C dX10_leaves_49 (by decide) ?_
      refine zV.isub C dX10_leaves_50 ?_
      rw [show nI (H (chL c)).length - nI 1 = nI ((H (chL c)).length - 1) from pk_sub (by omega)]
      refine zV.iast (j := 8 + 8 * chL c + 2) C dX10_leaves_51 (hm.2.2.2.2.2.2.2.2.2.1.1) (by rw [nI_add]) (Nat.lt_of_lt_of_eq (show 8 + 8 * chL c + 2 < 116 by omega) (hm.2.2.2.2.2.2.2.2.2.1.2).symm) (by omega) ?_
      rw [saI_row]
      refine zV.iload_n C dX10_leaves_52 rfl ?_
      refine zV.istore (lo' := [(0, _), (1, _), (2, _), (3, _), (4, _)]) C dX10_leaves_53 (by decide) rfl rfl rfl ?_
      have e := L_mleaves2 hzs hst C G rfl F hm hf hw hc (by omega) kq ((H (chL c)).length - 1 - k) k (Nat.le_refl _) (by omega)
      rw [shL_0] at e
      exact e
    · exact absurd rfl q31
  | succ n ih =>
    intro k hk
    obtain ⟨x, hx⟩ : ∃ x, (H (chL c))[k]? = some x := ⟨_, List.getElem?_eq_getElem (by omega)⟩
    have w9 := hv.2 k _ hx
    obtain ⟨d, hd, hdx, -⟩ := hw.2.2.2.1 (chL c) b2_ x (List.mem_of_getElem? hx)
    have hxb : x < big := hdx ▸ (hw.2.1 d hd).1
    have hne : x ≠ chI c := fun e => by
      have := nd_idx (hw.2.2.2.2.2.1 (chL c) b2_) hx (e ▸ hq)
      omega
    skip
    refine zV.aload_n C dX10_leaves_15 rfl rfl ?_
    refine zV.gR 416 (k := 0) C dX10_leaves_16 zcl_X10 (by decide) rfl lk_X10_9 (hm.1) rfl (hm.2.1) ?_
    refine zV.iload_n C dX10_leaves_19 rfl ?_
    refine zV.ic (v := nI 3) C dX10_leaves_20 (by decide) ?_
    refine zV.iadd C dX10_leaves_21 ?_
    refine zV.iload_n C dX10_leaves_22 rfl ?_
    refine zV.iadd C dX10_leaves_23 ?_
    refine zV.ialdv (j := 8 + 8 * chL c + 3 + k) C dX10_leaves_24 (hm.2.2.2.2.2.2.2.2.2.1.1) (by rw [nI_add, nI_add]) (Nat.lt_of_lt_of_eq (show 8 + 8 * chL c + 3 + k < 116 by omega) (hm.2.2.2.2.2.2.2.2.2.1.2).symm) (by omega) (w9) ?_
    refine zV.aload_n C dX10_leaves_25 rfl rfl ?_
    refine zV.iload_n C dX10_leaves_26 rfl ?_
    refine zV.ic (v := nI 0) C dX10_leaves_27 (by decide) ?_
    refine zV.callV (n := 2) C G dX10_leaves_28 (s_mof hzs hst h r hm k9 0 (by omega) (by decide)) rfl ⟨cd_X10_of, lk_X10_65, im_X10_of, se_X10_X10_of, in_X10⟩ ⟨⟨by decide, by decide⟩, by decide⟩ rfl rfl rfl (hm.1) ⟨rfl, by decide⟩ (zaf ?_) (zno)
    rw [show 56 + 5 * k9 + 0 = 56 + 5 * k9 from rfl, c1]
    refine zV.icmp_eq (tgt := 40) C dX10_leaves_31 (by decide) (fun q31 => ?_) (fun q31 => ?_)
    · exact absurd (neq (by omega) (by omega) q31) hne
    · refine zV.iinc (lo' := [(0, _), (1, _), (2, _), (3, _)]) C dX10_leaves_34 rfl (by decide) rfl rfl rfl ?_
      refine zV.goto (tgt := 15) C dX10_leaves_37 (by decide) ?_
      rw [inc1]
      exact ih (k + 1) (by omega)
set_option maxHeartbeats 4000000 in
set_option maxRecDepth 100000 in
theorem s_mleaves {l : Launch} {E : zG} (hzs : zS E) (hst : l.stackTraces = false) (h : zH) (r : Nat) (g : zGd) (cs : List zCh) (H : Nat → List Nat) (hm : zMs h r) (hf : rF (aI h (r + 1)) g cs H) (hw : rW g cs H) (k9 : Nat) (c : zCh) (hc : cs[k9]? = some c) (q : Nat) (hq : (H (chL c))[q]? = some (chI c)) : zMet l E yX10_leaves cX10_leaves 5 none ({ frames := 1, cells := 0, slots := 0, locals := 22 } : Room) 0 0 [.ref r, .int (nI k9)] h (fun v h' => v = none ∧ h' = sRow h (r + 1) (lvF (aI h (r + 1)) (chL c) q (H (chL c)).length)) (fun _ _ => False) := by
  refine zM_start hzs hst (by decide) (Nat.le_of_ble_eq_true rfl) (fun X C G F I => ?_)
  show zV X 0 0 _ 0 [(0, _), (1, _)] []
  obtain ⟨c1, c2, c3, c4, c5⟩ := hf.1.2 k9 c hc
  obtain ⟨b1, b2_, b3, b4⟩ := hw.2.1 c (List.mem_of_getElem? hc)
  have hk9 := (List.getElem?_eq_some_iff.mp hc).1
  have hl12 := hw.1
  have hb9 : (big : Nat) = 1000000000 := rfl
  have h5 := hw.2.2.1 (chL c) b2_
  refine zV.bi (v := nI 8) C dX10_leaves_0 (by decide) ?_
  refine zV.bi (v := nI 8) C dX10_leaves_2 (by decide) ?_
  refine zV.aload_n C dX10_leaves_4 rfl rfl ?_
  refine zV.iload_n C dX10_leaves_5 rfl ?_
  refine zV.ic (v := nI 1) C dX10_leaves_6 (by decide) ?_
  refine zV.callV (n := 2) C G dX10_leaves_7 (s_mof hzs hst h r hm k9 1 (by omega) (by decide)) rfl ⟨cd_X10_of, lk_X10_65, im_X10_of, se_X10_X10_of, in_X10⟩ ⟨⟨by decide, by decide⟩, by decide⟩ rfl rfl rfl (hm.1) ⟨rfl, by decide⟩ (zaf ?_) (zno)
  rw [c2]
  refine zV.imul C dX10_leaves_10 ?_
  refine zV.iadd C dX10_leaves_11 ?_
  rw [pk_mul, nI_add]
  refine zV.istore_n (lo' := [(0, _), (1, _), (2, _)]) C dX10_leaves_12 (by decide) rfl rfl rfl ?_
  refine zV.ic (v := nI 0) C dX10_leaves_13 (by decide) ?_
  refine zV.istore_n (lo' := [(0, _), (1, _), (2, _), (3, _)]) C dX10_leaves_14 (by decide) rfl rfl rfl ?_
  exact L_mleaves hzs hst C G rfl F hm hf hw hc hq ⟨rfl, rfl⟩ q 0 (by omega)
def jnF (f : Nat → Int32) (k l n x : Nat) : Nat → Int32 := fup (fup (fup f (8 + 8 * l + 2) (nI (n + 1))) (8 + 8 * l + 3 + n) (nI x)) (56 + 5 * k + 1) (nI l)
theorem rCs_set {f f' : Nat → Int32} {cs : List zCh} {k : Nat} {c c' : zCh} (q : rCs f cs) (hc : cs[k]? = some c) (e : fEq f f' (56 + 5 * k) (56 + 5 * k + 5)) (n : f' (56 + 5 * k) = nI (chI c') ∧ f' (56 + 5 * k + 1) = nI (chL c') ∧ f' (56 + 5 * k + 2) = nI (chR c') ∧ f' (56 + 5 * k + 3) = nI (b2 (chF c')) ∧ f' (56 + 5 * k + 4) = nI (chD c')) : rCs f' (cs.set k c') := by
  refine ⟨(e 0 (by omega)).trans (by rw [List.length_set]; exact q.1), fun j d hd => ?_⟩
  rw [List.getElem?_set] at hd
  by_cases z : k = j
  · subst z
    rw [if_pos rfl, if_pos (List.getElem?_eq_some_iff.mp hc).1] at hd
    cases hd
    exact n
  · rw [if_neg z] at hd
    obtain ⟨c1, c2, c3, c4, c5⟩ := q.2 j d hd
    exact ⟨(e _ (by omega)).trans c1, (e _ (by omega)).trans c2, (e _ (by omega)).trans c3, (e _ (by omega)).trans c4, (e _ (by omega)).trans c5⟩
/-- one chair is another -/
theorem rF_set {f f' : Nat → Int32} {g : zGd} {cs : List zCh} {H : Nat → List Nat} {k : Nat} {c c' : zCh} (q : rF f g cs H) (h5 : ∀ l, l < 6 → (H l).length ≤ 5) (hc : cs[k]? = some c) (e : fEq f f' (56 + 5 * k) (56 + 5 * k + 5)) (n : f' (56 + 5 * k) = nI (chI c') ∧ f' (56 + 5 * k + 1) = nI (chL c') ∧ f' (56 + 5 * k + 2) = nI (chR c') ∧ f' (56 + 5 * k + 3) = nI (b2 (chF c')) ∧ f' (56 + 5 * k + 4) = nI (chD c')) : rF f' g (cs.set k c') H := by
  obtain ⟨qc, qh, ql, qn⟩ := q
  refine ⟨rCs_set qc hc e n, fun i hi => ⟨(e _ (by omega)).trans (qh i hi).1, fun j x hj => ?_⟩, fun i hi => ⟨(e _ (by omega)).trans (ql i hi).1, (e _ (by omega)).trans (ql i hi).2⟩, rNs_e qn e (by omega)⟩
  have := (List.getElem?_eq_some_iff.mp hj).1
  have := h5 i hi
  exact (e _ (by omega)).trans ((qh i hi).2 j x hj)
theorem upH_5 {H : Nat → List Nat} {l : Nat} {t : List Nat} (h5 : ∀ l, l < 6 → (H l).length ≤ 5) (ht : t.length ≤ 5) : ∀ i, i < 6 → (upH H l t i).length ≤ 5 := fun i hi => by
  unfold upH
  split
  · exact ht
  · exact h5 i hi
theorem jnF_F {f : Nat → Int32} {g : zGd} {cs : List zCh} {H : Nat → List Nat} {l k : Nat} {c : zCh} (w : rF f g cs H) (hl : l < 6) (h5 : ∀ l, l < 6 → (H l).length ≤ 5) (hn : (H l).length < 5) (hc : cs[k]? = some c) : rF (jnF f k l (H l).length (chI c)) g (cs.set k (wL c l)) (upH H l (H l ++ [chI c])) := by
  have w1 : rF (fup (fup f (8 + 8 * l + 2) (nI ((H l).length + 1))) (8 + 8 * l + 3 + (H l).length) (nI (chI c))) g cs (upH H l (H l ++ [chI c])) := by
    refine rF_h w hl (by rw [List.length_append]; exact hn) h5 (fun j hj => ?_) ?_ (fun i x hi => ?_)
    · rw [fup_n (by omega), fup_n (by omega)]
    · rw [fup_n (by omega), fup_e, List.length_append]; rfl
    · by_cases z : i < (H l).length
      · rw [List.getElem?_append_left z] at hi
        rw [fup_n (by omega), fup_n (by omega)]
        exact (w.2.1 l hl).2 i x hi
      · rw [List.getElem?_append_right (by omega)] at hi
        have z2 : i - (H l).length = 0 := by have := (List.getElem?_eq_some_iff.mp hi).1; rw [List.length_singleton] at this; omega
        rw [z2] at hi
        cases hi
        rw [show i = (H l).length by omega, fup_e]
  obtain ⟨c1, c2, c3, c4, c5⟩ := w1.1.2 k c hc
  refine rF_set w1 (upH_5 h5 (by rw [List.length_append]; exact hn)) hc (fun j hj => fup_n (by omega)) ⟨(fup_n (by omega)).trans c1, fup_e, (fup_n (by omega)).trans c3, (fup_n (by omega)).trans c4, (fup_n (by omega)).trans c5⟩
set_option maxHeartbeats 4000000 in
set_option maxRecDepth 100000 in
theorem s_mjoins {l : Launch} {E : zG} (hzs : zS E) (hst : l.stackTraces = false) (h : zH) (r : Nat) (hm : zMs h r) (k9 l9 n x : Nat) (hk9 : k9 < 12) (hl : l9 < 6) (hn : n < 5) (v1 : aI h (r + 1) (8 + 8 * l9 + 2) = nI n) (v2 : aI h (r + 1) (56 + 5 * k9) = nI x) : zMet l E yX10_joins cX10_joins 4 none ({ frames := 1, cells := 0, slots := 0, locals := 23 } : Room) 0 0 [.ref r, .int (nI k9), .int (nI l9)] h (fun v h' => v = none ∧ h' = sRow h (r + 1) (jnF (aI h (r + 1)) k9 l9 n x)) (fun _ _ => False) := by
  refine zM_start hzs hst (by decide) (Nat.le_of_ble_eq_true rfl) (fun X C G F I => ?_)
  show zV X 0 0 _ 0 [(0, _), (1, _), (2, _)] []
  refine zV.bi (v := nI 8) C dX10_joins_0 (by decide) ?_
  refine zV.bi (v := nI 8) C dX10_joins_2 (by decide) ?_
  refine zV.iload_n C dX10_joins_4 rfl ?_
  refine zV.imul C dX10_joins_5 ?_
  refine zV.iadd C dX10_joins_6 ?_
  rw [pk_mul, nI_add]
  refine zV.istore_n (lo' := [(0, _), (1, _), (2, _), (3, _)]) C dX10_joins_7 (by decide) rfl rfl rfl ?_
  refine zV.aload_n C dX10_joins_8 rfl rfl ?_
  refine zV.gR 416 (k := 0) C dX10_joins_9 zcl_X10 (by decide) rfl lk_X10_9 (hm.1) rfl (hm.2.1) ?_
  refine zV.iload_n C dX10_joins_12 rfl ?_
  refine zV.ic (v := nI 3) C dX10_joins_13 (by decide) ?_
  refine zV.iadd C dX10_joins_14 ?_
  refine zV.aload_n C dX10_joins_15 rfl rfl ?_
  refine zV.gR 416 (k := 0) C dX10_joins_16 zcl_X10 (by decide) rfl lk_X10_9 (hm.1) rfl (hm.2.1) ?_
  refine zV.iload_n C dX10_joins_19 rfl ?_
  refine zV.ic (v := nI 2) C dX10_joins_20 (by decide) ?_
  refine zV.iadd C dX10_joins_21 ?_
  refine zV.dup2 C dX10_joins_22 rfl rfl ?_
  refine zV.ialdv (j := 8 + 8 * l9 + 2) C dX10_joins_23 (hm.2.2.2.2.2.2.2.2.2.1.1) (by rw [nI_add]) (Nat.lt_of_lt_of_eq (show 8 + 8 * l9 + 2 < 116 by omega) (hm.2.2.2.2.2.2.2.2.2.1.2).symm) (by omega) (v1) ?_
  refine zV.dup_x2 C dX10_joins_24 rfl rfl rfl ?_
  refine zV.ic (v := nI 1) C dX10_joins_25 (by decide) ?_
  refine zV.iadd C dX10_joins_26 ?_
  rw [show nI n + nI 1 = nI (n + 1) from nI_add _ _]
  refine zV.iast (j := 8 + 8 * l9 + 2) C dX10_joins_27 (hm.2.2.2.2.2.2.2.2.2.1.1) (by rw [nI_add]) (Nat.lt_of_lt_of_eq (show 8 + 8 * l9 + 2 < 116 by omega) (hm.2.2.2.2.2.2.2.2.2.1.2).symm) (by omega) ?_
  rw [saI_row]
  refine zV.iadd C dX10_joins_28 ?_
  obtain ⟨H1, hH1⟩ : ∃ H1, H1 = sRow h (r + 1) (fup (aI h (r + 1)) (8 + 8 * l9 + 2) (nI (n + 1))) := ⟨_, rfl⟩
  rw [← hH1]
  have hm1 : zMs H1 r := hH1 ▸ hm
  refine zV.aload_n C dX10_joins_29 rfl rfl ?_
  refine zV.iload_n C dX10_joins_30 rfl ?_
  refine zV.ic (v := nI 0) C dX10_joins_31 (by decide) ?_
  refine zV.callV (n := 2) C G dX10_joins_32 (s_mof hzs hst H1 r hm1 k9 0 (by omega) (by decide)) rfl ⟨cd_X10_of, lk_X10_65, im_X10_of, se_X10_X10_of, in_X10⟩ ⟨⟨by decide, by decide⟩, by decide⟩ rfl rfl rfl hm1.1 ⟨rfl, by decide⟩ (zaf ?_) (zno)
  rw [show 56 + 5 * k9 + 0 = 56 + 5 * k9 from rfl, hH1, aI_sRow, fup_n (by omega), v2]
  refine zV.iast (j := 8 + 8 * l9 + 3 + n) C dX10_joins_35 (hm.2.2.2.2.2.2.2.2.2.1.1) (by rw [nI_add, nI_add]) (Nat.lt_of_lt_of_eq (show 8 + 8 * l9 + 3 + n < 116 by omega) (hm.2.2.2.2.2.2.2.2.2.1.2).symm) (by omega) ?_
  rw [saI_row2]
  refine zV.aload_n C dX10_joins_36 rfl rfl ?_
  refine zV.iload_n C dX10_joins_37 rfl ?_
  refine zV.ic (v := nI 1) C dX10_joins_38 (by decide) ?_
  refine zV.iload_n C dX10_joins_39 rfl ?_
  refine zV.callV (n := 3) C G dX10_joins_40 (s_msets hzs hst (sRow h (r + 1) (fup (fup (aI h (r + 1)) (8 + 8 * l9 + 2) (nI (n + 1))) (8 + 8 * l9 + 3 + n) (nI x))) r hm k9 1 (nI l9) (by omega) (by decide)) rfl ⟨cd_X10_sets, lk_X10_77, im_X10_sets, se_X10_X10_sets, in_X10⟩ ⟨⟨by decide, by decide⟩, by decide⟩ rfl rfl rfl (hm.1) ⟨rfl, by decide⟩ (zafv ?_) (zno)
  refine zV.vret C F dX10_joins_43 rfl ?_
  exact ⟨rfl, by rw [saI_row2]; rfl⟩
def rmF (f : Nat → Int32) (k n : Nat) : Nat → Int32 := shL (fup f 0 (nI (n - 1))) (56 + 5 * k) 5 (56 + 5 * (n - 1))
theorem rmF_F {f : Nat → Int32} {g : zGd} {cs : List zCh} {H : Nat → List Nat} {k : Nat} (w : rF f g cs H) (h5 : ∀ l, l < 6 → (H l).length ≤ 5) (hk : k < cs.length) (hl : cs.length ≤ 12) : rF (rmF f k cs.length) g (cs.eraseIdx k) H := by
  have e9 : (cs.eraseIdx k).length = cs.length - 1 := by rw [List.length_eraseIdx, if_pos hk]
  have e : ∀ j, 0 < j → j < 56 + 5 * k → rmF f k cs.length j = f j := fun j h1 h2 => by unfold rmF; rw [shL_n (by omega), fup_n (by omega)]
  refine ⟨⟨by unfold rmF; rw [shL_n (by omega), fup_e, e9], fun j d hd => ?_⟩, fun i hi => ⟨(e _ (by omega) (by omega)).trans (w.2.1 i hi).1, fun j x hj => ?_⟩, fun i hi => ⟨(e _ (by omega) (by omega)).trans (w.2.2.1 i hi).1, (e _ (by omega) (by omega)).trans (w.2.2.1 i hi).2⟩, ?_⟩
  · have hj9 := (List.getElem?_eq_some_iff.mp hd).1
    rw [List.getElem?_eraseIdx] at hd
    by_cases z : j < k
    · rw [if_pos z] at hd
      obtain ⟨c1, c2, c3, c4, c5⟩ := w.1.2 j d hd
      exact ⟨(e _ (by omega) (by omega)).trans c1, (e _ (by omega) (by omega)).trans c2, (e _ (by omega) (by omega)).trans c3, (e _ (by omega) (by omega)).trans c4, (e _ (by omega) (by omega)).trans c5⟩
    · rw [if_neg z] at hd
      obtain ⟨c1, c2, c3, c4, c5⟩ := w.1.2 (j + 1) d hd
      have e2 : ∀ i, i < 5 → rmF f k cs.length (56 + 5 * j + i) = f (56 + 5 * (j + 1) + i) := fun i hi => by
        unfold rmF
        rw [shL_y (by omega), fup_n (by omega), show 56 + 5 * j + i + 5 = 56 + 5 * (j + 1) + i by omega]
      exact ⟨(e2 0 (by omega)).trans c1, (e2 1 (by omega)).trans c2, (e2 2 (by omega)).trans c3, (e2 3 (by omega)).trans c4, (e2 4 (by omega)).trans c5⟩
  · have := (List.getElem?_eq_some_iff.mp hj).1
    have := h5 i hi
    exact (e _ (by omega) (by omega)).trans ((w.2.1 i hi).2 j x hj)
  · obtain ⟨q1, q2, q3, q4, q5, q6, q7⟩ := w.2.2.2
    exact ⟨(e _ (by omega) (by omega)).trans q1, (e _ (by omega) (by omega)).trans q2, (e _ (by omega) (by omega)).trans q3, (e _ (by omega) (by omega)).trans q4, (e _ (by omega) (by omega)).trans q5, (e _ (by omega) (by omega)).trans q6, (e _ (by omega) (by omega)).trans q7⟩
set_option maxHeartbeats 4000000 in
set_option maxRecDepth 100000 in
theorem s_mremovesE {X : zX} {l : Launch} {E : zG} {rm : Room} (hzs : zS E) (hst : l.stackTraces = false) (C : zC X cX10_removes RX10 3) (G : zGX X l E rm) {h : zH} {r n : Nat} {x1 : Int32} {Qr : Option Value → zH → Prop} {Qx : String → zH → Prop} (F : zF X none 0 0 Qr Qx) (hm : zMs h r) (v9 : aI h (r + 1) 0 = nI n) (hn : n < 100) (kq : Qr none h) : zV X 0 0 h 22 [(0, .ref r), (1, .int x1), (2, .int (nI (56 + 5 * n)))] [] := by
  
  refine zV.iload_n C dX10_removes_22 rfl ?_
  refine zV.bi (v := nI 56) C dX10_removes_23 (by decide) ?_
  refine zV.ic (v := nI 5) C dX10_removes_25 (by decide) ?_
  refine zV.aload_n C dX10_removes_26 rfl rfl ?_
  refine zV.gR 416 (k := 0) C dX10_removes_27 zcl_X10 (by decide) rfl lk_X10_9 (hm.1) rfl (hm.2.1) ?_
  refine zV.ic (v := nI 0) C dX10_removes_30 (by decide) ?_
  refine zV.ialdv (j := 0) C dX10_removes_31 (hm.2.2.2.2.2.2.2.2.2.1.1) (rfl) (Nat.lt_of_lt_of_eq (show 0 < 116 by decide) (hm.2.2.2.2.2.2.2.2.2.1.2).symm) (by omega) (v9) ?_
  refine zV.imul C dX10_removes_32 ?_
  refine zV.iadd C dX10_removes_33 ?_
  rw [pk_mul, nI_add]
  refine zV.icmp_ge (tgt := 57) C dX10_removes_34 (by decide) (fun q34 => ?_) (fun q34 => ?_)
  · refine zV.vret C F dX10_removes_57 rfl ?_
    exact kq
  · exact absurd (nI_le (Nat.le_refl _) (by omega)) q34
set_option maxHeartbeats 4000000 in
set_option maxRecDepth 100000 in
theorem L_mremoves {X : zX} {l : Launch} {E : zG} {rm : Room} (hzs : zS E) (hst : l.stackTraces = false) (C : zC X cX10_removes RX10 3) (G : zGX X l E rm) {h : zH} {r k9 n9 : Nat} {f : Nat → Int32} {x1 : Int32} {Qr : Option Value → zH → Prop} {Qx : String → zH → Prop} (hr : rm = ({ frames := 2, cells := 0, slots := 0, locals := 46 } : Room)) (F : zF X none 0 0 Qr Qx) (hm : zMs h r) (hn9 : n9 ≤ 12) (kq : Qr none (sRow h (r + 1) (rmF f k9 n9))) : ∀ n m, 56 + 5 * k9 ≤ m → m + n = 56 + 5 * (n9 - 1) → zV X 0 0 (sRow h (r + 1) (shL (fup f 0 (nI (n9 - 1))) (56 + 5 * k9) 5 m)) 22 [(0, .ref r), (1, .int x1), (2, .int (nI m))] [] := by
  subst hr
  intro n
  induction n with
  | zero =>
    intro m hm1 hm2
    have e9 : m = 56 + 5 * (n9 - 1) := by omega
    subst e9
    have v9 : aI (sRow h (r + 1) (rmF f k9 n9)) (r + 1) 0 = nI (n9 - 1) := by
      rw [aI_sRow]; unfold rmF; rw [shL_n (by omega), fup_e]
    exact s_mremovesE hzs hst C G F hm v9 (by omega) kq
  | succ n ih =>
    intro m hm1 hm2
    have v9 : aI (sRow h (r + 1) (shL (fup f 0 (nI (n9 - 1))) (56 + 5 * k9) 5 m)) (r + 1) 0 = nI (n9 - 1) := by
      rw [aI_sRow, shL_n (by omega), fup_e]
    skip
    refine zV.iload_n C dX10_removes_22 rfl ?_
    refine zV.bi (v := nI 56) C dX10_removes_23 (by decide) ?_
    refine zV.ic (v := nI 5) C dX10_removes_25 (by decide) ?_
    refine zV.aload_n C dX10_removes_26 rfl rfl ?_
    refine zV.gR 416 (k := 0) C dX10_removes_27 zcl_X10 (by decide) rfl lk_X10_9 (hm.1) rfl (hm.2.1) ?_
    refine zV.ic (v := nI 0) C dX10_removes_30 (by decide) ?_
    refine zV.ialdv (j := 0) C dX10_removes_31 (hm.2.2.2.2.2.2.2.2.2.1.1) (rfl) (Nat.lt_of_lt_of_eq (show 0 < 116 by decide) (hm.2.2.2.2.2.2.2.2.2.1.2).symm) (by omega) (v9) ?_
    refine zV.imul C dX10_removes_32 ?_
    refine zV.iadd C dX10_removes_33 ?_
    rw [pk_mul, nI_add]
    refine zV.icmp_ge (tgt := 57) C dX10_removes_34 (by decide) (fun q34 => ?_) (fun q34 => ?_)
    · exact absurd (nle (by omega) (by omega) q34) (by omega)
    · refine zV.aload_n C dX10_removes_37 rfl rfl ?_
      refine zV.gR 416 (k := 0) C dX10_removes_38 zcl_X10 (by decide) rfl lk_X10_9 (hm.1) rfl (hm.2.1) ?_
      refine zV.iload_n C dX10_removes_41 rfl ?_
      refine zV.aload_n C dX10_removes_42 rfl rfl ?_
      refine zV.gR 416 (k := 0) C dX10_removes_43 zcl_X10 (by decide) rfl lk_X10_9 (hm.1) rfl (hm.2.1) ?_
      refine zV.iload_n C dX10_removes_46 rfl ?_
      refine zV.ic (v := nI 5) C dX10_removes_47 (by decide) ?_
      refine zV.iadd C dX10_removes_48 ?_
      refine zV.iald (j := m + 5) C dX10_removes_49 (hm.2.2.2.2.2.2.2.2.2.1.1) (by rw [nI_add]) (Nat.lt_of_lt_of_eq (show m + 5 < 116 by omega) (hm.2.2.2.2.2.2.2.2.2.1.2).symm) (by omega) ?_
      refine zV.iast (j := m) C dX10_removes_50 (hm.2.2.2.2.2.2.2.2.2.1.1) (rfl) (Nat.lt_of_lt_of_eq (show m < 116 by omega) (hm.2.2.2.2.2.2.2.2.2.1.2).symm) (by omega) ?_
      rw [aI_sRow, saI_row2, shL_s (by omega) (by decide)]
      refine zV.iinc (lo' := [(0, _), (1, _), (2, _)]) C dX10_removes_51 rfl (by decide) rfl rfl rfl ?_
      refine zV.goto (tgt := 22) C dX10_removes_54 (by decide) ?_
      rw [inc1]
      exact ih (m + 1) (by omega) (by omega)
set_option maxHeartbeats 4000000 in
set_option maxRecDepth 100000 in
theorem s_mremoves {l : Launch} {E : zG} (hzs : zS E) (hst : l.stackTraces = false) (h : zH) (r : Nat) (g : zGd) (cs : List zCh) (H : Nat → List Nat) (hm : zMs h r) (hf : rF (aI h (r + 1)) g cs H) (hw : rW g cs H) (k9 : Nat) (c : zCh) (hc : cs[k9]? = some c) (q : Nat) (hq : (H (chL c))[q]? = some (chI c)) : zMet l E yX10_removes cX10_removes 3 none ({ frames := 2, cells := 0, slots := 0, locals := 46 } : Room) 0 0 [.ref r, .int (nI k9)] h (fun v h' => v = none ∧ h' = sRow h (r + 1) (rmF (lvF (aI h (r + 1)) (chL c) q (H (chL c)).length) k9 cs.length)) (fun _ _ => False) := by
  refine zM_start hzs hst (by decide) (Nat.le_of_ble_eq_true rfl) (fun X C G F I => ?_)
  show zV X 0 0 _ 0 [(0, _), (1, _)] []
  obtain ⟨c1, c2, c3, c4, c5⟩ := hf.1.2 k9 c hc
  obtain ⟨b1, b2_, b3, b4⟩ := hw.2.1 c (List.mem_of_getElem? hc)
  have hk9 := (List.getElem?_eq_some_iff.mp hc).1
  have hl12 := hw.1
  have hb9 : (big : Nat) = 1000000000 := rfl
  have h5 := hw.2.2.1 (chL c) b2_
  have v0 : aI (sRow h (r + 1) (lvF (aI h (r + 1)) (chL c) q (H (chL c)).length)) (r + 1) 0 = nI cs.length := by
    rw [aI_sRow]; unfold lvF; rw [shL_n (by omega), fup_n (by omega)]; exact hf.1.1
  refine zV.aload_n C dX10_removes_0 rfl rfl ?_
  refine zV.iload_n C dX10_removes_1 rfl ?_
  refine zV.callV (n := 1) C G dX10_removes_2 (s_mleaves hzs hst h r g cs H hm hf hw k9 c hc q hq) rfl ⟨cd_X10_leaves, lk_X10_81, im_X10_leaves, se_X10_X10_leaves, in_X10⟩ ⟨⟨by decide, by decide⟩, by decide⟩ rfl rfl rfl (hm.1) ⟨rfl, by decide⟩ (zafv ?_) (zno)
  refine zV.aload_n C dX10_removes_5 rfl rfl ?_
  refine zV.gR 416 (k := 0) C dX10_removes_6 zcl_X10 (by decide) rfl lk_X10_9 (hm.1) rfl (hm.2.1) ?_
  refine zV.ic (v := nI 0) C dX10_removes_9 (by decide) ?_
  refine zV.dup2 C dX10_removes_10 rfl rfl ?_
  refine zV.ialdv (j := 0) C dX10_removes_11 (hm.2.2.2.2.2.2.2.2.2.1.1) (rfl) (Nat.lt_of_lt_of_eq (show 0 < 116 by decide) (hm.2.2.2.2.2.2.2.2.2.1.2).symm) (by omega) (v0) ?_
  refine zV.ic (v := nI 1) C dX10_removes_12 (by decide) ?_
  refine zV.isub C dX10_removes_13 ?_
  rw [show nI cs.length - nI 1 = nI (cs.length - 1) from pk_sub (by omega)]
  refine zV.iast (j := 0) C dX10_removes_14 (hm.2.2.2.2.2.2.2.2.2.1.1) (rfl) (Nat.lt_of_lt_of_eq (show 0 < 116 by decide) (hm.2.2.2.2.2.2.2.2.2.1.2).symm) (by omega) ?_
  rw [saI_row2]
  refine zV.bi (v := nI 56) C dX10_removes_15 (by decide) ?_
  refine zV.ic (v := nI 5) C dX10_removes_17 (by decide) ?_
  refine zV.iload_n C dX10_removes_18 rfl ?_
  refine zV.imul C dX10_removes_19 ?_
  refine zV.iadd C dX10_removes_20 ?_
  rw [pk_mul, nI_add]
  refine zV.istore_n (lo' := [(0, _), (1, _), (2, _)]) C dX10_removes_21 (by decide) rfl rfl rfl ?_
  have e := L_mremoves (x1 := nI k9) (f := lvF (aI h (r + 1)) (chL c) q (H (chL c)).length) hzs hst C G rfl F hm hl12 ⟨rfl, rfl⟩ (5 * (cs.length - 1 - k9)) (56 + 5 * k9) (Nat.le_refl _) (by omega)
  rw [shL_0] at e
  exact e
