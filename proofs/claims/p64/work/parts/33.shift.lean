/-! Garden: chairs that leave their place -/
def sQ (h : zH) (a : Nat) (r : Nat → Option Nat) : zH := (hN h, hK h, hL h, hI h, hR h, aI h, (fun x => if x = a then r else aR h x), aJ h, aD h)
def shf (k m : Nat) (r : Nat → Option Nat) : Nat → Option Nat := fun i => if k ≤ i ∧ i < m then r (i + 1) else r i
theorem kQ {h : zH} {a x n : Nat} {r : Nat → Option Nat} (q : hK h x = n) : hK (sQ h a r) x = n := q
theorem rQ {h : zH} {a g x : Nat} {r : Nat → Option Nat} {n : Option Nat} (q : hR h g x = n) : hR (sQ h a r) g x = n := q
theorem zLQ {h : zH} {a x n : Nat} {r : Nat → Option Nat} (q : hL h x = n) : hL (sQ h a r) x = n := q
theorem iQ {h : zH} {a f x : Nat} {r : Nat → Option Nat} {n : Int32} (q : hI h f x = n) : hI (sQ h a r) f x = n := q
theorem sQ_at {h : zH} {a : Nat} {r : Nat → Option Nat} : aR (sQ h a r) a = r := if_pos rfl
theorem sQ_R {h : zH} {a i : Nat} {r : Nat → Option Nat} {v : Option Nat} : saR (sQ h a r) a i v = sQ h a (fun x => if x = i then v else r x) := by
  have e : up2 (fun x => if x = a then r else aR h x) a i v = (fun x => if x = a then (fun x => if x = i then v else r x) else aR h x) := by
    funext x y
    show (if x = a ∧ y = i then v else (if x = a then r else aR h x) y) = (if x = a then (fun x => if x = i then v else r x) else aR h x) y
    by_cases q : x = a
    · subst q
      rw [if_pos rfl, if_pos rfl]
      by_cases z : y = i
      · rw [if_pos ⟨rfl, z⟩]; exact (if_pos z).symm
      · rw [if_neg (fun w => z w.2)]; exact (if_neg z).symm
    · rw [if_neg (fun w => q w.1), if_neg q, if_neg q]
  show (hN h, hK h, hL h, hI h, hR h, aI h, up2 (fun x => if x = a then r else aR h x) a i v, aJ h, aD h) = _
  rw [e]
  rfl
theorem sQ_0 {h : zH} {a : Nat} : sQ h a (aR h a) = h := by
  have e : (fun x => if x = a then aR h a else aR h x) = aR h := by
    funext x
    by_cases q : x = a
    · rw [if_pos q, q]
    · rw [if_neg q]
  show (hN h, hK h, hL h, hI h, hR h, aI h, (fun x => if x = a then aR h a else aR h x), aJ h, aD h) = h
  rw [e]
  rfl
theorem shf_0 {k : Nat} {r : Nat → Option Nat} : shf k k r = r := by
  funext i
  unfold shf
  rw [if_neg (by omega)]
theorem shf_s {k m : Nat} {r : Nat → Option Nat} (h : k ≤ m) : (fun x => if x = m then r (m + 1) else shf k m r x) = shf k (m + 1) r := by
  funext i
  unfold shf
  by_cases q : i = m
  · subst q
    rw [if_pos rfl, if_pos ⟨h, by omega⟩]
  · rw [if_neg q]
    by_cases z : k ≤ i ∧ i < m
    · rw [if_pos z, if_pos ⟨z.1, by omega⟩]
    · rw [if_neg z, if_neg (by omega)]
/-- the place from which the i-th chair came, once the k-th of n went to the end -/
def rot (k n i : Nat) : Nat := if i + 1 = n then k else if k ≤ i ∧ i + 1 < n then i + 1 else i
theorem rot_lt {k n i : Nat} (hk : k < n) (hn : n ≤ 12) (hi : i < 12) : rot k n i < 12 := by
  unfold rot
  split
  · omega
  · split <;> omega
theorem rot_inj {k n i j : Nat} (hk : k < n) (e : rot k n i = rot k n j) : i = j := by
  unfold rot at e
  split at e <;> split at e <;> (try split at e) <;> (try split at e) <;> omega
/-- the chairs once the k-th went to the end -/
def rotL (cs : List zCh) (k : Nat) (c : zCh) : List zCh := cs.eraseIdx k ++ [c]
theorem rotL_len {cs : List zCh} {k : Nat} {c : zCh} (h : k < cs.length) : (rotL cs k c).length = cs.length := by
  unfold rotL
  rw [List.length_append, List.length_eraseIdx, if_pos h]
  simp
  omega
theorem rotL_at {cs : List zCh} {k i : Nat} {c d : zCh} (h : cs[k]? = some c) (hi : (rotL cs k c)[i]? = some d) : cs[rot k cs.length i]? = some d := by
  have hk := (List.getElem?_eq_some_iff.mp h).1
  have hlt := (List.getElem?_eq_some_iff.mp hi).1
  rw [rotL_len hk] at hlt
  have hle : (cs.eraseIdx k).length = cs.length - 1 := by rw [List.length_eraseIdx, if_pos hk]
  unfold rotL at hi
  unfold rot
  by_cases q : i + 1 = cs.length
  · rw [if_pos q]
    rw [List.getElem?_append_right (by omega), hle, show i - (cs.length - 1) = 0 by omega] at hi
    rw [h]
    exact hi
  · rw [if_neg q]
    rw [List.getElem?_append_left (by omega), List.getElem?_eraseIdx] at hi
    by_cases z : k ≤ i
    · rw [if_pos ⟨z, by omega⟩]
      rw [if_neg (by omega)] at hi
      exact hi
    · rw [if_neg (by omega)]
      rw [if_pos (by omega)] at hi
      exact hi
theorem zGx_rot {h : zH} {b k : Nat} {c : zCh} {g : zGd} (q : zGx h b g) (hl : (gC g).length ≤ 12) (hc : (gC g)[k]? = some c) : zGx (sQ h (b + 8) (fun i => aR h (b + 8) (rot k (gC g).length i))) b (gwC g (rotL (gC g) k c)) := by
  obtain ⟨q1, q2, q3, q4, q5, q6⟩ := q
  have hk := (List.getElem?_eq_some_iff.mp hc).1
  refine ⟨q1, q2, q3, q4, zCs_perm (rot k (gC g).length) q5 (by show (rotL (gC g) k c).length ≤ 12; rw [rotL_len hk]; exact hl) (fun i hi => congrFun sQ_at i) rfl (fun i hi => rot_lt hk hl hi) (fun i j _ _ e => rot_inj hk e) (fun i d _ hd => rotL_at hc hd), zNs_list (show zNs _ b g from q6) (rotL_len hk)⟩
theorem zFr.sQ {h h1 : zH} {b a : Nat} {r : Nat → Option Nat} (p : zFr h h1 b) (h2 : b ≤ a) (h3 : a < b + 21) : zFr h (sQ h1 a r) b :=
  p.trans ⟨rfl, rfl, rfl, rfl, rfl, rfl, fun _ _ _ => rfl, fun c j z => ⟨rfl, congrFun (if_neg (fun q => by omega)) j⟩⟩
theorem shf_rot {k n : Nat} {r : Nat → Option Nat} (hk : k < n) : (fun x => if x = n - 1 then r k else shf k (n - 1) r x) = fun i => r (rot k n i) := by
  funext i
  unfold rot shf
  by_cases q : i + 1 = n
  · rw [if_pos (by omega), if_pos q]
  · rw [if_neg (by omega), if_neg q]
    by_cases z : k ≤ i ∧ i < n - 1
    · rw [if_pos z, if_pos ⟨z.1, by omega⟩]
    · rw [if_neg z, if_neg (by omega)]
set_option maxHeartbeats 4000000 in
set_option maxRecDepth 100000 in
theorem L_shiftToEnd {X : zX} {l : Launch} {E : zG} {rm : Room} (hzs : zS E) (hst : l.stackTraces = false) (C : zC X cX3_shiftToEnd RX3 4) (G : zGX X l E rm) {h : zH} {b k : Nat} {g : zGd} {c : zCh} {Qr : Option Value → zH → Prop} {Qx : String → zH → Prop} (hr : rm = ({ frames := 0, cells := 0, slots := 0, locals := 0 } : Room)) (F : zF X none 0 0 Qr Qx) (hg : zGx h b g) (hl : (gC g).length ≤ 12) (hc : (gC g)[k]? = some c) (hq : Qr none (sQ h (b + 8) (fun i => aR h (b + 8) (rot k (gC g).length i)))) : ∀ n m, k ≤ m → m + 1 ≤ (gC g).length → (gC g).length ≤ m + n → zV X 0 0 (sQ h (b + 8) (shf k m (aR h (b + 8)))) 24 [(0, .ref b), (1, .int (nI k)), (2, .ref (cA h b k)), (3, .int (nI (m + 1)))] [] := by
  subst hr
  have hk := (List.getElem?_eq_some_iff.mp hc).1
  have ca := hg.2.2.2.2.1
  have ck : hK h (cA h b k) = 5 := zCs_k hg.1 ca (by omega)
  have hlen : hI h 196 b = nI (gC g).length := hg.2.2.2.2.2.1
  intro n
  induction n with
  | zero => intro m h0 h1 h2; exact absurd h2 (by omega)
  | succ n ih =>
    intro m h0 h1 h2
    have e1 : nI (m + 1) - nI 1 = nI m := pk_sub (by omega)
    refine zV.iload_n C dX3_shiftToEnd_24 rfl ?_
    refine zV.aload_n C dX3_shiftToEnd_25 rfl rfl ?_
    refine zV.gIv 196 (k := 4) C dX3_shiftToEnd_26 zcl_X3 (by decide) rfl lk_X3_50 (kQ hg.1.1) rfl ((iQ hlen)) ?_
    refine zV.icmp_ge (tgt := 52) C dX3_shiftToEnd_29 (by decide) (fun q29 => ?_) (fun q29 => ?_)
    · have e : m = (gC g).length - 1 := by have := nle (by omega) (by omega) q29; omega
      subst e
      have e2 : nI (gC g).length - nI 1 = nI ((gC g).length - 1) := pk_sub (by omega)
      refine zV.aload_n C dX3_shiftToEnd_52 rfl rfl ?_
      refine zV.gR 195 (k := 3) C dX3_shiftToEnd_53 zcl_X3 (by decide) rfl lk_X3_30 (kQ hg.1.1) rfl (rQ hg.1.2.2.2.2.1) ?_
      refine zV.aload_n C dX3_shiftToEnd_56 rfl rfl ?_
      refine zV.gIv 196 (k := 4) C dX3_shiftToEnd_57 zcl_X3 (by decide) rfl lk_X3_50 (kQ hg.1.1) rfl ((iQ hlen)) ?_
      refine zV.ic (v := nI 1) C dX3_shiftToEnd_60 (by decide) ?_
      refine zV.isub C dX3_shiftToEnd_61 ?_
      refine zV.aload_n C dX3_shiftToEnd_62 rfl rfl ?_
      refine zV.aastC (j := (gC g).length - 1) C dX3_shiftToEnd_63 (kQ hg.1.2.2.2.2.2.2.2.2.1.1) (e2) (Nat.lt_of_lt_of_eq (show (gC g).length - 1 < 12 by omega) (zLQ hg.1.2.2.2.2.2.2.2.2.1.2).symm) (by omega) (kQ ck) ?_
      refine zV.vret C F dX3_shiftToEnd_64 rfl ?_
      rw [sQ_R, ← (ca.1 k (by omega)).1, shf_rot hk]
      exact hq
    · have hmn : m + 1 < (gC g).length := nlt (by omega) (by omega) q29
      have ck1 : hK h (cA h b (m + 1)) = 5 := zCs_k hg.1 ca (by omega)
      refine zV.aload_n C dX3_shiftToEnd_32 rfl rfl ?_
      refine zV.gR 195 (k := 3) C dX3_shiftToEnd_33 zcl_X3 (by decide) rfl lk_X3_30 (kQ hg.1.1) rfl (rQ hg.1.2.2.2.2.1) ?_
      refine zV.iload_n C dX3_shiftToEnd_36 rfl ?_
      refine zV.ic (v := nI 1) C dX3_shiftToEnd_37 (by decide) ?_
      refine zV.isub C dX3_shiftToEnd_38 ?_
      refine zV.aload_n C dX3_shiftToEnd_39 rfl rfl ?_
      refine zV.gR 195 (k := 3) C dX3_shiftToEnd_40 zcl_X3 (by decide) rfl lk_X3_30 (kQ hg.1.1) rfl (rQ hg.1.2.2.2.2.1) ?_
      refine zV.iload_n C dX3_shiftToEnd_43 rfl ?_
      refine zV.aaldC (j := m + 1) C dX3_shiftToEnd_44 (kQ hg.1.2.2.2.2.2.2.2.2.1.1) (rfl) (Nat.lt_of_lt_of_eq (show m + 1 < 12 by omega) (zLQ hg.1.2.2.2.2.2.2.2.2.1.2).symm) (by omega) ((congrFun sQ_at (m + 1)).trans ((if_neg (by omega)).trans (ca.1 (m + 1) (by omega)).1)) ?_
      refine zV.aastC (j := m) C dX3_shiftToEnd_45 (kQ hg.1.2.2.2.2.2.2.2.2.1.1) (e1) (Nat.lt_of_lt_of_eq (show m < 12 by omega) (zLQ hg.1.2.2.2.2.2.2.2.2.1.2).symm) (by omega) (kQ ck1) ?_
      refine zV.iinc (lo' := [(0, _), (1, _), (2, _), (3, _)]) C dX3_shiftToEnd_46 rfl (by decide) rfl rfl rfl ?_
      refine zV.goto (tgt := 24) C dX3_shiftToEnd_49 (by decide) ?_
      rw [inc1, sQ_R, ← (ca.1 (m + 1) (by omega)).1, shf_s h0]
      exact ih (m + 1) (by omega) (by omega) (by omega)
set_option maxHeartbeats 4000000 in
set_option maxRecDepth 100000 in
theorem s_shiftToEnd {l : Launch} {E : zG} (hzs : zS E) (hst : l.stackTraces = false) (h : zH) (b k : Nat) (g : zGd) (c : zCh) (hg : zGx h b g) (hl : (gC g).length ≤ 12) (hc : (gC g)[k]? = some c) : zMet l E yX3_shiftToEnd cX3_shiftToEnd 4 none ({ frames := 0, cells := 0, slots := 0, locals := 0 } : Room) 0 0 [.ref b, .int (nI k)] h (fun r h' => r = none ∧ h' = sQ h (b + 8) (fun i => aR h (b + 8) (rot k (gC g).length i))) (fun _ _ => False) := by
  refine zM_start hzs hst (by decide) (Nat.le_of_ble_eq_true rfl) (fun X C G F I => ?_)
  show zV X 0 0 _ 0 [(0, _), (1, _)] []
  refine zV.iload_n C dX3_shiftToEnd_0 rfl ?_
  have hk := (List.getElem?_eq_some_iff.mp hc).1
  refine zV.if_lt (tgt := 12) C dX3_shiftToEnd_1 (by decide) (fun q1 => ?_) (fun q1 => ?_)
  · exact absurd q1 (nI_pos (by omega))
  · refine zV.iload_n C dX3_shiftToEnd_4 rfl ?_
    refine zV.aload_n C dX3_shiftToEnd_5 rfl rfl ?_
    refine zV.gIv 196 (k := 4) C dX3_shiftToEnd_6 zcl_X3 (by decide) rfl lk_X3_50 (hg.1.1) rfl (hg.2.2.2.2.2.1) ?_
    refine zV.icmp_lt (tgt := 13) C dX3_shiftToEnd_9 (by decide) (fun q9 => ?_) (fun q9 => ?_)
    · refine zV.aload_n C dX3_shiftToEnd_13 rfl rfl ?_
      refine zV.gR 195 (k := 3) C dX3_shiftToEnd_14 zcl_X3 (by decide) rfl lk_X3_30 (hg.1.1) rfl (hg.1.2.2.2.2.1) ?_
      refine zV.iload_n C dX3_shiftToEnd_17 rfl ?_
      refine zV.aaldC (j := k) C dX3_shiftToEnd_18 (hg.1.2.2.2.2.2.2.2.2.1.1) (rfl) (Nat.lt_of_lt_of_eq (show k < 12 by omega) (hg.1.2.2.2.2.2.2.2.2.1.2).symm) (by omega) (hg.2.2.2.2.1.1 k (by omega)).1 ?_
      refine zV.astore_n (lo' := [(0, _), (1, _), (2, _)]) C dX3_shiftToEnd_19 rfl (by decide) rfl rfl rfl ?_
      refine zV.iload_n C dX3_shiftToEnd_20 rfl ?_
      refine zV.ic (v := nI 1) C dX3_shiftToEnd_21 (by decide) ?_
      refine zV.iadd C dX3_shiftToEnd_22 ?_
      refine zV.istore_n (lo' := [(0, _), (1, _), (2, _), (3, _)]) C dX3_shiftToEnd_23 (by decide) rfl rfl rfl ?_
      have e := L_shiftToEnd hzs hst C G rfl F hg hl hc ⟨rfl, rfl⟩ (gC g).length k (by omega) (by omega) (by omega)
      rw [shf_0, sQ_0] at e
      rw [show nI k + nI 1 = nI (k + 1) from nI_1 k]
      exact e
    · exact absurd (nI_lt hk (by omega)) q9
