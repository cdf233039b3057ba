/-! the reference: its whole state; what is kept of it -/
theorem rG_c {f f' : Nat → Int32} {g : zGd} (q : rG f g) (hl : (gC g).length ≤ 12) (h5 : gH g) (e : ∀ j, j < 116 → f' j = f j) : rG f' g := by
  obtain ⟨cs, hp, hs, qc, qh, ql, q1, q2, q3, q4, q5, q6, q7⟩ := q
  have hlen := hp.length_eq
  refine ⟨cs, hp, hs, ⟨(e _ (by omega)).trans qc.1, fun k c hk => ?_⟩, fun l hl9 => ⟨(e _ (by omega)).trans (qh l hl9).1, fun k x hk => ?_⟩, fun l hl9 => ⟨(e _ (by omega)).trans (ql l hl9).1, (e _ (by omega)).trans (ql l hl9).2⟩, (e _ (by omega)).trans q1, (e _ (by omega)).trans q2, (e _ (by omega)).trans q3, (e _ (by omega)).trans q4, (e _ (by omega)).trans q5, (e _ (by omega)).trans q6, (e _ (by omega)).trans q7⟩
  · have := (List.getElem?_eq_some_iff.mp hk).1
    obtain ⟨c1, c2, c3, c4, c5⟩ := qc.2 k c hk
    exact ⟨(e _ (by omega)).trans c1, (e _ (by omega)).trans c2, (e _ (by omega)).trans c3, (e _ (by omega)).trans c4, (e _ (by omega)).trans c5⟩
  · have := (List.getElem?_eq_some_iff.mp hk).1
    rw [hrd_len] at this
    have := h5 l hl9
    exact (e _ (by omega)).trans ((qh l hl9).2 k x hk)
theorem rG_d {m : Nat} {f f' : Nat → Int32} {g : zGd} (q : rG f g) (hR : gR m g) (e : ∀ j, j < 116 → f' j = f j) : rG f' g := rG_c q hR.1.1.2.2.1 hR.1.2.2.1 e
/-- only the fields F of the reference and its arrays A are other -/
def rE (h h' : zH) (r : Nat) (F A : List Nat) : Prop := (hN h' = hN h ∧ hK h' = hK h ∧ hL h' = hL h ∧ hR h' = hR h ∧ aR h' = aR h ∧ aJ h' = aJ h ∧ aD h' = aD h) ∧ (∀ f a, (a ≠ r ∨ f ∉ F) → hI h' f a = hI h f a) ∧ ∀ a, (∀ i ∈ A, a ≠ r + i) → aI h' a = aI h a
theorem rE.refl (h : zH) (r : Nat) : rE h h r [] [] := ⟨⟨rfl, rfl, rfl, rfl, rfl, rfl, rfl⟩, fun _ _ _ => rfl, fun _ _ => rfl⟩
theorem rE.trans {h h1 h2 : zH} {r : Nat} {F A F' A' : List Nat} (p : rE h h1 r F A) (q : rE h1 h2 r F' A') : rE h h2 r (F ++ F') (A ++ A') := by
  obtain ⟨⟨p1, p2, p3, p4, p5, p6, p7⟩, p8, p9⟩ := p
  obtain ⟨⟨q1, q2, q3, q4, q5, q6, q7⟩, q8, q9⟩ := q
  refine ⟨⟨q1.trans p1, q2.trans p2, q3.trans p3, q4.trans p4, q5.trans p5, q6.trans p6, q7.trans p7⟩, fun f a hf => ?_, fun a ha => (q9 a (fun i hi => ha i (List.mem_append_right _ hi))).trans (p9 a (fun i hi => ha i (List.mem_append_left _ hi)))⟩
  have hf1 : a ≠ r ∨ f ∉ F := hf.imp id (fun z y => z (List.mem_append_left _ y))
  have hf2 : a ≠ r ∨ f ∉ F' := hf.imp id (fun z y => z (List.mem_append_right _ y))
  exact (q8 f a hf2).trans (p8 f a hf1)
theorem rE.mono {h h' : zH} {r : Nat} {F A F' A' : List Nat} (p : rE h h' r F A) (h1 : ∀ f ∈ F, f ∈ F') (h2 : ∀ i ∈ A, i ∈ A') : rE h h' r F' A' :=
  ⟨p.1, fun f a hf => p.2.1 f a (hf.imp id (fun z y => z (h1 f y))), fun a ha => p.2.2 a (fun i hi => ha i (h2 i hi))⟩
theorem rE.i {h : zH} {r f : Nat} {v : Int32} : rE h (sI h f r v) r [f] [] := ⟨⟨rfl, rfl, rfl, rfl, rfl, rfl, rfl⟩, fun g a hg => by
  rcases hg with z | z
  · exact hI_sI_a z
  · exact hI_sI_f (fun e => z (List.mem_singleton.mpr e)), fun _ _ => rfl⟩
theorem rE.a {h : zH} {r i : Nat} {K : Nat → Int32} : rE h (sRow h (r + i) K) r [] [i] := ⟨⟨rfl, rfl, rfl, rfl, rfl, rfl, rfl⟩, fun _ _ _ => rfl, fun a ha => aI_sRow_a (ha i (List.mem_singleton.mpr rfl))⟩
theorem rE.m {h h' : zH} {r : Nat} {F A : List Nat} (e : rE h h' r F A) (q : zMs h r) : zMs h' r := by
  obtain ⟨⟨-, e2, e3, e4, -⟩, -⟩ := e
  unfold zMs
  rw [e2, e3, e4]
  exact q
theorem rE.f {h h' : zH} {r f : Nat} {F A : List Nat} (e : rE h h' r F A) (hf : f ∉ F) : hI h' f r = hI h f r := e.2.1 f r (Or.inr hf)
theorem rE.r {h h' : zH} {r i : Nat} {F A : List Nat} (e : rE h h' r F A) (hi : i ∉ A) : aI h' (r + i) = aI h (r + i) := e.2.2 _ (fun j hj z => hi (by rw [show i = j by omega]; exact hj))
theorem rE.q {h h' : zH} {r : Nat} {F A : List Nat} (e : rE h h' r F A) (hA : ∀ i ∈ A, i < 9) : zFq h h' r (r + 9) := by
  obtain ⟨⟨e1, e2, e3, e4, e5, e6, e7⟩, e8, e9⟩ := e
  refine ⟨e1, e2, e3, e4, e6, e7, fun f a ha => e8 f a (Or.inl (by omega)), fun a i ha => ⟨congrFun (e9 a (fun j hj => by have := hA j hj; omega)) i, congrFun (congrFun e5 a) i⟩⟩
def rKp (h : zH) (r : Nat) (us : List zGd) : Prop := hI h 420 r = nI us.length ∧ us.length ≤ 8 ∧ ∀ k u, us[k]? = some u → rG (fun j => aI h (r + 4) (116 * k + j)) u
def rSv (h : zH) (r : Nat) (sn : Option zGd) : Prop := hI h 422 r = nI (b2 sn.isSome) ∧ ∀ s, sn = some s → rG (aI h (r + 5)) s
def rNm (h : zH) (r : Nat) (off rs dt cs : Int32) : Prop := hI h 430 r = off ∧ hI h 431 r = rs ∧ hI h 432 r = dt ∧ hI h 433 r = cs
def rTx (h : zH) (r : Nat) (t : List Nat) : Prop := hI h 426 r = nI t.length ∧ t.length ≤ 60 ∧ ∀ i c, t[i]? = some c → aI h (r + 7) i = nI c ∧ 32 ≤ c ∧ c ≤ 126
def rOt (h : zH) (r : Nat) (o : List Nat) : Prop := hI h 424 r = nI o.length ∧ o.length ≤ 60 ∧ ∀ i c, o[i]? = some c → aI h (r + 6) i = nI c ∧ c < 128
/-- the reference's state -/
def rSt (h : zH) (r : Nat) (g : zGd) (us : List zGd) (sn : Option zGd) (off rs dt cs : Int32) (t o : List Nat) : Prop := zMs h r ∧ rG (aI h (r + 1)) g ∧ rKp h r us ∧ rSv h r sn ∧ rNm h r off rs dt cs ∧ rTx h r t ∧ rOt h r o
theorem rKp_e {h h' : zH} {r : Nat} {us : List zGd} {F A : List Nat} (q : rKp h r us) (e : rE h h' r F A) (hF : 420 ∉ F) (hA : 4 ∉ A) : rKp h' r us := ⟨(e.f hF).trans q.1, q.2.1, fun k u hk => by rw [e.r hA]; exact q.2.2 k u hk⟩
theorem rSv_e {h h' : zH} {r : Nat} {sn : Option zGd} {F A : List Nat} (q : rSv h r sn) (e : rE h h' r F A) (hF : 422 ∉ F) (hA : 5 ∉ A) : rSv h' r sn := ⟨(e.f hF).trans q.1, fun s hs => by rw [e.r hA]; exact q.2 s hs⟩
theorem rNm_e {h h' : zH} {r : Nat} {a b c d : Int32} {F A : List Nat} (q : rNm h r a b c d) (e : rE h h' r F A) (hF : 430 ∉ F ∧ 431 ∉ F ∧ 432 ∉ F ∧ 433 ∉ F) : rNm h' r a b c d := ⟨(e.f hF.1).trans q.1, (e.f hF.2.1).trans q.2.1, (e.f hF.2.2.1).trans q.2.2.1, (e.f hF.2.2.2).trans q.2.2.2⟩
theorem rTx_e {h h' : zH} {r : Nat} {t : List Nat} {F A : List Nat} (q : rTx h r t) (e : rE h h' r F A) (hF : 426 ∉ F) (hA : 7 ∉ A) : rTx h' r t := ⟨(e.f hF).trans q.1, q.2.1, fun i c hi => by rw [e.r hA]; exact q.2.2 i c hi⟩
theorem rOt_e {h h' : zH} {r : Nat} {o : List Nat} {F A : List Nat} (q : rOt h r o) (e : rE h h' r F A) (hF : 424 ∉ F) (hA : 6 ∉ A) : rOt h' r o := ⟨(e.f hF).trans q.1, q.2.1, fun i c hi => by rw [e.r hA]; exact q.2.2 i c hi⟩
/-- the first k numbers are those of S -/
def cpF (S g : Nat → Int32) (k : Nat) : Nat → Int32 := fun j => if j < k then S j else g j
theorem cpF_0 {S g : Nat → Int32} : cpF S g 0 = g := by funext j; exact if_neg (by omega)
theorem cpF_s {S g : Nat → Int32} {k : Nat} : fup (cpF S g k) k (S k) = cpF S g (k + 1) := by
  funext j
  unfold fup cpF
  by_cases e : j = k
  · rw [if_pos e, if_pos (by omega), e]
  · rw [if_neg e]
    by_cases e2 : j < k
    · rw [if_pos e2, if_pos (by omega)]
    · rw [if_neg e2, if_neg (by omega)]
theorem cpF_y {S g : Nat → Int32} {k j : Nat} (h : j < k) : cpF S g k j = S j := if_pos h
theorem sRow_at {h : zH} {a : Nat} {f : Nat → Int32} (e : f = aI h a) : sRow h a f = h := by rw [e]; exact sRow_id
set_option maxHeartbeats 4000000 in
set_option maxRecDepth 100000 in
theorem L_mtriesE {X : zX} {l : Launch} {E : zG} {rm : Room} (hzs : zS E) (hst : l.stackTraces = false) (C : zC X cX10_tries RX10 2) (G : zGX X l E rm) {h1 : zH} {r : Nat}  (kk : zV X 0 0 h1 31 [(0, .ref r), (1, .int (nI 116))] []) : zV X 0 0 h1 7 [(0, .ref r), (1, .int (nI 116))] [] := by
  
  refine zV.iload_n C dX10_tries_7 rfl ?_
  refine zV.bi (v := nI 116) C dX10_tries_8 (by decide) ?_
  refine zV.icmp_ge (tgt := 31) C dX10_tries_10 (by decide) (fun q10 => ?_) (fun q10 => ?_)
  · exact kk
  · exact absurd (by decide) q10
set_option maxHeartbeats 4000000 in
set_option maxRecDepth 100000 in
theorem L_mtries {X : zX} {l : Launch} {E : zG} {rm : Room} (hzs : zS E) (hst : l.stackTraces = false) (C : zC X cX10_tries RX10 2) (G : zGX X l E rm) {h : zH} {r : Nat}  (hm : zMs h r)  (kk : zV X 0 0 (sRow h (r + 2) (cpF (aI h (r + 1)) (aI h (r + 2)) 116)) 31 [(0, .ref r), (1, .int (nI 116))] []) : ∀ n k, k + n = 116 → zV X 0 0 (sRow h (r + 2) (cpF (aI h (r + 1)) (aI h (r + 2)) k)) 7 [(0, .ref r), (1, .int (nI k))] [] := by
  intro n
  induction n with
  | zero =>
    intro k hk
    obtain rfl : k = 116 := by omega
    exact L_mtriesE hzs hst C G kk
  | succ n ih =>
    intro k hk
    refine zV.iload_n C dX10_tries_7 rfl ?_
    refine zV.bi (v := nI 116) C dX10_tries_8 (by decide) ?_
    refine zV.icmp_ge (tgt := 31) C dX10_tries_10 (by decide) (fun q10 => ?_) (fun q10 => ?_)
    · exact absurd (nle (by omega) (by decide) q10) (by omega)
    · refine zV.aload_n C dX10_tries_13 rfl rfl ?_
      refine zV.gR 417 (k := 1) C dX10_tries_14 zcl_X10 (by decide) rfl lk_X10_13 (hm.1) rfl (hm.2.2.1) ?_
      refine zV.iload_n C dX10_tries_17 rfl ?_
      refine zV.aload_n C dX10_tries_18 rfl rfl ?_
      refine zV.gR 416 (k := 0) C dX10_tries_19 zcl_X10 (by decide) rfl lk_X10_9 (hm.1) rfl (hm.2.1) ?_
      refine zV.iload_n C dX10_tries_22 rfl ?_
      refine zV.ialdv (j := k) C dX10_tries_23 (hm.2.2.2.2.2.2.2.2.2.1.1) (rfl) (Nat.lt_of_lt_of_eq (show k < 116 by omega) (hm.2.2.2.2.2.2.2.2.2.1.2).symm) (by omega) ((show aI (sRow h (r + 2) (cpF (aI h (r + 1)) (aI h (r + 2)) k)) (r + 1) k = (aI h (r + 1)) k from by rw [aI_sRow_a (by omega)])) ?_
      refine zV.iast (j := k) C dX10_tries_24 (hm.2.2.2.2.2.2.2.2.2.2.1.1) (rfl) (Nat.lt_of_lt_of_eq (show k < 116 by omega) (hm.2.2.2.2.2.2.2.2.2.2.1.2).symm) (by omega) ?_
      rw [saI_row2, cpF_s]
      refine zV.iinc (lo' := [(0, _), (1, _)]) C dX10_tries_25 rfl (by decide) rfl rfl rfl ?_
      refine zV.goto (tgt := 7) C dX10_tries_28 (by decide) ?_
      rw [inc1]
      exact ih (k + 1) (by omega)
set_option maxHeartbeats 4000000 in
set_option maxRecDepth 100000 in
theorem s_mtriesZ {X : zX} {l : Launch} {E : zG} {rm : Room} (hzs : zS E) (hst : l.stackTraces = false) (C : zC X cX10_tries RX10 2) (G : zGX X l E rm) {h : zH} {r : Nat} {x : Int32} {Qr : Option Value → zH → Prop} {Qx : String → zH → Prop} (F : zF X none 0 0 Qr Qx) (hq : Qr none h) : zV X 0 0 h 31 [(0, .ref r), (1, .int x)] [] := by
  
  refine zV.vret C F dX10_tries_31 rfl ?_
  exact hq
set_option maxHeartbeats 4000000 in
set_option maxRecDepth 100000 in
theorem s_mtries {l : Launch} {E : zG} (hzs : zS E) (hst : l.stackTraces = false) (h : zH) (r : Nat) (hm : zMs h r) : zMet l E yX10_tries cX10_tries 2 none ({ frames := 0, cells := 0, slots := 0, locals := 0 } : Room) 0 0 [.ref r] h (fun v h' => v = none ∧ h' = sRow (sI h 435 r (nI 0)) (r + 2) (cpF (aI h (r + 1)) (aI h (r + 2)) 116)) (fun _ _ => False) := by
  refine zM_start hzs hst (by decide) (Nat.le_of_ble_eq_true rfl) (fun X C G F I => ?_)
  show zV X 0 0 _ 0 [(0, _)] []
  refine zV.aload_n C dX10_tries_0 rfl rfl ?_
  refine zV.ic (v := nI 0) C dX10_tries_1 (by decide) ?_
  refine zV.pI 435 (k := 19) C dX10_tries_2 zcl_X10 (by decide) rfl lk_X10_39 rfl hm.1 rfl ⟨rfl, rfl⟩ ?_
  refine zV.ic (v := nI 0) C dX10_tries_5 (by decide) ?_
  refine zV.istore_n (lo' := [(0, _), (1, _)]) C dX10_tries_6 (by decide) rfl rfl rfl ?_
  have e := L_mtries (h := (sI h 435 r (nI 0))) hzs hst C G hm (s_mtriesZ hzs hst C G F ⟨rfl, rfl⟩) 116 0 rfl
  rw [cpF_0, sRow_at rfl] at e
  exact e
set_option maxHeartbeats 4000000 in
set_option maxRecDepth 100000 in
theorem L_mthinksE {X : zX} {l : Launch} {E : zG} {rm : Room} (hzs : zS E) (hst : l.stackTraces = false) (C : zC X cX10_thinks RX10 2) (G : zGX X l E rm) {h1 : zH} {r : Nat}  (kk : zV X 0 0 h1 26 [(0, .ref r), (1, .int (nI 116))] []) : zV X 0 0 h1 2 [(0, .ref r), (1, .int (nI 116))] [] := by
  
  refine zV.iload_n C dX10_thinks_2 rfl ?_
  refine zV.bi (v := nI 116) C dX10_thinks_3 (by decide) ?_
  refine zV.icmp_ge (tgt := 26) C dX10_thinks_5 (by decide) (fun q5 => ?_) (fun q5 => ?_)
  · exact kk
  · exact absurd (by decide) q5
set_option maxHeartbeats 4000000 in
set_option maxRecDepth 100000 in
theorem L_mthinks {X : zX} {l : Launch} {E : zG} {rm : Room} (hzs : zS E) (hst : l.stackTraces = false) (C : zC X cX10_thinks RX10 2) (G : zGX X l E rm) {h : zH} {r : Nat}  (hm : zMs h r)  (kk : zV X 0 0 (sRow h (r + 3) (cpF (aI h (r + 1)) (aI h (r + 3)) 116)) 26 [(0, .ref r), (1, .int (nI 116))] []) : ∀ n k, k + n = 116 → zV X 0 0 (sRow h (r + 3) (cpF (aI h (r + 1)) (aI h (r + 3)) k)) 2 [(0, .ref r), (1, .int (nI k))] [] := by
  intro n
  induction n with
  | zero =>
    intro k hk
    obtain rfl : k = 116 := by omega
    exact L_mthinksE hzs hst C G kk
  | succ n ih =>
    intro k hk
    refine zV.iload_n C dX10_thinks_2 rfl ?_
    refine zV.bi (v := nI 116) C dX10_thinks_3 (by decide) ?_
    refine zV.icmp_ge (tgt := 26) C dX10_thinks_5 (by decide) (fun q5 => ?_) (fun q5 => ?_)
    · exact absurd (nle (by omega) (by decide) q5) (by omega)
    · refine zV.aload_n C dX10_thinks_8 rfl rfl ?_
      refine zV.gR 418 (k := 2) C dX10_thinks_9 zcl_X10 (by decide) rfl lk_X10_16 (hm.1) rfl (hm.2.2.2.1) ?_
      refine zV.iload_n C dX10_thinks_12 rfl ?_
      refine zV.aload_n C dX10_thinks_13 rfl rfl ?_
      refine zV.gR 416 (k := 0) C dX10_thinks_14 zcl_X10 (by decide) rfl lk_X10_9 (hm.1) rfl (hm.2.1) ?_
      refine zV.iload_n C dX10_thinks_17 rfl ?_
      refine zV.ialdv (j := k) C dX10_thinks_18 (hm.2.2.2.2.2.2.2.2.2.1.1) (rfl) (Nat.lt_of_lt_of_eq (show k < 116 by omega) (hm.2.2.2.2.2.2.2.2.2.1.2).symm) (by omega) ((show aI (sRow h (r + 3) (cpF (aI h (r + 1)) (aI h (r + 3)) k)) (r + 1) k = (aI h (r + 1)) k from by rw [aI_sRow_a (by omega)])) ?_
      refine zV.iast (j := k) C dX10_thinks_19 (hm.2.2.2.2.2.2.2.2.2.2.2.1.1) (rfl) (Nat.lt_of_lt_of_eq (show k < 116 by omega) (hm.2.2.2.2.2.2.2.2.2.2.2.1.2).symm) (by omega) ?_
      rw [saI_row2, cpF_s]
      refine zV.iinc (lo' := [(0, _), (1, _)]) C dX10_thinks_20 rfl (by decide) rfl rfl rfl ?_
      refine zV.goto (tgt := 2) C dX10_thinks_23 (by decide) ?_
      rw [inc1]
      exact ih (k + 1) (by omega)
set_option maxHeartbeats 4000000 in
set_option maxRecDepth 100000 in
theorem L_mforgetsE {X : zX} {l : Launch} {E : zG} {rm : Room} (hzs : zS E) (hst : l.stackTraces = false) (C : zC X cX10_forgets RX10 2) (G : zGX X l E rm) {h1 : zH} {r : Nat}  (kk : zV X 0 0 h1 26 [(0, .ref r), (1, .int (nI 116))] []) : zV X 0 0 h1 2 [(0, .ref r), (1, .int (nI 116))] [] := by
  
  refine zV.iload_n C dX10_forgets_2 rfl ?_
  refine zV.bi (v := nI 116) C dX10_forgets_3 (by decide) ?_
  refine zV.icmp_ge (tgt := 26) C dX10_forgets_5 (by decide) (fun q5 => ?_) (fun q5 => ?_)
  · exact kk
  · exact absurd (by decide) q5
set_option maxHeartbeats 4000000 in
set_option maxRecDepth 100000 in
theorem L_mforgets {X : zX} {l : Launch} {E : zG} {rm : Room} (hzs : zS E) (hst : l.stackTraces = false) (C : zC X cX10_forgets RX10 2) (G : zGX X l E rm) {h : zH} {r : Nat}  (hm : zMs h r)  (kk : zV X 0 0 (sRow h (r + 1) (cpF (aI h (r + 3)) (aI h (r + 1)) 116)) 26 [(0, .ref r), (1, .int (nI 116))] []) : ∀ n k, k + n = 116 → zV X 0 0 (sRow h (r + 1) (cpF (aI h (r + 3)) (aI h (r + 1)) k)) 2 [(0, .ref r), (1, .int (nI k))] [] := by
  intro n
  induction n with
  | zero =>
    intro k hk
    obtain rfl : k = 116 := by omega
    exact L_mforgetsE hzs hst C G kk
  | succ n ih =>
    intro k hk
    refine zV.iload_n C dX10_forgets_2 rfl ?_
    refine zV.bi (v := nI 116) C dX10_forgets_3 (by decide) ?_
    refine zV.icmp_ge (tgt := 26) C dX10_forgets_5 (by decide) (fun q5 => ?_) (fun q5 => ?_)
    · exact absurd (nle (by omega) (by decide) q5) (by omega)
    · refine zV.aload_n C dX10_forgets_8 rfl rfl ?_
      refine zV.gR 416 (k := 0) C dX10_forgets_9 zcl_X10 (by decide) rfl lk_X10_9 (hm.1) rfl (hm.2.1) ?_
      refine zV.iload_n C dX10_forgets_12 rfl ?_
      refine zV.aload_n C dX10_forgets_13 rfl rfl ?_
      refine zV.gR 418 (k := 2) C dX10_forgets_14 zcl_X10 (by decide) rfl lk_X10_16 (hm.1) rfl (hm.2.2.2.1) ?_
      refine zV.iload_n C dX10_forgets_17 rfl ?_
      refine zV.ialdv (j := k) C dX10_forgets_18 (hm.2.2.2.2.2.2.2.2.2.2.2.1.1) (rfl) (Nat.lt_of_lt_of_eq (show k < 116 by omega) (hm.2.2.2.2.2.2.2.2.2.2.2.1.2).symm) (by omega) ((show aI (sRow h (r + 1) (cpF (aI h (r + 3)) (aI h (r + 1)) k)) (r + 3) k = (aI h (r + 3)) k from by rw [aI_sRow_a (by omega)])) ?_
      refine zV.iast (j := k) C dX10_forgets_19 (hm.2.2.2.2.2.2.2.2.2.1.1) (rfl) (Nat.lt_of_lt_of_eq (show k < 116 by omega) (hm.2.2.2.2.2.2.2.2.2.1.2).symm) (by omega) ?_
      rw [saI_row2, cpF_s]
      refine zV.iinc (lo' := [(0, _), (1, _)]) C dX10_forgets_20 rfl (by decide) rfl rfl rfl ?_
      refine zV.goto (tgt := 2) C dX10_forgets_23 (by decide) ?_
      rw [inc1]
      exact ih (k + 1) (by omega)
set_option maxHeartbeats 4000000 in
set_option maxRecDepth 100000 in
theorem s_mthinksZ {X : zX} {l : Launch} {E : zG} {rm : Room} (hzs : zS E) (hst : l.stackTraces = false) (C : zC X cX10_thinks RX10 2) (G : zGX X l E rm) {h : zH} {r : Nat} {x : Int32} {Qr : Option Value → zH → Prop} {Qx : String → zH → Prop} (F : zF X none 0 0 Qr Qx) (hq : Qr none h) : zV X 0 0 h 26 [(0, .ref r), (1, .int x)] [] := by
  
  refine zV.vret C F dX10_thinks_26 rfl ?_
  exact hq
set_option maxHeartbeats 4000000 in
set_option maxRecDepth 100000 in
theorem s_mthinks {l : Launch} {E : zG} (hzs : zS E) (hst : l.stackTraces = false) (h : zH) (r : Nat) (hm : zMs h r) : zMet l E yX10_thinks cX10_thinks 2 none ({ frames := 0, cells := 0, slots := 0, locals := 0 } : Room) 0 0 [.ref r] h (fun v h' => v = none ∧ h' = sRow h (r + 3) (cpF (aI h (r + 1)) (aI h (r + 3)) 116)) (fun _ _ => False) := by
  refine zM_start hzs hst (by decide) (Nat.le_of_ble_eq_true rfl) (fun X C G F I => ?_)
  show zV X 0 0 _ 0 [(0, _)] []
  refine zV.ic (v := nI 0) C dX10_thinks_0 (by decide) ?_
  refine zV.istore_n (lo' := [(0, _), (1, _)]) C dX10_thinks_1 (by decide) rfl rfl rfl ?_
  have e := L_mthinks (h := h) hzs hst C G hm (s_mthinksZ hzs hst C G F ⟨rfl, rfl⟩) 116 0 rfl
  rw [cpF_0, sRow_at rfl] at e
  exact e
set_option maxHeartbeats 4000000 in
set_option maxRecDepth 100000 in
theorem s_mforgetsZ {X : zX} {l : Launch} {E : zG} {rm : Room} (hzs : zS E) (hst : l.stackTraces = false) (C : zC X cX10_forgets RX10 2) (G : zGX X l E rm) {h : zH} {r : Nat} {x : Int32} {Qr : Option Value → zH → Prop} {Qx : String → zH → Prop} (F : zF X none 0 0 Qr Qx) (hq : Qr none h) : zV X 0 0 h 26 [(0, .ref r), (1, .int x)] [] := by
  
  refine zV.vret C F dX10_forgets_26 rfl ?_
  exact hq
set_option maxHeartbeats 4000000 in
set_option maxRecDepth 100000 in
theorem s_mforgets {l : Launch} {E : zG} (hzs : zS E) (hst : l.stackTraces = false) (h : zH) (r : Nat) (hm : zMs h r) : zMet l E yX10_forgets cX10_forgets 2 none ({ frames := 0, cells := 0, slots := 0, locals := 0 } : Room) 0 0 [.ref r] h (fun v h' => v = none ∧ h' = sRow h (r + 1) (cpF (aI h (r + 3)) (aI h (r + 1)) 116)) (fun _ _ => False) := by
  refine zM_start hzs hst (by decide) (Nat.le_of_ble_eq_true rfl) (fun X C G F I => ?_)
  show zV X 0 0 _ 0 [(0, _)] []
  refine zV.ic (v := nI 0) C dX10_forgets_0 (by decide) ?_
  refine zV.istore_n (lo' := [(0, _), (1, _)]) C dX10_forgets_1 (by decide) rfl rfl rfl ?_
  have e := L_mforgets (h := h) hzs hst C G hm (s_mforgetsZ hzs hst C G F ⟨rfl, rfl⟩) 116 0 rfl
  rw [cpF_0, sRow_at rfl] at e
  exact e
theorem dyB_in {x : Int32} : dyB x = inB x (nI 1) (nI 20) := by
  unfold dyB inB
  by_cases h : x < nI 1
  · rw [decide_eq_true h, decide_eq_false (p := nI 1 ≤ x) (Int32.not_le.mpr h)]; rfl
  · rw [decide_eq_false h, decide_eq_true (p := nI 1 ≤ x) (Int32.not_lt.mp h)]; rfl
theorem gF_s (g : zGd) (k : Nat) : gF (days g k) - gF g + (gF (dayO (days g k)) - gF (days g k)) = gF (days g (k + 1)) - gF g := by
  have h1 := (days_P g k).2.2.2.2.2.2
  have h2 := (day_P (days g k)).2.2.2.2.2.2.1
  show _ = gF (dayO (days g k)) - gF g
  omega
set_option maxHeartbeats 4000000 in
set_option maxRecDepth 100000 in
theorem L_mpassesE {X : zX} {l : Launch} {E : zG} {rm : Room} (hzs : zS E) (hst : l.stackTraces = false) (C : zC X cX10_passes RX10 4) (G : zGX X l E rm) {h1 : zH} {r N T : Nat} (hN : N ≤ 20) (kk : zV X 0 0 h1 34 [(0, .ref r), (1, .int (nI N)), (2, .int (nI T)), (3, .int (nI N))] []) : zV X 0 0 h1 16 [(0, .ref r), (1, .int (nI N)), (2, .int (nI T)), (3, .int (nI N))] [] := by
  
  refine zV.iload_n C dX10_passes_16 rfl ?_
  refine zV.iload_n C dX10_passes_17 rfl ?_
  refine zV.icmp_ge (tgt := 34) C dX10_passes_18 (by decide) (fun q18 => ?_) (fun q18 => ?_)
  · exact kk
  · exact absurd (nI_le (Nat.le_refl N) (by omega)) q18
set_option maxHeartbeats 4000000 in
set_option maxRecDepth 100000 in
theorem L_mpasses {X : zX} {l : Launch} {E : zG} {rm : Room} (hzs : zS E) (hst : l.stackTraces = false) (C : zC X cX10_passes RX10 4) (G : zGX X l E rm) {h : zH} {r m N : Nat} {g : zGd} (hr : rm = ({ frames := 4, cells := 0, slots := 0, locals := 95 } : Room)) (hm : zMs h r) (hR : gR m g) (hN : N ≤ 20) (hb : m + 3000 ≤ big) (kk : ∀ f', rG f' (days g N) → zV X 0 0 (sRow h (r + 1) f') 34 [(0, .ref r), (1, .int (nI N)), (2, .int (nI (gF (days g N) - gF g))), (3, .int (nI N))] []) : ∀ n k f, k + n = N → rG f (days g k) → zV X 0 0 (sRow h (r + 1) f) 16 [(0, .ref r), (1, .int (nI N)), (2, .int (nI (gF (days g k) - gF g))), (3, .int (nI k))] [] := by
  subst hr
  intro n
  induction n with
  | zero =>
    intro k f hk hg
    obtain rfl : k = N := by omega
    exact L_mpassesE hzs hst C G (by omega) (kk f hg)
  | succ n ih =>
    intro k f hk hg
    have hRk := days_R hR k
    refine zV.iload_n C dX10_passes_16 rfl ?_
    refine zV.iload_n C dX10_passes_17 rfl ?_
    refine zV.icmp_ge (tgt := 34) C dX10_passes_18 (by decide) (fun q18 => ?_) (fun q18 => ?_)
    · exact absurd (nle (by omega) (by omega) q18) (by omega)
    · refine zV.iload_n C dX10_passes_21 rfl ?_
      refine zV.aload_n C dX10_passes_22 rfl rfl ?_
      refine zV.callV (n := 0) C G dX10_passes_23 (s_mgoesBy hzs hst h r (m + 30 * k) (days g k) f hm hg hRk (by omega)) rfl ⟨cd_X10_goesBy, lk_X10_170, im_X10_goesBy, se_X10_X10_goesBy, in_X10⟩ ⟨⟨by decide, by decide⟩, by decide⟩ rfl rfl rfl (hm.1) ⟨rfl, by decide⟩ (zafR (fun h9 ⟨f9, e9, g9⟩ => ?_)) (zno)
      subst e9
      refine zV.iadd C dX10_passes_26 ?_
      rw [nI_add, gF_s]
      refine zV.istore_n (lo' := [(0, _), (1, _), (2, _), (3, _)]) C dX10_passes_27 (by decide) rfl rfl rfl ?_
      refine zV.iinc (lo' := [(0, _), (1, _), (2, _), (3, _)]) C dX10_passes_28 rfl (by decide) rfl rfl rfl ?_
      refine zV.goto (tgt := 16) C dX10_passes_31 (by decide) ?_
      rw [inc1]
      exact ih (k + 1) f9 (by omega) g9
set_option maxHeartbeats 4000000 in
set_option maxRecDepth 100000 in
theorem s_mpassesZ {X : zX} {l : Launch} {E : zG} {rm : Room} (hzs : zS E) (hst : l.stackTraces = false) (C : zC X cX10_passes RX10 4) (G : zGX X l E rm) {h : zH} {r : Nat} {x y z : Int32} {Qr : Option Value → zH → Prop} {Qx : String → zH → Prop} (hr : rm = ({ frames := 4, cells := 0, slots := 0, locals := 95 } : Room)) (F : zF X (some .int) 0 0 Qr Qx) (hm : zMs h r) (hq : Qr (some (.int (nI 0))) (sI h 434 r y)) : zV X 0 0 h 34 [(0, .ref r), (1, .int x), (2, .int y), (3, .int z)] [] := by
  subst hr
  refine zV.aload_n C dX10_passes_34 rfl rfl ?_
  refine zV.iload_n C dX10_passes_35 rfl ?_
  refine zV.callV (n := 1) C G dX10_passes_36 (s_mdoes hzs hst h r hm y) rfl ⟨cd_X10_does, lk_X10_100, im_X10_does, se_X10_X10_does, in_X10⟩ ⟨⟨by decide, by decide⟩, by decide⟩ rfl rfl rfl (hm.1) ⟨rfl, by decide⟩ (zaf ?_) (zno)
  refine zV.iret C F dX10_passes_39 rfl ?_
  exact hq
set_option maxHeartbeats 4000000 in
set_option maxRecDepth 100000 in
theorem s_mpasses {l : Launch} {E : zG} (hzs : zS E) (hst : l.stackTraces = false) (h : zH) (r m : Nat) (g : zGd) (hm : zMs h r) (hg : rG (aI h (r + 1)) g) (hR : gR m g) (hb : m + 3000 ≤ big) (x : Int32) : zMet l E yX10_passes cX10_passes 4 (some .int) ({ frames := 4, cells := 0, slots := 0, locals := 95 } : Room) 0 0 [.ref r, .int x] h (opQ h r (jDy x) (ap g 100 x 0).2 (fun f' => rG f' (ap g 100 x 0).1)) (fun _ _ => False) := by
  refine zM_start hzs hst (by decide) (Nat.le_of_ble_eq_true rfl) (fun X C G F I => ?_)
  show zV X 0 0 _ 0 [(0, _), (1, _)] []
  refine zV.iload_n C dX10_passes_0 rfl ?_
  refine zV.ic (v := nI 1) C dX10_passes_1 (by decide) ?_
  refine zV.bi (v := nI 20) C dX10_passes_2 (by decide) ?_
  refine zV.callS (n := 3) C G dX10_passes_4 (s_min hzs hst h x (nI 1) (nI 20)) rfl ⟨cd_X10_in, lk_X10_61, st_X10_in, in_X10⟩ ⟨⟨by decide, by decide⟩, by decide⟩ rfl rfl rfl (zaf ?_) (zno)
  refine zV.if_ne (tgt := 12) C dX10_passes_7 (by decide) (fun q7 => ?_) (fun q7 => ?_)
  · have e3 : inB x (nI 1) (nI 20) = true := Bool.of_not_eq_false (fun z => q7 (b2n.mpr z))
    obtain ⟨N, rfl, hN1, hN2⟩ := inB_n (by decide) (by decide) e3
    refine zV.ic (v := nI 0) C dX10_passes_12 (by decide) ?_
    refine zV.istore_n (lo' := [(0, _), (1, _), (2, _)]) C dX10_passes_13 (by decide) rfl rfl rfl ?_
    refine zV.ic (v := nI 0) C dX10_passes_14 (by decide) ?_
    refine zV.istore_n (lo' := [(0, _), (1, _), (2, _), (3, _)]) C dX10_passes_15 (by decide) rfl rfl rfl ?_
    have eN : (nI N).toNatClampNeg = N := nI_cl (by omega)
    have z := L_mpasses (h := h) (N := N) hzs hst C G rfl hm hR hN2 hb (fun f' hf' => s_mpassesZ hzs hst C G rfl F hm (opQ_0 (if_pos (by rw [dyB_in]; exact e3)) (show nI (gF (days g (nI N).toNatClampNeg) - gF g) = _ from by rw [eN]) (show rG f' (days g (nI N).toNatClampNeg) from by rw [eN]; exact hf'))) N 0 (aI h (r + 1)) (by omega) hg
    rw [sRow_id, show gF (days g 0) - gF g = 0 from Nat.sub_self _] at z
    exact z
  · have e3 : ¬ inB x (nI 1) (nI 20) = true := fun z => by rw [b2n.mp q7] at z; cases z
    refine zV.ic (v := nI 2) C dX10_passes_10 (by decide) ?_
    refine zV.iret C F dX10_passes_11 rfl ?_
    exact opQ_2 (if_neg (by rw [dyB_in]; exact e3))
