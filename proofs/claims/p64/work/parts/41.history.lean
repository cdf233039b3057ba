/-! History -/
def zHs (h : zH) (a : Nat) : Prop := hK h a = 8 ∧ hR h 224 a = some (a + 1) ∧ hK h (a + 1) = 107 ∧ hL h (a + 1) = 8
-- the garden at the k-th place of the past
def pA (h : zH) (a k : Nat) : Nat := (aR h (a + 1) k).getD 0
def zHp (h : zH) (a : Nat) : Prop := (∀ k, k < 8 → aR h (a + 1) k = some (pA h a k) ∧ ∃ i, i < 8 ∧ pA h a k = a + 2 + 21 * i) ∧ (∀ j k, j < 8 → k < 8 → pA h a j = pA h a k → j = k) ∧ ∀ k, k < 8 → zGt h (pA h a k)
/-- the history at a holds the gardens us, the oldest first -/
def zHi (h : zH) (a : Nat) (us : List zGd) : Prop := zHs h a ∧ zHp h a ∧ hI h 225 a = nI us.length ∧ us.length ≤ 8 ∧ ∀ (k : Nat) (g : zGd), us[k]? = some g → zGa h (pA h a k) g ∧ (gC g).length ≤ 12
theorem pA_lt {h : zH} {a k : Nat} (q : zHp h a) (hk : k < 8) : a + 2 ≤ pA h a k ∧ pA h a k + 21 ≤ a + 170 := by
  obtain ⟨-, i, hi, e⟩ := q.1 k hk
  omega
theorem pA_dis {h : zH} {a j k : Nat} (q : zHp h a) (hj : j < 8) (hk : k < 8) (e : j ≠ k) : pA h a j + 21 ≤ pA h a k ∨ pA h a k + 21 ≤ pA h a j := by
  obtain ⟨-, i, hi, e1⟩ := q.1 j hj
  obtain ⟨-, i2, hi2, e2⟩ := q.1 k hk
  rcases Nat.lt_trichotomy i i2 with z | z | z
  · left; omega
  · subst z; exact absurd (q.2.1 j k hj hk (e1.trans e2.symm)) e
  · right; omega
theorem pA_k {h : zH} {a k : Nat} (q : zHp h a) (hk : k < 8) : hK h (pA h a k) = 7 := (q.2.2 k hk).1.1
theorem zHs_e {h h' : zH} {a : Nat} (q : zHs h a) (e0 : zEq h h' a) (e1 : zEq h h' (a + 1)) : zHs h' a := ⟨e0.1.trans q.1, (e0.2.2.1 _).trans q.2.1, e1.1.trans q.2.2.1, e1.2.1.trans q.2.2.2⟩
theorem pA_e {h h' : zH} {a k : Nat} (e1 : zEq h h' (a + 1)) : pA h' a k = pA h a k := by unfold pA; rw [e1.2.2.2.2.2.1]
theorem zHi_e {h h' : zH} {a : Nat} {us : List zGd} (q : zHi h a us) (e : ∀ c, a ≤ c → c < a + 170 → zEq h h' c) : zHi h' a us := by
  obtain ⟨q1, q2, q3, q4, q5⟩ := q
  have e1 := e (a + 1) (by omega) (by omega)
  have eg : ∀ k, k < 8 → ∀ c, pA h a k ≤ c → c < pA h a k + 21 → zEq h h' c := fun k hk c h1 h2 => e c (by have := pA_lt q2 hk; omega) (by have := pA_lt q2 hk; omega)
  refine ⟨zHs_e q1 (e a (by omega) (by omega)) e1, ⟨fun k hk => ?_, fun j k hj hk z => ?_, fun k hk => ?_⟩, ((e a (by omega) (by omega)).2.2.2.1 _).trans q3, q4, fun k g hg => ?_⟩
  · rw [pA_e e1, e1.2.2.2.2.2.1]; exact q2.1 k hk
  · rw [pA_e e1, pA_e e1] at z; exact q2.2.1 j k hj hk z
  · rw [pA_e e1]; exact zGt_e (q2.2.2 k hk) (eg k hk)
  · rw [pA_e e1]
    have hk : k < 8 := Nat.lt_of_lt_of_le (List.getElem?_eq_some_iff.mp hg).1 q4
    exact ⟨zGa_e (q5 k g hg).1 (q5 k g hg).2 (eg k hk), (q5 k g hg).2⟩
theorem zHi_q {h h' : zH} {a lo hi : Nat} {us : List zGd} (q : zHi h a us) (f : zFq h h' lo hi) (hd : hi ≤ a ∨ a + 170 ≤ lo) : zHi h' a us := zHi_e q (fun c h1 h2 => f.e (by omega))
/-- the number of the kept gardens is written -/
theorem zHi_n {h : zH} {a n : Nat} {us vs : List zGd} (q : zHi h a us) (hn : vs.length = n) (h8 : vs.length ≤ 8) (hv : ∀ (k : Nat) (g : zGd), vs[k]? = some g → us[k]? = some g) : zHi (sI h 225 a (nI n)) a vs := by
  obtain ⟨q1, q2, q3, q4, q5⟩ := q
  subst hn
  have eg : ∀ k, k < 8 → ∀ c, pA h a k ≤ c → c < pA h a k + 21 → zEq h (sI h 225 a (nI vs.length)) c := fun k hk c h1 h2 => zEq_sI (by have := pA_lt q2 hk; omega)
  refine ⟨q1, ⟨q2.1, q2.2.1, fun k hk => zGt_e (q2.2.2 k hk) (eg k hk)⟩, hI_sI, h8, fun k g hg => ?_⟩
  have h1 := hv k g hg
  have hk : k < 8 := Nat.lt_of_lt_of_le (List.getElem?_eq_some_iff.mp h1).1 q4
  exact ⟨zGa_e (q5 k g h1).1 (q5 k g h1).2 (eg k hk), (q5 k g h1).2⟩
theorem zFq.sQ {h h1 : zH} {a e c : Nat} {r : Nat → Option Nat} (p : zFq h h1 a e) (h2 : a ≤ c) (h3 : c < e) : zFq h (sQ h1 c r) a e :=
  p.trans ⟨rfl, rfl, rfl, rfl, rfl, rfl, fun _ _ _ => rfl, fun x j z => ⟨rfl, congrFun (if_neg (fun q => by omega)) j⟩⟩
/-- the oldest is dropped -/
theorem zHi_rot {h : zH} {a : Nat} {us : List zGd} (q : zHi h a us) (h8 : us.length = 8) : zHi (sI (sQ h (a + 1) (fun i => aR h (a + 1) (rot 0 8 i))) 225 a (nI 7)) a (us.drop 1) := by
  obtain ⟨q1, q2, q3, q4, q5⟩ := q
  have er : ∀ k, k < 8 → rot 0 8 k < 8 := fun k hk => by unfold rot; split <;> (try split) <;> omega
  have ei : ∀ j k, rot 0 8 j = rot 0 8 k → j < 8 → k < 8 → j = k := fun j k e hj hk => rot_inj (by omega) e
  have ep : ∀ k, pA (sI (sQ h (a + 1) (fun i => aR h (a + 1) (rot 0 8 i))) 225 a (nI 7)) a k = pA h a (rot 0 8 k) := fun k => by
    show (aR (sQ h (a + 1) (fun i => aR h (a + 1) (rot 0 8 i))) (a + 1) k).getD 0 = _
    rw [sQ_at]; rfl
  have eg : ∀ k, k < 8 → ∀ c, pA h a k ≤ c → c < pA h a k + 21 → zEq h (sI (sQ h (a + 1) (fun i => aR h (a + 1) (rot 0 8 i))) 225 a (nI 7)) c := fun k hk c h1 h2 => (zEq_sQ (by have := pA_lt q2 hk; omega)).trans (zEq_sI (by have := pA_lt q2 hk; omega))
  refine ⟨q1, ⟨fun k hk => ?_, fun j k hj hk z => ?_, fun k hk => ?_⟩, ?_, ?_, fun k g hg => ?_⟩
  · rw [ep]
    refine ⟨?_, (q2.1 _ (er k hk)).2⟩
    show aR (sQ h (a + 1) (fun i => aR h (a + 1) (rot 0 8 i))) (a + 1) k = _
    rw [sQ_at]; exact (q2.1 _ (er k hk)).1
  · rw [ep, ep] at z
    exact ei j k (q2.2.1 _ _ (er j hj) (er k hk) z) hj hk
  · rw [ep]; exact zGt_e (q2.2.2 _ (er k hk)) (eg _ (er k hk))
  · rw [List.length_drop, h8]; exact hI_sI
  · rw [List.length_drop]; omega
  · rw [List.getElem?_drop] at hg
    have hk : 1 + k < 8 := Nat.lt_of_lt_of_le (List.getElem?_eq_some_iff.mp hg).1 q4
    have e1 : rot 0 8 k = 1 + k := by unfold rot; rw [if_neg (by omega), if_pos (by omega)]; omega
    rw [ep, e1]
    exact ⟨zGa_e (q5 _ g hg).1 (q5 _ g hg).2 (eg _ hk), (q5 _ g hg).2⟩
def kp (us : List zGd) (g : zGd) : List zGd := (if us.length < 8 then us else us.drop 1) ++ [g]
/-- the garden at the place behind the last is written -/
theorem zHi_put {h h1 : zH} {a : Nat} {us : List zGd} {g : zGd} (q : zHi h a us) (h8 : us.length < 8) (f : zFr h h1 (pA h a us.length)) (hg : zGa h1 (pA h a us.length) g) (hl : (gC g).length ≤ 12) : zHi (sI h1 225 a (nI (us.length + 1))) a (us ++ [g]) := by
  obtain ⟨q1, q2, q3, q4, q5⟩ := q
  have b := pA_lt q2 h8
  have e0 : ∀ c, (c < pA h a us.length ∨ pA h a us.length + 21 ≤ c) → zEq h h1 c := fun c hc => f.q.e hc
  have e1 := e0 (a + 1) (by omega)
  have q1' := zHs_e q1 (e0 a (by omega)) e1
  have ep : ∀ k, pA (sI h1 225 a (nI (us.length + 1))) a k = pA h a k := fun k => pA_e (h := h) (h' := h1) e1
  refine ⟨q1', ⟨fun k hk => ?_, fun j k hj hk z => ?_, fun k hk => ?_⟩, ?_, ?_, fun k c hc => ?_⟩
  · rw [ep]
    exact ⟨(congrFun e1.2.2.2.2.2.1 k).trans (q2.1 k hk).1, (q2.1 k hk).2⟩
  · rw [ep, ep] at z; exact q2.2.1 j k hj hk z
  · rw [ep]
    have bk := pA_lt q2 hk
    by_cases z : k = us.length
    · subst z
      exact zGt_e (zGa_t hg) (fun c h1 h2 => zEq_sI (by omega))
    · have d := pA_dis q2 hk h8 z
      exact zGt_e (q2.2.2 k hk) (fun c h1 h2 => (e0 c (by omega)).trans (zEq_sI (by omega)))
  · rw [List.length_append]; exact hI_sI
  · rw [List.length_append]; show us.length + 1 ≤ 8; omega
  · rw [ep]
    rcases Nat.lt_or_ge k us.length with z | z
    · rw [List.getElem?_append_left z] at hc
      have bk := pA_lt q2 (show k < 8 by omega)
      have d := pA_dis q2 (show k < 8 by omega) h8 (by omega)
      exact ⟨zGa_e (q5 k c hc).1 (q5 k c hc).2 (fun x h1 h2 => (e0 x (by omega)).trans (zEq_sI (by omega))), (q5 k c hc).2⟩
    · rw [List.getElem?_append_right z] at hc
      obtain ⟨rfl, e⟩ : k = us.length ∧ g = c := by
        rcases hd : k - us.length with _ | m
        · rw [hd] at hc; exact ⟨by omega, Option.some.inj hc⟩
        · rw [hd] at hc; cases hc
      subst e
      exact ⟨zGa_e hg hl (fun x h1 h2 => zEq_sI (by omega)), hl⟩
set_option maxHeartbeats 4000000 in
set_option maxRecDepth 100000 in
theorem L_dropOldest {X : zX} {l : Launch} {E : zG} {rm : Room} (hzs : zS E) (hst : l.stackTraces = false) (C : zC X cX4_dropOldest RX4 3) (G : zGX X l E rm) {h : zH} {a : Nat} {us : List zGd} {Qr : Option Value → zH → Prop} {Qx : String → zH → Prop} (hr : rm = ({ frames := 0, cells := 0, slots := 0, locals := 0 } : Room)) (F : zF X none 0 0 Qr Qx) (hH : zHi h a us) (hq : Qr none (sI (sQ h (a + 1) (fun i => aR h (a + 1) (rot 0 8 i))) 225 a (nI 7))) : ∀ n m, m + 1 ≤ 8 → 8 ≤ m + n → zV X 0 0 (sQ h (a + 1) (shf 0 m (aR h (a + 1)))) 9 [(0, .ref a), (1, .ref (pA h a 0)), (2, .int (nI (m + 1)))] [] := by
  subst hr
  intro n
  induction n with
  | zero => intro m h1 h2; exact absurd h2 (by omega)
  | succ n ih =>
    intro m h1 h2
    have e1 : nI (m + 1) - nI 1 = nI m := pk_sub (by omega)
    refine zV.iload_n C dX4_dropOldest_9 rfl ?_
    refine zV.bi (v := nI 8) C dX4_dropOldest_10 (by decide) ?_
    refine zV.icmp_ge (tgt := 35) C dX4_dropOldest_12 (by decide) (fun q12 => ?_) (fun q12 => ?_)
    · have e : m = 7 := by have := nle (by omega) (by omega) q12; omega
      subst e
      refine zV.aload_n C dX4_dropOldest_35 rfl rfl ?_
      refine zV.gR 224 (k := 0) C dX4_dropOldest_36 zcl_X4 (by decide) rfl lk_X4_11 (kQ hH.1.1) rfl (rQ hH.1.2.1) ?_
      refine zV.bi (v := nI 7) C dX4_dropOldest_39 (by decide) ?_
      refine zV.aload_n C dX4_dropOldest_41 rfl rfl ?_
      refine zV.aastG (j := 7) C dX4_dropOldest_42 (kQ hH.1.2.2.1) (rfl) (Nat.lt_of_lt_of_eq (show 7 < 8 by omega) (zLQ hH.1.2.2.2).symm) (by omega) (kQ (pA_k hH.2.1 (by omega))) ?_
      refine zV.aload_n C dX4_dropOldest_43 rfl rfl ?_
      refine zV.bi (v := nI 7) C dX4_dropOldest_44 (by decide) ?_
      refine zV.pI 225 (k := 1) C dX4_dropOldest_46 zcl_X4 (by decide) rfl lk_X4_18 rfl hH.1.1 rfl ⟨rfl, rfl⟩ ?_
      refine zV.vret C F dX4_dropOldest_49 rfl ?_
      rw [sQ_R, ← (hH.2.1.1 0 (by omega)).1, show (fun x => if x = 7 then aR h (a + 1) 0 else shf 0 7 (aR h (a + 1)) x) = fun i => aR h (a + 1) (rot 0 8 i) from shf_rot (k := 0) (n := 8) (by omega)]
      exact hq
    · have hm : m + 1 < 8 := nlt (by omega) (by omega) q12
      have ck1 := pA_k hH.2.1 hm
      refine zV.aload_n C dX4_dropOldest_15 rfl rfl ?_
      refine zV.gR 224 (k := 0) C dX4_dropOldest_16 zcl_X4 (by decide) rfl lk_X4_11 (kQ hH.1.1) rfl (rQ hH.1.2.1) ?_
      refine zV.iload_n C dX4_dropOldest_19 rfl ?_
      refine zV.ic (v := nI 1) C dX4_dropOldest_20 (by decide) ?_
      refine zV.isub C dX4_dropOldest_21 ?_
      refine zV.aload_n C dX4_dropOldest_22 rfl rfl ?_
      refine zV.gR 224 (k := 0) C dX4_dropOldest_23 zcl_X4 (by decide) rfl lk_X4_11 (kQ hH.1.1) rfl (rQ hH.1.2.1) ?_
      refine zV.iload_n C dX4_dropOldest_26 rfl ?_
      refine zV.aaldG (j := m + 1) C dX4_dropOldest_27 (kQ hH.1.2.2.1) (rfl) (Nat.lt_of_lt_of_eq (show m + 1 < 8 by omega) (zLQ hH.1.2.2.2).symm) (by omega) ((congrFun sQ_at (m + 1)).trans ((if_neg (by omega)).trans (hH.2.1.1 (m + 1) hm).1)) ?_
      refine zV.aastG (j := m) C dX4_dropOldest_28 (kQ hH.1.2.2.1) (e1) (Nat.lt_of_lt_of_eq (show m < 8 by omega) (zLQ hH.1.2.2.2).symm) (by omega) (kQ ck1) ?_
      refine zV.iinc (lo' := [(0, _), (1, _), (2, _)]) C dX4_dropOldest_29 rfl (by decide) rfl rfl rfl ?_
      refine zV.goto (tgt := 9) C dX4_dropOldest_32 (by decide) ?_
      rw [inc1, sQ_R, ← (hH.2.1.1 (m + 1) hm).1, shf_s (Nat.zero_le _)]
      exact ih (m + 1) (by omega) (by omega)
set_option maxHeartbeats 4000000 in
set_option maxRecDepth 100000 in
theorem s_dropOldest {l : Launch} {E : zG} (hzs : zS E) (hst : l.stackTraces = false) (h : zH) (a : Nat) (us : List zGd) (hH : zHi h a us) (h8 : us.length = 8) : zMet l E yX4_dropOldest cX4_dropOldest 3 none ({ frames := 0, cells := 0, slots := 0, locals := 0 } : Room) 0 0 [.ref a] h (fun r h' => r = none ∧ zHi h' a (us.drop 1) ∧ zFq h h' a (a + 170)) (fun _ _ => False) := by
  refine zM_start hzs hst (by decide) (Nat.le_of_ble_eq_true rfl) (fun X C G F I => ?_)
  show zV X 0 0 _ 0 [(0, _)] []
  refine zV.aload_n C dX4_dropOldest_0 rfl rfl ?_
  refine zV.gR 224 (k := 0) C dX4_dropOldest_1 zcl_X4 (by decide) rfl lk_X4_11 (hH.1.1) rfl (hH.1.2.1) ?_
  refine zV.ic (v := nI 0) C dX4_dropOldest_4 (by decide) ?_
  refine zV.aaldG (j := 0) C dX4_dropOldest_5 (hH.1.2.2.1) (rfl) (Nat.lt_of_lt_of_eq (show 0 < 8 by omega) (hH.1.2.2.2).symm) (by omega) (hH.2.1.1 0 (by omega)).1 ?_
  refine zV.astore_n (lo' := [(0, _), (1, _)]) C dX4_dropOldest_6 rfl (by decide) rfl rfl rfl ?_
  refine zV.ic (v := nI 1) C dX4_dropOldest_7 (by decide) ?_
  refine zV.istore_n (lo' := [(0, _), (1, _), (2, _)]) C dX4_dropOldest_8 (by decide) rfl rfl rfl ?_
  have e := L_dropOldest hzs hst C G rfl F hH ⟨rfl, zHi_rot hH h8, ((zFq.refl h a (a + 170)).sQ (by omega) (by omega)).sI (by omega) (by omega)⟩ 8 0 (by omega) (by omega)
  rw [shf_0, sQ_0] at e
  exact e
set_option maxHeartbeats 4000000 in
set_option maxRecDepth 100000 in
theorem L_keep {X : zX} {l : Launch} {E : zG} {rm : Room} (hzs : zS E) (hst : l.stackTraces = false) (C : zC X cX4_keep RX4 2) (G : zGX X l E rm) {h0 : zH} {a b : Nat} {g : zGd} {us0 : List zGd} {Qr : Option Value → zH → Prop} {Qx : String → zH → Prop} (hr : rm = ({ frames := 4, cells := 0, slots := 0, locals := 164 } : Room)) (F : zF X none 0 0 Qr Qx) (hl : (gC g).length ≤ 12) (hd : b + 21 ≤ a ∨ a + 170 ≤ b) (hq : ∀ h', zHi h' a us0 → zFq h0 h' a (a + 170) → Qr none h') : ∀ h us, zHi h a us → us.length < 8 → us ++ [g] = us0 → zGa h b g → zFq h0 h a (a + 170) → zV X 0 0 h 13 [(0, .ref a), (1, .ref b)] [] := by
  subst hr
  intro h us hH h8 hu hg f
  have bp := pA_lt hH.2.1 h8
  refine zV.aload_n C dX4_keep_13 rfl rfl ?_
  refine zV.gR 224 (k := 0) C dX4_keep_14 zcl_X4 (by decide) rfl lk_X4_11 (hH.1.1) rfl (hH.1.2.1) ?_
  refine zV.aload_n C dX4_keep_17 rfl rfl ?_
  refine zV.gIv 225 (k := 1) C dX4_keep_18 zcl_X4 (by decide) rfl lk_X4_18 (hH.1.1) rfl (hH.2.2.1) ?_
  refine zV.aaldG (j := us.length) C dX4_keep_21 (hH.1.2.2.1) (rfl) (Nat.lt_of_lt_of_eq h8 (hH.1.2.2.2).symm) (by omega) (hH.2.1.1 _ h8).1 ?_
  refine zV.aload_n C dX4_keep_22 rfl rfl ?_
  refine zV.callV (n := 1) C G dX4_keep_23 (s_become hzs hst h (pA h a us.length) b g (hH.2.1.2.2 _ h8) hg hl (by omega)) rfl ⟨cd_X3_become, lk_X4_25, im_X3_become, se_X3_X3_become, in_X3⟩ ⟨⟨by decide, by decide⟩, by decide⟩ rfl rfl rfl (hH.2.1.2.2 _ h8).1.1 ⟨rfl, by decide⟩ (zafRv (fun h9 ⟨hg9, f9⟩ => ?_)) (zno)
  have k9 : hK h9 a = 8 := (f9.q.e (by omega)).1.trans hH.1.1
  refine zV.aload_n C dX4_keep_26 rfl rfl ?_
  refine zV.dup C dX4_keep_27 rfl ?_
  refine zV.gIv 225 (k := 1) C dX4_keep_28 zcl_X4 (by decide) rfl lk_X4_18 k9 rfl (((f9.q.e (by omega)).2.2.2.1 225).trans hH.2.2.1) ?_
  refine zV.ic (v := nI 1) C dX4_keep_31 (by decide) ?_
  refine zV.iadd C dX4_keep_32 ?_
  rw [show nI us.length + nI 1 = nI (us.length + 1) from nI_1 _]
  refine zV.pI 225 (k := 1) C dX4_keep_33 zcl_X4 (by decide) rfl lk_X4_18 rfl k9 rfl ⟨rfl, rfl⟩ ?_
  refine zV.vret C F dX4_keep_36 rfl ?_
  exact hq _ (hu ▸ zHi_put hH h8 f9 hg9 hl) ((f.trans (f9.q.mono (by omega) (by omega))).sI (by omega) (by omega))
set_option maxHeartbeats 4000000 in
set_option maxRecDepth 100000 in
theorem s_keep {l : Launch} {E : zG} (hzs : zS E) (hst : l.stackTraces = false) (h : zH) (a b : Nat) (us : List zGd) (g : zGd) (hH : zHi h a us) (hg : zGa h b g) (hl : (gC g).length ≤ 12) (hd : b + 21 ≤ a ∨ a + 170 ≤ b) : zMet l E yX4_keep cX4_keep 2 none ({ frames := 4, cells := 0, slots := 0, locals := 164 } : Room) 0 0 [.ref a, .ref b] h (fun r h' => r = none ∧ zHi h' a (kp us g) ∧ zFq h h' a (a + 170)) (fun _ _ => False) := by
  refine zM_start hzs hst (by decide) (Nat.le_of_ble_eq_true rfl) (fun X C G F I => ?_)
  show zV X 0 0 _ 0 [(0, _), (1, _)] []
  refine zV.aload_n C dX4_keep_0 rfl rfl ?_
  refine zV.gIv 225 (k := 1) C dX4_keep_1 zcl_X4 (by decide) rfl lk_X4_18 (hH.1.1) rfl (hH.2.2.1) ?_
  refine zV.bi (v := nI 8) C dX4_keep_4 (by decide) ?_
  refine zV.icmp_lt (tgt := 13) C dX4_keep_6 (by decide) (fun q6 => ?_) (fun q6 => ?_)
  · have h8 : us.length < 8 := (nI_ltI (by have := hH.2.2.2.1; omega) (by decide)).mp q6
    exact L_keep hzs hst C G rfl F hl hd (fun h1 z f => ⟨rfl, z, f⟩) h us hH h8 (by unfold kp; rw [if_pos h8]) hg (zFq.refl h _ _)
  · have h8 : us.length = 8 := by
      rcases Nat.lt_or_ge us.length 8 with z | z
      · exact absurd (nI_lt z (by decide)) q6
      · have := hH.2.2.2.1; omega
    refine zV.aload_n C dX4_keep_9 rfl rfl ?_
    refine zV.callV (n := 0) C G dX4_keep_10 (s_dropOldest hzs hst h a us hH h8) rfl ⟨cd_X4_dropOldest, lk_X4_22, im_X4_dropOldest, se_X4_X4_dropOldest, in_X4⟩ ⟨⟨by decide, by decide⟩, by decide⟩ rfl rfl rfl (hH.1.1) ⟨rfl, by decide⟩ (zafRv (fun h1 ⟨z1, f1⟩ => ?_)) (zno)
    exact L_keep hzs hst C G rfl F hl hd (fun h1 z f => ⟨rfl, z, f⟩) h1 (us.drop 1) z1 (by rw [List.length_drop]; omega) (by unfold kp; rw [if_neg (by omega)]) (zGa_q hg hl f1 (by omega)) f1
set_option maxHeartbeats 4000000 in
set_option maxRecDepth 100000 in
theorem s_takeBack {l : Launch} {E : zG} (hzs : zS E) (hst : l.stackTraces = false) (h : zH) (a b : Nat) (vs : List zGd) (g : zGd) (hH : zHi h a (vs ++ [g])) (hb : zGt h b) (hd : b + 21 ≤ a ∨ a + 170 ≤ b) : zMet l E yX4_takeBack cX4_takeBack 2 none ({ frames := 4, cells := 0, slots := 0, locals := 164 } : Room) 0 0 [.ref a, .ref b] h (fun r h' => r = none ∧ zGa h' b g ∧ zHi h' a vs ∧ zFr (sI h 225 a (nI vs.length)) h' b) (fun _ _ => False) := by
  refine zM_start hzs hst (by decide) (Nat.le_of_ble_eq_true rfl) (fun X C G F I => ?_)
  show zV X 0 0 _ 0 [(0, _), (1, _)] []
  have hv8 : vs.length < 8 := by have := hH.2.2.2.1; rw [List.length_append] at this; exact this
  have bp := pA_lt hH.2.1 hv8
  have hV := zHi_n (vs := vs) (n := vs.length) hH rfl (by omega) (fun k c hc => by rw [List.getElem?_append_left (List.getElem?_eq_some_iff.mp hc).1]; exact hc)
  obtain ⟨g1, hl⟩ := hH.2.2.2.2 vs.length g (List.getElem?_concat_length)
  have gs : zGa (sI h 225 a (nI vs.length)) (pA h a vs.length) g := zGa_e g1 hl (fun c h1 h2 => zEq_sI (by omega))
  refine zV.aload_n C dX4_takeBack_0 rfl rfl ?_
  refine zV.gIv 225 (k := 1) C dX4_takeBack_1 zcl_X4 (by decide) rfl lk_X4_18 (hH.1.1) rfl (hH.2.2.1.trans (congrArg nI (show (vs ++ [g]).length = vs.length + 1 from by rw [List.length_append]; rfl))) ?_
  refine zV.if_le (tgt := 30) C dX4_takeBack_4 (by decide) (fun q4 => ?_) (fun q4 => ?_)
  · exact absurd (nle (a := 0) (b := vs.length + 1) (by decide) (by omega) q4) (by omega)
  · refine zV.aload_n C dX4_takeBack_7 rfl rfl ?_
    refine zV.dup C dX4_takeBack_8 rfl ?_
    refine zV.gIv 225 (k := 1) C dX4_takeBack_9 zcl_X4 (by decide) rfl lk_X4_18 (hH.1.1) rfl (hH.2.2.1.trans (congrArg nI (show (vs ++ [g]).length = vs.length + 1 from by rw [List.length_append]; rfl))) ?_
    refine zV.ic (v := nI 1) C dX4_takeBack_12 (by decide) ?_
    refine zV.isub C dX4_takeBack_13 ?_
    rw [show nI (vs.length + 1) - nI 1 = nI vs.length from pk_sub (by omega)]
    refine zV.pI 225 (k := 1) C dX4_takeBack_14 zcl_X4 (by decide) rfl lk_X4_18 rfl (hH.1.1) rfl ⟨rfl, rfl⟩ ?_
    refine zV.aload_n C dX4_takeBack_17 rfl rfl ?_
    refine zV.aload_n C dX4_takeBack_18 rfl rfl ?_
    refine zV.gR 224 (k := 0) C dX4_takeBack_19 zcl_X4 (by decide) rfl lk_X4_11 (hH.1.1) rfl (hH.1.2.1) ?_
    refine zV.aload_n C dX4_takeBack_22 rfl rfl ?_
    refine zV.gIv 225 (k := 1) C dX4_takeBack_23 zcl_X4 (by decide) rfl lk_X4_18 (hH.1.1) rfl (hI_sI) ?_
    refine zV.aaldG (j := vs.length) C dX4_takeBack_26 (hH.1.2.2.1) (rfl) (Nat.lt_of_lt_of_eq hv8 (hH.1.2.2.2).symm) (by omega) (hH.2.1.1 _ hv8).1 ?_
    refine zV.callV (n := 1) C G dX4_takeBack_27 (s_become hzs hst (sI h 225 a (nI vs.length)) b (pA h a vs.length) g (zGt_e hb (fun c h1 h2 => zEq_sI (by omega))) gs hl (by omega)) rfl ⟨cd_X3_become, lk_X4_25, im_X3_become, se_X3_X3_become, in_X3⟩ ⟨⟨by decide, by decide⟩, by decide⟩ rfl rfl rfl hb.1.1 ⟨rfl, by decide⟩ (zafRv (fun h9 ⟨hg9, f9⟩ => ?_)) (zno)
    refine zV.vret C F dX4_takeBack_30 rfl ?_
    exact ⟨rfl, hg9, zHi_q hV f9.q (by omega), f9⟩
set_option maxHeartbeats 4000000 in
set_option maxRecDepth 100000 in
theorem s_forget {l : Launch} {E : zG} (hzs : zS E) (hst : l.stackTraces = false) (h : zH) (a : Nat) (hk : hK h a = 8) : zMet l E yX4_forget cX4_forget 1 none ({ frames := 0, cells := 0, slots := 0, locals := 0 } : Room) 0 0 [.ref a] h (fun r h' => r = none ∧ h' = sI h 225 a (nI 0)) (fun _ _ => False) := by
  refine zM_start hzs hst (by decide) (Nat.le_of_ble_eq_true rfl) (fun X C G F I => ?_)
  show zV X 0 0 _ 0 [(0, _)] []
  refine zV.aload_n C dX4_forget_0 rfl rfl ?_
  refine zV.ic (v := nI 0) C dX4_forget_1 (by decide) ?_
  refine zV.pI 225 (k := 1) C dX4_forget_2 zcl_X4 (by decide) rfl lk_X4_18 rfl hk rfl ⟨rfl, rfl⟩ ?_
  refine zV.vret C F dX4_forget_5 rfl ?_
  exact ⟨rfl, rfl⟩
/-- a history in the making -/
def zHm (h : zH) (a m : Nat) : Prop := hN h = a + 2 + 21 * m ∧ zHs h a ∧ hI h 225 a = 0 ∧ ∀ k, k < m → aR h (a + 1) k = some (a + 2 + 21 * k) ∧ zGa h (a + 2 + 21 * k) g00
theorem zHm_end {h : zH} {a : Nat} (q : zHm h a 8) : zHi h a [] := by
  obtain ⟨q1, q2, q3, q4⟩ := q
  have ep : ∀ k, k < 8 → pA h a k = a + 2 + 21 * k := fun k hk => by unfold pA; rw [(q4 k hk).1]; rfl
  refine ⟨q2, ⟨fun k hk => ⟨by rw [ep k hk]; exact (q4 k hk).1, k, hk, ep k hk⟩, fun j k hj hk e => by rw [ep j hj, ep k hk] at e; omega, fun k hk => by rw [ep k hk]; exact zGa_t (q4 k hk).2⟩, q3, Nat.zero_le _, fun k g hg => by cases k <;> cases hg⟩
theorem zHm_s {h h1 : zH} {a m : Nat} (q : zHm h a m) (hm : m < 8) (n1 : hN h1 = a + 2 + 21 * m + 21) (x1 : zEx h h1 (a + 2 + 21 * m)) (g1 : zGa h1 (a + 2 + 21 * m) g00) : zHm (saR h1 (a + 1) m (some (a + 2 + 21 * m))) a (m + 1) := by
  obtain ⟨q1, q2, q3, q4⟩ := q
  have e : ∀ c, c < a + 2 + 21 * m → c ≠ a + 1 → zEq h (saR h1 (a + 1) m (some (a + 2 + 21 * m))) c := fun c h1 h2 => (x1.2 c h1).trans (zEq_saR h2)
  have e1 := x1.2 (a + 1) (by omega)
  refine ⟨by show hN h1 = _; omega, ⟨(e a (by omega) (by omega)).1.trans q2.1, ((e a (by omega) (by omega)).2.2.1 _).trans q2.2.1, e1.1.trans q2.2.2.1, e1.2.1.trans q2.2.2.2⟩, ((e a (by omega) (by omega)).2.2.2.1 _).trans q3, fun k hk => ?_⟩
  by_cases z : k = m
  · subst z
    exact ⟨aR_saR, zGa_e g1 (by decide) (fun c h1 h2 => zEq_saR (by omega))⟩
  · obtain ⟨a1, a2⟩ := q4 k (by omega)
    exact ⟨(aR_saR_i z).trans ((congrFun e1.2.2.2.2.2.1 k).trans a1), zGa_e a2 (by decide) (fun c h1 h2 => e c (by omega) (by omega))⟩
theorem hm9 {X : zX} {kc ks pc m a : Nat} {h h0 h1 : zH} {lo : List (Nat × Value)} {st : List Value} (hm : m < 8) (q : zHm h a m) (f : zEx h0 h a) (n1 : hN h1 = a + 2 + 21 * m + 21) (x1 : zEx h h1 (a + 2 + 21 * m)) (g1 : zGa h1 (a + 2 + 21 * m) g00) (k : ∀ h', zHm h' a (m + 1) → zEx h0 h' a → zV X kc ks h' pc lo st) : zV X kc ks (saR h1 (a + 1) m (some (a + 2 + 21 * m))) pc lo st :=
  k _ (zHm_s q hm n1 x1 g1) ((f.trans (x1.mono (by omega))).saR (by omega))
set_option maxHeartbeats 4000000 in
set_option maxRecDepth 100000 in
theorem s_Hinit {l : Launch} {E : zG} (hzs : zS E) (hst : l.stackTraces = false) (h0 : zH) (a : Nat) (hk : hK h0 a = 8) (hn : hN h0 = a + 1) (h9 : ∀ f, hI h0 f a = 0) : zMet l E yX4_init cX4_init 2 none ({ frames := 4, cells := 169, slots := 864, locals := 81 } : Room) 169 864 [.ref a] h0 (fun r h' => r = none ∧ zHi h' a [] ∧ hN h' = a + 170 ∧ zEx h0 h' a) (fun _ _ => False) := by
  refine zM_start hzs hst (by decide) (Nat.le_of_ble_eq_true rfl) (fun X C G F I => ?_)
  show zV X 0 0 _ 0 [(0, _)] []
  have I := I rfl
  refine zV.aload_n C dX4_init_0 rfl rfl ?_
  refine zV.obj C G dX4_init_1 ⟨lk_X4_3, im_Oinit, cd_Oinit⟩ rfl rfl ?_
  refine zV.aload_n C dX4_init_4 rfl rfl ?_
  refine zV.bi (v := nI 8) C dX4_init_5 (by decide) ?_
  refine zV.newQG (n := 8) C G dX4_init_7 ⟨lk_X4_9, ao_object_ChairMigration_Garden⟩ (rfl) (by decide) rfl ?_
  refine zV.pFR 224 (k := 0) C dX4_init_10 zcl_X4 (by decide) rfl lk_X4_11 rfl I rfl ((hK_new (k := 107) (z := 8) (by omega)).trans hk) rfl (fun _ => ⟨rfl, rfl⟩) ?_
  have q : zHm (sR (hNew h0 107 8) 224 a (some (hN h0))) a 0 := by
    refine ⟨congrArg (· + 1) hn, ⟨(hK_new (k := 107) (z := 8) (by omega)).trans hk, by rw [hn]; exact hR_sR, ?_, ?_⟩, (hI_new (k := 107) (z := 8) (by omega)).trans (h9 _), fun k hk => absurd hk (by omega)⟩
    · rw [← hn]; exact hK_newE (k := 107) (z := 8)
    · rw [← hn]; exact hL_newE (k := 107) (z := 8)
  have f : zEx h0 (sR (hNew h0 107 8) 224 a (some (hN h0))) a := ((zEx.refl h0 a).new (by omega)).sR (Nat.le_refl _)
  generalize sR (hNew h0 107 8) 224 a (some (hN h0)) = h at q f ⊢
  refine zV.ic (v := nI 0) C dX4_init_13 (by decide) ?_
  refine zV.istore_n (lo' := [(0, _), (1, _)]) C dX4_init_14 (by decide) rfl rfl rfl ?_
  refine zV.iload_n C dX4_init_15 rfl ?_
  refine zV.bi (v := nI 8) C dX4_init_16 (by decide) ?_
  refine zV.icmp_ge (tgt := 40) C dX4_init_18 (by decide) (fun q18 => ?_) (fun q18 => ?_)
  · exact absurd q18 (by decide)
  · refine zV.aload_n C dX4_init_21 rfl rfl ?_
    refine zV.gR 224 (k := 0) C dX4_init_22 zcl_X4 (by decide) rfl lk_X4_11 (q.2.1.1) rfl (q.2.1.2.1) ?_
    refine zV.iload_n C dX4_init_25 rfl ?_
    refine zV.new C G dX4_init_26 zcl_X3 ⟨lk_X4_9, it_X3, in_X3⟩ (by decide) rfl ?_
    rw [show hN h = a + 2 + 21 * 0 from q.1]
    refine zV.dup C dX4_init_29 rfl ?_
    refine zV.callI (n := 0) C G dX4_init_30 (s_Ginit hzs hst (hNew h 7 0) (a + 2 + 21 * 0) (q.1 ▸ hK_newE) (congrArg (· + 1) q.1) (fun f => q.1 ▸ hI_newE)) rfl ⟨cd_X3_init, lk_X4_17, im_X3_init, in_X3⟩ rfl ⟨⟨by decide, by decide⟩, by decide⟩ rfl rfl rfl (zafRv (fun h1 ⟨g1, n1, x1⟩ => ?_)) (zno)
    have x2 : zEx h h1 (a + 2 + 21 * 0) := ((zEx.refl h _).new (Nat.le_of_eq q.1.symm)).trans x1
    refine zV.aastG (j := 0) C dX4_init_33 ((x2.2 (a + 1) (by omega)).1.trans q.2.1.2.2.1) (rfl) (Nat.lt_of_lt_of_eq (show 0 < 8 by decide) ((x2.2 (a + 1) (by omega)).2.1.trans q.2.1.2.2.2).symm) (by omega) g1.1.1 ?_
    refine zV.iinc (lo' := [(0, _), (1, _)]) C dX4_init_34 rfl (by decide) rfl rfl rfl ?_
    refine zV.goto (tgt := 15) C dX4_init_37 (by decide) ?_
    rw [inc1]
    refine hm9 (m := 0) (by decide) q f n1 x2 g1 (fun h q f => ?_)
    refine zV.iload_n C dX4_init_15 rfl ?_
    refine zV.bi (v := nI 8) C dX4_init_16 (by decide) ?_
    refine zV.icmp_ge (tgt := 40) C dX4_init_18 (by decide) (fun q18 => ?_) (fun q18 => ?_)
    · exact absurd q18 (by decide)
    · refine zV.aload_n C dX4_init_21 rfl rfl ?_
      refine zV.gR 224 (k := 0) C dX4_init_22 zcl_X4 (by decide) rfl lk_X4_11 (q.2.1.1) rfl (q.2.1.2.1) ?_
      refine zV.iload_n C dX4_init_25 rfl ?_
      refine zV.new C G dX4_init_26 zcl_X3 ⟨lk_X4_9, it_X3, in_X3⟩ (by decide) rfl ?_
      rw [show hN h = a + 2 + 21 * 1 from q.1]
      refine zV.dup C dX4_init_29 rfl ?_
      refine zV.callI (n := 0) C G dX4_init_30 (s_Ginit hzs hst (hNew h 7 0) (a + 2 + 21 * 1) (q.1 ▸ hK_newE) (congrArg (· + 1) q.1) (fun f => q.1 ▸ hI_newE)) rfl ⟨cd_X3_init, lk_X4_17, im_X3_init, in_X3⟩ rfl ⟨⟨by decide, by decide⟩, by decide⟩ rfl rfl rfl (zafRv (fun h1 ⟨g1, n1, x1⟩ => ?_)) (zno)
      have x2 : zEx h h1 (a + 2 + 21 * 1) := ((zEx.refl h _).new (Nat.le_of_eq q.1.symm)).trans x1
      refine zV.aastG (j := 1) C dX4_init_33 ((x2.2 (a + 1) (by omega)).1.trans q.2.1.2.2.1) (rfl) (Nat.lt_of_lt_of_eq (show 1 < 8 by decide) ((x2.2 (a + 1) (by omega)).2.1.trans q.2.1.2.2.2).symm) (by omega) g1.1.1 ?_
      refine zV.iinc (lo' := [(0, _), (1, _)]) C dX4_init_34 rfl (by decide) rfl rfl rfl ?_
      refine zV.goto (tgt := 15) C dX4_init_37 (by decide) ?_
      rw [inc1]
      refine hm9 (m := 1) (by decide) q f n1 x2 g1 (fun h q f => ?_)
      refine zV.iload_n C dX4_init_15 rfl ?_
      refine zV.bi (v := nI 8) C dX4_init_16 (by decide) ?_
      refine zV.icmp_ge (tgt := 40) C dX4_init_18 (by decide) (fun q18 => ?_) (fun q18 => ?_)
      · exact absurd q18 (by decide)
      · refine zV.aload_n C dX4_init_21 rfl rfl ?_
        refine zV.gR 224 (k := 0) C dX4_init_22 zcl_X4 (by decide) rfl lk_X4_11 (q.2.1.1) rfl (q.2.1.2.1) ?_
        refine zV.iload_n C dX4_init_25 rfl ?_
        refine zV.new C G dX4_init_26 zcl_X3 ⟨lk_X4_9, it_X3, in_X3⟩ (by decide) rfl ?_
        rw [show hN h = a + 2 + 21 * 2 from q.1]
        refine zV.dup C dX4_init_29 rfl ?_
        refine zV.callI (n := 0) C G dX4_init_30 (s_Ginit hzs hst (hNew h 7 0) (a + 2 + 21 * 2) (q.1 ▸ hK_newE) (congrArg (· + 1) q.1) (fun f => q.1 ▸ hI_newE)) rfl ⟨cd_X3_init, lk_X4_17, im_X3_init, in_X3⟩ rfl ⟨⟨by decide, by decide⟩, by decide⟩ rfl rfl rfl (zafRv (fun h1 ⟨g1, n1, x1⟩ => ?_)) (zno)
        have x2 : zEx h h1 (a + 2 + 21 * 2) := ((zEx.refl h _).new (Nat.le_of_eq q.1.symm)).trans x1
        refine zV.aastG (j := 2) C dX4_init_33 ((x2.2 (a + 1) (by omega)).1.trans q.2.1.2.2.1) (rfl) (Nat.lt_of_lt_of_eq (show 2 < 8 by decide) ((x2.2 (a + 1) (by omega)).2.1.trans q.2.1.2.2.2).symm) (by omega) g1.1.1 ?_
        refine zV.iinc (lo' := [(0, _), (1, _)]) C dX4_init_34 rfl (by decide) rfl rfl rfl ?_
        refine zV.goto (tgt := 15) C dX4_init_37 (by decide) ?_
        rw [inc1]
        refine hm9 (m := 2) (by decide) q f n1 x2 g1 (fun h q f => ?_)
        refine zV.iload_n C dX4_init_15 rfl ?_
        refine zV.bi (v := nI 8) C dX4_init_16 (by decide) ?_
        refine zV.icmp_ge (tgt := 40) C dX4_init_18 (by decide) (fun q18 => ?_) (fun q18 => ?_)
        · exact absurd q18 (by decide)
        · refine zV.aload_n C dX4_init_21 rfl rfl ?_
          refine zV.gR 224 (k := 0) C dX4_init_22 zcl_X4 (by decide) rfl lk_X4_11 (q.2.1.1) rfl (q.2.1.2.1) ?_
          refine zV.iload_n C dX4_init_25 rfl ?_
          refine zV.new C G dX4_init_26 zcl_X3 ⟨lk_X4_9, it_X3, in_X3⟩ (by decide) rfl ?_
          rw [show hN h = a + 2 + 21 * 3 from q.1]
          refine zV.dup C dX4_init_29 rfl ?_
          refine zV.callI (n := 0) C G dX4_init_30 (s_Ginit hzs hst (hNew h 7 0) (a + 2 + 21 * 3) (q.1 ▸ hK_newE) (congrArg (· + 1) q.1) (fun f => q.1 ▸ hI_newE)) rfl ⟨cd_X3_init, lk_X4_17, im_X3_init, in_X3⟩ rfl ⟨⟨by decide, by decide⟩, by decide⟩ rfl rfl rfl (zafRv (fun h1 ⟨g1, n1, x1⟩ => ?_)) (zno)
          have x2 : zEx h h1 (a + 2 + 21 * 3) := ((zEx.refl h _).new (Nat.le_of_eq q.1.symm)).trans x1
          refine zV.aastG (j := 3) C dX4_init_33 ((x2.2 (a + 1) (by omega)).1.trans q.2.1.2.2.1) (rfl) (Nat.lt_of_lt_of_eq (show 3 < 8 by decide) ((x2.2 (a + 1) (by omega)).2.1.trans q.2.1.2.2.2).symm) (by omega) g1.1.1 ?_
          refine zV.iinc (lo' := [(0, _), (1, _)]) C dX4_init_34 rfl (by decide) rfl rfl rfl ?_
          refine zV.goto (tgt := 15) C dX4_init_37 (by decide) ?_
          rw [inc1]
          refine hm9 (m := 3) (by decide) q f n1 x2 g1 (fun h q f => ?_)
          refine zV.iload_n C dX4_init_15 rfl ?_
          refine zV.bi (v := nI 8) C dX4_init_16 (by decide) ?_
          refine zV.icmp_ge (tgt := 40) C dX4_init_18 (by decide) (fun q18 => ?_) (fun q18 => ?_)
          · exact absurd q18 (by decide)
          · refine zV.aload_n C dX4_init_21 rfl rfl ?_
            refine zV.gR 224 (k := 0) C dX4_init_22 zcl_X4 (by decide) rfl lk_X4_11 (q.2.1.1) rfl (q.2.1.2.1) ?_
            refine zV.iload_n C dX4_init_25 rfl ?_
            refine zV.new C G dX4_init_26 zcl_X3 ⟨lk_X4_9, it_X3, in_X3⟩ (by decide) rfl ?_
            rw [show hN h = a + 2 + 21 * 4 from q.1]
            refine zV.dup C dX4_init_29 rfl ?_
            refine zV.callI (n := 0) C G dX4_init_30 (s_Ginit hzs hst (hNew h 7 0) (a + 2 + 21 * 4) (q.1 ▸ hK_newE) (congrArg (· + 1) q.1) (fun f => q.1 ▸ hI_newE)) rfl ⟨cd_X3_init, lk_X4_17, im_X3_init, in_X3⟩ rfl ⟨⟨by decide, by decide⟩, by decide⟩ rfl rfl rfl (zafRv (fun h1 ⟨g1, n1, x1⟩ => ?_)) (zno)
            have x2 : zEx h h1 (a + 2 + 21 * 4) := ((zEx.refl h _).new (Nat.le_of_eq q.1.symm)).trans x1
            refine zV.aastG (j := 4) C dX4_init_33 ((x2.2 (a + 1) (by omega)).1.trans q.2.1.2.2.1) (rfl) (Nat.lt_of_lt_of_eq (show 4 < 8 by decide) ((x2.2 (a + 1) (by omega)).2.1.trans q.2.1.2.2.2).symm) (by omega) g1.1.1 ?_
            refine zV.iinc (lo' := [(0, _), (1, _)]) C dX4_init_34 rfl (by decide) rfl rfl rfl ?_
            refine zV.goto (tgt := 15) C dX4_init_37 (by decide) ?_
            rw [inc1]
            refine hm9 (m := 4) (by decide) q f n1 x2 g1 (fun h q f => ?_)
            refine zV.iload_n C dX4_init_15 rfl ?_
            refine zV.bi (v := nI 8) C dX4_init_16 (by decide) ?_
            refine zV.icmp_ge (tgt := 40) C dX4_init_18 (by decide) (fun q18 => ?_) (fun q18 => ?_)
            · exact absurd q18 (by decide)
            · refine zV.aload_n C dX4_init_21 rfl rfl ?_
              refine zV.gR 224 (k := 0) C dX4_init_22 zcl_X4 (by decide) rfl lk_X4_11 (q.2.1.1) rfl (q.2.1.2.1) ?_
              refine zV.iload_n C dX4_init_25 rfl ?_
              refine zV.new C G dX4_init_26 zcl_X3 ⟨lk_X4_9, it_X3, in_X3⟩ (by decide) rfl ?_
              rw [show hN h = a + 2 + 21 * 5 from q.1]
              refine zV.dup C dX4_init_29 rfl ?_
              refine zV.callI (n := 0) C G dX4_init_30 (s_Ginit hzs hst (hNew h 7 0) (a + 2 + 21 * 5) (q.1 ▸ hK_newE) (congrArg (· + 1) q.1) (fun f => q.1 ▸ hI_newE)) rfl ⟨cd_X3_init, lk_X4_17, im_X3_init, in_X3⟩ rfl ⟨⟨by decide, by decide⟩, by decide⟩ rfl rfl rfl (zafRv (fun h1 ⟨g1, n1, x1⟩ => ?_)) (zno)
              have x2 : zEx h h1 (a + 2 + 21 * 5) := ((zEx.refl h _).new (Nat.le_of_eq q.1.symm)).trans x1
              refine zV.aastG (j := 5) C dX4_init_33 ((x2.2 (a + 1) (by omega)).1.trans q.2.1.2.2.1) (rfl) (Nat.lt_of_lt_of_eq (show 5 < 8 by decide) ((x2.2 (a + 1) (by omega)).2.1.trans q.2.1.2.2.2).symm) (by omega) g1.1.1 ?_
              refine zV.iinc (lo' := [(0, _), (1, _)]) C dX4_init_34 rfl (by decide) rfl rfl rfl ?_
              refine zV.goto (tgt := 15) C dX4_init_37 (by decide) ?_
              rw [inc1]
              refine hm9 (m := 5) (by decide) q f n1 x2 g1 (fun h q f => ?_)
              refine zV.iload_n C dX4_init_15 rfl ?_
              refine zV.bi (v := nI 8) C dX4_init_16 (by decide) ?_
              refine zV.icmp_ge (tgt := 40) C dX4_init_18 (by decide) (fun q18 => ?_) (fun q18 => ?_)
              · exact absurd q18 (by decide)
              · refine zV.aload_n C dX4_init_21 rfl rfl ?_
                refine zV.gR 224 (k := 0) C dX4_init_22 zcl_X4 (by decide) rfl lk_X4_11 (q.2.1.1) rfl (q.2.1.2.1) ?_
                refine zV.iload_n C dX4_init_25 rfl ?_
                refine zV.new C G dX4_init_26 zcl_X3 ⟨lk_X4_9, it_X3, in_X3⟩ (by decide) rfl ?_
                rw [show hN h = a + 2 + 21 * 6 from q.1]
                refine zV.dup C dX4_init_29 rfl ?_
                refine zV.callI (n := 0) C G dX4_init_30 (s_Ginit hzs hst (hNew h 7 0) (a + 2 + 21 * 6) (q.1 ▸ hK_newE) (congrArg (· + 1) q.1) (fun f => q.1 ▸ hI_newE)) rfl ⟨cd_X3_init, lk_X4_17, im_X3_init, in_X3⟩ rfl ⟨⟨by decide, by decide⟩, by decide⟩ rfl rfl rfl (zafRv (fun h1 ⟨g1, n1, x1⟩ => ?_)) (zno)
                have x2 : zEx h h1 (a + 2 + 21 * 6) := ((zEx.refl h _).new (Nat.le_of_eq q.1.symm)).trans x1
                refine zV.aastG (j := 6) C dX4_init_33 ((x2.2 (a + 1) (by omega)).1.trans q.2.1.2.2.1) (rfl) (Nat.lt_of_lt_of_eq (show 6 < 8 by decide) ((x2.2 (a + 1) (by omega)).2.1.trans q.2.1.2.2.2).symm) (by omega) g1.1.1 ?_
                refine zV.iinc (lo' := [(0, _), (1, _)]) C dX4_init_34 rfl (by decide) rfl rfl rfl ?_
                refine zV.goto (tgt := 15) C dX4_init_37 (by decide) ?_
                rw [inc1]
                refine hm9 (m := 6) (by decide) q f n1 x2 g1 (fun h q f => ?_)
                refine zV.iload_n C dX4_init_15 rfl ?_
                refine zV.bi (v := nI 8) C dX4_init_16 (by decide) ?_
                refine zV.icmp_ge (tgt := 40) C dX4_init_18 (by decide) (fun q18 => ?_) (fun q18 => ?_)
                · exact absurd q18 (by decide)
                · refine zV.aload_n C dX4_init_21 rfl rfl ?_
                  refine zV.gR 224 (k := 0) C dX4_init_22 zcl_X4 (by decide) rfl lk_X4_11 (q.2.1.1) rfl (q.2.1.2.1) ?_
                  refine zV.iload_n C dX4_init_25 rfl ?_
                  refine zV.new C G dX4_init_26 zcl_X3 ⟨lk_X4_9, it_X3, in_X3⟩ (by decide) rfl ?_
                  rw [show hN h = a + 2 + 21 * 7 from q.1]
                  refine zV.dup C dX4_init_29 rfl ?_
                  refine zV.callI (n := 0) C G dX4_init_30 (s_Ginit hzs hst (hNew h 7 0) (a + 2 + 21 * 7) (q.1 ▸ hK_newE) (congrArg (· + 1) q.1) (fun f => q.1 ▸ hI_newE)) rfl ⟨cd_X3_init, lk_X4_17, im_X3_init, in_X3⟩ rfl ⟨⟨by decide, by decide⟩, by decide⟩ rfl rfl rfl (zafRv (fun h1 ⟨g1, n1, x1⟩ => ?_)) (zno)
                  have x2 : zEx h h1 (a + 2 + 21 * 7) := ((zEx.refl h _).new (Nat.le_of_eq q.1.symm)).trans x1
                  refine zV.aastG (j := 7) C dX4_init_33 ((x2.2 (a + 1) (by omega)).1.trans q.2.1.2.2.1) (rfl) (Nat.lt_of_lt_of_eq (show 7 < 8 by decide) ((x2.2 (a + 1) (by omega)).2.1.trans q.2.1.2.2.2).symm) (by omega) g1.1.1 ?_
                  refine zV.iinc (lo' := [(0, _), (1, _)]) C dX4_init_34 rfl (by decide) rfl rfl rfl ?_
                  refine zV.goto (tgt := 15) C dX4_init_37 (by decide) ?_
                  rw [inc1]
                  refine hm9 (m := 7) (by decide) q f n1 x2 g1 (fun h q f => ?_)
                  refine zV.iload_n C dX4_init_15 rfl ?_
                  refine zV.bi (v := nI 8) C dX4_init_16 (by decide) ?_
                  refine zV.icmp_ge (tgt := 40) C dX4_init_18 (by decide) (fun q18 => ?_) (fun q18 => ?_)
                  · refine zV.vret C F dX4_init_40 rfl ?_
                    exact ⟨rfl, zHm_end q, q.1, f⟩
                  · exact absurd (show nI 8 ≤ nI 8 from by decide) q18
