/-! Garden: the herds by their places -/
/-- the herd of the lawn l -/
def hd (cs : List zCh) (l : Nat) : List zCh := cs.filter (fun c => decide (chL c = l))
theorem hd_len (cs : List zCh) (l : Nat) : (hd cs l).length = hsz cs l := List.countP_eq_length_filter.symm
theorem hd_cons {c : zCh} {t : List zCh} {l : Nat} : hd (c :: t) l = if chL c = l then c :: hd t l else hd t l := by
  unfold hd
  rw [List.filter_cons]
  by_cases q : chL c = l
  · rw [if_pos (decide_eq_true q), if_pos q]
  · rw [if_neg (fun z => q (of_decide_eq_true z)), if_neg q]
theorem fdH_at {l p : Nat} : ∀ {t : List zCh} {q k : Nat}, q ≤ p → p < q + (hd t l).length → p < 2 ^ 30 → ∃ i c, fdH l (nI p) t q k = some (k + i) ∧ t[i]? = some c ∧ (hd t l)[p - q]? = some c ∧ chL c = l ∧ q + hsz (t.take i) l = p
  | [], q, k, h1, h2, _ => by simp [hd] at h2; omega
  | c :: t, q, k, h1, h2, h3 => by
    rw [hd_cons] at h2 ⊢
    rw [fdH]
    by_cases e : chL c = l
    · rw [if_pos e] at h2 ⊢
      rw [if_pos e]
      by_cases e2 : q = p
      · subst e2
        exact ⟨0, c, by rw [if_pos rfl]; rfl, rfl, by rw [Nat.sub_self]; rfl, e, rfl⟩
      · rw [if_neg (fun z => e2 ((neqn (by omega) (by omega)).mp z))]
        obtain ⟨i, d, f1, f2, f3, f4, f5⟩ := fdH_at (l := l) (p := p) (t := t) (q := q + 1) (k := k + 1) (by omega) (by simp only [List.length_cons] at h2; omega) h3
        refine ⟨i + 1, d, by rw [f1, show k + 1 + i = k + (i + 1) by omega], f2, by rw [show p - q = (p - (q + 1)) + 1 by omega]; exact f3, f4, ?_⟩
        rw [List.take_succ_cons, ← f5]
        unfold hsz
        rw [cnt_cons, if_pos (decide_eq_true e)]
        omega
    · rw [if_neg e] at h2 ⊢
      rw [if_neg e]
      obtain ⟨i, d, f1, f2, f3, f4, f5⟩ := fdH_at (l := l) (p := p) (t := t) (q := q) (k := k + 1) h1 h2 h3
      refine ⟨i + 1, d, by rw [f1, show k + 1 + i = k + (i + 1) by omega], f2, f3, f4, ?_⟩
      rw [List.take_succ_cons, ← f5]
      unfold hsz
      rw [cnt_cons, if_neg (fun z => e (of_decide_eq_true z))]
      omega
theorem fd_at {cs : List zCh} {l p : Nat} (h : p < hsz cs l) (h2 : p < 2 ^ 30) : ∃ k c, fdH l (nI p) cs 0 0 = some k ∧ cs[k]? = some c ∧ (hd cs l)[p]? = some c ∧ chL c = l ∧ hsz (cs.take k) l = p := by
  obtain ⟨i, c, f1, f2, f3, f4, f5⟩ := fdH_at (l := l) (p := p) (t := cs) (q := 0) (k := 0) (by omega) (by rw [hd_len]; omega) h2
  exact ⟨i, c, by rw [f1, Nat.zero_add], f2, f3, f4, by omega⟩
theorem hsz_lt {cs : List zCh} {i j l : Nat} {c : zCh} (h : cs[i]? = some c) (hc : chL c = l) (hij : i < j) (hj : j ≤ cs.length) : hsz (cs.take i) l < hsz (cs.take j) l := by
  have h1 := hsz_take h l
  rw [if_pos hc] at h1
  have h2 : hsz (cs.take (i + 1)) l ≤ hsz (cs.take j) l := by
    have e : cs.take (i + 1) = (cs.take j).take (i + 1) := by rw [List.take_take, Nat.min_eq_left (by omega)]
    rw [e]
    exact (List.take_sublist _ _).countP_le
  omega
theorem hsz_inj {cs : List zCh} {i j l : Nat} {c d : zCh} (h : cs[i]? = some c) (h2 : cs[j]? = some d) (hc : chL c = l) (hd9 : chL d = l) (e : hsz (cs.take i) l = hsz (cs.take j) l) : i = j := by
  have hi := (List.getElem?_eq_some_iff.mp h).1
  have hj := (List.getElem?_eq_some_iff.mp h2).1
  rcases Nat.lt_trichotomy i j with q | q | q
  · exact absurd (hsz_lt h hc q (by omega)) (by omega)
  · exact q
  · exact absurd (hsz_lt h2 hd9 q (by omega)) (by omega)
theorem rsum_app (a b : List zCh) : rsum (a ++ b) = rsum a + rsum b := by
  induction a with
  | nil => simp [rsum]
  | cons c t ih => simp only [List.cons_append, rsum, ih]; omega
theorem rsum_take {cs : List zCh} {k : Nat} {c : zCh} (h : cs[k]? = some c) : rsum (cs.take (k + 1)) = rsum (cs.take k) + chR c := by
  rw [List.take_add_one, h, rsum_app]
  rfl
-- the rust of the herds of the first n lawns
def rhS (cs : List zCh) : Nat → Nat
  | 0 => 0
  | n + 1 => rhS cs n + rsum (hd cs n)
theorem rhS_eq (n : Nat) : ∀ {cs : List zCh}, (∀ c ∈ cs, chL c < n) → rhS cs n = rsum cs := by
  have key : ∀ (cs : List zCh), rhS cs n = rsum (cs.filter (fun c => decide (chL c < n))) := by
    intro cs
    induction n with
    | zero =>
      rw [List.filter_eq_nil_iff.mpr (fun a _ z => absurd (of_decide_eq_true z) (Nat.not_lt_zero _))]
      rfl
    | succ n ih =>
      rw [rhS, ih]
      clear ih
      induction cs with
      | nil => rfl
      | cons c t ih =>
        rw [hd_cons, List.filter_cons, List.filter_cons]
        by_cases q1 : chL c < n
        · rw [if_pos (decide_eq_true q1), if_neg (by omega), if_pos (decide_eq_true (by omega)), rsum, rsum, ← ih]
          omega
        · by_cases q2 : chL c = n
          · rw [if_neg (fun z => q1 (of_decide_eq_true z)), if_pos q2, if_pos (decide_eq_true (by omega)), rsum, rsum, ← ih]
            omega
          · rw [if_neg (fun z => q1 (of_decide_eq_true z)), if_neg q2, if_neg (fun z => by have := of_decide_eq_true z; omega), ← ih]
  intro cs h
  rw [key, List.filter_eq_self.mpr (fun c hc => decide_eq_true (h c hc))]
set_option maxHeartbeats 4000000 in
set_option maxRecDepth 100000 in
theorem L_herdSizesAgree {X : zX} {l : Launch} {E : zG} {rm : Room} (hzs : zS E) (hst : l.stackTraces = false) (C : zC X cX3_herdSizesAgree RX3 2) (G : zGX X l E rm) {h : zH} {b : Nat} {g : zGd}  {Qr : Option Value → zH → Prop} {Qx : String → zH → Prop} (hr : rm = ({ frames := 1, cells := 0, slots := 0, locals := 23 } : Room)) (F : zF X (some .boolean) 0 0 Qr Qx) (hg : zGa h b g) (hw : gW g) : ∀ n k, k ≤ 6 → 7 ≤ k + n → Qr (some (.int (nI 1))) h → zV X 0 0 h 2 [(0, .ref b), (1, .int (nI k))] [] := by
  subst hr
  have hl := gW_len hw
  have hB := gW_b hw
  intro n
  induction n with
  | zero => intro k h1 h2; exact absurd h2 (by omega)
  | succ n ih =>
    intro k hk hn hq
    refine zV.iload_n C dX3_herdSizesAgree_2 rfl ?_
    refine zV.bi (v := nI 6) C dX3_herdSizesAgree_3 (by decide) ?_
    refine zV.icmp_ge (tgt := 32) C dX3_herdSizesAgree_5 (by decide) (fun q5 => ?_) (fun q5 => ?_)
    · have e : k = 6 := by have := nle (by omega) (by decide) q5; omega
      subst e
      refine zV.ic (v := nI 1) C dX3_herdSizesAgree_32 (by decide) ?_
      refine zV.zret C F dX3_herdSizesAgree_33 rfl rfl ?_
      exact hq
    · have hk6 : k < 6 := nlt (by omega) (by decide) q5
      refine zV.aload_n C dX3_herdSizesAgree_8 rfl rfl ?_
      refine zV.gR 194 (k := 2) C dX3_herdSizesAgree_9 zcl_X3 (by decide) rfl lk_X3_25 (hg.1.1) rfl (hg.1.2.2.2.1) ?_
      refine zV.iload_n C dX3_herdSizesAgree_12 rfl ?_
      refine zV.callV (n := 1) C G dX3_herdSizesAgree_13 (s_LawnRow_at hzs hst h (b + 6) k hk6 hg.1.2.2.2.2.2.2.2.1) rfl ⟨cd_X7_at, lk_X3_107, im_X7_at, se_X7_X7_at, in_X7⟩ ⟨⟨by decide, by decide⟩, by decide⟩ rfl rfl rfl (hg.1.2.2.2.2.2.2.2.1.1) ⟨rfl, by decide⟩ (zaf ?_) (zno)
      rw [zGa_h hg k hk6]
      refine zV.aload_n C dX3_herdSizesAgree_16 rfl rfl ?_
      refine zV.iload_n C dX3_herdSizesAgree_17 rfl ?_
      refine zV.callV (n := 1) C G dX3_herdSizesAgree_18 (s_countChairsOn hzs hst h b g k hk6 hg hw) rfl ⟨cd_X3_countChairsOn, lk_X3_202, im_X3_countChairsOn, se_X3_X3_countChairsOn, in_X3⟩ ⟨⟨by decide, by decide⟩, by decide⟩ rfl rfl rfl (hg.1.1) ⟨rfl, by decide⟩ (zaf ?_) (zno)
      refine zV.icmp_eq (tgt := 26) C dX3_herdSizesAgree_21 (by decide) (fun q21 => ?_) (fun q21 => ?_)
      · refine zV.iinc (lo' := [(0, _), (1, _)]) C dX3_herdSizesAgree_26 rfl (by decide) rfl rfl rfl ?_
        refine zV.goto (tgt := 2) C dX3_herdSizesAgree_29 (by decide) ?_
        rw [inc1]
        exact ih (k + 1) (by omega) (by omega) hq
      · exact absurd rfl q21
set_option maxHeartbeats 4000000 in
set_option maxRecDepth 100000 in
theorem s_herdSizesAgree {l : Launch} {E : zG} (hzs : zS E) (hst : l.stackTraces = false) (h : zH) (b : Nat) (g : zGd)  (hg : zGa h b g) (hw : gW g) : zMet l E yX3_herdSizesAgree cX3_herdSizesAgree 2 (some .boolean) ({ frames := 1, cells := 0, slots := 0, locals := 23 } : Room) 0 0 [.ref b] h (fun r h' => r = some (.int (nI 1)) ∧ h' = h) (fun _ _ => False) := by
  refine zM_start hzs hst (by decide) (Nat.le_of_ble_eq_true rfl) (fun X C G F I => ?_)
  show zV X 0 0 _ 0 [(0, _)] []
  refine zV.ic (v := nI 0) C dX3_herdSizesAgree_0 (by decide) ?_
  refine zV.istore_n (lo' := [(0, _), (1, _)]) C dX3_herdSizesAgree_1 (by decide) rfl rfl rfl ?_
  exact L_herdSizesAgree hzs hst C G rfl F hg hw 7 0 (by omega) (by omega) ⟨rfl, rfl⟩
set_option maxHeartbeats 4000000 in
set_option maxRecDepth 100000 in
theorem L_sumOfRustByHerds_in {X : zX} {l : Launch} {E : zG} {rm : Room} (hzs : zS E) (hst : l.stackTraces = false) (C : zC X cX3_sumOfRustByHerds RX3 5) (G : zGX X l E rm) {h : zH} {b : Nat} {g : zGd} {l9 : Nat} (hl9 : l9 < 6) (hr : rm = ({ frames := 1, cells := 0, slots := 0, locals := 24 } : Room)) (hg : zGa h b g) (hw : gW g) (kx : zV X 0 0 h 51 [(0, .ref b), (1, .int (nI (rhS (gC g) (l9 + 1)))), (2, .int (nI l9))] []) : ∀ n p, p ≤ hsz (gC g) l9 → hsz (gC g) l9 + 1 ≤ p + n → zV X 0 0 h 12 [(0, .ref b), (1, .int (nI (rhS (gC g) l9 + rsum ((hd (gC g) l9).take p)))), (2, .int (nI l9)), (3, .int (nI p))] [] := by
  subst hr
  have hl := gW_len hw
  have hz := hsz_le (gC g) l9
  intro n
  induction n with
  | zero => intro p h1 h2; exact absurd h2 (by omega)
  | succ n ih =>
    intro p hp hn
    refine zV.iload_n C dX3_sumOfRustByHerds_12 rfl ?_
    refine zV.aload_n C dX3_sumOfRustByHerds_13 rfl rfl ?_
    refine zV.gR 194 (k := 2) C dX3_sumOfRustByHerds_14 zcl_X3 (by decide) rfl lk_X3_25 (hg.1.1) rfl (hg.1.2.2.2.1) ?_
    refine zV.iload_n C dX3_sumOfRustByHerds_17 rfl ?_
    refine zV.callV (n := 1) C G dX3_sumOfRustByHerds_18 (s_LawnRow_at hzs hst h (b + 6) l9 hl9 hg.1.2.2.2.2.2.2.2.1) rfl ⟨cd_X7_at, lk_X3_107, im_X7_at, se_X7_X7_at, in_X7⟩ ⟨⟨by decide, by decide⟩, by decide⟩ rfl rfl rfl (hg.1.2.2.2.2.2.2.2.1.1) ⟨rfl, by decide⟩ (zaf ?_) (zno)
    rw [zGa_h hg l9 hl9]
    refine zV.icmp_ge (tgt := 51) C dX3_sumOfRustByHerds_21 (by decide) (fun q21 => ?_) (fun q21 => ?_)
    · have e : p = hsz (gC g) l9 := by have := nle (by omega) (by omega) q21; omega
      subst e
      rw [← hd_len, List.take_length]
      exact zV.sub [0, 1, 2] rfl kx
    · have hpl : p < hsz (gC g) l9 := nlt (by omega) (by omega) q21
      obtain ⟨k, c, f1, f2, f3, f4, f5⟩ := fd_at hpl (by omega)
      obtain ⟨c1, c2, c3, c4, c5⟩ := zGa_c hg f2
      have hkl := (List.getElem?_eq_some_iff.mp f2).1
      have h12 : k < 12 := by omega
      refine zV.aload_n C dX3_sumOfRustByHerds_24 rfl rfl ?_
      refine zV.iload_n C dX3_sumOfRustByHerds_25 rfl ?_
      refine zV.iload_n C dX3_sumOfRustByHerds_26 rfl ?_
      refine zV.callV (n := 2) C G dX3_sumOfRustByHerds_27 (s_findInHerd hzs hst h b g l9 (nI p) hl9 hg hw) rfl ⟨cd_X3_findInHerd, lk_X3_177, im_X3_findInHerd, se_X3_X3_findInHerd, in_X3⟩ ⟨⟨by decide, by decide⟩, by decide⟩ rfl rfl rfl (hg.1.1) ⟨rfl, by decide⟩ (zafe (congrArg (zfo h b) f1) ?_) (zno)
      show zV X 0 0 h 30 _ (.ref (cA h b k) :: _)
      refine zV.astore (lo' := [(0, _), (1, _), (2, _), (3, _), (4, _)]) C dX3_sumOfRustByHerds_30 rfl (by decide) rfl rfl rfl ?_
      refine zV.aload C dX3_sumOfRustByHerds_32 rfl rfl ?_
      refine zV.ifnull (tgt := 45) C dX3_sumOfRustByHerds_34 (by decide) rfl (fun q34 => ?_) (fun q34 => ?_)
      · exact absurd q34 (by intro z; cases z)
      · refine zV.iload_n C dX3_sumOfRustByHerds_37 rfl ?_
        refine zV.aload C dX3_sumOfRustByHerds_38 rfl rfl ?_
        refine zV.gNIv 130 (k := 2) C dX3_sumOfRustByHerds_40 zcl_X0 (by decide) rfl lk_X3_116 (zGa_k hg h12) rfl (c3) ?_
        refine zV.iadd C dX3_sumOfRustByHerds_43 ?_
        rw [nI_add, Nat.add_assoc (rhS (gC g) l9), ← rsum_take f3]
        refine zV.istore_n (lo' := [(0, _), (1, _), (2, _), (3, _), (4, _)]) C dX3_sumOfRustByHerds_44 (by decide) rfl rfl rfl ?_
        refine zV.iinc (lo' := [(0, _), (1, _), (2, _), (3, _), (4, _)]) C dX3_sumOfRustByHerds_45 rfl (by decide) rfl rfl rfl ?_
        refine zV.goto (tgt := 12) C dX3_sumOfRustByHerds_48 (by decide) ?_
        rw [inc1]
        exact zV.sub [0, 1, 2, 3] rfl (ih (p + 1) (by omega) (by omega))
set_option maxHeartbeats 4000000 in
set_option maxRecDepth 100000 in
theorem L_sumOfRustByHerds {X : zX} {l : Launch} {E : zG} {rm : Room} (hzs : zS E) (hst : l.stackTraces = false) (C : zC X cX3_sumOfRustByHerds RX3 5) (G : zGX X l E rm) {h : zH} {b : Nat} {g : zGd}  {Qr : Option Value → zH → Prop} {Qx : String → zH → Prop} (hr : rm = ({ frames := 1, cells := 0, slots := 0, locals := 24 } : Room)) (F : zF X (some .int) 0 0 Qr Qx) (hg : zGa h b g) (hw : gW g) : ∀ n k, k ≤ 6 → 7 ≤ k + n → Qr (some (.int (nI (rhS (gC g) 6)))) h → zV X 0 0 h 4 [(0, .ref b), (1, .int (nI (rhS (gC g) k))), (2, .int (nI k))] [] := by
  subst hr
  have hl := gW_len hw
  have hB := gW_b hw
  intro n
  induction n with
  | zero => intro k h1 h2; exact absurd h2 (by omega)
  | succ n ih =>
    intro k hk hn hq
    refine zV.iload_n C dX3_sumOfRustByHerds_4 rfl ?_
    refine zV.bi (v := nI 6) C dX3_sumOfRustByHerds_5 (by decide) ?_
    refine zV.icmp_ge (tgt := 57) C dX3_sumOfRustByHerds_7 (by decide) (fun q7 => ?_) (fun q7 => ?_)
    · have e : k = 6 := by have := nle (by omega) (by decide) q7; omega
      subst e
      refine zV.iload_n C dX3_sumOfRustByHerds_57 rfl ?_
      refine zV.iret C F dX3_sumOfRustByHerds_58 rfl ?_
      exact hq
    · have hk6 : k < 6 := nlt (by omega) (by decide) q7
      refine zV.ic (v := nI 0) C dX3_sumOfRustByHerds_10 (by decide) ?_
      refine zV.istore_n (lo' := [(0, _), (1, _), (2, _), (3, _)]) C dX3_sumOfRustByHerds_11 (by decide) rfl rfl rfl ?_
      refine L_sumOfRustByHerds_in hzs hst C G hk6 rfl hg hw ?_ (hsz (gC g) k + 1) 0 (by omega) (by omega)
      refine zV.iinc (lo' := [(0, _), (1, _), (2, _)]) C dX3_sumOfRustByHerds_51 rfl (by decide) rfl rfl rfl ?_
      refine zV.goto (tgt := 4) C dX3_sumOfRustByHerds_54 (by decide) ?_
      rw [inc1]
      exact ih (k + 1) (by omega) (by omega) hq
set_option maxHeartbeats 4000000 in
set_option maxRecDepth 100000 in
theorem s_sumOfRustByHerds {l : Launch} {E : zG} (hzs : zS E) (hst : l.stackTraces = false) (h : zH) (b : Nat) (g : zGd)  (hg : zGa h b g) (hw : gW g) : zMet l E yX3_sumOfRustByHerds cX3_sumOfRustByHerds 5 (some .int) ({ frames := 1, cells := 0, slots := 0, locals := 24 } : Room) 0 0 [.ref b] h (fun r h' => r = some (.int (nI (rsum (gC g)))) ∧ h' = h) (fun _ _ => False) := by
  refine zM_start hzs hst (by decide) (Nat.le_of_ble_eq_true rfl) (fun X C G F I => ?_)
  show zV X 0 0 _ 0 [(0, _)] []
  refine zV.ic (v := nI 0) C dX3_sumOfRustByHerds_0 (by decide) ?_
  refine zV.istore_n (lo' := [(0, _), (1, _)]) C dX3_sumOfRustByHerds_1 (by decide) rfl rfl rfl ?_
  refine zV.ic (v := nI 0) C dX3_sumOfRustByHerds_2 (by decide) ?_
  refine zV.istore_n (lo' := [(0, _), (1, _), (2, _)]) C dX3_sumOfRustByHerds_3 (by decide) rfl rfl rfl ?_
  exact L_sumOfRustByHerds hzs hst C G rfl F hg hw 7 0 (by omega) (by omega) ⟨by rw [rhS_eq 6 (fun c hc => (hw.1 c hc).2.1)], rfl⟩
/-- how often the chair was found: at the lawn m, ahead of the place p -/
def chSeen (cs : List zCh) (j : Nat) (c0 : zCh) (m p : Nat) : Nat := if chL c0 < m ∨ (chL c0 = m ∧ hsz (cs.take j) m < p) then 1 else 0
set_option maxHeartbeats 4000000 in
set_option maxRecDepth 100000 in
theorem L_countHerdsOf_in {X : zX} {l : Launch} {E : zG} {rm : Room} (hzs : zS E) (hst : l.stackTraces = false) (C : zC X cX3_countHerdsOf RX3 5) (G : zGX X l E rm) {h : zH} {b : Nat} {g : zGd} {l9 j : Nat} {c0 : zCh} (hl9 : l9 < 6) (hr : rm = ({ frames := 1, cells := 0, slots := 0, locals := 24 } : Room)) (hg : zGa h b g) (hw : gW g) (hc0 : (gC g)[j]? = some c0) (kx : zV X 0 0 h 46 [(0, .ref b), (1, .ref (cA h b j)), (2, .int (nI (chSeen (gC g) j c0 (l9 + 1) 0))), (3, .int (nI l9))] []) : ∀ n p, p ≤ hsz (gC g) l9 → hsz (gC g) l9 + 1 ≤ p + n → zV X 0 0 h 13 [(0, .ref b), (1, .ref (cA h b j)), (2, .int (nI (chSeen (gC g) j c0 l9 p))), (3, .int (nI l9)), (4, .int (nI p))] [] := by
  subst hr
  have hl := gW_len hw
  have hz := hsz_le (gC g) l9
  have hjl : j < (gC g).length := (List.getElem?_eq_some_iff.mp hc0).1
  have hj12 : j < 12 := by omega
  intro n
  induction n with
  | zero => intro p h1 h2; exact absurd h2 (by omega)
  | succ n ih =>
    intro p hp hn
    refine zV.iload C dX3_countHerdsOf_13 rfl ?_
    refine zV.aload_n C dX3_countHerdsOf_15 rfl rfl ?_
    refine zV.gR 194 (k := 2) C dX3_countHerdsOf_16 zcl_X3 (by decide) rfl lk_X3_25 (hg.1.1) rfl (hg.1.2.2.2.1) ?_
    refine zV.iload_n C dX3_countHerdsOf_19 rfl ?_
    refine zV.callV (n := 1) C G dX3_countHerdsOf_20 (s_LawnRow_at hzs hst h (b + 6) l9 hl9 hg.1.2.2.2.2.2.2.2.1) rfl ⟨cd_X7_at, lk_X3_107, im_X7_at, se_X7_X7_at, in_X7⟩ ⟨⟨by decide, by decide⟩, by decide⟩ rfl rfl rfl (hg.1.2.2.2.2.2.2.2.1.1) ⟨rfl, by decide⟩ (zaf ?_) (zno)
    rw [zGa_h hg l9 hl9]
    refine zV.icmp_ge (tgt := 46) C dX3_countHerdsOf_23 (by decide) (fun q23 => ?_) (fun q23 => ?_)
    · have e : p = hsz (gC g) l9 := by have := nle (by omega) (by omega) q23; omega
      subst e
      have e2 : chSeen (gC g) j c0 l9 (hsz (gC g) l9) = chSeen (gC g) j c0 (l9 + 1) 0 := by
        unfold chSeen
        by_cases e3 : chL c0 = l9
        · have h1 := hsz_lt hc0 e3 hjl (Nat.le_refl _)
          rw [List.take_length] at h1
          rw [if_pos (Or.inr ⟨e3, h1⟩), if_pos (Or.inl (by omega))]
        · by_cases e4 : chL c0 < l9
          · rw [if_pos (Or.inl e4), if_pos (Or.inl (by omega))]
          · rw [if_neg (by omega), if_neg (by omega)]
      rw [e2]
      exact zV.sub [0, 1, 2, 3] rfl kx
    · have hpl : p < hsz (gC g) l9 := nlt (by omega) (by omega) q23
      obtain ⟨k, c, f1, f2, f3, f4, f5⟩ := fd_at hpl (by omega)
      have hkl := (List.getElem?_eq_some_iff.mp f2).1
      have h12 : k < 12 := by omega
      refine zV.aload_n C dX3_countHerdsOf_26 rfl rfl ?_
      refine zV.iload_n C dX3_countHerdsOf_27 rfl ?_
      refine zV.iload C dX3_countHerdsOf_28 rfl ?_
      refine zV.callV (n := 2) C G dX3_countHerdsOf_30 (s_findInHerd hzs hst h b g l9 (nI p) hl9 hg hw) rfl ⟨cd_X3_findInHerd, lk_X3_177, im_X3_findInHerd, se_X3_X3_findInHerd, in_X3⟩ ⟨⟨by decide, by decide⟩, by decide⟩ rfl rfl rfl (hg.1.1) ⟨rfl, by decide⟩ (zafe (congrArg (zfo h b) f1) ?_) (zno)
      show zV X 0 0 h 33 _ (.ref (cA h b k) :: _)
      refine zV.aload_n C dX3_countHerdsOf_33 rfl rfl ?_
      refine zV.acmp_ne (rx := some (cA h b k)) (ry := some (cA h b j)) (tgt := 40) C dX3_countHerdsOf_34 (by decide) (fun q34 => ?_) (fun q34 => ?_)
      · have e2 : chSeen (gC g) j c0 l9 p = chSeen (gC g) j c0 l9 (p + 1) := by
          unfold chSeen
          by_cases e4 : chL c0 < l9
          · rw [if_pos (Or.inl e4), if_pos (Or.inl e4)]
          · by_cases e3 : chL c0 = l9
            · have e6 : hsz ((gC g).take j) l9 ≠ p := fun z => q34 (by rw [hsz_inj f2 hc0 f4 e3 (by rw [f5, z])])
              by_cases e5 : hsz ((gC g).take j) l9 < p
              · rw [if_pos (Or.inr ⟨e3, e5⟩), if_pos (Or.inr ⟨e3, by omega⟩)]
              · rw [if_neg (by omega), if_neg (by omega)]
            · rw [if_neg (by omega), if_neg (by omega)]
        refine zV.iinc (lo' := [(0, _), (1, _), (2, _), (3, _), (4, _)]) C dX3_countHerdsOf_40 rfl (by decide) rfl rfl rfl ?_
        refine zV.goto (tgt := 13) C dX3_countHerdsOf_43 (by decide) ?_
        simp only [inc1]
        rw [e2]
        exact ih (p + 1) (by omega) (by omega)
      · have ek : k = j := zGa_inj hg h12 hj12 (Option.some.inj q34)
        subst ek
        rw [hc0] at f2
        cases f2
        have e2 : chSeen (gC g) k c0 l9 p + 1 = chSeen (gC g) k c0 l9 (p + 1) := by
          unfold chSeen
          rw [if_neg (by omega), if_pos (Or.inr ⟨f4, by omega⟩)]
        refine zV.iinc (lo' := [(0, _), (1, _), (2, _), (3, _), (4, _)]) C dX3_countHerdsOf_37 rfl (by decide) rfl rfl rfl ?_
        refine zV.iinc (lo' := [(0, _), (1, _), (2, _), (3, _), (4, _)]) C dX3_countHerdsOf_40 rfl (by decide) rfl rfl rfl ?_
        refine zV.goto (tgt := 13) C dX3_countHerdsOf_43 (by decide) ?_
        simp only [inc1]
        rw [e2]
        exact ih (p + 1) (by omega) (by omega)
set_option maxHeartbeats 4000000 in
set_option maxRecDepth 100000 in
theorem L_countHerdsOf {X : zX} {l : Launch} {E : zG} {rm : Room} (hzs : zS E) (hst : l.stackTraces = false) (C : zC X cX3_countHerdsOf RX3 5) (G : zGX X l E rm) {h : zH} {b : Nat} {g : zGd} {j : Nat} {c0 : zCh} {Qr : Option Value → zH → Prop} {Qx : String → zH → Prop} (hr : rm = ({ frames := 1, cells := 0, slots := 0, locals := 24 } : Room)) (F : zF X (some .int) 0 0 Qr Qx) (hg : zGa h b g) (hw : gW g) (hc0 : (gC g)[j]? = some c0) (hq : Qr (some (.int (nI 1))) h) : ∀ n k, k ≤ 6 → 7 ≤ k + n → zV X 0 0 h 4 [(0, .ref b), (1, .ref (cA h b j)), (2, .int (nI (chSeen (gC g) j c0 k 0))), (3, .int (nI k))] [] := by
  subst hr
  have hl := gW_len hw
  have hjl : j < (gC g).length := (List.getElem?_eq_some_iff.mp hc0).1
  have hj12 : j < 12 := by omega
  intro n
  induction n with
  | zero => intro k h1 h2; exact absurd h2 (by omega)
  | succ n ih =>
    intro k hk hn
    refine zV.iload_n C dX3_countHerdsOf_4 rfl ?_
    refine zV.bi (v := nI 6) C dX3_countHerdsOf_5 (by decide) ?_
    refine zV.icmp_ge (tgt := 52) C dX3_countHerdsOf_7 (by decide) (fun q7 => ?_) (fun q7 => ?_)
    · have e : k = 6 := by have := nle (by omega) (by decide) q7; omega
      subst e
      refine zV.iload_n C dX3_countHerdsOf_52 rfl ?_
      refine zV.iret C F dX3_countHerdsOf_53 rfl ?_
      unfold chSeen
      rw [if_pos (Or.inl (gW_c hw hc0).2.1)]
      exact hq
    · have hk6 : k < 6 := nlt (by omega) (by decide) q7
      refine zV.ic (v := nI 0) C dX3_countHerdsOf_10 (by decide) ?_
      refine zV.istore (lo' := [(0, _), (1, _), (2, _), (3, _), (4, _)]) C dX3_countHerdsOf_11 (by decide) rfl rfl rfl ?_
      refine L_countHerdsOf_in hzs hst C G hk6 rfl hg hw hc0 ?_ (hsz (gC g) k + 1) 0 (by omega) (by omega)
      refine zV.iinc (lo' := [(0, _), (1, _), (2, _), (3, _)]) C dX3_countHerdsOf_46 rfl (by decide) rfl rfl rfl ?_
      refine zV.goto (tgt := 4) C dX3_countHerdsOf_49 (by decide) ?_
      rw [inc1]
      exact ih (k + 1) (by omega) (by omega)
set_option maxHeartbeats 4000000 in
set_option maxRecDepth 100000 in
theorem s_countHerdsOf {l : Launch} {E : zG} (hzs : zS E) (hst : l.stackTraces = false) (h : zH) (b : Nat) (g : zGd) (j : Nat) (c0 : zCh) (hc0 : (gC g)[j]? = some c0) (hg : zGa h b g) (hw : gW g) : zMet l E yX3_countHerdsOf cX3_countHerdsOf 5 (some .int) ({ frames := 1, cells := 0, slots := 0, locals := 24 } : Room) 0 0 [.ref b, .ref (cA h b j)] h (fun r h' => r = some (.int (nI 1)) ∧ h' = h) (fun _ _ => False) := by
  refine zM_start hzs hst (by decide) (Nat.le_of_ble_eq_true rfl) (fun X C G F I => ?_)
  show zV X 0 0 _ 0 [(0, _), (1, _)] []
  refine zV.ic (v := nI 0) C dX3_countHerdsOf_0 (by decide) ?_
  refine zV.istore_n (lo' := [(0, _), (1, _), (2, _)]) C dX3_countHerdsOf_1 (by decide) rfl rfl rfl ?_
  refine zV.ic (v := nI 0) C dX3_countHerdsOf_2 (by decide) ?_
  refine zV.istore_n (lo' := [(0, _), (1, _), (2, _), (3, _)]) C dX3_countHerdsOf_3 (by decide) rfl rfl rfl ?_
  have e2 : (0 : Nat) = chSeen (gC g) j c0 0 0 := by
    unfold chSeen
    rw [if_neg (by omega)]
  have e3 := L_countHerdsOf hzs hst C G rfl F hg hw hc0 ⟨rfl, rfl⟩ 7 0 (by omega) (by omega)
  rw [← e2] at e3
  exact e3
set_option maxHeartbeats 4000000 in
set_option maxRecDepth 100000 in
theorem L_everyChair {X : zX} {l : Launch} {E : zG} {rm : Room} (hzs : zS E) (hst : l.stackTraces = false) (C : zC X cX3_everyChairIsInOneHerd RX3 2) (G : zGX X l E rm) {h : zH} {b : Nat} {g : zGd}  {Qr : Option Value → zH → Prop} {Qx : String → zH → Prop} (hr : rm = ({ frames := 2, cells := 0, slots := 0, locals := 48 } : Room)) (F : zF X (some .boolean) 0 0 Qr Qx) (hg : zGa h b g) (hw : gW g) : ∀ n k, k ≤ (gC g).length → (gC g).length + 1 ≤ k + n → Qr (some (.int (nI 1))) h → zV X 0 0 h 2 [(0, .ref b), (1, .int (nI k))] [] := by
  subst hr
  have hl := gW_len hw
  have hB := gW_b hw
  intro n
  induction n with
  | zero => intro k h1 h2; exact absurd h2 (by omega)
  | succ n ih =>
    intro k hk hn hq
    refine zV.iload_n C dX3_everyChairIsInOneHerd_2 rfl ?_
    refine zV.aload_n C dX3_everyChairIsInOneHerd_3 rfl rfl ?_
    refine zV.gIv 196 (k := 4) C dX3_everyChairIsInOneHerd_4 zcl_X3 (by decide) rfl lk_X3_50 (hg.1.1) rfl ((zGa_len hg)) ?_
    refine zV.icmp_ge (tgt := 32) C dX3_everyChairIsInOneHerd_7 (by decide) (fun q7 => ?_) (fun q7 => ?_)
    · have e : k = (gC g).length := by have := nle (by omega) (by omega) q7; omega
      subst e
      skip
      refine zV.ic (v := nI 1) C dX3_everyChairIsInOneHerd_32 (by decide) ?_
      refine zV.zret C F dX3_everyChairIsInOneHerd_33 rfl rfl ?_
      exact hq
    · have hkl : k < (gC g).length := nlt (by omega) (by omega) q7
      obtain ⟨c, hc, hd⟩ := drop_cons hkl
      skip
      have h12 : k < 12 := by omega
      obtain ⟨c1, c2, c3, c4, c5⟩ := zGa_c hg hc
      obtain ⟨b1, b2, b3, b4⟩ := gW_cb hw hc
      refine zV.aload_n C dX3_everyChairIsInOneHerd_10 rfl rfl ?_
      refine zV.aload_n C dX3_everyChairIsInOneHerd_11 rfl rfl ?_
      refine zV.gR 195 (k := 3) C dX3_everyChairIsInOneHerd_12 zcl_X3 (by decide) rfl lk_X3_30 (hg.1.1) rfl (hg.1.2.2.2.2.1) ?_
      refine zV.iload_n C dX3_everyChairIsInOneHerd_15 rfl ?_
      refine zV.aaldC (j := k) C dX3_everyChairIsInOneHerd_16 (hg.1.2.2.2.2.2.2.2.2.1.1) (rfl) (Nat.lt_of_lt_of_eq h12 (hg.1.2.2.2.2.2.2.2.2.1.2).symm) (by omega) (zGa_a hg h12) ?_
      refine zV.callV (n := 1) C G dX3_everyChairIsInOneHerd_17 (s_countHerdsOf hzs hst h b g k c hc hg hw) rfl ⟨cd_X3_countHerdsOf, lk_X3_205, im_X3_countHerdsOf, se_X3_X3_countHerdsOf, in_X3⟩ ⟨⟨by decide, by decide⟩, by decide⟩ rfl rfl rfl (hg.1.1) ⟨rfl, by decide⟩ (zaf ?_) (zno)
      refine zV.ic (v := nI 1) C dX3_everyChairIsInOneHerd_20 (by decide) ?_
      refine zV.icmp_eq (tgt := 26) C dX3_everyChairIsInOneHerd_21 (by decide) (fun q21 => ?_) (fun q21 => ?_)
      · refine zV.iinc (lo' := [(0, _), (1, _)]) C dX3_everyChairIsInOneHerd_26 rfl (by decide) rfl rfl rfl ?_
        refine zV.goto (tgt := 2) C dX3_everyChairIsInOneHerd_29 (by decide) ?_
        rw [inc1]
        exact ih (k + 1) (by omega) (by omega) hq
      · exact absurd rfl q21
set_option maxHeartbeats 4000000 in
set_option maxRecDepth 100000 in
theorem s_everyChair {l : Launch} {E : zG} (hzs : zS E) (hst : l.stackTraces = false) (h : zH) (b : Nat) (g : zGd)  (hg : zGa h b g) (hw : gW g) : zMet l E yX3_everyChairIsInOneHerd cX3_everyChairIsInOneHerd 2 (some .boolean) ({ frames := 2, cells := 0, slots := 0, locals := 48 } : Room) 0 0 [.ref b] h (fun r h' => r = some (.int (nI 1)) ∧ h' = h) (fun _ _ => False) := by
  refine zM_start hzs hst (by decide) (Nat.le_of_ble_eq_true rfl) (fun X C G F I => ?_)
  show zV X 0 0 _ 0 [(0, _)] []
  refine zV.ic (v := nI 0) C dX3_everyChairIsInOneHerd_0 (by decide) ?_
  refine zV.istore_n (lo' := [(0, _), (1, _)]) C dX3_everyChairIsInOneHerd_1 (by decide) rfl rfl rfl ?_
  exact L_everyChair hzs hst C G rfl F hg hw ((gC g).length + 1) 0 (by omega) (by omega) ⟨rfl, rfl⟩
