/-! a number in decimal at the end of the text -/
theorem neg_nI {n : Nat} (h : n < 2 ^ 31) : (-(nI n)).toInt = -(n : Int) := by
  have h1 : (nI n).toInt = (n : Int) := Int32.toInt_ofNat_of_lt h
  rw [Int32.toInt_neg, h1]
  exact Int.bmod_eq_of_le (by omega) (by omega)
theorem ng_le {n m : Nat} (h : n < 2 ^ 31) (h2 : m < 2 ^ 31) : -(nI n) ≤ -(nI m) ↔ m ≤ n := by
  rw [Int32.le_iff_toInt_le, neg_nI h, neg_nI h2]; omega
theorem ng_lt {n m : Nat} (h : n < 2 ^ 31) (h2 : m < 2 ^ 31) : -(nI n) < -(nI m) ↔ m < n := by
  rw [Int32.lt_iff_toInt_lt, neg_nI h, neg_nI h2]; omega
theorem ng_div {n : Nat} (h : n < 2 ^ 31) : -(nI n) / nI 100 = -(nI (n / 100)) := by
  refine Int32.toInt_inj.mp ?_
  rw [neg_nI (by omega), Int32.toInt_div, neg_nI h]
  rw [show (nI 100).toInt = 100 by decide, Int.neg_tdiv]
  rw [show (n : Int).tdiv 100 = ((n / 100 : Nat) : Int) from rfl]
  exact Int.bmod_eq_of_le (by omega) (by omega)
theorem ng_rem {n : Nat} (h : n < 2 ^ 31) : -(nI (n / 100)) * nI 100 - -(nI n) = nI (n % 100) := by
  refine Int32.toInt_inj.mp ?_
  rw [Int32.toInt_sub, Int32.toInt_mul, neg_nI (by omega), neg_nI h]
  rw [show (nI 100).toInt = 100 by decide]
  rw [show (nI (n % 100)).toInt = ((n % 100 : Nat) : Int) from Int32.toInt_ofNat_of_lt (by omega)]
  rw [Int.bmod_eq_of_le (n := -((n / 100 : Nat) : Int) * 100) (by omega) (by omega)]
  rw [Int.bmod_eq_of_le (by omega) (by omega)]
  omega
theorem ng_ng {n : Nat} : - -(nI n) = nI n := Int32.neg_neg
def dcs (n : Nat) : List Nat := if n < 10 then [48 + n] else dcs (n / 10) ++ [48 + n % 10]
termination_by n
decreasing_by omega
theorem dcs_s {n : Nat} (h : n < 10) : dcs n = [48 + n] := by rw [dcs]; exact if_pos h
theorem dcs_b {n : Nat} (h : ¬ n < 10) : dcs n = dcs (n / 10) ++ [48 + n % 10] := by rw [dcs]; exact if_neg h
theorem dcs_len : ∀ (i n : Nat), n < 10 ^ (i + 1) → (10 ^ i ≤ n ∨ i = 0) → (dcs n).length = i + 1
  | 0, n, h, _ => by rw [dcs_s (by omega)]; rfl
  | i + 1, n, h, g => by
    have g1 : 10 ^ (i + 1) ≤ n := g.resolve_right (by omega)
    have p1 : 10 ^ (i + 1) = 10 * 10 ^ i := by rw [Nat.pow_succ, Nat.mul_comm]
    have p2 : 10 ^ (i + 1 + 1) = 10 * 10 ^ (i + 1) := by rw [Nat.pow_succ, Nat.mul_comm]
    have p3 : 0 < 10 ^ i := Nat.pow_pos (by decide)
    rw [dcs_b (by omega), List.length_append, dcs_len i (n / 10) (by omega) (Or.inl (by omega))]
    rfl
theorem dcs_c {n c : Nat} (h : c ∈ dcs n) : 48 ≤ c ∧ c < 58 := by
  induction n using Nat.strongRecOn with
  | ind n ih =>
    by_cases e : n < 10
    · rw [dcs_s e] at h
      have := List.mem_singleton.mp h; omega
    · rw [dcs_b e] at h
      rcases List.mem_append.mp h with h | h
      · exact ih (n / 10) (by omega) h
      · have := List.mem_singleton.mp h; omega
theorem dcs_2 {n : Nat} (h : 100 ≤ n) : dcs n = dcs (n / 100) ++ [48 + n % 100 / 10, 48 + n % 100 % 10] := by
  rw [dcs_b (by omega), dcs_b (n := n / 10) (by omega), Nat.div_div_eq_div_mul, List.append_assoc]
  rw [show n / 10 % 10 = n % 100 / 10 by omega, show n % 10 = n % 100 % 10 by omega]
  rfl
theorem dcr1 {p : Nat} (h : 0 < p) : nI p + Int32.ofInt (-1) = nI (p - 1) := by
  rw [show Int32.ofInt (-1) = -1 by decide]
  rw [← pk_sub (a := p) (b := 1) h, Int32.sub_eq_add_neg]; rfl
theorem dcs_0 (n : Nat) : 0 < (dcs n).length := by
  by_cases e : n < 10
  · rw [dcs_s e]; exact Nat.one_pos
  · rw [dcs_b e, List.length_append]; exact Nat.lt_of_lt_of_le Nat.one_pos (Nat.le_add_left _ _)
def gcE (h : zH) (v p n : Nat) : zH := if 10 ≤ n then saI (saI h v (p - 1) (nI (48 + n % 10))) v (p - 2) (nI (48 + n / 10)) else saI h v (p - 1) (nI (48 + n % 10))
def gcH : Nat → zH → Nat → Nat → Nat → zH
  | 0, h, v, p, n => gcE h v p n
  | f + 1, h, v, p, n => if 100 ≤ n then gcH f (saI (saI h v (p - 1) (nI (48 + n % 100 % 10))) v (p - 2) (nI (48 + n % 100 / 10))) v (p - 2) (n / 100) else gcE h v p n
theorem gcH_e {f : Nat} {h : zH} {v p n : Nat} (q : n < 100) : gcH f h v p n = gcE h v p n := by
  cases f
  · rfl
  · exact if_neg (by omega)
theorem gcE_f {h h0 : zH} {v p n : Nat} (q : zFq h0 h v (v + 1)) : zFq h0 (gcE h v p n) v (v + 1) := by
  unfold gcE
  split
  · exact (q.saI (Nat.le_refl _) (Nat.lt_succ_self _)).saI (Nat.le_refl _) (Nat.lt_succ_self _)
  · exact q.saI (Nat.le_refl _) (Nat.lt_succ_self _)
theorem gcH_f : ∀ {f : Nat} {h h0 : zH} {v p n : Nat}, zFq h0 h v (v + 1) → zFq h0 (gcH f h v p n) v (v + 1)
  | 0, h, h0, v, p, n, q => gcE_f q
  | f + 1, h, h0, v, p, n, q => by
    unfold gcH
    split
    · exact gcH_f ((q.saI (Nat.le_refl _) (Nat.lt_succ_self _)).saI (Nat.le_refl _) (Nat.lt_succ_self _))
    · exact gcE_f q
theorem gcE_t {h : zH} {v p n : Nat} (q : n < 100) (hf : sb_Fit (aI h v)) : sb_Fit (aI (gcE h v p n) v) := by
  unfold gcE
  split
  · exact fit_saI (fit_saI hf (by omega)) (by omega)
  · exact fit_saI hf (by omega)
theorem gcH_t : ∀ {f : Nat} {h : zH} {v p n : Nat}, n < 100 ^ (f + 1) → sb_Fit (aI h v) → sb_Fit (aI (gcH f h v p n) v)
  | 0, h, v, p, n, q, hf => gcE_t (by omega) hf
  | f + 1, h, v, p, n, q, hf => by
    have q9 : 100 ^ (f + 1 + 1) = 100 * 100 ^ (f + 1) := by rw [Nat.pow_succ, Nat.mul_comm]
    unfold gcH
    split
    · exact gcH_t (by omega) (fit_saI (fit_saI hf (by omega)) (by omega))
    · exact gcE_t (by omega) hf
def gcP (h h' : zH) (v p n : Nat) : Prop := (∀ i, i < p - (dcs n).length → aI h' v i = aI h v i) ∧ (∀ i, p ≤ i → aI h' v i = aI h v i) ∧ ∀ j c, (dcs n)[j]? = some c → aI h' v (p - (dcs n).length + j) = nI c
theorem gcE_c {h : zH} {v p n : Nat} (q : n < 100) (hp : (dcs n).length ≤ p) : gcP h (gcE h v p n) v p n := by
  unfold gcP gcE
  by_cases e : 10 ≤ n
  · have e2 : dcs n = [48 + n / 10, 48 + n % 10] := by rw [dcs_b (by omega), dcs_s (by omega)]; rfl
    rw [e2] at hp ⊢
    rw [if_pos e]
    have hp : 2 ≤ p := hp
    refine ⟨fun i hi => ?_, fun i hi => ?_, fun j c hj => ?_⟩
    · have hi : i < p - 2 := hi
      rw [aI_saI_i (by omega), aI_saI_i (by omega)]
    · rw [aI_saI_i (by omega), aI_saI_i (by omega)]
    · match j, hj with
      | 0, hj => cases hj; exact aI_saI
      | 1, hj => cases hj; exact (aI_saI_i (by show p - 2 + 1 ≠ p - 2; omega)).trans (by rw [show p - [48 + n / 10, 48 + n % 10].length + 1 = p - 1 from by show p - 2 + 1 = p - 1; omega]; exact aI_saI)
      | j + 2, hj => cases hj
  · have e2 : dcs n = [48 + n] := dcs_s (by omega)
    rw [e2] at hp ⊢
    rw [if_neg e]
    have hp : 1 ≤ p := hp
    refine ⟨fun i hi => ?_, fun i hi => ?_, fun j c hj => ?_⟩
    · have hi : i < p - 1 := hi
      rw [aI_saI_i (by omega)]
    · rw [aI_saI_i (by omega)]
    · match j, hj with
      | 0, hj => cases hj; rw [show 48 + n % 10 = 48 + n by omega]; exact aI_saI
      | j + 1, hj => cases hj
theorem gcH_c : ∀ (f : Nat) (h : zH) (v p n : Nat), n < 100 ^ (f + 1) → (dcs n).length ≤ p → gcP h (gcH f h v p n) v p n
  | 0, h, v, p, n, q, hp => gcE_c (by omega) hp
  | f + 1, h, v, p, n, q, hp => by
    have q9 : 100 ^ (f + 1 + 1) = 100 * 100 ^ (f + 1) := by rw [Nat.pow_succ, Nat.mul_comm]
    by_cases e : 100 ≤ n
    · have e0 : gcH (f + 1) h v p n = gcH f (saI (saI h v (p - 1) (nI (48 + n % 100 % 10))) v (p - 2) (nI (48 + n % 100 / 10))) v (p - 2) (n / 100) := if_pos e
      have e2 := dcs_2 e
      have e3 : (dcs n).length = (dcs (n / 100)).length + 2 := by rw [e2, List.length_append]; rfl
      obtain ⟨i1, i2, i3⟩ := gcH_c f (saI (saI h v (p - 1) (nI (48 + n % 100 % 10))) v (p - 2) (nI (48 + n % 100 / 10))) v (p - 2) (n / 100) (by omega) (by omega)
      rw [e0]
      refine ⟨fun i hi => ?_, fun i hi => ?_, fun j c hj => ?_⟩
      · rw [i1 i (by omega), aI_saI_i (by omega), aI_saI_i (by omega)]
      · rw [i2 i (by omega), aI_saI_i (by omega), aI_saI_i (by omega)]
      · rw [e2] at hj
        by_cases e4 : j < (dcs (n / 100)).length
        · rw [List.getElem?_append_left e4] at hj
          rw [show p - (dcs n).length + j = p - 2 - (dcs (n / 100)).length + j by omega]
          exact i3 j c hj
        · rw [List.getElem?_append_right (by omega)] at hj
          rw [i2 _ (by omega)]
          match e5 : j - (dcs (n / 100)).length, hj with
          | 0, hj => cases hj; rw [show p - (dcs n).length + j = p - 2 by omega]; exact aI_saI
          | 1, hj => cases hj; rw [show p - (dcs n).length + j = p - 1 by omega, aI_saI_i (by omega)]; exact aI_saI
          | k + 2, hj => cases hj
    · rw [gcH_e (by omega)]; exact gcE_c (by omega) hp
theorem zOv_dig {h : zH} {a v lo n : Nat} {o : List Nat} (hu : zOv h a v lo o) (h2 : a + 2 ≤ lo) (hn : n < 100 ^ 4) (h3 : o.length + (dcs n).length ≤ hL h v) :
    zOv (sI (gcH 3 h v (o.length + (dcs n).length) n) 35 a (nI (o.length + (dcs n).length))) a v lo (o ++ dcs n) ∧ zOf h (sI (gcH 3 h v (o.length + (dcs n).length) n) 35 a (nI (o.length + (dcs n).length))) a lo := by
  obtain ⟨q1, q2, q3, q4, q5, q6, q7, q8, q9, q10, q11⟩ := hu
  have f := gcH_f (f := 3) (p := o.length + (dcs n).length) (n := n) (zFq.refl h v (v + 1))
  have ea := f.e (c := a) (by omega)
  obtain ⟨c1, c2, c3⟩ := gcH_c 3 h v (o.length + (dcs n).length) n hn (by omega)
  refine ⟨⟨ea.1.trans q1, (hI_sI_f (by decide)).trans ((ea.2.2.2.1 _).trans q2), hI_sI.trans (congrArg nI (by rw [List.length_append])), (ea.2.2.1 _).trans q4, q5, Nat.lt_of_lt_of_eq q6 f.1.symm, (congrFun f.2.1 v).trans q7, ?_, ?_, ?_, gcH_t (by omega) q11⟩, Nat.le_of_eq f.1.symm, fun c h4 h5 => (f.e (by omega)).trans (zEq_sI (by omega))⟩
  · rw [List.length_append]; exact Nat.le_trans h3 (Nat.le_of_eq (congrFun f.2.2.1 v).symm)
  · exact Nat.le_trans (Nat.le_of_eq (congrFun f.2.2.1 v)) q9
  · intro i d hd
    show aI (gcH 3 h v (o.length + (dcs n).length) n) v i = nI d ∧ d < 128
    by_cases e : i < o.length
    · rw [List.getElem?_append_left e] at hd
      exact ⟨(c1 i (by omega)).trans (q10 i d hd).1, (q10 i d hd).2⟩
    · rw [List.getElem?_append_right (by omega)] at hd
      have h9 := c3 _ d hd
      rw [show o.length + (dcs n).length - (dcs n).length + (i - o.length) = i by omega] at h9
      exact ⟨h9, by have := dcs_c (List.mem_of_getElem? hd); omega⟩
set_option maxHeartbeats 4000000 in
set_option maxRecDepth 100000 in
theorem s_ss9 {X : zX} {l : Launch} {E : zG} {rm : Room} (hzs : zS E) (hst : l.stackTraces = false) (C : zC X cJ6_stringSize_0f7a4 RJ6 4) (G : zGX X l E rm) {Qr : Option Value → zH → Prop} {Qx : String → zH → Prop} (F : zF X (some .int) 0 0 Qr Qx) (h : zH) (n : Nat) (hn : n < 100000000) (k : Qr (some (.int (nI (dcs n).length))) h) (hl : 10 ^ 8 ≤ n) (P J : Int32) (hP : P = -(nI (10 ^ 9))) (hJ : J = nI 9) : zV X 0 0 h 16 [(0, .int (-(nI n))), (1, .int (nI 0)), (2, .int P), (3, .int J)] [] := by
  subst hP hJ
  refine zV.iload_n C dJ6_stringSize_0f7a4_16 rfl ?_
  refine zV.bi (v := nI 10) C dJ6_stringSize_0f7a4_17 (by decide) ?_
  refine zV.icmp_ge (tgt := 42) C dJ6_stringSize_0f7a4_19 (by decide) (fun q19 => ?_) (fun q19 => ?_)
  · exact absurd q19 (by decide)
  · refine zV.iload_n C dJ6_stringSize_0f7a4_22 rfl ?_
    refine zV.iload_n C dJ6_stringSize_0f7a4_23 rfl ?_
    refine zV.icmp_le (tgt := 31) C dJ6_stringSize_0f7a4_24 (by decide) (fun q24 => ?_) (fun q24 => ?_)
    · omega
    · omega
set_option maxHeartbeats 4000000 in
set_option maxRecDepth 100000 in
theorem s_ss8 {X : zX} {l : Launch} {E : zG} {rm : Room} (hzs : zS E) (hst : l.stackTraces = false) (C : zC X cJ6_stringSize_0f7a4 RJ6 4) (G : zGX X l E rm) {Qr : Option Value → zH → Prop} {Qx : String → zH → Prop} (F : zF X (some .int) 0 0 Qr Qx) (h : zH) (n : Nat) (hn : n < 100000000) (k : Qr (some (.int (nI (dcs n).length))) h) (hl : 10 ^ 7 ≤ n) (P J : Int32) (hP : P = -(nI (10 ^ 8))) (hJ : J = nI 8) : zV X 0 0 h 16 [(0, .int (-(nI n))), (1, .int (nI 0)), (2, .int P), (3, .int J)] [] := by
  subst hP hJ
  refine zV.iload_n C dJ6_stringSize_0f7a4_16 rfl ?_
  refine zV.bi (v := nI 10) C dJ6_stringSize_0f7a4_17 (by decide) ?_
  refine zV.icmp_ge (tgt := 42) C dJ6_stringSize_0f7a4_19 (by decide) (fun q19 => ?_) (fun q19 => ?_)
  · exact absurd q19 (by decide)
  · refine zV.iload_n C dJ6_stringSize_0f7a4_22 rfl ?_
    refine zV.iload_n C dJ6_stringSize_0f7a4_23 rfl ?_
    refine zV.icmp_le (tgt := 31) C dJ6_stringSize_0f7a4_24 (by decide) (fun q24 => ?_) (fun q24 => ?_)
    · have e : 10 ^ 8 ≤ n := (ng_le (by omega) (by decide)).mp q24
      refine zV.bi (v := nI 10) C dJ6_stringSize_0f7a4_31 (by decide) ?_
      refine zV.iload_n C dJ6_stringSize_0f7a4_33 rfl ?_
      refine zV.imul C dJ6_stringSize_0f7a4_34 ?_
      refine zV.istore_n (lo' := [(0, _), (1, _), (2, _), (3, _)]) C dJ6_stringSize_0f7a4_35 (by decide) rfl rfl rfl ?_
      refine zV.iinc (lo' := [(0, _), (1, _), (2, _), (3, _)]) C dJ6_stringSize_0f7a4_36 rfl (by decide) rfl rfl rfl ?_
      refine zV.goto (tgt := 16) C dJ6_stringSize_0f7a4_39 (by decide) ?_
      exact s_ss9 hzs hst C G F h n hn k (by omega) _ _ (by decide) (by decide)
    · have e : n < 10 ^ 8 := Nat.lt_of_not_le (fun z => q24 ((ng_le (by omega) (by decide)).mpr z))
      refine zV.iload_n C dJ6_stringSize_0f7a4_27 rfl ?_
      refine zV.iload_n C dJ6_stringSize_0f7a4_28 rfl ?_
      refine zV.iadd C dJ6_stringSize_0f7a4_29 ?_
      refine zV.iret C F dJ6_stringSize_0f7a4_30 rfl ?_
      rw [show nI 8 + nI 0 = nI (dcs n).length from by rw [dcs_len 7 n (by omega) (Or.inl (by omega))]; decide]; exact k
set_option maxHeartbeats 4000000 in
set_option maxRecDepth 100000 in
theorem s_ss7 {X : zX} {l : Launch} {E : zG} {rm : Room} (hzs : zS E) (hst : l.stackTraces = false) (C : zC X cJ6_stringSize_0f7a4 RJ6 4) (G : zGX X l E rm) {Qr : Option Value → zH → Prop} {Qx : String → zH → Prop} (F : zF X (some .int) 0 0 Qr Qx) (h : zH) (n : Nat) (hn : n < 100000000) (k : Qr (some (.int (nI (dcs n).length))) h) (hl : 10 ^ 6 ≤ n) (P J : Int32) (hP : P = -(nI (10 ^ 7))) (hJ : J = nI 7) : zV X 0 0 h 16 [(0, .int (-(nI n))), (1, .int (nI 0)), (2, .int P), (3, .int J)] [] := by
  subst hP hJ
  refine zV.iload_n C dJ6_stringSize_0f7a4_16 rfl ?_
  refine zV.bi (v := nI 10) C dJ6_stringSize_0f7a4_17 (by decide) ?_
  refine zV.icmp_ge (tgt := 42) C dJ6_stringSize_0f7a4_19 (by decide) (fun q19 => ?_) (fun q19 => ?_)
  · exact absurd q19 (by decide)
  · refine zV.iload_n C dJ6_stringSize_0f7a4_22 rfl ?_
    refine zV.iload_n C dJ6_stringSize_0f7a4_23 rfl ?_
    refine zV.icmp_le (tgt := 31) C dJ6_stringSize_0f7a4_24 (by decide) (fun q24 => ?_) (fun q24 => ?_)
    · have e : 10 ^ 7 ≤ n := (ng_le (by omega) (by decide)).mp q24
      refine zV.bi (v := nI 10) C dJ6_stringSize_0f7a4_31 (by decide) ?_
      refine zV.iload_n C dJ6_stringSize_0f7a4_33 rfl ?_
      refine zV.imul C dJ6_stringSize_0f7a4_34 ?_
      refine zV.istore_n (lo' := [(0, _), (1, _), (2, _), (3, _)]) C dJ6_stringSize_0f7a4_35 (by decide) rfl rfl rfl ?_
      refine zV.iinc (lo' := [(0, _), (1, _), (2, _), (3, _)]) C dJ6_stringSize_0f7a4_36 rfl (by decide) rfl rfl rfl ?_
      refine zV.goto (tgt := 16) C dJ6_stringSize_0f7a4_39 (by decide) ?_
      exact s_ss8 hzs hst C G F h n hn k (by omega) _ _ (by decide) (by decide)
    · have e : n < 10 ^ 7 := Nat.lt_of_not_le (fun z => q24 ((ng_le (by omega) (by decide)).mpr z))
      refine zV.iload_n C dJ6_stringSize_0f7a4_27 rfl ?_
      refine zV.iload_n C dJ6_stringSize_0f7a4_28 rfl ?_
      refine zV.iadd C dJ6_stringSize_0f7a4_29 ?_
      refine zV.iret C F dJ6_stringSize_0f7a4_30 rfl ?_
      rw [show nI 7 + nI 0 = nI (dcs n).length from by rw [dcs_len 6 n (by omega) (Or.inl (by omega))]; decide]; exact k
set_option maxHeartbeats 4000000 in
set_option maxRecDepth 100000 in
theorem s_ss6 {X : zX} {l : Launch} {E : zG} {rm : Room} (hzs : zS E) (hst : l.stackTraces = false) (C : zC X cJ6_stringSize_0f7a4 RJ6 4) (G : zGX X l E rm) {Qr : Option Value → zH → Prop} {Qx : String → zH → Prop} (F : zF X (some .int) 0 0 Qr Qx) (h : zH) (n : Nat) (hn : n < 100000000) (k : Qr (some (.int (nI (dcs n).length))) h) (hl : 10 ^ 5 ≤ n) (P J : Int32) (hP : P = -(nI (10 ^ 6))) (hJ : J = nI 6) : zV X 0 0 h 16 [(0, .int (-(nI n))), (1, .int (nI 0)), (2, .int P), (3, .int J)] [] := by
  subst hP hJ
  refine zV.iload_n C dJ6_stringSize_0f7a4_16 rfl ?_
  refine zV.bi (v := nI 10) C dJ6_stringSize_0f7a4_17 (by decide) ?_
  refine zV.icmp_ge (tgt := 42) C dJ6_stringSize_0f7a4_19 (by decide) (fun q19 => ?_) (fun q19 => ?_)
  · exact absurd q19 (by decide)
  · refine zV.iload_n C dJ6_stringSize_0f7a4_22 rfl ?_
    refine zV.iload_n C dJ6_stringSize_0f7a4_23 rfl ?_
    refine zV.icmp_le (tgt := 31) C dJ6_stringSize_0f7a4_24 (by decide) (fun q24 => ?_) (fun q24 => ?_)
    · have e : 10 ^ 6 ≤ n := (ng_le (by omega) (by decide)).mp q24
      refine zV.bi (v := nI 10) C dJ6_stringSize_0f7a4_31 (by decide) ?_
      refine zV.iload_n C dJ6_stringSize_0f7a4_33 rfl ?_
      refine zV.imul C dJ6_stringSize_0f7a4_34 ?_
      refine zV.istore_n (lo' := [(0, _), (1, _), (2, _), (3, _)]) C dJ6_stringSize_0f7a4_35 (by decide) rfl rfl rfl ?_
      refine zV.iinc (lo' := [(0, _), (1, _), (2, _), (3, _)]) C dJ6_stringSize_0f7a4_36 rfl (by decide) rfl rfl rfl ?_
      refine zV.goto (tgt := 16) C dJ6_stringSize_0f7a4_39 (by decide) ?_
      exact s_ss7 hzs hst C G F h n hn k (by omega) _ _ (by decide) (by decide)
    · have e : n < 10 ^ 6 := Nat.lt_of_not_le (fun z => q24 ((ng_le (by omega) (by decide)).mpr z))
      refine zV.iload_n C dJ6_stringSize_0f7a4_27 rfl ?_
      refine zV.iload_n C dJ6_stringSize_0f7a4_28 rfl ?_
      refine zV.iadd C dJ6_stringSize_0f7a4_29 ?_
      refine zV.iret C F dJ6_stringSize_0f7a4_30 rfl ?_
      rw [show nI 6 + nI 0 = nI (dcs n).length from by rw [dcs_len 5 n (by omega) (Or.inl (by omega))]; decide]; exact k
set_option maxHeartbeats 4000000 in
set_option maxRecDepth 100000 in
theorem s_ss5 {X : zX} {l : Launch} {E : zG} {rm : Room} (hzs : zS E) (hst : l.stackTraces = false) (C : zC X cJ6_stringSize_0f7a4 RJ6 4) (G : zGX X l E rm) {Qr : Option Value → zH → Prop} {Qx : String → zH → Prop} (F : zF X (some .int) 0 0 Qr Qx) (h : zH) (n : Nat) (hn : n < 100000000) (k : Qr (some (.int (nI (dcs n).length))) h) (hl : 10 ^ 4 ≤ n) (P J : Int32) (hP : P = -(nI (10 ^ 5))) (hJ : J = nI 5) : zV X 0 0 h 16 [(0, .int (-(nI n))), (1, .int (nI 0)), (2, .int P), (3, .int J)] [] := by
  subst hP hJ
  refine zV.iload_n C dJ6_stringSize_0f7a4_16 rfl ?_
  refine zV.bi (v := nI 10) C dJ6_stringSize_0f7a4_17 (by decide) ?_
  refine zV.icmp_ge (tgt := 42) C dJ6_stringSize_0f7a4_19 (by decide) (fun q19 => ?_) (fun q19 => ?_)
  · exact absurd q19 (by decide)
  · refine zV.iload_n C dJ6_stringSize_0f7a4_22 rfl ?_
    refine zV.iload_n C dJ6_stringSize_0f7a4_23 rfl ?_
    refine zV.icmp_le (tgt := 31) C dJ6_stringSize_0f7a4_24 (by decide) (fun q24 => ?_) (fun q24 => ?_)
    · have e : 10 ^ 5 ≤ n := (ng_le (by omega) (by decide)).mp q24
      refine zV.bi (v := nI 10) C dJ6_stringSize_0f7a4_31 (by decide) ?_
      refine zV.iload_n C dJ6_stringSize_0f7a4_33 rfl ?_
      refine zV.imul C dJ6_stringSize_0f7a4_34 ?_
      refine zV.istore_n (lo' := [(0, _), (1, _), (2, _), (3, _)]) C dJ6_stringSize_0f7a4_35 (by decide) rfl rfl rfl ?_
      refine zV.iinc (lo' := [(0, _), (1, _), (2, _), (3, _)]) C dJ6_stringSize_0f7a4_36 rfl (by decide) rfl rfl rfl ?_
      refine zV.goto (tgt := 16) C dJ6_stringSize_0f7a4_39 (by decide) ?_
      exact s_ss6 hzs hst C G F h n hn k (by omega) _ _ (by decide) (by decide)
    · have e : n < 10 ^ 5 := Nat.lt_of_not_le (fun z => q24 ((ng_le (by omega) (by decide)).mpr z))
      refine zV.iload_n C dJ6_stringSize_0f7a4_27 rfl ?_
      refine zV.iload_n C dJ6_stringSize_0f7a4_28 rfl ?_
      refine zV.iadd C dJ6_stringSize_0f7a4_29 ?_
      refine zV.iret C F dJ6_stringSize_0f7a4_30 rfl ?_
      rw [show nI 5 + nI 0 = nI (dcs n).length from by rw [dcs_len 4 n (by omega) (Or.inl (by omega))]; decide]; exact k
set_option maxHeartbeats 4000000 in
set_option maxRecDepth 100000 in
theorem s_ss4 {X : zX} {l : Launch} {E : zG} {rm : Room} (hzs : zS E) (hst : l.stackTraces = false) (C : zC X cJ6_stringSize_0f7a4 RJ6 4) (G : zGX X l E rm) {Qr : Option Value → zH → Prop} {Qx : String → zH → Prop} (F : zF X (some .int) 0 0 Qr Qx) (h : zH) (n : Nat) (hn : n < 100000000) (k : Qr (some (.int (nI (dcs n).length))) h) (hl : 10 ^ 3 ≤ n) (P J : Int32) (hP : P = -(nI (10 ^ 4))) (hJ : J = nI 4) : zV X 0 0 h 16 [(0, .int (-(nI n))), (1, .int (nI 0)), (2, .int P), (3, .int J)] [] := by
  subst hP hJ
  refine zV.iload_n C dJ6_stringSize_0f7a4_16 rfl ?_
  refine zV.bi (v := nI 10) C dJ6_stringSize_0f7a4_17 (by decide) ?_
  refine zV.icmp_ge (tgt := 42) C dJ6_stringSize_0f7a4_19 (by decide) (fun q19 => ?_) (fun q19 => ?_)
  · exact absurd q19 (by decide)
  · refine zV.iload_n C dJ6_stringSize_0f7a4_22 rfl ?_
    refine zV.iload_n C dJ6_stringSize_0f7a4_23 rfl ?_
    refine zV.icmp_le (tgt := 31) C dJ6_stringSize_0f7a4_24 (by decide) (fun q24 => ?_) (fun q24 => ?_)
    · have e : 10 ^ 4 ≤ n := (ng_le (by omega) (by decide)).mp q24
      refine zV.bi (v := nI 10) C dJ6_stringSize_0f7a4_31 (by decide) ?_
      refine zV.iload_n C dJ6_stringSize_0f7a4_33 rfl ?_
      refine zV.imul C dJ6_stringSize_0f7a4_34 ?_
      refine zV.istore_n (lo' := [(0, _), (1, _), (2, _), (3, _)]) C dJ6_stringSize_0f7a4_35 (by decide) rfl rfl rfl ?_
      refine zV.iinc (lo' := [(0, _), (1, _), (2, _), (3, _)]) C dJ6_stringSize_0f7a4_36 rfl (by decide) rfl rfl rfl ?_
      refine zV.goto (tgt := 16) C dJ6_stringSize_0f7a4_39 (by decide) ?_
      exact s_ss5 hzs hst C G F h n hn k (by omega) _ _ (by decide) (by decide)
    · have e : n < 10 ^ 4 := Nat.lt_of_not_le (fun z => q24 ((ng_le (by omega) (by decide)).mpr z))
      refine zV.iload_n C dJ6_stringSize_0f7a4_27 rfl ?_
      refine zV.iload_n C dJ6_stringSize_0f7a4_28 rfl ?_
      refine zV.iadd C dJ6_stringSize_0f7a4_29 ?_
      refine zV.iret C F dJ6_stringSize_0f7a4_30 rfl ?_
      rw [show nI 4 + nI 0 = nI (dcs n).length from by rw [dcs_len 3 n (by omega) (Or.inl (by omega))]; decide]; exact k
set_option maxHeartbeats 4000000 in
set_option maxRecDepth 100000 in
theorem s_ss3 {X : zX} {l : Launch} {E : zG} {rm : Room} (hzs : zS E) (hst : l.stackTraces = false) (C : zC X cJ6_stringSize_0f7a4 RJ6 4) (G : zGX X l E rm) {Qr : Option Value → zH → Prop} {Qx : String → zH → Prop} (F : zF X (some .int) 0 0 Qr Qx) (h : zH) (n : Nat) (hn : n < 100000000) (k : Qr (some (.int (nI (dcs n).length))) h) (hl : 10 ^ 2 ≤ n) (P J : Int32) (hP : P = -(nI (10 ^ 3))) (hJ : J = nI 3) : zV X 0 0 h 16 [(0, .int (-(nI n))), (1, .int (nI 0)), (2, .int P), (3, .int J)] [] := by
  subst hP hJ
  refine zV.iload_n C dJ6_stringSize_0f7a4_16 rfl ?_
  refine zV.bi (v := nI 10) C dJ6_stringSize_0f7a4_17 (by decide) ?_
  refine zV.icmp_ge (tgt := 42) C dJ6_stringSize_0f7a4_19 (by decide) (fun q19 => ?_) (fun q19 => ?_)
  · exact absurd q19 (by decide)
  · refine zV.iload_n C dJ6_stringSize_0f7a4_22 rfl ?_
    refine zV.iload_n C dJ6_stringSize_0f7a4_23 rfl ?_
    refine zV.icmp_le (tgt := 31) C dJ6_stringSize_0f7a4_24 (by decide) (fun q24 => ?_) (fun q24 => ?_)
    · have e : 10 ^ 3 ≤ n := (ng_le (by omega) (by decide)).mp q24
      refine zV.bi (v := nI 10) C dJ6_stringSize_0f7a4_31 (by decide) ?_
      refine zV.iload_n C dJ6_stringSize_0f7a4_33 rfl ?_
      refine zV.imul C dJ6_stringSize_0f7a4_34 ?_
      refine zV.istore_n (lo' := [(0, _), (1, _), (2, _), (3, _)]) C dJ6_stringSize_0f7a4_35 (by decide) rfl rfl rfl ?_
      refine zV.iinc (lo' := [(0, _), (1, _), (2, _), (3, _)]) C dJ6_stringSize_0f7a4_36 rfl (by decide) rfl rfl rfl ?_
      refine zV.goto (tgt := 16) C dJ6_stringSize_0f7a4_39 (by decide) ?_
      exact s_ss4 hzs hst C G F h n hn k (by omega) _ _ (by decide) (by decide)
    · have e : n < 10 ^ 3 := Nat.lt_of_not_le (fun z => q24 ((ng_le (by omega) (by decide)).mpr z))
      refine zV.iload_n C dJ6_stringSize_0f7a4_27 rfl ?_
      refine zV.iload_n C dJ6_stringSize_0f7a4_28 rfl ?_
      refine zV.iadd C dJ6_stringSize_0f7a4_29 ?_
      refine zV.iret C F dJ6_stringSize_0f7a4_30 rfl ?_
      rw [show nI 3 + nI 0 = nI (dcs n).length from by rw [dcs_len 2 n (by omega) (Or.inl (by omega))]; decide]; exact k
set_option maxHeartbeats 4000000 in
set_option maxRecDepth 100000 in
theorem s_ss2 {X : zX} {l : Launch} {E : zG} {rm : Room} (hzs : zS E) (hst : l.stackTraces = false) (C : zC X cJ6_stringSize_0f7a4 RJ6 4) (G : zGX X l E rm) {Qr : Option Value → zH → Prop} {Qx : String → zH → Prop} (F : zF X (some .int) 0 0 Qr Qx) (h : zH) (n : Nat) (hn : n < 100000000) (k : Qr (some (.int (nI (dcs n).length))) h) (hl : 10 ^ 1 ≤ n) (P J : Int32) (hP : P = -(nI (10 ^ 2))) (hJ : J = nI 2) : zV X 0 0 h 16 [(0, .int (-(nI n))), (1, .int (nI 0)), (2, .int P), (3, .int J)] [] := by
  subst hP hJ
  refine zV.iload_n C dJ6_stringSize_0f7a4_16 rfl ?_
  refine zV.bi (v := nI 10) C dJ6_stringSize_0f7a4_17 (by decide) ?_
  refine zV.icmp_ge (tgt := 42) C dJ6_stringSize_0f7a4_19 (by decide) (fun q19 => ?_) (fun q19 => ?_)
  · exact absurd q19 (by decide)
  · refine zV.iload_n C dJ6_stringSize_0f7a4_22 rfl ?_
    refine zV.iload_n C dJ6_stringSize_0f7a4_23 rfl ?_
    refine zV.icmp_le (tgt := 31) C dJ6_stringSize_0f7a4_24 (by decide) (fun q24 => ?_) (fun q24 => ?_)
    · have e : 10 ^ 2 ≤ n := (ng_le (by omega) (by decide)).mp q24
      refine zV.bi (v := nI 10) C dJ6_stringSize_0f7a4_31 (by decide) ?_
      refine zV.iload_n C dJ6_stringSize_0f7a4_33 rfl ?_
      refine zV.imul C dJ6_stringSize_0f7a4_34 ?_
      refine zV.istore_n (lo' := [(0, _), (1, _), (2, _), (3, _)]) C dJ6_stringSize_0f7a4_35 (by decide) rfl rfl rfl ?_
      refine zV.iinc (lo' := [(0, _), (1, _), (2, _), (3, _)]) C dJ6_stringSize_0f7a4_36 rfl (by decide) rfl rfl rfl ?_
      refine zV.goto (tgt := 16) C dJ6_stringSize_0f7a4_39 (by decide) ?_
      exact s_ss3 hzs hst C G F h n hn k (by omega) _ _ (by decide) (by decide)
    · have e : n < 10 ^ 2 := Nat.lt_of_not_le (fun z => q24 ((ng_le (by omega) (by decide)).mpr z))
      refine zV.iload_n C dJ6_stringSize_0f7a4_27 rfl ?_
      refine zV.iload_n C dJ6_stringSize_0f7a4_28 rfl ?_
      refine zV.iadd C dJ6_stringSize_0f7a4_29 ?_
      refine zV.iret C F dJ6_stringSize_0f7a4_30 rfl ?_
      rw [show nI 2 + nI 0 = nI (dcs n).length from by rw [dcs_len 1 n (by omega) (Or.inl (by omega))]; decide]; exact k
set_option maxHeartbeats 4000000 in
set_option maxRecDepth 100000 in
theorem s_ss1 {X : zX} {l : Launch} {E : zG} {rm : Room} (hzs : zS E) (hst : l.stackTraces = false) (C : zC X cJ6_stringSize_0f7a4 RJ6 4) (G : zGX X l E rm) {Qr : Option Value → zH → Prop} {Qx : String → zH → Prop} (F : zF X (some .int) 0 0 Qr Qx) (h : zH) (n : Nat) (hn : n < 100000000) (k : Qr (some (.int (nI (dcs n).length))) h) (hl : 0 ≤ n) (P J : Int32) (hP : P = -(nI (10 ^ 1))) (hJ : J = nI 1) : zV X 0 0 h 16 [(0, .int (-(nI n))), (1, .int (nI 0)), (2, .int P), (3, .int J)] [] := by
  subst hP hJ
  refine zV.iload_n C dJ6_stringSize_0f7a4_16 rfl ?_
  refine zV.bi (v := nI 10) C dJ6_stringSize_0f7a4_17 (by decide) ?_
  refine zV.icmp_ge (tgt := 42) C dJ6_stringSize_0f7a4_19 (by decide) (fun q19 => ?_) (fun q19 => ?_)
  · exact absurd q19 (by decide)
  · refine zV.iload_n C dJ6_stringSize_0f7a4_22 rfl ?_
    refine zV.iload_n C dJ6_stringSize_0f7a4_23 rfl ?_
    refine zV.icmp_le (tgt := 31) C dJ6_stringSize_0f7a4_24 (by decide) (fun q24 => ?_) (fun q24 => ?_)
    · have e : 10 ^ 1 ≤ n := (ng_le (by omega) (by decide)).mp q24
      refine zV.bi (v := nI 10) C dJ6_stringSize_0f7a4_31 (by decide) ?_
      refine zV.iload_n C dJ6_stringSize_0f7a4_33 rfl ?_
      refine zV.imul C dJ6_stringSize_0f7a4_34 ?_
      refine zV.istore_n (lo' := [(0, _), (1, _), (2, _), (3, _)]) C dJ6_stringSize_0f7a4_35 (by decide) rfl rfl rfl ?_
      refine zV.iinc (lo' := [(0, _), (1, _), (2, _), (3, _)]) C dJ6_stringSize_0f7a4_36 rfl (by decide) rfl rfl rfl ?_
      refine zV.goto (tgt := 16) C dJ6_stringSize_0f7a4_39 (by decide) ?_
      exact s_ss2 hzs hst C G F h n hn k (by omega) _ _ (by decide) (by decide)
    · have e : n < 10 ^ 1 := Nat.lt_of_not_le (fun z => q24 ((ng_le (by omega) (by decide)).mpr z))
      refine zV.iload_n C dJ6_stringSize_0f7a4_27 rfl ?_
      refine zV.iload_n C dJ6_stringSize_0f7a4_28 rfl ?_
      refine zV.iadd C dJ6_stringSize_0f7a4_29 ?_
      refine zV.iret C F dJ6_stringSize_0f7a4_30 rfl ?_
      rw [show nI 1 + nI 0 = nI (dcs n).length from by rw [dcs_len 0 n (by omega) (Or.inr rfl)]; decide]; exact k
set_option maxHeartbeats 4000000 in
set_option maxRecDepth 100000 in
theorem s_stringSize {l : Launch} {E : zG} (hzs : zS E) (hst : l.stackTraces = false) (h : zH) (n : Nat) (hn : n < 100000000) : zMet l E yJ6_stringSize_0f7a4 cJ6_stringSize_0f7a4 4 (some .int) ({ frames := 0, cells := 0, slots := 0, locals := 0 } : Room) 0 0 [.int (nI n)] h (fun r h' => r = some (.int (nI (dcs n).length)) ∧ h' = h) (fun _ _ => False) := by
  refine zM_start hzs hst (by decide) (Nat.le_of_ble_eq_true rfl) (fun X C G F I => ?_)
  show zV X 0 0 _ 0 [(0, _)] []
  refine zV.ic (v := nI 1) C dJ6_stringSize_0f7a4_0 (by decide) ?_
  refine zV.istore_n (lo' := [(0, _), (1, _)]) C dJ6_stringSize_0f7a4_1 (by decide) rfl rfl rfl ?_
  refine zV.iload_n C dJ6_stringSize_0f7a4_2 rfl ?_
  refine zV.if_lt (tgt := 11) C dJ6_stringSize_0f7a4_3 (by decide) (fun q3 => ?_) (fun q3 => ?_)
  · exact absurd q3 (nn0 (by omega))
  · refine zV.ic (v := nI 0) C dJ6_stringSize_0f7a4_6 (by decide) ?_
    refine zV.istore_n (lo' := [(0, _), (1, _)]) C dJ6_stringSize_0f7a4_7 (by decide) rfl rfl rfl ?_
    refine zV.iload_n C dJ6_stringSize_0f7a4_8 rfl ?_
    refine zV.ineg C dJ6_stringSize_0f7a4_9 ?_
    refine zV.istore_n (lo' := [(0, _), (1, _)]) C dJ6_stringSize_0f7a4_10 (by decide) rfl rfl rfl ?_
    refine zV.bi (v := (-10)) C dJ6_stringSize_0f7a4_11 (by decide) ?_
    refine zV.istore_n (lo' := [(0, _), (1, _), (2, _)]) C dJ6_stringSize_0f7a4_13 (by decide) rfl rfl rfl ?_
    refine zV.ic (v := nI 1) C dJ6_stringSize_0f7a4_14 (by decide) ?_
    refine zV.istore_n (lo' := [(0, _), (1, _), (2, _), (3, _)]) C dJ6_stringSize_0f7a4_15 (by decide) rfl rfl rfl ?_
    exact s_ss1 hzs hst C G F h n hn ⟨rfl, rfl⟩ (Nat.zero_le _) _ _ (by decide) rfl
set_option maxHeartbeats 4000000 in
set_option maxRecDepth 100000 in
theorem s_gcL {X : zX} {l : Launch} {E : zG} {rm : Room} (hzs : zS E) (hst : l.stackTraces = false) (C : zC X cJ6_getChars_ba4f3 RJ6 7) (G : zGX X l E rm) {Qr : Option Value → zH → Prop} {Qx : String → zH → Prop} (F : zF X (some .int) 0 0 Qr Qx) (v t1 t2 : Nat) (x1 : Int32) (hs1 : zSv E "java/lang/Integer" "DigitOnes" "[B" (.ref t1)) (hT1 : va_T .byte t1 100 (fun j => .int (nI (48 + j % 10))) (zA E) E.2.2.1 E.2.2.1.heap) (hs2 : zSv E "java/lang/Integer" "DigitTens" "[B" (.ref t2)) (hT2 : va_T .byte t2 100 (fun j => .int (nI (48 + j / 10))) (zA E) E.2.2.1 E.2.2.1.heap) (f n : Nat) (h : zH) (p : Nat) (h9 : n < 100000000) (hp : (dcs n).length ≤ p) (hl : p ≤ hL h v) (hl2 : hL h v ≤ 200) (hk : hK h v = 101) (k : Qr (some (.int (nI (p - (dcs n).length)))) (gcH f h v p n)) (kk : 100 ≤ n → zV X 0 0 (saI (saI h v (p - 1) (nI (48 + n % 100 % 10))) v (p - 2) (nI (48 + n % 100 / 10))) 22 [(0, .int (-(nI (n / 100)))), (1, .int x1), (2, .ref v), (5, .int (nI (p - 2))), (6, .int (nI 0))] []) : zV X 0 0 h 22 [(0, .int (-(nI n))), (1, .int x1), (2, .ref v), (5, .int (nI p)), (6, .int (nI 0))] [] := by
  have d9 := dcs_0 n
  refine zV.iload_n C dJ6_getChars_ba4f3_22 rfl ?_
  refine zV.bi (v := (-100)) C dJ6_getChars_ba4f3_23 (by decide) ?_
  refine zV.icmp_gt (tgt := 72) C dJ6_getChars_ba4f3_25 (by decide) (fun q25 => ?_) (fun q25 => ?_)
  · have e : n < 100 := (ng_lt (n := 100) (m := n) (by decide) (by omega)).mp q25
    refine zV.aload_n C dJ6_getChars_ba4f3_72 rfl rfl ?_
    refine zV.iinc (lo' := [(0, _), (1, _), (2, _), (5, _), (6, _)]) C dJ6_getChars_ba4f3_73 rfl (by decide) rfl rfl rfl ?_
    rw [dcr1 (by omega)]
    refine zV.iload C dJ6_getChars_ba4f3_76 rfl ?_
    refine zV.gstR C G dJ6_getChars_ba4f3_78 hs1 lk_J6_83 ?_
    refine zV.iload_n C dJ6_getChars_ba4f3_81 rfl ?_
    refine zV.ineg C dJ6_getChars_ba4f3_82 ?_
    rw [ng_ng]
    refine zV.baldRaw (j := n) C G dJ6_getChars_ba4f3_83 (hT1) (rfl) (by omega) (by omega) (rfl) ?_
    refine zV.bast (j := p - 1) C dJ6_getChars_ba4f3_84 hk (rfl) (show _ < hL h v by omega) (by omega) ?_
    rw [bb_d _ (by omega)]
    refine zV.iload_n C dJ6_getChars_ba4f3_85 rfl ?_
    refine zV.bi (v := (-9)) C dJ6_getChars_ba4f3_86 (by decide) ?_
    refine zV.icmp_ge (tgt := 104) C dJ6_getChars_ba4f3_88 (by decide) (fun q88 => ?_) (fun q88 => ?_)
    · have e4 : n < 10 := by have := (ng_le (n := 9) (m := n) (by decide) (by omega)).mp q88; omega
      first | rw [bb_d (48 + n / 10) (by omega)] | skip
      refine zV.iload C dJ6_getChars_ba4f3_104 rfl ?_
      refine zV.if_eq (tgt := 118) C dJ6_getChars_ba4f3_106 (by decide) (fun q106 => ?_) (fun q106 => ?_)
      · refine zV.iload C dJ6_getChars_ba4f3_118 rfl ?_
        refine zV.iret C F dJ6_getChars_ba4f3_120 rfl ?_
        first | (rw [gcH_e e, gcE, if_neg (show ¬ 10 ≤ n by omega), dcs_s e4] at k; exact k) | (rw [gcH_e e, gcE, if_pos e4, dcs_b (show ¬ n < 10 by omega), dcs_s (show n / 10 < 10 by omega)] at k; exact k)
      · exact absurd rfl q106
    · have e4 : 10 ≤ n := Nat.lt_of_not_le (fun z => q88 ((ng_le (n := 9) (m := n) (by decide) (by omega)).mpr z))
      have e5 : 2 ≤ p := by rw [dcs_b (by omega), dcs_s (by omega)] at hp; exact hp
      refine zV.aload_n C dJ6_getChars_ba4f3_91 rfl rfl ?_
      refine zV.iinc (lo' := [(0, _), (1, _), (2, _), (5, _), (6, _)]) C dJ6_getChars_ba4f3_92 rfl (by decide) rfl rfl rfl ?_
      rw [dcr1 (by omega), show p - 1 - 1 = p - 2 by omega]
      refine zV.iload C dJ6_getChars_ba4f3_95 rfl ?_
      refine zV.gstR C G dJ6_getChars_ba4f3_97 hs2 lk_J6_87 ?_
      refine zV.iload_n C dJ6_getChars_ba4f3_100 rfl ?_
      refine zV.ineg C dJ6_getChars_ba4f3_101 ?_
      rw [ng_ng]
      refine zV.baldRaw (j := n) C G dJ6_getChars_ba4f3_102 (hT2) (rfl) (by omega) (by omega) (rfl) ?_
      refine zV.bast (j := p - 2) C dJ6_getChars_ba4f3_103 hk (rfl) (show _ < hL h v by omega) (by omega) ?_
      first | rw [bb_d (48 + n / 10) (by omega)] | skip
      refine zV.iload C dJ6_getChars_ba4f3_104 rfl ?_
      refine zV.if_eq (tgt := 118) C dJ6_getChars_ba4f3_106 (by decide) (fun q106 => ?_) (fun q106 => ?_)
      · refine zV.iload C dJ6_getChars_ba4f3_118 rfl ?_
        refine zV.iret C F dJ6_getChars_ba4f3_120 rfl ?_
        first | (rw [gcH_e e, gcE, if_neg (show ¬ 10 ≤ n by omega), dcs_s e4] at k; exact k) | (rw [gcH_e e, gcE, if_pos e4, dcs_b (show ¬ n < 10 by omega), dcs_s (show n / 10 < 10 by omega)] at k; exact k)
      · exact absurd rfl q106
  · have e : 100 ≤ n := Nat.le_of_not_lt (fun z => q25 ((ng_lt (n := 100) (m := n) (by decide) (by omega)).mpr z))
    have e3 : (dcs n).length = (dcs (n / 100)).length + 2 := by rw [dcs_2 e, List.length_append]; rfl
    have d0 := dcs_0 (n / 100)
    refine zV.iload_n C dJ6_getChars_ba4f3_28 rfl ?_
    refine zV.bi (v := nI 100) C dJ6_getChars_ba4f3_29 (by decide) ?_
    refine zV.idiv C dJ6_getChars_ba4f3_31 (by decide) ?_
    rw [ng_div (by omega)]
    refine zV.istore_n (lo' := [(0, _), (1, _), (2, _), (3, _), (5, _), (6, _)]) C dJ6_getChars_ba4f3_32 (by decide) rfl rfl rfl ?_
    refine zV.iload_n C dJ6_getChars_ba4f3_33 rfl ?_
    refine zV.bi (v := nI 100) C dJ6_getChars_ba4f3_34 (by decide) ?_
    refine zV.imul C dJ6_getChars_ba4f3_36 ?_
    refine zV.iload_n C dJ6_getChars_ba4f3_37 rfl ?_
    refine zV.isub C dJ6_getChars_ba4f3_38 ?_
    rw [ng_rem (by omega)]
    refine zV.istore (lo' := [(0, _), (1, _), (2, _), (3, _), (4, _), (5, _), (6, _)]) C dJ6_getChars_ba4f3_39 (by decide) rfl rfl rfl ?_
    refine zV.iload_n C dJ6_getChars_ba4f3_41 rfl ?_
    refine zV.istore_n (lo' := [(0, _), (1, _), (2, _), (3, _), (4, _), (5, _), (6, _)]) C dJ6_getChars_ba4f3_42 (by decide) rfl rfl rfl ?_
    refine zV.aload_n C dJ6_getChars_ba4f3_43 rfl rfl ?_
    refine zV.iinc (lo' := [(0, _), (1, _), (2, _), (3, _), (4, _), (5, _), (6, _)]) C dJ6_getChars_ba4f3_44 rfl (by decide) rfl rfl rfl ?_
    rw [dcr1 (by omega)]
    refine zV.iload C dJ6_getChars_ba4f3_47 rfl ?_
    refine zV.gstR C G dJ6_getChars_ba4f3_49 hs1 lk_J6_83 ?_
    refine zV.iload C dJ6_getChars_ba4f3_52 rfl ?_
    refine zV.baldRaw (j := n % 100) C G dJ6_getChars_ba4f3_54 (hT1) (rfl) (by omega) (by omega) (rfl) ?_
    refine zV.bast (j := p - 1) C dJ6_getChars_ba4f3_55 hk (rfl) (show _ < hL h v by omega) (by omega) ?_
    rw [bb_d _ (by omega)]
    refine zV.aload_n C dJ6_getChars_ba4f3_56 rfl rfl ?_
    refine zV.iinc (lo' := [(0, _), (1, _), (2, _), (3, _), (4, _), (5, _), (6, _)]) C dJ6_getChars_ba4f3_57 rfl (by decide) rfl rfl rfl ?_
    rw [dcr1 (by omega), show p - 1 - 1 = p - 2 by omega]
    refine zV.iload C dJ6_getChars_ba4f3_60 rfl ?_
    refine zV.gstR C G dJ6_getChars_ba4f3_62 hs2 lk_J6_87 ?_
    refine zV.iload C dJ6_getChars_ba4f3_65 rfl ?_
    refine zV.baldRaw (j := n % 100) C G dJ6_getChars_ba4f3_67 (hT2) (rfl) (by omega) (by omega) (rfl) ?_
    refine zV.bast (j := p - 2) C dJ6_getChars_ba4f3_68 hk (rfl) (show _ < hL h v by omega) (by omega) ?_
    rw [bb_d _ (by omega)]
    refine zV.goto (tgt := 22) C dJ6_getChars_ba4f3_69 (by decide) ?_
    exact zV.sub [0, 1, 2, 5, 6] rfl (kk e)
set_option maxHeartbeats 4000000 in
theorem s_gc {X : zX} {l : Launch} {E : zG} {rm : Room} (hzs : zS E) (hst : l.stackTraces = false) (C : zC X cJ6_getChars_ba4f3 RJ6 7) (G : zGX X l E rm) {Qr : Option Value → zH → Prop} {Qx : String → zH → Prop} (F : zF X (some .int) 0 0 Qr Qx) (v t1 t2 : Nat) (x1 : Int32) (hs1 : zSv E "java/lang/Integer" "DigitOnes" "[B" (.ref t1)) (hT1 : va_T .byte t1 100 (fun j => .int (nI (48 + j % 10))) (zA E) E.2.2.1 E.2.2.1.heap) (hs2 : zSv E "java/lang/Integer" "DigitTens" "[B" (.ref t2)) (hT2 : va_T .byte t2 100 (fun j => .int (nI (48 + j / 10))) (zA E) E.2.2.1 E.2.2.1.heap) : ∀ (f n : Nat) (h : zH) (p : Nat), n < 100 ^ (f + 1) → n < 100000000 → (dcs n).length ≤ p → p ≤ hL h v → hL h v ≤ 200 → hK h v = 101 → Qr (some (.int (nI (p - (dcs n).length)))) (gcH f h v p n) → zV X 0 0 h 22 [(0, .int (-(nI n))), (1, .int x1), (2, .ref v), (5, .int (nI p)), (6, .int (nI 0))] [] := by
  intro f
  induction f with
  | zero =>
    intro n h p h1 h9 hp hl hl2 hk k
    exact s_gcL hzs hst C G F v t1 t2 x1 hs1 hT1 hs2 hT2 0 n h p (by omega) hp hl hl2 hk k (fun z => absurd z (by omega))
  | succ f ih =>
    intro n h p h1 h9 hp hl hl2 hk k
    have q9 : 100 ^ (f + 1 + 1) = 100 * 100 ^ (f + 1) := by rw [Nat.pow_succ, Nat.mul_comm]
    refine s_gcL hzs hst C G F v t1 t2 x1 hs1 hT1 hs2 hT2 (f + 1) n h p h9 hp hl hl2 hk k (fun z => ?_)
    have e3 : (dcs n).length = (dcs (n / 100)).length + 2 := by rw [dcs_2 z, List.length_append]; rfl
    refine ih (n / 100) _ (p - 2) (by omega) (by omega) (by omega) (show p - 2 ≤ hL h v by omega) hl2 hk ?_
    rw [show gcH (f + 1) h v p n = gcH f _ v (p - 2) (n / 100) from if_pos z, show p - (dcs n).length = p - 2 - (dcs (n / 100)).length by omega] at k
    exact k
set_option maxHeartbeats 4000000 in
set_option maxRecDepth 100000 in
theorem s_getChars {l : Launch} {E : zG} (hzs : zS E) (hst : l.stackTraces = false) (h : zH) (v n p : Nat) (h9 : n < 100000000) (hp : (dcs n).length ≤ p) (hl : p ≤ hL h v) (hl2 : hL h v ≤ 200) (hk : hK h v = 101) : zMet l E yJ6_getChars_ba4f3 cJ6_getChars_ba4f3 7 (some .int) ({ frames := 0, cells := 0, slots := 0, locals := 0 } : Room) 0 0 [.int (nI n), .int (nI p), .ref v] h (fun r h' => r = some (.int (nI (p - (dcs n).length))) ∧ h' = gcH 3 h v p n) (fun _ _ => False) := by
  refine zM_start hzs hst (by decide) (Nat.le_of_ble_eq_true rfl) (fun X C G F I => ?_)
  show zV X 0 0 _ 0 [(0, _), (1, _), (2, _)] []
  obtain ⟨t1, hs1, hT1⟩ := st_ones hzs
  obtain ⟨t2, hs2, hT2⟩ := st_tens hzs
  refine zV.iload_n C dJ6_getChars_ba4f3_0 rfl ?_
  refine zV.istore (lo' := [(0, _), (1, _), (2, _), (5, _)]) C dJ6_getChars_ba4f3_1 (by decide) rfl rfl rfl ?_
  refine zV.iload_n C dJ6_getChars_ba4f3_3 rfl ?_
  refine zV.if_ge (tgt := 11) C dJ6_getChars_ba4f3_4 (by decide) (fun q4 => ?_) (fun q4 => ?_)
  · refine zV.ic (v := nI 0) C dJ6_getChars_ba4f3_11 (by decide) ?_
    refine zV.istore (lo' := [(0, _), (1, _), (2, _), (5, _), (6, _)]) C dJ6_getChars_ba4f3_12 (by decide) rfl rfl rfl ?_
    refine zV.iload C dJ6_getChars_ba4f3_14 rfl ?_
    refine zV.if_ne (tgt := 22) C dJ6_getChars_ba4f3_16 (by decide) (fun q16 => ?_) (fun q16 => ?_)
    · exact absurd rfl q16
    · refine zV.iload_n C dJ6_getChars_ba4f3_19 rfl ?_
      refine zV.ineg C dJ6_getChars_ba4f3_20 ?_
      refine zV.istore_n (lo' := [(0, _), (1, _), (2, _), (5, _), (6, _)]) C dJ6_getChars_ba4f3_21 (by decide) rfl rfl rfl ?_
      exact s_gc hzs hst C G F v t1 t2 _ hs1 hT1 hs2 hT2 3 n h p (by omega) h9 hp hl hl2 hk ⟨rfl, rfl⟩
  · exact absurd (nI_le (Nat.zero_le _) (by omega)) q4
set_option maxHeartbeats 4000000 in
set_option maxRecDepth 100000 in
theorem s_BappendI5 {l : Launch} {E : zG} (hzs : zS E) (hst : l.stackTraces = false) (h : zH) (a v lo : Nat) (o : List Nat) (hu : zOv h a v lo o) (h1 : lo ≤ hN h) (h2 : a + 2 ≤ lo) (n : Nat) (hn : n < 100000000) (hl : o.length + (dcs n).length ≤ 80) : zMet l E yJ5_append_c97b9 cJ5_append_c97b9 4 (some (.object "java/lang/AbstractStringBuilder")) ({ frames := 4, cells := 1, slots := 200, locals := 104 } : Room) 1 200 [.ref a, .int (nI n)] h (fun r h' => r = some (.ref a) ∧ ∃ v', zOv h' a v' lo (o ++ dcs n) ∧ zOf h h' a lo) (fun _ _ => False) := by
  refine zM_start hzs hst (by decide) (Nat.le_of_ble_eq_true rfl) (fun X C G F I => ?_)
  show zV X 0 0 _ 0 [(0, _), (1, _)] []
  refine zV.aload_n C dJ5_append_c97b9_0 rfl rfl ?_
  refine zV.gIv 35 (k := 3) C dJ5_append_c97b9_1 zcl_J4 (by decide) rfl lk_J5_79 hu.1 rfl (hu.2.2.1) ?_
  refine zV.istore_n (lo' := [(0, _), (1, _), (2, _)]) C dJ5_append_c97b9_4 (by decide) rfl rfl rfl ?_
  refine zV.iload_n C dJ5_append_c97b9_5 rfl ?_
  refine zV.iload_n C dJ5_append_c97b9_6 rfl ?_
  refine zV.callS (n := 1) C G dJ5_append_c97b9_7 (s_stringSize hzs hst h n hn) rfl ⟨cd_J6_stringSize_0f7a4, lk_J5_245, st_J6_stringSize_0f7a4, in_J6⟩ ⟨⟨by decide, by decide⟩, by decide⟩ rfl rfl rfl (zaf ?_) (zno)
  refine zV.iadd C dJ5_append_c97b9_10 ?_
  rw [nI_add]
  refine zV.istore_n (lo' := [(0, _), (1, _), (2, _), (3, _)]) C dJ5_append_c97b9_11 (by decide) rfl rfl rfl ?_
  refine zV.aload_n C dJ5_append_c97b9_12 rfl rfl ?_
  refine zV.iload_n C dJ5_append_c97b9_13 rfl ?_
  refine zV.callP (n := 1) C G dJ5_append_c97b9_14 (s_Bensure hzs hst h a v lo o hu h1 h2 (o.length + (dcs n).length) hl) rfl ⟨cd_J5_ensureCapacityInternal_d00df, lk_J5_100, im_J5_ensureCapacityInternal_d00df, pr_J5_ensure, in_J5⟩ se_J4_J5_isLatin1_aae02 rfl ⟨⟨by decide, by decide⟩, by decide⟩ rfl rfl rfl hu.1 ⟨rfl, by decide⟩ (zafRv (fun h9 ⟨v9, u9, l9, f9⟩ => ?_)) (zno)
  refine zV.aload_n C dJ5_append_c97b9_17 rfl rfl ?_
  refine zV.callU (n := 0) C G dJ5_append_c97b9_18 (s_BisLatin1 hzs hst h9 a u9.1 u9.2.1) rfl ⟨cd_J5_isLatin1_aae02, lk_J5_83, sm_J5_J5_J5_isLatin1_aae02, im_J5_isLatin1_aae02, se_J4_J5_isLatin1_aae02, in_J5⟩ ⟨⟨by decide, by decide⟩, by decide⟩ rfl rfl rfl u9.1 ⟨rfl, by decide⟩ (zaf ?_) (zno)
  refine zV.if_eq (tgt := 37) C dJ5_append_c97b9_21 (by decide) (fun q21 => ?_) (fun q21 => ?_)
  · exact absurd q21 (by decide)
  · refine zV.iload_n C dJ5_append_c97b9_24 rfl ?_
    refine zV.iload_n C dJ5_append_c97b9_25 rfl ?_
    refine zV.aload_n C dJ5_append_c97b9_26 rfl rfl ?_
    refine zV.gR 32 (k := 0) C dJ5_append_c97b9_27 zcl_J4 (by decide) rfl lk_J5_15 u9.1 rfl u9.2.2.2.1 ?_
    refine zV.callS (n := 3) C G dJ5_append_c97b9_30 (s_getChars hzs hst h9 v9 n (o.length + (dcs n).length) hn (by omega) l9 u9.2.2.2.2.2.2.2.2.1 u9.2.2.2.2.2.2.1) rfl ⟨cd_J6_getChars_ba4f3, lk_J5_248, st_J6_getChars_ba4f3, in_J6⟩ ⟨⟨by decide, by decide⟩, by decide⟩ rfl rfl rfl (zaf ?_) (zno)
    refine zV.pop C dJ5_append_c97b9_33 rfl ?_
    refine zV.goto (tgt := 48) C dJ5_append_c97b9_34 (by decide) ?_
    refine zV.aload_n C dJ5_append_c97b9_48 rfl rfl ?_
    refine zV.iload_n C dJ5_append_c97b9_49 rfl ?_
    refine zV.pI 35 (k := 3) C dJ5_append_c97b9_50 zcl_J4 (by decide) rfl lk_J5_79 rfl ((congrFun (gcH_f (f := 3) (p := o.length + (dcs n).length) (n := n) (zFq.refl h9 v9 (v9 + 1))).2.1 a).trans u9.1) rfl ⟨rfl, rfl⟩ ?_
    refine zV.aload_n C dJ5_append_c97b9_53 rfl rfl ?_
    refine zV.aret C F dJ5_append_c97b9_54 (Or.inl ⟨_, rfl⟩) rfl rfl ?_
    exact ⟨rfl, v9, (zOv_dig u9 h2 (by omega) l9).1, f9.trans (zOv_dig u9 h2 (by omega) l9).2⟩
set_option maxHeartbeats 4000000 in
set_option maxRecDepth 100000 in
theorem s_BappendI {l : Launch} {E : zG} (hzs : zS E) (hst : l.stackTraces = false) (h : zH) (a v lo : Nat) (o : List Nat) (hu : zOv h a v lo o) (h1 : lo ≤ hN h) (h2 : a + 2 ≤ lo) (n : Nat) (hn : n < 100000000) (hl : o.length + (dcs n).length ≤ 80) : zMet l E yJ4_append_bf812 cJ4_append_bf812 2 (some (.object "java/lang/StringBuilder")) ({ frames := 5, cells := 1, slots := 200, locals := 127 } : Room) 1 200 [.ref a, .int (nI n)] h (fun r h' => r = some (.ref a) ∧ ∃ v', zOv h' a v' lo (o ++ dcs n) ∧ zOf h h' a lo) (fun _ _ => False) := by
  refine zM_start hzs hst (by decide) (Nat.le_of_ble_eq_true rfl) (fun X C G F I => ?_)
  show zV X 0 0 _ 0 [(0, _), (1, _)] []
  refine zV.aload_n C dJ4_append_bf812_0 rfl rfl ?_
  refine zV.iload_n C dJ4_append_bf812_1 rfl ?_
  refine zV.callSU (n := 1) C G dJ4_append_bf812_2 (s_BappendI5 hzs hst h a v lo o hu h1 h2 n hn hl) rfl ⟨cd_J5_append_c97b9, lk_J4_53, sm_J5_J5_J5_append_c97b9, su_J4_J5, im_J5_append_c97b9, in_J5⟩ (by decide) ⟨⟨by decide, by decide⟩, by decide⟩ rfl rfl rfl hu.1 ⟨rfl, by decide⟩ (zafR (fun h9 p9 => ?_)) (zno)
  refine zV.pop C dJ4_append_bf812_5 rfl ?_
  refine zV.aload_n C dJ4_append_bf812_6 rfl rfl ?_
  refine zV.aret C F dJ4_append_bf812_7 (Or.inl ⟨_, rfl⟩) rfl rfl ?_
  exact ⟨rfl, p9⟩
