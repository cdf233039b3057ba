/-! CommandInput: numbers and parts -/
theorem nI_mul9 (a b : Nat) : nI a * nI b = nI (a * b) := (Int32.ofNat_mul a b).symm
theorem dg_t {c : Nat} (h : dg c = true) : 48 ≤ c ∧ c ≤ 57 := by
  unfold dg at h
  obtain ⟨h1, h2⟩ := Bool.and_eq_true_iff.mp h
  exact ⟨of_decide_eq_true h1, of_decide_eq_true h2⟩
theorem mx0 {v : Option Nat} (h : v.getD 0 < 2 ^ 31) : (if nI 0 < oI v then oI v else nI 0) = nI (v.getD 0) := by
  rcases v with _ | x
  · rfl
  · show (if nI 0 < nI x then nI x else nI 0) = nI x
    rcases Nat.eq_zero_or_pos x with z | z
    · subst z; rfl
    · rw [if_pos (nI_lt z h)]
theorem rdv {v : Option Nat} {c : Nat} (h : v.getD 0 < 2 ^ 31) (hc : 48 ≤ c) : (if nI 0 < oI v then oI v else nI 0) * nI 10 + nI c - nI 48 = nI (v.getD 0 * 10 + c - 48) := by
  rw [mx0 h, nI_mul9, nI_add]
  exact pk_sub (by omega)
theorem rdN_b {t : List Nat} : ∀ n p v, (rdN t n p v).1.getD 0 + 1 ≤ (v.getD 0 + 1) * 10 ^ n
  | 0, _, v => by show v.getD 0 + 1 ≤ _; omega
  | n + 1, p, v => by
    rw [rdN]
    split
    · rename_i z
      have h1 := (dg_t z).2
      have h2 := rdN_b (t := t) n (p + 1) (some (v.getD 0 * 10 + nx t p - 48))
      have h3 : ((some (v.getD 0 * 10 + nx t p - 48)).getD 0 + 1) * 10 ^ n ≤ ((v.getD 0 + 1) * 10) * 10 ^ n := Nat.mul_le_mul_right _ (by show v.getD 0 * 10 + nx t p - 48 + 1 ≤ _; omega)
      rw [Nat.pow_succ, Nat.mul_comm (10 ^ n) 10, ← Nat.mul_assoc]
      exact Nat.le_trans h2 h3
    · show v.getD 0 + 1 ≤ _
      exact Nat.le_mul_of_pos_right _ (Nat.pow_pos (by decide))
theorem rdN_p {t : List Nat} : ∀ n p v, p ≤ (rdN t n p v).2 ∧ (rdN t n p v).2 ≤ p + n
  | 0, p, v => ⟨Nat.le_refl _, Nat.le_refl _⟩
  | n + 1, p, v => by
    rw [rdN]
    split
    · have h2 := rdN_p (t := t) n (p + 1) (some (v.getD 0 * 10 + nx t p - 48))
      omega
    · exact ⟨Nat.le_refl _, Nat.le_add_right _ _⟩
theorem rdN_s {t : List Nat} {n p : Nat} {w : Option Nat} (z : dg (nx t p) = true) : rdN t (n + 1) p w = rdN t n (p + 1) (some (w.getD 0 * 10 + nx t p - 48)) := by rw [rdN, if_pos z]
theorem rdN_e {t : List Nat} {n p : Nat} {w : Option Nat} (z : dg (nx t p) = false) : rdN t (n + 1) p w = (w, p) := by rw [rdN, if_neg (by rw [z]; decide)]
set_option maxHeartbeats 4000000 in
set_option maxRecDepth 100000 in
theorem L_readNumber {X : zX} {l : Launch} {E : zG} {rm : Room} (hzs : zS E) (hst : l.stackTraces = false) (C : zC X cX1_readNumber RX1 4) (G : zGX X l E rm) {a m c : Nat} {t : List Nat} {Qr : Option Value → zH → Prop} {Qx : String → zH → Prop} (hr : rm = ({ frames := 1, cells := 0, slots := 0, locals := 28 } : Room)) (F : zF X (some .int) 0 0 Qr Qx) (hm : m ≤ 2) : ∀ n k p v h, k + n = m → p + n < 1000 → v.getD 0 + 1 ≤ 10 ^ k → zIp h a t p c → Qr (some (.int (oI (rdN t n p v).1))) (psH h a (rdN t n p v).2) → zV X 0 0 h 4 [(0, .ref a), (1, .int (nI m)), (2, .int (oI v)), (3, .int (nI k))] [] := by
  subst hr
  intro n
  induction n with
  | zero =>
    intro k p v h hk hp hv q hq
    rw [show (rdN t 0 p v).2 = p from rfl, psH_id q] at hq
    rw [Nat.add_zero] at hk
    subst hk
    refine zV.iload_n C dX1_readNumber_4 rfl ?_
    refine zV.iload_n C dX1_readNumber_5 rfl ?_
    refine zV.icmp_ge (tgt := 52) C dX1_readNumber_6 (by decide) (fun q6 => ?_) (fun q6 => absurd (Int32.le_refl _) q6)
    refine zV.iload_n C dX1_readNumber_52 rfl ?_
    exact zV.iret C F dX1_readNumber_53 rfl hq
  | succ n ih =>
    intro k p v h hk hp hv q hq
    have h10 : (10 : Nat) ^ k ≤ 10 ^ 2 := Nat.pow_le_pow_right (by decide) (by omega)
    refine zV.iload_n C dX1_readNumber_4 rfl ?_
    refine zV.iload_n C dX1_readNumber_5 rfl ?_
    refine zV.icmp_ge (tgt := 52) C dX1_readNumber_6 (by decide) (fun q6 => ?_) (fun q6 => ?_)
    · exact absurd (nle (by omega) (by omega) q6) (by omega)
    · refine zV.aload_n C dX1_readNumber_9 rfl rfl ?_
      refine zV.callV (n := 0) C G dX1_readNumber_10 (s_next hzs hst h a t p c q (by omega)) rfl ⟨cd_X1_next, lk_X1_46, im_X1_next, se_X1_X1_next, in_X1⟩ ⟨⟨by decide, by decide⟩, by decide⟩ rfl rfl rfl q.1.1.1 ⟨rfl, by decide⟩ (zaf ?_) (zno)
      refine zV.callS (n := 1) C G dX1_readNumber_13 (s_isDigit hzs hst h (nx t p) (nx_lt q.1 p)) rfl ⟨cd_X1_isDigit, lk_X1_90, st_X1_isDigit, in_X1⟩ ⟨⟨by decide, by decide⟩, by decide⟩ rfl rfl rfl (zaf ?_) (zno)
      refine zV.if_eq (tgt := 52) C dX1_readNumber_16 (by decide) (fun q16 => ?_) (fun q16 => ?_)
      · have e := b2n.mp q16
        rw [rdN_e e, show ((v, p) : Option Nat × Nat).2 = p from rfl, psH_id q] at hq
        refine zV.iload_n C dX1_readNumber_52 rfl ?_
        refine zV.iret C F dX1_readNumber_53 rfl ?_
        exact hq
      · have e : dg (nx t p) = true := Bool.of_not_eq_false (fun z => q16 (b2n.mpr z))
        have e2 := dg_t e
        refine zV.ic (v := nI 0) C dX1_readNumber_19 (by decide) ?_
        refine zV.iload_n C dX1_readNumber_20 rfl ?_
        refine zV.mmax C G dX1_readNumber_21 ⟨lk_X1_93, st_J9_max_7cf53, in_J9, cd_J9_max_7cf53⟩ rfl ?_
        refine zV.bi (v := nI 10) C dX1_readNumber_24 (by decide) ?_
        refine zV.imul C dX1_readNumber_26 ?_
        refine zV.aload_n C dX1_readNumber_27 rfl rfl ?_
        refine zV.callV (n := 0) C G dX1_readNumber_28 (s_next hzs hst h a t p c q (by omega)) rfl ⟨cd_X1_next, lk_X1_46, im_X1_next, se_X1_X1_next, in_X1⟩ ⟨⟨by decide, by decide⟩, by decide⟩ rfl rfl rfl q.1.1.1 ⟨rfl, by decide⟩ (zaf ?_) (zno)
        refine zV.iadd C dX1_readNumber_31 ?_
        refine zV.bi (v := nI 48) C dX1_readNumber_32 (by decide) ?_
        refine zV.isub C dX1_readNumber_34 ?_
        rw [rdv (by omega) e2.1]
        refine zV.istore_n (lo' := [(0, _), (1, _), (2, _), (3, _)]) C dX1_readNumber_35 (by decide) rfl rfl rfl ?_
        refine zV.aload_n C dX1_readNumber_36 rfl rfl ?_
        refine zV.dup C dX1_readNumber_37 rfl ?_
        refine zV.gIv 165 (k := 5) C dX1_readNumber_38 zcl_X1 (by decide) rfl lk_X1_37 q.1.1.1 rfl (q.2.1) ?_
        refine zV.ic (v := nI 1) C dX1_readNumber_41 (by decide) ?_
        refine zV.iadd C dX1_readNumber_42 ?_
        rw [show nI p + nI 1 = nI (p + 1) from nI_add _ _]
        refine zV.pI 165 (k := 5) C dX1_readNumber_43 zcl_X1 (by decide) rfl lk_X1_37 rfl q.1.1.1 rfl ⟨rfl, rfl⟩ ?_
        refine zV.iinc (lo' := [(0, _), (1, _), (2, _), (3, _)]) C dX1_readNumber_46 rfl (by decide) rfl rfl rfl ?_
        refine zV.goto (tgt := 4) C dX1_readNumber_49 (by decide) ?_
        rw [inc1]
        rw [rdN_s e] at hq
        refine ih (k + 1) (p + 1) (some (v.getD 0 * 10 + nx t p - 48)) (psH h a (p + 1)) (by omega) (by omega) ?_ (psH_i q) (by rw [psH_2]; exact hq)
        show v.getD 0 * 10 + nx t p - 48 + 1 ≤ _
        rw [Nat.pow_succ]
        omega
set_option maxHeartbeats 4000000 in
set_option maxRecDepth 100000 in
theorem s_readNumber {l : Launch} {E : zG} (hzs : zS E) (hst : l.stackTraces = false) (h : zH) (a : Nat) (t : List Nat) (m : Nat) (p n : Nat) (q : zIp h a t p n) (hp : p < 900) (hm : m ≤ 2) : zMet l E yX1_readNumber cX1_readNumber 4 (some .int) ({ frames := 1, cells := 0, slots := 0, locals := 28 } : Room) 0 0 [.ref a, .int (nI m)] h (fun r h' => r = some (.int (oI (rdN t m p none).1)) ∧ h' = psH h a (rdN t m p none).2) (fun _ _ => False) := by
  refine zM_start hzs hst (by decide) (Nat.le_of_ble_eq_true rfl) (fun X C G F I => ?_)
  show zV X 0 0 _ 0 [(0, _), (1, _)] []
  refine zV.ic (v := (-1)) C dX1_readNumber_0 (by decide) ?_
  refine zV.istore_n (lo' := [(0, _), (1, _), (2, _)]) C dX1_readNumber_1 (by decide) rfl rfl rfl ?_
  refine zV.ic (v := nI 0) C dX1_readNumber_2 (by decide) ?_
  refine zV.istore_n (lo' := [(0, _), (1, _), (2, _), (3, _)]) C dX1_readNumber_3 (by decide) rfl rfl rfl ?_
  exact L_readNumber hzs hst C G rfl F hm m 0 p none h (by omega) (by omega) (Nat.le_refl _) q ⟨rfl, rfl⟩
/-- a part of a command: is it there, its number, what is next -/
def rdP (t : List Nat) (k p : Nat) : Bool × Option Nat × Nat := if k = 100 ∨ k = 110 then ((rdN t (if k = 100 then 1 else 2) p none).1.isSome, rdN t (if k = 100 then 1 else 2) p none) else if nx t p = k then (true, none, p + 1) else (false, none, p)
def prH (h : zH) (a n : Nat) (f : Bool) (r : Bool × Option Nat × Nat) : zH := match r.2.1 with
  | none => psH h a r.2.2
  | some v => saI (psH h a r.2.2) (if f = true then a + 3 else a + 4) n (nI v)
theorem rdP_s {t : List Nat} {k p : Nat} (h1 : k ≠ 100) (h2 : k ≠ 110) : rdP t k p = if nx t p = k then (true, none, p + 1) else (false, none, p) := if_neg (by omega)
theorem rdP_1 {t : List Nat} {p : Nat} : rdP t 100 p = ((rdN t 1 p none).1.isSome, rdN t 1 p none) := rfl
theorem rdP_2 {t : List Nat} {p : Nat} : rdP t 110 p = ((rdN t 2 p none).1.isSome, rdN t 2 p none) := rfl
set_option maxHeartbeats 4000000 in
set_option maxRecDepth 100000 in
theorem s_readPart {l : Launch} {E : zG} (hzs : zS E) (hst : l.stackTraces = false) (h : zH) (a : Nat) (t : List Nat) (k : Nat) (f : Bool) (p n : Nat) (q : zIp h a t p n) (hp : p < 900) (hn : n < 60) (hk : k = 100 ∨ k = 110 ∨ (k ≠ 100 ∧ k ≠ 110 ∧ k < 128)) : zMet l E yX1_readPart cX1_readPart 4 (some .boolean) ({ frames := 2, cells := 0, slots := 0, locals := 51 } : Room) 0 0 [.ref a, .int (nI k), .int (nI (b2 f))] h (fun r h' => r = some (.int (nI (b2 (rdP t k p).1))) ∧ h' = prH h a n f (rdP t k p)) (fun _ _ => False) := by
  refine zM_start hzs hst (by decide) (Nat.le_of_ble_eq_true rfl) (fun X C G F I => ?_)
  show zV X 0 0 _ 0 [(0, _), (1, _), (2, _)] []
  have hi := q.1
  rcases hk with rfl | rfl | ⟨k1, k2, k3⟩
  · rcases e : rdN t 1 p none with ⟨_ | v, p9⟩
    · have eP : rdP t 100 p = (false, none, p9) := rdP_1.trans (by rw [e]; rfl)
      refine zV.iload_n C dX1_readPart_0 rfl ?_
      refine zV.bi (v := nI 100) C dX1_readPart_1 (by decide) ?_
      refine zV.icmp_eq (tgt := 18) C dX1_readPart_3 (by decide) (fun q3 => ?_) (fun q3 => ?_)
      · refine zV.aload_n C dX1_readPart_18 rfl rfl ?_
        refine zV.iload_n C dX1_readPart_19 rfl ?_
        refine zV.bi (v := nI 100) C dX1_readPart_20 (by decide) ?_
        refine zV.icmp_ne (tgt := 29) C dX1_readPart_22 (by decide) (fun q22 => ?_) (fun q22 => ?_)
        · exact absurd rfl q22
        · refine zV.ic (v := nI 1) C dX1_readPart_25 (by decide) ?_
          refine zV.goto (tgt := 30) C dX1_readPart_26 (by decide) ?_
          refine zV.callV (n := 1) C G dX1_readPart_30 (s_readNumber hzs hst h a t 1 p n q hp (by decide)) rfl ⟨cd_X1_readNumber, lk_X1_86, im_X1_readNumber, se_X1_X1_readNumber, in_X1⟩ ⟨⟨by decide, by decide⟩, by decide⟩ rfl rfl rfl hi.1.1 ⟨rfl, by decide⟩ (zaf ?_) (zno)
          rw [e]
          show zV X 0 0 (psH h a p9) 33 _ (.int (-1) :: _)
          refine zV.istore_n (lo' := [(0, _), (1, _), (2, _), (3, _)]) C dX1_readPart_33 (by decide) rfl rfl rfl ?_
          refine zV.iload_n C dX1_readPart_34 rfl ?_
          refine zV.ic (v := (-1)) C dX1_readPart_35 (by decide) ?_
          refine zV.icmp_eq (tgt := 48) C dX1_readPart_36 (by decide) (fun q36 => ?_) (fun q36 => ?_)
          · refine zV.ic (v := nI 0) C dX1_readPart_48 (by decide) ?_
            refine zV.zret C F dX1_readPart_49 rfl rfl ?_
            exact ⟨by rw [eP]; rfl, by rw [eP]; rfl⟩
          · exact absurd rfl q36
      · exact absurd rfl q3
    · have eP : rdP t 100 p = (true, some v, p9) := rdP_1.trans (by rw [e]; rfl)
      have hv := rdN_b (t := t) 1 p none
      rw [e] at hv
      have hv2 : v + 1 ≤ (0 + 1) * 10 ^ 1 := hv
      refine zV.iload_n C dX1_readPart_0 rfl ?_
      refine zV.bi (v := nI 100) C dX1_readPart_1 (by decide) ?_
      refine zV.icmp_eq (tgt := 18) C dX1_readPart_3 (by decide) (fun q3 => ?_) (fun q3 => ?_)
      · refine zV.aload_n C dX1_readPart_18 rfl rfl ?_
        refine zV.iload_n C dX1_readPart_19 rfl ?_
        refine zV.bi (v := nI 100) C dX1_readPart_20 (by decide) ?_
        refine zV.icmp_ne (tgt := 29) C dX1_readPart_22 (by decide) (fun q22 => ?_) (fun q22 => ?_)
        · exact absurd rfl q22
        · refine zV.ic (v := nI 1) C dX1_readPart_25 (by decide) ?_
          refine zV.goto (tgt := 30) C dX1_readPart_26 (by decide) ?_
          refine zV.callV (n := 1) C G dX1_readPart_30 (s_readNumber hzs hst h a t 1 p n q hp (by decide)) rfl ⟨cd_X1_readNumber, lk_X1_86, im_X1_readNumber, se_X1_X1_readNumber, in_X1⟩ ⟨⟨by decide, by decide⟩, by decide⟩ rfl rfl rfl hi.1.1 ⟨rfl, by decide⟩ (zaf ?_) (zno)
          rw [e]
          show zV X 0 0 (psH h a p9) 33 _ (.int (nI v) :: _)
          refine zV.istore_n (lo' := [(0, _), (1, _), (2, _), (3, _)]) C dX1_readPart_33 (by decide) rfl rfl rfl ?_
          refine zV.iload_n C dX1_readPart_34 rfl ?_
          refine zV.ic (v := (-1)) C dX1_readPart_35 (by decide) ?_
          refine zV.icmp_eq (tgt := 48) C dX1_readPart_36 (by decide) (fun q36 => ?_) (fun q36 => ?_)
          · exact absurd q36 (nI_m1 (by omega))
          · refine zV.aload_n C dX1_readPart_39 rfl rfl ?_
            refine zV.gIv 166 (k := 6) C dX1_readPart_40 zcl_X1 (by decide) rfl lk_X1_40 hi.1.1 rfl ((psH_i q).2.2) ?_
            refine zV.bi (v := nI 60) C dX1_readPart_43 (by decide) ?_
            refine zV.icmp_lt (tgt := 50) C dX1_readPart_45 (by decide) (fun q45 => ?_) (fun q45 => ?_)
            · refine zV.iload_n C dX1_readPart_50 rfl ?_
              refine zV.if_eq (tgt := 67) C dX1_readPart_51 (by decide) (fun q51 => ?_) (fun q51 => ?_)
              · refine zV.aload_n C dX1_readPart_67 rfl rfl ?_
                refine zV.gR 163 (k := 3) C dX1_readPart_68 zcl_X1 (by decide) rfl lk_X1_22 hi.1.1 rfl (hi.1.2.2.2.2.1) ?_
                refine zV.aload_n C dX1_readPart_71 rfl rfl ?_
                refine zV.gIv 166 (k := 6) C dX1_readPart_72 zcl_X1 (by decide) rfl lk_X1_40 hi.1.1 rfl ((psH_i q).2.2) ?_
                refine zV.iload_n C dX1_readPart_75 rfl ?_
                refine zV.iast (j := n) C dX1_readPart_76 hi.1.2.2.2.2.2.2.2.2.1 (rfl) (by show n < hL h (a + 4); rw [hi.1.2.2.2.2.2.2.2.2.2]; exact hn) (by omega) ?_
                refine zV.ic (v := nI 1) C dX1_readPart_77 (by decide) ?_
                refine zV.zret C F dX1_readPart_78 rfl rfl ?_
                exact ⟨by rw [eP]; rfl, by rw [eP]; unfold prH; first | (rw [show f = true from Bool.of_not_eq_false (fun z => q51 (b2n.mpr z))]; rfl) | (rw [show f = false from b2n.mp q51]; rfl)⟩
              · refine zV.aload_n C dX1_readPart_54 rfl rfl ?_
                refine zV.gR 162 (k := 2) C dX1_readPart_55 zcl_X1 (by decide) rfl lk_X1_18 hi.1.1 rfl (hi.1.2.2.2.1) ?_
                refine zV.aload_n C dX1_readPart_58 rfl rfl ?_
                refine zV.gIv 166 (k := 6) C dX1_readPart_59 zcl_X1 (by decide) rfl lk_X1_40 hi.1.1 rfl ((psH_i q).2.2) ?_
                refine zV.iload_n C dX1_readPart_62 rfl ?_
                refine zV.iast (j := n) C dX1_readPart_63 hi.1.2.2.2.2.2.2.2.1.1 (rfl) (by show n < hL h (a + 3); rw [hi.1.2.2.2.2.2.2.2.1.2]; exact hn) (by omega) ?_
                refine zV.goto (tgt := 77) C dX1_readPart_64 (by decide) ?_
                refine zV.ic (v := nI 1) C dX1_readPart_77 (by decide) ?_
                refine zV.zret C F dX1_readPart_78 rfl rfl ?_
                exact ⟨by rw [eP]; rfl, by rw [eP]; unfold prH; first | (rw [show f = true from Bool.of_not_eq_false (fun z => q51 (b2n.mpr z))]; rfl) | (rw [show f = false from b2n.mp q51]; rfl)⟩
            · exact absurd (nI_lt hn (by decide)) q45
      · exact absurd rfl q3
  · rcases e : rdN t 2 p none with ⟨_ | v, p9⟩
    · have eP : rdP t 110 p = (false, none, p9) := rdP_2.trans (by rw [e]; rfl)
      refine zV.iload_n C dX1_readPart_0 rfl ?_
      refine zV.bi (v := nI 100) C dX1_readPart_1 (by decide) ?_
      refine zV.icmp_eq (tgt := 18) C dX1_readPart_3 (by decide) (fun q3 => ?_) (fun q3 => ?_)
      · exact absurd q3 (by decide)
      · refine zV.iload_n C dX1_readPart_6 rfl ?_
        refine zV.bi (v := nI 110) C dX1_readPart_7 (by decide) ?_
        refine zV.icmp_eq (tgt := 18) C dX1_readPart_9 (by decide) (fun q9 => ?_) (fun q9 => ?_)
        · refine zV.aload_n C dX1_readPart_18 rfl rfl ?_
          refine zV.iload_n C dX1_readPart_19 rfl ?_
          refine zV.bi (v := nI 100) C dX1_readPart_20 (by decide) ?_
          refine zV.icmp_ne (tgt := 29) C dX1_readPart_22 (by decide) (fun q22 => ?_) (fun q22 => ?_)
          · refine zV.ic (v := nI 2) C dX1_readPart_29 (by decide) ?_
            refine zV.callV (n := 1) C G dX1_readPart_30 (s_readNumber hzs hst h a t 2 p n q hp (by decide)) rfl ⟨cd_X1_readNumber, lk_X1_86, im_X1_readNumber, se_X1_X1_readNumber, in_X1⟩ ⟨⟨by decide, by decide⟩, by decide⟩ rfl rfl rfl hi.1.1 ⟨rfl, by decide⟩ (zaf ?_) (zno)
            rw [e]
            show zV X 0 0 (psH h a p9) 33 _ (.int (-1) :: _)
            refine zV.istore_n (lo' := [(0, _), (1, _), (2, _), (3, _)]) C dX1_readPart_33 (by decide) rfl rfl rfl ?_
            refine zV.iload_n C dX1_readPart_34 rfl ?_
            refine zV.ic (v := (-1)) C dX1_readPart_35 (by decide) ?_
            refine zV.icmp_eq (tgt := 48) C dX1_readPart_36 (by decide) (fun q36 => ?_) (fun q36 => ?_)
            · refine zV.ic (v := nI 0) C dX1_readPart_48 (by decide) ?_
              refine zV.zret C F dX1_readPart_49 rfl rfl ?_
              exact ⟨by rw [eP]; rfl, by rw [eP]; rfl⟩
            · exact absurd rfl q36
          · exact absurd q22 (by decide)
        · exact absurd rfl q9
    · have eP : rdP t 110 p = (true, some v, p9) := rdP_2.trans (by rw [e]; rfl)
      have hv := rdN_b (t := t) 2 p none
      rw [e] at hv
      have hv2 : v + 1 ≤ (0 + 1) * 10 ^ 2 := hv
      refine zV.iload_n C dX1_readPart_0 rfl ?_
      refine zV.bi (v := nI 100) C dX1_readPart_1 (by decide) ?_
      refine zV.icmp_eq (tgt := 18) C dX1_readPart_3 (by decide) (fun q3 => ?_) (fun q3 => ?_)
      · exact absurd q3 (by decide)
      · refine zV.iload_n C dX1_readPart_6 rfl ?_
        refine zV.bi (v := nI 110) C dX1_readPart_7 (by decide) ?_
        refine zV.icmp_eq (tgt := 18) C dX1_readPart_9 (by decide) (fun q9 => ?_) (fun q9 => ?_)
        · refine zV.aload_n C dX1_readPart_18 rfl rfl ?_
          refine zV.iload_n C dX1_readPart_19 rfl ?_
          refine zV.bi (v := nI 100) C dX1_readPart_20 (by decide) ?_
          refine zV.icmp_ne (tgt := 29) C dX1_readPart_22 (by decide) (fun q22 => ?_) (fun q22 => ?_)
          · refine zV.ic (v := nI 2) C dX1_readPart_29 (by decide) ?_
            refine zV.callV (n := 1) C G dX1_readPart_30 (s_readNumber hzs hst h a t 2 p n q hp (by decide)) rfl ⟨cd_X1_readNumber, lk_X1_86, im_X1_readNumber, se_X1_X1_readNumber, in_X1⟩ ⟨⟨by decide, by decide⟩, by decide⟩ rfl rfl rfl hi.1.1 ⟨rfl, by decide⟩ (zaf ?_) (zno)
            rw [e]
            show zV X 0 0 (psH h a p9) 33 _ (.int (nI v) :: _)
            refine zV.istore_n (lo' := [(0, _), (1, _), (2, _), (3, _)]) C dX1_readPart_33 (by decide) rfl rfl rfl ?_
            refine zV.iload_n C dX1_readPart_34 rfl ?_
            refine zV.ic (v := (-1)) C dX1_readPart_35 (by decide) ?_
            refine zV.icmp_eq (tgt := 48) C dX1_readPart_36 (by decide) (fun q36 => ?_) (fun q36 => ?_)
            · exact absurd q36 (nI_m1 (by omega))
            · refine zV.aload_n C dX1_readPart_39 rfl rfl ?_
              refine zV.gIv 166 (k := 6) C dX1_readPart_40 zcl_X1 (by decide) rfl lk_X1_40 hi.1.1 rfl ((psH_i q).2.2) ?_
              refine zV.bi (v := nI 60) C dX1_readPart_43 (by decide) ?_
              refine zV.icmp_lt (tgt := 50) C dX1_readPart_45 (by decide) (fun q45 => ?_) (fun q45 => ?_)
              · refine zV.iload_n C dX1_readPart_50 rfl ?_
                refine zV.if_eq (tgt := 67) C dX1_readPart_51 (by decide) (fun q51 => ?_) (fun q51 => ?_)
                · refine zV.aload_n C dX1_readPart_67 rfl rfl ?_
                  refine zV.gR 163 (k := 3) C dX1_readPart_68 zcl_X1 (by decide) rfl lk_X1_22 hi.1.1 rfl (hi.1.2.2.2.2.1) ?_
                  refine zV.aload_n C dX1_readPart_71 rfl rfl ?_
                  refine zV.gIv 166 (k := 6) C dX1_readPart_72 zcl_X1 (by decide) rfl lk_X1_40 hi.1.1 rfl ((psH_i q).2.2) ?_
                  refine zV.iload_n C dX1_readPart_75 rfl ?_
                  refine zV.iast (j := n) C dX1_readPart_76 hi.1.2.2.2.2.2.2.2.2.1 (rfl) (by show n < hL h (a + 4); rw [hi.1.2.2.2.2.2.2.2.2.2]; exact hn) (by omega) ?_
                  refine zV.ic (v := nI 1) C dX1_readPart_77 (by decide) ?_
                  refine zV.zret C F dX1_readPart_78 rfl rfl ?_
                  exact ⟨by rw [eP]; rfl, by rw [eP]; unfold prH; first | (rw [show f = true from Bool.of_not_eq_false (fun z => q51 (b2n.mpr z))]; rfl) | (rw [show f = false from b2n.mp q51]; rfl)⟩
                · refine zV.aload_n C dX1_readPart_54 rfl rfl ?_
                  refine zV.gR 162 (k := 2) C dX1_readPart_55 zcl_X1 (by decide) rfl lk_X1_18 hi.1.1 rfl (hi.1.2.2.2.1) ?_
                  refine zV.aload_n C dX1_readPart_58 rfl rfl ?_
                  refine zV.gIv 166 (k := 6) C dX1_readPart_59 zcl_X1 (by decide) rfl lk_X1_40 hi.1.1 rfl ((psH_i q).2.2) ?_
                  refine zV.iload_n C dX1_readPart_62 rfl ?_
                  refine zV.iast (j := n) C dX1_readPart_63 hi.1.2.2.2.2.2.2.2.1.1 (rfl) (by show n < hL h (a + 3); rw [hi.1.2.2.2.2.2.2.2.1.2]; exact hn) (by omega) ?_
                  refine zV.goto (tgt := 77) C dX1_readPart_64 (by decide) ?_
                  refine zV.ic (v := nI 1) C dX1_readPart_77 (by decide) ?_
                  refine zV.zret C F dX1_readPart_78 rfl rfl ?_
                  exact ⟨by rw [eP]; rfl, by rw [eP]; unfold prH; first | (rw [show f = true from Bool.of_not_eq_false (fun z => q51 (b2n.mpr z))]; rfl) | (rw [show f = false from b2n.mp q51]; rfl)⟩
              · exact absurd (nI_lt hn (by decide)) q45
          · exact absurd q22 (by decide)
        · exact absurd rfl q9
  · have eP : rdP t k p = _ := rdP_s k1 k2
    refine zV.iload_n C dX1_readPart_0 rfl ?_
    refine zV.bi (v := nI 100) C dX1_readPart_1 (by decide) ?_
    refine zV.icmp_eq (tgt := 18) C dX1_readPart_3 (by decide) (fun q3 => ?_) (fun q3 => ?_)
    · exact absurd ((neqn (by omega) (by decide)).mp q3) k1
    · refine zV.iload_n C dX1_readPart_6 rfl ?_
      refine zV.bi (v := nI 110) C dX1_readPart_7 (by decide) ?_
      refine zV.icmp_eq (tgt := 18) C dX1_readPart_9 (by decide) (fun q9 => ?_) (fun q9 => ?_)
      · exact absurd ((neqn (by omega) (by decide)).mp q9) k2
      · refine zV.aload_n C dX1_readPart_12 rfl rfl ?_
        refine zV.iload_n C dX1_readPart_13 rfl ?_
        refine zV.callV (n := 1) C G dX1_readPart_14 (s_readSign hzs hst h a t k p n q (by omega) (by omega)) rfl ⟨cd_X1_readSign, lk_X1_50, im_X1_readSign, se_X1_X1_readSign, in_X1⟩ ⟨⟨by decide, by decide⟩, by decide⟩ rfl rfl rfl hi.1.1 ⟨rfl, by decide⟩ (zaf ?_) (zno)
        refine zV.zret C F dX1_readPart_17 (by split <;> rfl) rfl ?_
        rw [eP]
        by_cases z : nx t p = k
        · rw [if_pos z, if_pos z, if_pos z]; exact ⟨rfl, rfl⟩
        · rw [if_neg z, if_neg z, if_neg z]; exact ⟨rfl, rfl⟩
