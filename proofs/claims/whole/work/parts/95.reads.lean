/-! the reference: a command read -/
/-- the reader stands at p *)-/
def rAt (h : zH) (r : Nat) (t : List Nat) (p : Nat) : Prop := rTx h r t ∧ hI h 427 r = nI p ∧ p ≤ t.length
theorem nx_rA {h : zH} {r p : Nat} {t : List Nat} (q : rAt h r t p) : (p = t.length ∧ nx t p = 0) ∨ (p < t.length ∧ t[p]? = some (nx t p) ∧ 32 ≤ nx t p ∧ nx t p ≤ 126 ∧ p < 60) := by
  rcases Nat.lt_or_ge p t.length with z | z
  · have e : t[p]? = some (nx t p) := by unfold nx; rw [List.getD_eq_getElem?_getD, List.getElem?_eq_getElem z]; rfl
    exact Or.inr ⟨z, e, (q.1.2.2 p _ e).2.1, (q.1.2.2 p _ e).2.2, Nat.lt_of_lt_of_le z q.1.2.1⟩
  · exact Or.inl ⟨Nat.le_antisymm q.2.2 z, by unfold nx; rw [List.getD_eq_getElem?_getD, List.getElem?_eq_none z]; rfl⟩
theorem rAt_p {h : zH} {r p p' : Nat} {t : List Nat} (q : rAt h r t p) (hp : p' ≤ t.length) : rAt (sI h 427 r (nI p')) r t p' := ⟨rTx_e q.1 rE.i (by decide) (by decide), hI_sI, hp⟩
theorem rAt_e {h h' : zH} {r p : Nat} {t : List Nat} {F A : List Nat} (q : rAt h r t p) (e : rE h h' r F A) (hF : 426 ∉ F ∧ 427 ∉ F) (hA : 7 ∉ A) : rAt h' r t p := ⟨rTx_e q.1 e hF.1 hA, (e.f hF.2).trans q.2.1, q.2.2⟩
def tkQ (h : zH) (r : Nat) (t : List Nat) (p c : Nat) : Option Value → zH → Prop := fun v h' => v = some (.int (nI (b2 (decide (nx t p = c))))) ∧ (rE h h' r [427] [] ∧ rAt h' r t (if nx t p = c then p + 1 else p))
theorem tk_y {h : zH} {r p c : Nat} {t : List Nat} (q : rAt h r t p) (e : nx t p = c) (hp : p < t.length) : tkQ h r t p c (some (.int (nI 1))) (sI h 427 r (nI (p + 1))) := ⟨by rw [decide_eq_true e]; rfl, rE.i, by rw [if_pos e]; exact rAt_p q hp⟩
theorem tk_n {h : zH} {r p c : Nat} {t : List Nat} (q : rAt h r t p) (e : ¬ nx t p = c) : tkQ h r t p c (some (.int (nI 0))) h := ⟨by rw [decide_eq_false e]; rfl, (rE.refl h r).mono (by simp) (by simp), by rw [if_neg e]; exact q⟩
theorem dg_in : ∀ c, c < 128 → inB (nI c) (nI 48) (nI 57) = dg c := by decide
/-- while a number is read into the place k of told *)-/
def dgS (h H : zH) (r : Nat) (t : List Nat) (k p : Nat) (v : Option Nat) : Prop := rE h H r [427] [8] ∧ rAt H r t p ∧ aI H (r + 8) k = nI (v.getD 0) ∧ ∀ j, j ≠ k → aI H (r + 8) j = aI h (r + 8) j
def dgQ (h : zH) (r : Nat) (t : List Nat) (k : Nat) (R : Option Nat × Nat) : Option Value → zH → Prop := fun v h' => v = some (.int (nI (b2 R.1.isSome))) ∧ dgS h h' r t k R.2 R.1
theorem dg_num {x c : Nat} (hc : 48 ≤ c) : nI 10 * nI x + nI c - nI 48 = nI (x * 10 + c - 48) := by
  obtain ⟨d, rfl⟩ := Nat.exists_eq_add_of_le hc
  rw [pk_mul, nI_add, show 10 * x + (48 + d) = (x * 10 + d) + 48 by omega, ← nI_add, Int32.add_sub_cancel]
  exact congrArg nI (by omega)
theorem dgS_s {h H : zH} {r k p c : Nat} {t : List Nat} {v : Option Nat} (q : dgS h H r t k p v) (hp : p < t.length) : dgS h (saI (sI H 427 r (nI (p + 1))) (r + 8) k (nI (v.getD 0 * 10 + c - 48))) r t k (p + 1) (some (v.getD 0 * 10 + c - 48)) := by
  obtain ⟨E, q2, q3, q4⟩ := q
  rw [saI_row]
  refine ⟨((E.trans rE.i).trans rE.a).mono (by simp) (by simp), rAt_e (rAt_p q2 hp) (F := []) (A := [8]) rE.a (by decide) (by decide), ?_, fun j hj => ?_⟩
  · rw [aI_sRow]; exact if_pos rfl
  · rw [aI_sRow]; exact (if_neg hj).trans (q4 j hj)
theorem rdN_n {t : List Nat} {n p : Nat} {v : Option Nat} (h : ¬ dg (nx t p) = true) : rdN t (n + 1) p v = (v, p) := by rw [rdN]; exact if_neg h
theorem rdN_y {t : List Nat} {n p : Nat} {v : Option Nat} (h : dg (nx t p) = true) : rdN t (n + 1) p v = rdN t n (p + 1) (some (v.getD 0 * 10 + nx t p - 48)) := by rw [rdN]; exact if_pos h
theorem dg_48 {c : Nat} (h : dg c = true) : 48 ≤ c := of_decide_eq_true (Bool.and_eq_true_iff.mp h).1
set_option maxHeartbeats 4000000 in
set_option maxRecDepth 100000 in
theorem s_mtakes {l : Launch} {E : zG} (hzs : zS E) (hst : l.stackTraces = false) (h : zH) (r : Nat) (hm : zMs h r) (t : List Nat) (p c : Nat) (q : rAt h r t p) (hc : 32 ≤ c ∧ c < 128) : zMet l E yX10_takes cX10_takes 2 (some .boolean) ({ frames := 0, cells := 0, slots := 0, locals := 0 } : Room) 0 0 [.ref r, .int (nI c)] h (tkQ h r t p c) (fun _ _ => False) := by
  refine zM_start hzs hst (by decide) (Nat.le_of_ble_eq_true rfl) (fun X C G F I => ?_)
  show zV X 0 0 _ 0 [(0, _), (1, _)] []
  have h60 := q.1.2.1
  refine zV.aload_n C dX10_takes_0 rfl rfl ?_
  refine zV.gIv 427 (k := 11) C dX10_takes_1 zcl_X10 (by decide) rfl lk_X10_216 hm.1 rfl (q.2.1) ?_
  refine zV.aload_n C dX10_takes_4 rfl rfl ?_
  refine zV.gIv 426 (k := 10) C dX10_takes_5 zcl_X10 (by decide) rfl lk_X10_213 hm.1 rfl (q.1.1) ?_
  rcases nx_rA q with ⟨z1, z2⟩ | ⟨z1, z2, z3, z4, z5⟩
  · refine zV.icmp_eq (tgt := 24) C dX10_takes_8 (by decide) (fun q8 => ?_) (fun q8 => ?_)
    · refine zV.ic (v := nI 0) C dX10_takes_24 (by decide) ?_
      refine zV.zret C F dX10_takes_25 rfl rfl ?_
      first
        | exact tk_n q (by omega)
        | exact tk_n q e21
    · exact absurd (congrArg nI z1) q8
  · refine zV.icmp_eq (tgt := 24) C dX10_takes_8 (by decide) (fun q8 => ?_) (fun q8 => ?_)
    · exact absurd (neq (by omega) (by omega) q8) (by omega)
    · refine zV.aload_n C dX10_takes_11 rfl rfl ?_
      refine zV.gR 425 (k := 9) C dX10_takes_12 zcl_X10 (by decide) rfl lk_X10_29 (hm.1) rfl (hm.2.2.2.2.2.2.2.1) ?_
      refine zV.aload_n C dX10_takes_15 rfl rfl ?_
      refine zV.gIv 427 (k := 11) C dX10_takes_16 zcl_X10 (by decide) rfl lk_X10_216 hm.1 rfl (q.2.1) ?_
      refine zV.caldv (j := p) C dX10_takes_19 (hm.2.2.2.2.2.2.2.2.2.2.2.2.2.2.2.1.1) (rfl) (Nat.lt_of_lt_of_eq (show p < 60 from z5) (hm.2.2.2.2.2.2.2.2.2.2.2.2.2.2.2.1.2).symm) (by omega) ((q.1.2.2 p _ z2).1) ?_
      refine zV.iload_n C dX10_takes_20 rfl ?_
      refine zV.icmp_eq (tgt := 26) C dX10_takes_21 (by decide) (fun q21 => ?_) (fun q21 => ?_)
      · have e21 : nx t p = c := neq (by omega) (by omega) q21
        refine zV.aload_n C dX10_takes_26 rfl rfl ?_
        refine zV.dup C dX10_takes_27 rfl ?_
        refine zV.gIv 427 (k := 11) C dX10_takes_28 zcl_X10 (by decide) rfl lk_X10_216 hm.1 rfl (q.2.1) ?_
        refine zV.ic (v := nI 1) C dX10_takes_31 (by decide) ?_
        refine zV.iadd C dX10_takes_32 ?_
        rw [nI_add]
        refine zV.pI 427 (k := 11) C dX10_takes_33 zcl_X10 (by decide) rfl lk_X10_216 rfl hm.1 rfl ⟨rfl, rfl⟩ ?_
        refine zV.ic (v := nI 1) C dX10_takes_36 (by decide) ?_
        refine zV.zret C F dX10_takes_37 rfl rfl ?_
        exact tk_y q e21 z1
      · have e21 : ¬ nx t p = c := fun z => q21 (by rw [z])
        refine zV.ic (v := nI 0) C dX10_takes_24 (by decide) ?_
        refine zV.zret C F dX10_takes_25 rfl rfl ?_
        first
          | exact tk_n q (by omega)
          | exact tk_n q e21
set_option maxHeartbeats 4000000 in
set_option maxRecDepth 100000 in
theorem s_dg85 {X : zX} {l : Launch} {E : zG} {rm : Room} (hzs : zS E) (hst : l.stackTraces = false) (C : zC X cX10_digits RX10 4) (G : zGX X l E rm) {H : zH} {r n : Nat} {x1 x2 : Int32} {Qr : Option Value → zH → Prop} {Qx : String → zH → Prop} (F : zF X (some .boolean) 0 0 Qr Qx) (hn : n < 100) (hq : Qr (some (.int (nI (b2 (decide (0 < n)))))) H) : zV X 0 0 H 85 [(0, .ref r), (1, .int x1), (2, .int x2), (3, .int (nI n))] [] := by
  
  refine zV.iload_n C dX10_digits_85 rfl ?_
  refine zV.if_le (tgt := 93) C dX10_digits_86 (by decide) (fun q86 => ?_) (fun q86 => ?_)
  · have e : ¬ 0 < n := by have := nle (a := 0) (b := n) (by decide) (by omega) q86; omega
    rw [decide_eq_false e] at hq
    refine zV.ic (v := nI 0) C dX10_digits_93 (by decide) ?_
    refine zV.zret C F dX10_digits_94 rfl rfl ?_
    exact hq
  · have e : 0 < n := by
      rcases Nat.eq_zero_or_pos n with z | z
      · subst z; exact absurd (by decide) q86
      · exact z
    rw [decide_eq_true e] at hq
    refine zV.ic (v := nI 1) C dX10_digits_89 (by decide) ?_
    refine zV.goto (tgt := 94) C dX10_digits_90 (by decide) ?_
    refine zV.zret C F dX10_digits_94 rfl rfl ?_
    exact hq
set_option maxHeartbeats 4000000 in
set_option maxRecDepth 100000 in
theorem s_dgE {X : zX} {l : Launch} {E : zG} {rm : Room} (hzs : zS E) (hst : l.stackTraces = false) (C : zC X cX10_digits RX10 4) (G : zGX X l E rm) {H : zH} {r n : Nat} {x1 : Int32} {Qr : Option Value → zH → Prop} {Qx : String → zH → Prop} (F : zF X (some .boolean) 0 0 Qr Qx) (hn : n < 100) (hq : Qr (some (.int (nI (b2 (decide (0 < n)))))) H) : zV X 0 0 H 9 [(0, .ref r), (1, .int x1), (2, .int (nI n)), (3, .int (nI n))] [] := by
  
  refine zV.iload_n C dX10_digits_9 rfl ?_
  refine zV.iload_n C dX10_digits_10 rfl ?_
  refine zV.icmp_ge (tgt := 85) C dX10_digits_11 (by decide) (fun q11 => ?_) (fun q11 => ?_)
  · exact s_dg85 hzs hst C G F hn hq
  · exact absurd (nI_le (Nat.le_refl n) (by omega)) q11
set_option maxHeartbeats 4000000 in
set_option maxRecDepth 100000 in
theorem L_dg {X : zX} {l : Launch} {E : zG} {rm : Room} (hzs : zS E) (hst : l.stackTraces = false) (C : zC X cX10_digits RX10 4) (G : zGX X l E rm) {h : zH} {r k N : Nat} {t : List Nat} {R : Option Nat × Nat} {Qx : String → zH → Prop} (hr : rm = ({ frames := 1, cells := 0, slots := 0, locals := 22 } : Room)) (hm0 : zMs h r) (F : zF X (some .boolean) 0 0 (dgQ h r t k R) Qx) (hk : k < 2) (hN : N ≤ 2) : ∀ f n p v H, n + f = N → dgS h H r t k p v → v.isSome = decide (0 < n) → R = rdN t f p v → zV X 0 0 H 9 [(0, .ref r), (1, .int (nI k)), (2, .int (nI N)), (3, .int (nI n))] [] := by
  subst hr
  intro f
  induction f with
  | zero =>
    intro n p v H hn q hv e
    obtain rfl : n = N := by omega
    exact s_dgE hzs hst C G F (by omega) (by rw [← hv, e]; exact ⟨rfl, q⟩)
  | succ f ih =>
    intro n p v H hn q hv e
    have hm := q.1.m hm0
    have h60 := q.2.1.1.2.1
    refine zV.iload_n C dX10_digits_9 rfl ?_
    refine zV.iload_n C dX10_digits_10 rfl ?_
    refine zV.icmp_ge (tgt := 85) C dX10_digits_11 (by decide) (fun q11 => ?_) (fun q11 => ?_)
    · exact absurd (nle (by omega) (by omega) q11) (by omega)
    · refine zV.aload_n C dX10_digits_14 rfl rfl ?_
      refine zV.gIv 427 (k := 11) C dX10_digits_15 zcl_X10 (by decide) rfl lk_X10_216 hm.1 rfl (q.2.1.2.1) ?_
      refine zV.aload_n C dX10_digits_18 rfl rfl ?_
      refine zV.gIv 426 (k := 10) C dX10_digits_19 zcl_X10 (by decide) rfl lk_X10_213 hm.1 rfl (q.2.1.1.1) ?_
      rcases nx_rA q.2.1 with ⟨z1, z2⟩ | ⟨z1, z2, z3, z4, z5⟩
      · refine zV.icmp_ge (tgt := 85) C dX10_digits_22 (by decide) (fun q22 => ?_) (fun q22 => ?_)
        · have en : ¬ dg (nx t p) = true := by rw [z2]; decide
          exact s_dg85 hzs hst C G F (by omega) (by rw [← hv, e, rdN_n en]; exact ⟨rfl, q⟩)
        · exact absurd (nI_le (by omega) (by omega)) q22
      · refine zV.icmp_ge (tgt := 85) C dX10_digits_22 (by decide) (fun q22 => ?_) (fun q22 => ?_)
        · exact absurd (nle (by omega) (by omega) q22) (by omega)
        · refine zV.aload_n C dX10_digits_25 rfl rfl ?_
          refine zV.gR 425 (k := 9) C dX10_digits_26 zcl_X10 (by decide) rfl lk_X10_29 (hm.1) rfl (hm.2.2.2.2.2.2.2.1) ?_
          refine zV.aload_n C dX10_digits_29 rfl rfl ?_
          refine zV.gIv 427 (k := 11) C dX10_digits_30 zcl_X10 (by decide) rfl lk_X10_216 hm.1 rfl (q.2.1.2.1) ?_
          refine zV.caldv (j := p) C dX10_digits_33 (hm.2.2.2.2.2.2.2.2.2.2.2.2.2.2.2.1.1) (rfl) (Nat.lt_of_lt_of_eq (show p < 60 from z5) (hm.2.2.2.2.2.2.2.2.2.2.2.2.2.2.2.1.2).symm) (by omega) ((q.2.1.1.2.2 p _ z2).1) ?_
          refine zV.bi (v := nI 48) C dX10_digits_34 (by decide) ?_
          refine zV.bi (v := nI 57) C dX10_digits_36 (by decide) ?_
          refine zV.callS (n := 3) C G dX10_digits_38 (s_min hzs hst H (nI (nx t p)) (nI 48) (nI 57)) rfl ⟨cd_X10_in, lk_X10_61, st_X10_in, in_X10⟩ ⟨⟨by decide, by decide⟩, by decide⟩ rfl rfl rfl (zaf ?_) (zno)
          rw [dg_in _ (by omega)]
          refine zV.if_eq (tgt := 85) C dX10_digits_41 (by decide) (fun q41 => ?_) (fun q41 => ?_)
          · have en : ¬ dg (nx t p) = true := fun z => by rw [b2n.mp q41] at z; cases z
            exact s_dg85 hzs hst C G F (by omega) (by rw [← hv, e, rdN_n en]; exact ⟨rfl, q⟩)
          · have ey : dg (nx t p) = true := Bool.of_not_eq_false (fun z => q41 (b2n.mpr z))
            refine zV.aload_n C dX10_digits_44 rfl rfl ?_
            refine zV.gR 429 (k := 13) C dX10_digits_45 zcl_X10 (by decide) rfl lk_X10_32 (hm.1) rfl (hm.2.2.2.2.2.2.2.2.1) ?_
            refine zV.iload_n C dX10_digits_48 rfl ?_
            refine zV.bi (v := nI 10) C dX10_digits_49 (by decide) ?_
            refine zV.aload_n C dX10_digits_51 rfl rfl ?_
            refine zV.gR 429 (k := 13) C dX10_digits_52 zcl_X10 (by decide) rfl lk_X10_32 (hm.1) rfl (hm.2.2.2.2.2.2.2.2.1) ?_
            refine zV.iload_n C dX10_digits_55 rfl ?_
            refine zV.ialdv (j := k) C dX10_digits_56 (hm.2.2.2.2.2.2.2.2.2.2.2.2.2.2.2.2.1) (rfl) (Nat.lt_of_lt_of_eq (show k < 2 from hk) (hm.2.2.2.2.2.2.2.2.2.2.2.2.2.2.2.2.2).symm) (by omega) (q.2.2.1) ?_
            refine zV.imul C dX10_digits_57 ?_
            refine zV.aload_n C dX10_digits_58 rfl rfl ?_
            refine zV.gR 425 (k := 9) C dX10_digits_59 zcl_X10 (by decide) rfl lk_X10_29 (hm.1) rfl (hm.2.2.2.2.2.2.2.1) ?_
            refine zV.aload_n C dX10_digits_62 rfl rfl ?_
            refine zV.dup C dX10_digits_63 rfl ?_
            refine zV.gIv 427 (k := 11) C dX10_digits_64 zcl_X10 (by decide) rfl lk_X10_216 hm.1 rfl (q.2.1.2.1) ?_
            refine zV.dup_x1 C dX10_digits_67 rfl rfl ?_
            refine zV.ic (v := nI 1) C dX10_digits_68 (by decide) ?_
            refine zV.iadd C dX10_digits_69 ?_
            rw [nI_add]
            refine zV.pI 427 (k := 11) C dX10_digits_70 zcl_X10 (by decide) rfl lk_X10_216 rfl hm.1 rfl ⟨rfl, rfl⟩ ?_
            refine zV.caldv (j := p) C dX10_digits_73 (hm.2.2.2.2.2.2.2.2.2.2.2.2.2.2.2.1.1) (rfl) (Nat.lt_of_lt_of_eq (show p < 60 from z5) (hm.2.2.2.2.2.2.2.2.2.2.2.2.2.2.2.1.2).symm) (by omega) ((show aI (sI H 427 r (nI (p + 1))) (r + 7) p = nI (nx t p) from (q.2.1.1.2.2 p _ z2).1)) ?_
            refine zV.iadd C dX10_digits_74 ?_
            refine zV.bi (v := nI 48) C dX10_digits_75 (by decide) ?_
            refine zV.isub C dX10_digits_77 ?_
            rw [dg_num (dg_48 ey)]
            refine zV.iast (j := k) C dX10_digits_78 (hm.2.2.2.2.2.2.2.2.2.2.2.2.2.2.2.2.1) (rfl) (Nat.lt_of_lt_of_eq (show k < 2 from hk) (hm.2.2.2.2.2.2.2.2.2.2.2.2.2.2.2.2.2).symm) (by omega) ?_
            refine zV.iinc (lo' := [(0, _), (1, _), (2, _), (3, _)]) C dX10_digits_79 rfl (by decide) rfl rfl rfl ?_
            refine zV.goto (tgt := 9) C dX10_digits_82 (by decide) ?_
            rw [inc1]
            exact ih (n + 1) (p + 1) _ _ (by omega) (dgS_s q z1) (by rw [decide_eq_true (Nat.succ_pos n)]; rfl) (by rw [e, rdN_y ey])
set_option maxHeartbeats 4000000 in
set_option maxRecDepth 100000 in
theorem s_mdigits {l : Launch} {E : zG} (hzs : zS E) (hst : l.stackTraces = false) (h : zH) (r : Nat) (hm : zMs h r) (t : List Nat) (p k N : Nat) (q : rAt h r t p) (hk : k < 2) (hN : N ≤ 2) : zMet l E yX10_digits cX10_digits 4 (some .boolean) ({ frames := 1, cells := 0, slots := 0, locals := 22 } : Room) 0 0 [.ref r, .int (nI k), .int (nI N)] h (dgQ h r t k (rdN t N p none)) (fun _ _ => False) := by
  refine zM_start hzs hst (by decide) (Nat.le_of_ble_eq_true rfl) (fun X C G F I => ?_)
  show zV X 0 0 _ 0 [(0, _), (1, _), (2, _)] []
  refine zV.ic (v := nI 0) C dX10_digits_0 (by decide) ?_
  refine zV.istore_n (lo' := [(0, _), (1, _), (2, _), (3, _)]) C dX10_digits_1 (by decide) rfl rfl rfl ?_
  refine zV.aload_n C dX10_digits_2 rfl rfl ?_
  refine zV.gR 429 (k := 13) C dX10_digits_3 zcl_X10 (by decide) rfl lk_X10_32 (hm.1) rfl (hm.2.2.2.2.2.2.2.2.1) ?_
  refine zV.iload_n C dX10_digits_6 rfl ?_
  refine zV.ic (v := nI 0) C dX10_digits_7 (by decide) ?_
  refine zV.iast (j := k) C dX10_digits_8 (hm.2.2.2.2.2.2.2.2.2.2.2.2.2.2.2.2.1) (rfl) (Nat.lt_of_lt_of_eq (show k < 2 from hk) (hm.2.2.2.2.2.2.2.2.2.2.2.2.2.2.2.2.2).symm) (by omega) ?_
  rw [saI_row]
  exact L_dg hzs hst C G rfl hm F hk hN N 0 p none _ (Nat.zero_add _) ⟨rE.a.mono (by simp) (by simp), rAt_e q (F := []) (A := [8]) rE.a (by decide) (by decide), by rw [aI_sRow]; exact if_pos rfl, fun j hj => by rw [aI_sRow]; exact if_neg hj⟩ rfl rfl
