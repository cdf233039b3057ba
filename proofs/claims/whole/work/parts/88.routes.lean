/-! the reference: reached lawns, routes -/
theorem nx_ex {nb : Nat → Nat} {i j d : Nat} (hi : i < 6) (hN : nb i < 64) (h : far nb i j = some (d + 1)) : ∃ k, k < 6 ∧ (nb i).testBit k = true ∧ far nb k j = some d := by
  obtain ⟨h1, h2, h3⟩ := far_some h
  rcases rch_f h2 with z | ⟨k, z1, z2⟩
  · exact absurd z (h3 d (Nat.lt_succ_self d))
  · have hk : k < 6 := by
      rcases Nat.lt_or_ge k 6 with q | q
      · exact q
      · have : (nb i).testBit k = false := Nat.testBit_lt_two_pow (Nat.lt_of_lt_of_le hN (show 2 ^ 6 ≤ 2 ^ k from Nat.pow_le_pow_right (by decide) q))
        rw [this] at z1; cases z1
    refine ⟨k, hk, z1, ?_⟩
    rcases e : far nb k j with _ | e9
    · exact absurd z2 (far_none e d (by omega))
    · obtain ⟨f1, f2, f3⟩ := far_some e
      have a1 : e9 ≤ d := Nat.le_of_not_lt (fun q => f3 d q z2)
      have a2 : d ≤ e9 := Nat.le_of_not_lt (fun q => by
        have r1 : rch nb 1 i k := rch_s.mpr (Or.inr ⟨i, hi, rch_0.mpr rfl, z1⟩)
        exact h3 (1 + e9) (by omega) (rch_tr r1 f2))
      rw [show e9 = d by omega]
theorem nxF_of {nb : Nat → Nat} {i j : Nat} {v : Int32} : ∀ n k, (∃ q, k ≤ q ∧ q < k + n ∧ (nb i).testBit q = true ∧ oI (far nb q j) = v) → (nb i).testBit (nxF nb i j v n k) = true ∧ oI (far nb (nxF nb i j v n k) j) = v ∧ nxF nb i j v n k < k + n
  | 0, k, ⟨q, h1, h2, _⟩ => by omega
  | n + 1, k, ⟨q, h1, h2, h3, h4⟩ => by
    rw [nxF]
    by_cases e : (nb i).testBit k = true ∧ oI (far nb k j) = v
    · rw [if_pos e]; exact ⟨e.1, e.2, by omega⟩
    · rw [if_neg e]
      have := nxF_of n (k + 1) ⟨q, by rcases Nat.lt_or_ge k q with z | z; exact z; exact absurd (show (nb i).testBit k = true ∧ oI (far nb k j) = v by rw [show k = q by omega]; exact ⟨h3, h4⟩) e, by omega, h3, h4⟩
      exact ⟨this.1, this.2.1, by omega⟩
theorem oI_inj {o : Option Nat} {d : Nat} (h : oI o = nI d) (hd : d < 100) (ho : ∀ m, o = some m → m < 6) : o = some d := by
  rcases o with _ | m
  · exact absurd h.symm (nI_m1 (by omega))
  · rw [show m = d from neq (by have := ho m rfl; omega) (by omega) h]
theorem rc_far {nb : Nat → Nat} {i l : Nat} : (wnI nb (2 ^ i) 5).testBit l = (far nb i l).isSome := by
  rcases e : far nb i l with _ | m
  · exact Bool.eq_false_iff.mpr (fun z => far_none e 5 (by decide) z)
  · obtain ⟨h1, h2, -⟩ := far_some e
    exact rch_mono h2 (show m ≤ 5 by omega)
set_option maxHeartbeats 4000000 in
set_option maxRecDepth 100000 in
theorem s_qreachE {X : zX} {l : Launch} {E : zG} {rm : Room} (hzs : zS E) (hst : l.stackTraces = false) (C : zC X cX10_reachableLawns RX10 4) (G : zGX X l E rm) {h : zH} {r : Nat} {x1 x2 : Int32} {Qr : Option Value → zH → Prop} {Qx : String → zH → Prop} (F : zF X (some .int) 0 0 Qr Qx) (hm : zMs h r) (ht : hI h 435 r = nI 0) (kq : Qr (some (.int x2)) h) : zV X 0 0 h 20 [(0, .ref r), (1, .int x1), (2, .int x2), (3, .int (nI 6))] [] := by
  
  refine zV.aload_n C dX10_reachableLawns_20 rfl rfl ?_
  refine zV.gIv 435 (k := 19) C dX10_reachableLawns_21 zcl_X10 (by decide) rfl lk_X10_39 hm.1 rfl (ht) ?_
  refine zV.if_ne (tgt := 51) C dX10_reachableLawns_24 (by decide) (fun q24 => ?_) (fun q24 => ?_)
  · exact absurd rfl q24
  · refine zV.iload_n C dX10_reachableLawns_27 rfl ?_
    refine zV.bi (v := nI 6) C dX10_reachableLawns_28 (by decide) ?_
    refine zV.icmp_ge (tgt := 51) C dX10_reachableLawns_30 (by decide) (fun q30 => ?_) (fun q30 => ?_)
    · refine zV.iload_n C dX10_reachableLawns_51 rfl ?_
      refine zV.iret C F dX10_reachableLawns_52 rfl ?_
      exact kq
    · exact absurd (by decide) q30
set_option maxHeartbeats 4000000 in
set_option maxRecDepth 100000 in
theorem L_qreach {X : zX} {l : Launch} {E : zG} {rm : Room} (hzs : zS E) (hst : l.stackTraces = false) (C : zC X cX10_reachableLawns RX10 4) (G : zGX X l E rm) {i : Nat} {Qr : Option Value → zH → Prop} {Qx : String → zH → Prop} (hr : rm = ({ frames := 2, cells := 0, slots := 0, locals := 48 } : Room)) (F : zF X (some .int) 0 0 Qr Qx) (hi : i < 6) {h : zH} {r m : Nat} {g : zGd} (hm : zMs h r) (hg : rG (aI h (r + 1)) g) (hR : gR m g) (hb : m + 3000 ≤ big) (ht : hI h 435 r = nI 0) (kq : Qr (some (.int (nI (fb_ct (fun l => (wnI (gN g) (2 ^ i) 5).testBit l) 6)))) h) : ∀ n k, k + n = 6 → zV X 0 0 h 20 [(0, .ref r), (1, .int (nI i)), (2, .int (nI (fb_ct (fun l => (wnI (gN g) (2 ^ i) 5).testBit l) k))), (3, .int (nI k))] [] := by
  subst hr
  have hls : rLs (aI h (r + 1)) g := by obtain ⟨cs, hp, hsrt, hf⟩ := hg; exact hf.2.2.1
  have hN := hR.2.1
  intro n
  induction n with
  | zero =>
    intro k hk
    obtain rfl : k = 6 := by omega
    exact s_qreachE hzs hst C G F hm ht kq
  | succ n ih =>
    intro k hk
    have hk6 : k < 6 := by omega
    have eb := rc_far (nb := gN g) (i := i) (l := k)
    refine zV.aload_n C dX10_reachableLawns_20 rfl rfl ?_
    refine zV.gIv 435 (k := 19) C dX10_reachableLawns_21 zcl_X10 (by decide) rfl lk_X10_39 hm.1 rfl (ht) ?_
    refine zV.if_ne (tgt := 51) C dX10_reachableLawns_24 (by decide) (fun q24 => ?_) (fun q24 => ?_)
    · exact absurd rfl q24
    · refine zV.iload_n C dX10_reachableLawns_27 rfl ?_
      refine zV.bi (v := nI 6) C dX10_reachableLawns_28 (by decide) ?_
      refine zV.icmp_ge (tgt := 51) C dX10_reachableLawns_30 (by decide) (fun q30 => ?_) (fun q30 => ?_)
      · exact absurd (nle (by omega) (by decide) q30) (by omega)
      · refine zV.aload_n C dX10_reachableLawns_33 rfl rfl ?_
        refine zV.iload_n C dX10_reachableLawns_34 rfl ?_
        refine zV.iload_n C dX10_reachableLawns_35 rfl ?_
        rcases e : far (gN g) i k with _ | d
        · rw [e] at eb
          refine zV.callV (n := 2) C G dX10_reachableLawns_36 (s_mfar hzs hst h r g hm hls hN i k hi hk6) rfl ⟨cd_X10_far, lk_X10_113, im_X10_far, se_X10_X10_far, in_X10⟩ ⟨⟨by decide, by decide⟩, by decide⟩ rfl rfl rfl (hm.1) ⟨rfl, by decide⟩ (zaf ?_) (zno)
          rw [e]
          show zV X _ _ _ 39 _ (.int (-1) :: _)
          refine zV.if_lt (tgt := 45) C dX10_reachableLawns_39 (by decide) (fun q39 => ?_) (fun q39 => ?_)
          · refine zV.iinc (lo' := [(0, _), (1, _), (2, _), (3, _)]) C dX10_reachableLawns_45 rfl (by decide) rfl rfl rfl ?_
            refine zV.goto (tgt := 20) C dX10_reachableLawns_48 (by decide) ?_
            simp only [inc1]
            have z := ih (k + 1) (by omega)
            rw [fb_ct_succ, eb] at z
            exact z
          · exact absurd (by decide) q39
        · rw [e] at eb
          have d5 := (far_some e).1
          refine zV.callV (n := 2) C G dX10_reachableLawns_36 (s_mfar hzs hst h r g hm hls hN i k hi hk6) rfl ⟨cd_X10_far, lk_X10_113, im_X10_far, se_X10_X10_far, in_X10⟩ ⟨⟨by decide, by decide⟩, by decide⟩ rfl rfl rfl (hm.1) ⟨rfl, by decide⟩ (zaf ?_) (zno)
          rw [e]
          show zV X _ _ _ 39 _ (.int (nI d) :: _)
          refine zV.if_lt (tgt := 45) C dX10_reachableLawns_39 (by decide) (fun q39 => ?_) (fun q39 => ?_)
          · exact absurd q39 (nI_pos (by omega))
          · refine zV.iinc (lo' := [(0, _), (1, _), (2, _), (3, _)]) C dX10_reachableLawns_42 rfl (by decide) rfl rfl rfl ?_
            refine zV.iinc (lo' := [(0, _), (1, _), (2, _), (3, _)]) C dX10_reachableLawns_45 rfl (by decide) rfl rfl rfl ?_
            refine zV.goto (tgt := 20) C dX10_reachableLawns_48 (by decide) ?_
            simp only [inc1]
            have z := ih (k + 1) (by omega)
            rw [fb_ct_succ, eb] at z
            exact z
set_option maxHeartbeats 4000000 in
set_option maxRecDepth 100000 in
theorem s_qreachableLawns {l : Launch} {E : zG} (hzs : zS E) (hst : l.stackTraces = false) (h : zH) (r m : Nat) (g : zGd) (hm : zMs h r) (hg : rG (aI h (r + 1)) g) (hR : gR m g) (hb : m + 3000 ≤ big) (x : Int32) : zMet l E yX10_reachableLawns cX10_reachableLawns 4 (some .int) ({ frames := 2, cells := 0, slots := 0, locals := 48 } : Room) 0 0 [.ref r, .int x] h (mqQ h r (lawA x (fun i => .inr (.int (nI (popc (wnI (gN g) (2 ^ i) 5)))))) c1 (.int (nI 0))) (fun _ _ => False) := by
  refine zM_start hzs hst (by decide) (Nat.le_of_ble_eq_true rfl) (fun X C G F I => ?_)
  show zV X 0 0 _ 0 [(0, _), (1, _)] []
  obtain ⟨cs, hp, hsrt, hf⟩ := hg
  have hw := rG_W hR (by omega) hp
  have hN := hR.2.1
  have hls := hf.2.2.1
  rcases e1 : ln x with _ | i
  · refine zV.aload_n C dX10_reachableLawns_0 rfl rfl ?_
    refine zV.iload_n C dX10_reachableLawns_1 rfl ?_
    refine zV.callS (n := 1) C G dX10_reachableLawns_2 (s_misLawn hzs hst h x) rfl ⟨cd_X10_isLawn, lk_X10_85, st_X10_isLawn, in_X10⟩ ⟨⟨by decide, by decide⟩, by decide⟩ rfl rfl rfl (zaf ?_) (zno)
    rw [e1]
    show zV X _ _ h 5 _ (.int (nI 0) :: _)
    refine zV.if_eq (tgt := 12) C dX10_reachableLawns_5 (by decide) (fun q5 => ?_) (fun q5 => ?_)
    · refine zV.ic (v := nI 1) C dX10_reachableLawns_12 (by decide) ?_
      refine zV.pI 435 (k := 19) C dX10_reachableLawns_13 zcl_X10 (by decide) rfl lk_X10_39 rfl hm.1 rfl ⟨rfl, rfl⟩ ?_
      refine zV.ic (v := nI 0) C dX10_reachableLawns_16 (by decide) ?_
      refine zV.istore_n (lo' := [(0, _), (1, _), (2, _)]) C dX10_reachableLawns_17 (by decide) rfl rfl rfl ?_
      refine zV.ic (v := nI 0) C dX10_reachableLawns_18 (by decide) ?_
      refine zV.istore_n (lo' := [(0, _), (1, _), (2, _), (3, _)]) C dX10_reachableLawns_19 (by decide) rfl rfl rfl ?_
      refine zV.aload_n C dX10_reachableLawns_20 rfl rfl ?_
      refine zV.gIv 435 (k := 19) C dX10_reachableLawns_21 zcl_X10 (by decide) rfl lk_X10_39 hm.1 rfl (hI_sI) ?_
      refine zV.if_ne (tgt := 51) C dX10_reachableLawns_24 (by decide) (fun q24 => ?_) (fun q24 => ?_)
      · refine zV.iload_n C dX10_reachableLawns_51 rfl ?_
        refine zV.iret C F dX10_reachableLawns_52 rfl ?_
        exact mq_x (lawA_n e1) rfl
      · exact absurd q24 (by decide)
    · exact absurd rfl q5
  · obtain ⟨hi, rfl⟩ := ln_some e1
    refine zV.aload_n C dX10_reachableLawns_0 rfl rfl ?_
    refine zV.iload_n C dX10_reachableLawns_1 rfl ?_
    refine zV.callS (n := 1) C G dX10_reachableLawns_2 (s_misLawn hzs hst h (nI i)) rfl ⟨cd_X10_isLawn, lk_X10_85, st_X10_isLawn, in_X10⟩ ⟨⟨by decide, by decide⟩, by decide⟩ rfl rfl rfl (zaf ?_) (zno)
    rw [e1]
    show zV X _ _ h 5 _ (.int (nI 1) :: _)
    refine zV.if_eq (tgt := 12) C dX10_reachableLawns_5 (by decide) (fun q5 => ?_) (fun q5 => ?_)
    · exact absurd q5 (by decide)
    · refine zV.ic (v := nI 0) C dX10_reachableLawns_8 (by decide) ?_
      refine zV.goto (tgt := 13) C dX10_reachableLawns_9 (by decide) ?_
      refine zV.pI 435 (k := 19) C dX10_reachableLawns_13 zcl_X10 (by decide) rfl lk_X10_39 rfl hm.1 rfl ⟨rfl, rfl⟩ ?_
      refine zV.ic (v := nI 0) C dX10_reachableLawns_16 (by decide) ?_
      refine zV.istore_n (lo' := [(0, _), (1, _), (2, _)]) C dX10_reachableLawns_17 (by decide) rfl rfl rfl ?_
      refine zV.ic (v := nI 0) C dX10_reachableLawns_18 (by decide) ?_
      refine zV.istore_n (lo' := [(0, _), (1, _), (2, _), (3, _)]) C dX10_reachableLawns_19 (by decide) rfl rfl rfl ?_
      exact L_qreach (h := sI h 435 r (nI 0)) hzs hst C G rfl F hi hm ⟨cs, hp, hsrt, hf⟩ hR hb hI_sI (mq_r (lawA_s e1)) 6 0 rfl
set_option maxHeartbeats 4000000 in
set_option maxRecDepth 100000 in
theorem L_qrouteI {X : zX} {l : Launch} {E : zG} {rm : Room} (hzs : zS E) (hst : l.stackTraces = false) (C : zC X cX10_routeAt RX10 7) (G : zGX X l E rm) {x1 : Int32} {j N c k d : Nat} (hr : rm = ({ frames := 2, cells := 0, slots := 0, locals := 48 } : Room)) (hc : c < 6) (hj : j < 6) {h : zH} {r m : Nat} {g : zGd} (hm : zMs h r) (hg : rG (aI h (r + 1)) g) (hR : gR m g) (hb : m + 3000 ≤ big) (hd : far (gN g) c j = some (d + 1)) (kk : zV X 0 0 h 96 [(0, .ref r), (1, .int x1), (2, .int (nI j)), (3, .int (nI N)), (4, .int (nI c)), (5, .int (nI k)), (6, .int (nI (nxt (gN g) c j)))] []) : ∀ n q, q + n = 6 → nxF (gN g) c j (nI d) n q = nxt (gN g) c j → (∃ z, q ≤ z ∧ z < 6 ∧ (gN g c).testBit z = true ∧ oI (far (gN g) z j) = nI d) → zV X 0 0 h 60 [(0, .ref r), (1, .int x1), (2, .int (nI j)), (3, .int (nI N)), (4, .int (nI c)), (5, .int (nI k)), (6, .int (nI q))] [] := by
  subst hr
  have hls : rLs (aI h (r + 1)) g := by obtain ⟨cs, hp, hsrt, hf⟩ := hg; exact hf.2.2.1
  have hN := hR.2.1
  have d5 := (far_some hd).1
  intro n
  induction n with
  | zero =>
    intro q hq e hz
    obtain ⟨z, z1, z2, -⟩ := hz
    omega
  | succ n ih =>
    intro q hq e hz
    have hq6 : q < 6 := by omega
    rw [nxF] at e
    refine zV.aload_n C dX10_routeAt_60 rfl rfl ?_
    refine zV.iload C dX10_routeAt_61 rfl ?_
    refine zV.iload C dX10_routeAt_63 rfl ?_
    refine zV.callV (n := 2) C G dX10_routeAt_65 (s_misPath hzs hst h r g hm hls hN c q hc hq6) rfl ⟨cd_X10_isPathBetween, lk_X10_89, im_X10_isPathBetween, se_X10_X10_isPathBetween, in_X10⟩ ⟨⟨by decide, by decide⟩, by decide⟩ rfl rfl rfl (hm.1) ⟨rfl, by decide⟩ (zaf ?_) (zno)
    refine zV.if_eq (tgt := 90) C dX10_routeAt_68 (by decide) (fun q68 => ?_) (fun q68 => ?_)
    · have ep : ¬ (gN g c).testBit q = true := b01.mp q68
      refine zV.iinc (lo' := [(0, _), (1, _), (2, _), (3, _), (4, _), (5, _), (6, _)]) C dX10_routeAt_90 rfl (by decide) rfl rfl rfl ?_
      refine zV.goto (tgt := 60) C dX10_routeAt_93 (by decide) ?_
      rw [inc1]
      first
        | (rw [if_neg (fun z => ep z.1)] at e
           obtain ⟨z, z1, z2, z3, z4⟩ := hz
           exact ih (q + 1) (by omega) e ⟨z, by rcases Nat.lt_or_ge q z with y | y; exact y; exact absurd (by rw [show q = z by omega]; exact z3) ep, z2, z3, z4⟩)
        | (rw [if_neg (fun z => q87 z.2)] at e
           obtain ⟨z, z1, z2, z3, z4⟩ := hz
           exact ih (q + 1) (by omega) e ⟨z, by rcases Nat.lt_or_ge q z with y | y; exact y; exact absurd (by rw [show q = z by omega]; exact z4) q87, z2, z3, z4⟩)
    · have ep : (gN g c).testBit q = true := Decidable.not_not.mp (fun z => q68 (b01.mpr z))
      refine zV.aload_n C dX10_routeAt_71 rfl rfl ?_
      refine zV.iload C dX10_routeAt_72 rfl ?_
      refine zV.iload_n C dX10_routeAt_74 rfl ?_
      refine zV.callV (n := 2) C G dX10_routeAt_75 (s_mfar hzs hst h r g hm hls hN q j hq6 hj) rfl ⟨cd_X10_far, lk_X10_113, im_X10_far, se_X10_X10_far, in_X10⟩ ⟨⟨by decide, by decide⟩, by decide⟩ rfl rfl rfl (hm.1) ⟨rfl, by decide⟩ (zaf ?_) (zno)
      refine zV.aload_n C dX10_routeAt_78 rfl rfl ?_
      refine zV.iload C dX10_routeAt_79 rfl ?_
      refine zV.iload_n C dX10_routeAt_81 rfl ?_
      refine zV.callV (n := 2) C G dX10_routeAt_82 (s_mfar hzs hst h r g hm hls hN c j hc hj) rfl ⟨cd_X10_far, lk_X10_113, im_X10_far, se_X10_X10_far, in_X10⟩ ⟨⟨by decide, by decide⟩, by decide⟩ rfl rfl rfl (hm.1) ⟨rfl, by decide⟩ (zaf ?_) (zno)
      rw [hd]
      show zV X _ _ _ 85 _ (.int (nI (d + 1)) :: _)
      refine zV.ic (v := nI 1) C dX10_routeAt_85 (by decide) ?_
      refine zV.isub C dX10_routeAt_86 ?_
      rw [show nI (d + 1) - nI 1 = nI d from pk_sub (by omega)]
      refine zV.icmp_eq (tgt := 96) C dX10_routeAt_87 (by decide) (fun q87 => ?_) (fun q87 => ?_)
      · rw [if_pos ⟨ep, q87⟩] at e
        rw [e]
        exact kk
      · refine zV.iinc (lo' := [(0, _), (1, _), (2, _), (3, _), (4, _), (5, _), (6, _)]) C dX10_routeAt_90 rfl (by decide) rfl rfl rfl ?_
        refine zV.goto (tgt := 60) C dX10_routeAt_93 (by decide) ?_
        rw [inc1]
        first
          | (rw [if_neg (fun z => ep z.1)] at e
             obtain ⟨z, z1, z2, z3, z4⟩ := hz
             exact ih (q + 1) (by omega) e ⟨z, by rcases Nat.lt_or_ge q z with y | y; exact y; exact absurd (by rw [show q = z by omega]; exact z3) ep, z2, z3, z4⟩)
          | (rw [if_neg (fun z => q87 z.2)] at e
             obtain ⟨z, z1, z2, z3, z4⟩ := hz
             exact ih (q + 1) (by omega) e ⟨z, by rcases Nat.lt_or_ge q z with y | y; exact y; exact absurd (by rw [show q = z by omega]; exact z4) q87, z2, z3, z4⟩)
set_option maxHeartbeats 4000000 in
set_option maxRecDepth 100000 in
theorem s_qrouteE {X : zX} {l : Launch} {E : zG} {rm : Room} (hzs : zS E) (hst : l.stackTraces = false) (C : zC X cX10_routeAt RX10 7) (G : zGX X l E rm) {h : zH} {r N : Nat} {x1 x2 c : Int32} {Qr : Option Value → zH → Prop} {Qx : String → zH → Prop} (F : zF X (some .int) 0 0 Qr Qx) (hN : N < 100) (hq : Qr (some (.int c)) h) : zV X 0 0 h 51 [(0, .ref r), (1, .int x1), (2, .int x2), (3, .int (nI N)), (4, .int c), (5, .int (nI N))] [] := by
  
  refine zV.iload C dX10_routeAt_51 rfl ?_
  refine zV.iload_n C dX10_routeAt_53 rfl ?_
  refine zV.icmp_ge (tgt := 106) C dX10_routeAt_54 (by decide) (fun q54 => ?_) (fun q54 => ?_)
  · refine zV.iload C dX10_routeAt_106 rfl ?_
    refine zV.iret C F dX10_routeAt_108 rfl ?_
    exact hq
  · exact absurd (nI_le (Nat.le_refl N) (by omega)) q54
set_option maxHeartbeats 4000000 in
set_option maxRecDepth 100000 in
theorem L_qroute {X : zX} {l : Launch} {E : zG} {rm : Room} (hzs : zS E) (hst : l.stackTraces = false) (C : zC X cX10_routeAt RX10 7) (G : zGX X l E rm) {x1 : Int32} {j N : Nat} {Qr : Option Value → zH → Prop} {Qx : String → zH → Prop} (hr : rm = ({ frames := 2, cells := 0, slots := 0, locals := 48 } : Room)) (F : zF X (some .int) 0 0 Qr Qx) (hN5 : N ≤ 5) (hj : j < 6) {h : zH} {r m : Nat} {g : zGd} (hm : zMs h r) (hg : rG (aI h (r + 1)) g) (hR : gR m g) (hb : m + 3000 ≤ big) : ∀ n k c e, k + n = N → c < 6 → far (gN g) c j = some e → n ≤ e → Qr (some (.int (nI (rtF (gN g) j n c)))) h → zV X 0 0 h 51 [(0, .ref r), (1, .int x1), (2, .int (nI j)), (3, .int (nI N)), (4, .int (nI c)), (5, .int (nI k))] [] := by
  subst hr
  have hls : rLs (aI h (r + 1)) g := by obtain ⟨cs, hp, hsrt, hf⟩ := hg; exact hf.2.2.1
  have hN := hR.2.1
  intro n
  induction n with
  | zero =>
    intro k c e hk hc he hn hq
    obtain rfl : k = N := by omega
    exact s_qrouteE hzs hst C G F (by omega) hq
  | succ n ih =>
    intro k c e hk hc he hn hq
    obtain ⟨d, rfl⟩ : ∃ d, e = d + 1 := ⟨e - 1, by omega⟩
    obtain ⟨z, z1, z2, z3⟩ := nx_ex hc (hN c hc) he
    have d5 := (far_some he).1
    have ev : oI (far (gN g) c j) - nI 1 = nI d := by rw [he]; exact pk_sub (a := d + 1) (b := 1) (by omega)
    have hx : ∃ z, 0 ≤ z ∧ z < 0 + 6 ∧ (gN g c).testBit z = true ∧ oI (far (gN g) z j) = nI d := ⟨z, Nat.zero_le _, by omega, z2, by rw [z3]; rfl⟩
    obtain ⟨y1, y2, y3⟩ := nxF_of 6 0 hx
    have en : nxF (gN g) c j (nI d) 6 0 = nxt (gN g) c j := by unfold nxt; rw [ev]
    rw [en] at y1 y2 y3
    have hfar := oI_inj y2 (by omega) (fun m hm9 => (far_some hm9).1)
    refine zV.iload C dX10_routeAt_51 rfl ?_
    refine zV.iload_n C dX10_routeAt_53 rfl ?_
    refine zV.icmp_ge (tgt := 106) C dX10_routeAt_54 (by decide) (fun q54 => ?_) (fun q54 => ?_)
    · exact absurd (nle (by omega) (by omega) q54) (by omega)
    · refine zV.ic (v := nI 0) C dX10_routeAt_57 (by decide) ?_
      refine zV.istore (lo' := [(0, _), (1, _), (2, _), (3, _), (4, _), (5, _), (6, _)]) C dX10_routeAt_58 (by decide) rfl rfl rfl ?_
      refine L_qrouteI (d := d) hzs hst C G rfl hc hj hm hg hR hb he ?_ 6 0 rfl en ⟨z, Nat.zero_le _, z1, z2, by rw [z3]; rfl⟩
      refine zV.iload C dX10_routeAt_96 rfl ?_
      refine zV.istore (lo' := [(0, _), (1, _), (2, _), (3, _), (4, _), (5, _), (6, _)]) C dX10_routeAt_98 (by decide) rfl rfl rfl ?_
      refine zV.iinc (lo' := [(0, _), (1, _), (2, _), (3, _), (4, _), (5, _), (6, _)]) C dX10_routeAt_100 rfl (by decide) rfl rfl rfl ?_
      refine zV.goto (tgt := 51) C dX10_routeAt_103 (by decide) ?_
      rw [inc1]
      exact zV.sub [0, 1, 2, 3, 4, 5] rfl (ih (k + 1) (nxt (gN g) c j) d (by omega) y3 hfar (by omega) hq)
theorem rt_in {nb : Nat → Nat} {i j : Nat} {p : Int32} : (inB p (nI 0) (oI (far nb i j)) = true ∧ ∃ N e, p = nI N ∧ far nb i j = some e ∧ N ≤ e ∧ e < 6 ∧ rtA nb i j p = .inr (.int (nI (rtF nb j N i)))) ∨ (inB p (nI 0) (oI (far nb i j)) = false ∧ rtA nb i j p = .inl NSE) := by
  by_cases h1 : p < 0
  · refine Or.inr ⟨?_, if_pos (Or.inl h1)⟩
    unfold inB
    rw [decide_eq_false (p := nI 0 ≤ p) (Int32.not_le.mpr h1)]; rfl
  · by_cases h2 : oI (far nb i j) < p
    · refine Or.inr ⟨?_, if_pos (Or.inr h2)⟩
      unfold inB
      rw [decide_eq_false (p := p ≤ oI (far nb i j)) (Int32.not_le.mpr h2), Bool.and_false]
    · have h3 := Int32.not_lt.mp h2
      obtain ⟨N, hN, rfl⟩ := rt_p h1 h3
      rcases e : far nb i j with _ | d
      · rw [e] at h3
        exact absurd (Int32.lt_of_le_of_lt (show nI N ≤ -1 from h3) (by decide)) h1
      · have d5 := (far_some e).1
        rw [e] at h3
        refine Or.inl ⟨?_, N, d, rfl, rfl, nle (by omega) (by omega) h3, d5, ?_⟩
        · unfold inB
          rw [decide_eq_true (p := nI 0 ≤ nI N) (Int32.not_lt.mp h1), decide_eq_true (p := nI N ≤ oI (some d)) h3]; rfl
        · unfold rtA
          rw [if_neg (by rw [e]; intro z; rcases z with z | z; exact h1 z; exact Int32.not_le.mpr z h3), nI_cl (by omega)]
set_option maxHeartbeats 4000000 in
set_option maxRecDepth 100000 in
theorem s_qrouteAt {l : Launch} {E : zG} (hzs : zS E) (hst : l.stackTraces = false) (h : zH) (r m : Nat) (g : zGd) (hm : zMs h r) (hg : rG (aI h (r + 1)) g) (hR : gR m g) (hb : m + 3000 ≤ big) (x y p : Int32) : zMet l E yX10_routeAt cX10_routeAt 7 (some .int) ({ frames := 2, cells := 0, slots := 0, locals := 48 } : Room) 0 0 [.ref r, .int x, .int y, .int p] h (mqQ h r (lawA x (fun i => lawA y (fun j => rtA (gN g) i j p))) c12 (.int (nI 0))) (fun _ _ => False) := by
  refine zM_start hzs hst (by decide) (Nat.le_of_ble_eq_true rfl) (fun X C G F I => ?_)
  show zV X 0 0 _ 0 [(0, _), (1, _), (2, _), (3, _)] []
  obtain ⟨cs, hp, hsrt, hf⟩ := hg
  have hw := rG_W hR (by omega) hp
  have hN := hR.2.1
  have hls := hf.2.2.1
  rcases e1 : ln x with _ | i
  · refine zV.aload_n C dX10_routeAt_0 rfl rfl ?_
    refine zV.ic (v := nI 0) C dX10_routeAt_1 (by decide) ?_
    refine zV.pI 435 (k := 19) C dX10_routeAt_2 zcl_X10 (by decide) rfl lk_X10_39 rfl hm.1 rfl ⟨rfl, rfl⟩ ?_
    refine zV.iload_n C dX10_routeAt_5 rfl ?_
    refine zV.callS (n := 1) C G dX10_routeAt_6 (s_misLawn hzs hst (sI h 435 r (nI 0)) x) rfl ⟨cd_X10_isLawn, lk_X10_85, st_X10_isLawn, in_X10⟩ ⟨⟨by decide, by decide⟩, by decide⟩ rfl rfl rfl (zaf ?_) (zno)
    rw [e1]
    show zV X _ _ (sI h 435 r (nI 0)) 9 _ (.int (nI 0) :: _)
    refine zV.if_eq (tgt := 19) C dX10_routeAt_9 (by decide) (fun q9 => ?_) (fun q9 => ?_)
    · refine zV.aload_n C dX10_routeAt_19 rfl rfl ?_
      refine zV.ic (v := nI 1) C dX10_routeAt_20 (by decide) ?_
      refine zV.callV (n := 1) C G dX10_routeAt_21 (s_mraises hzs hst (sI h 435 r (nI 0)) r hm (nI 1)) rfl ⟨cd_X10_raises, lk_X10_54, im_X10_raises, se_X10_X10_raises, in_X10⟩ ⟨⟨by decide, by decide⟩, by decide⟩ rfl rfl rfl (hm.1) ⟨rfl, by decide⟩ (zaf ?_) (zno)
      refine zV.iret C F dX10_routeAt_24 rfl ?_
      exact mq_y (lawA_n e1) c12_1
    · exact absurd rfl q9
  · obtain ⟨hi, rfl⟩ := ln_some e1
    rcases e2 : ln y with _ | j
    · refine zV.aload_n C dX10_routeAt_0 rfl rfl ?_
      refine zV.ic (v := nI 0) C dX10_routeAt_1 (by decide) ?_
      refine zV.pI 435 (k := 19) C dX10_routeAt_2 zcl_X10 (by decide) rfl lk_X10_39 rfl hm.1 rfl ⟨rfl, rfl⟩ ?_
      refine zV.iload_n C dX10_routeAt_5 rfl ?_
      refine zV.callS (n := 1) C G dX10_routeAt_6 (s_misLawn hzs hst (sI h 435 r (nI 0)) (nI i)) rfl ⟨cd_X10_isLawn, lk_X10_85, st_X10_isLawn, in_X10⟩ ⟨⟨by decide, by decide⟩, by decide⟩ rfl rfl rfl (zaf ?_) (zno)
      rw [e1]
      show zV X _ _ (sI h 435 r (nI 0)) 9 _ (.int (nI 1) :: _)
      refine zV.if_eq (tgt := 19) C dX10_routeAt_9 (by decide) (fun q9 => ?_) (fun q9 => ?_)
      · exact absurd q9 (by decide)
      · refine zV.iload_n C dX10_routeAt_12 rfl ?_
        refine zV.callS (n := 1) C G dX10_routeAt_13 (s_misLawn hzs hst (sI h 435 r (nI 0)) y) rfl ⟨cd_X10_isLawn, lk_X10_85, st_X10_isLawn, in_X10⟩ ⟨⟨by decide, by decide⟩, by decide⟩ rfl rfl rfl (zaf ?_) (zno)
        rw [e2]
        show zV X _ _ (sI h 435 r (nI 0)) 16 _ (.int (nI 0) :: _)
        refine zV.if_ne (tgt := 25) C dX10_routeAt_16 (by decide) (fun q16 => ?_) (fun q16 => ?_)
        · exact absurd rfl q16
        · refine zV.aload_n C dX10_routeAt_19 rfl rfl ?_
          refine zV.ic (v := nI 1) C dX10_routeAt_20 (by decide) ?_
          refine zV.callV (n := 1) C G dX10_routeAt_21 (s_mraises hzs hst (sI h 435 r (nI 0)) r hm (nI 1)) rfl ⟨cd_X10_raises, lk_X10_54, im_X10_raises, se_X10_X10_raises, in_X10⟩ ⟨⟨by decide, by decide⟩, by decide⟩ rfl rfl rfl (hm.1) ⟨rfl, by decide⟩ (zaf ?_) (zno)
          refine zV.iret C F dX10_routeAt_24 rfl ?_
          exact mq_y ((lawA_s e1).trans (lawA_n e2)) c12_1
    · obtain ⟨hj, rfl⟩ := ln_some e2
      rcases rt_in (nb := gN g) (i := i) (j := j) (p := p) with ⟨e3, N, e, ep, e4, hNe, he6, e5⟩ | ⟨e3, e5⟩
      · refine zV.aload_n C dX10_routeAt_0 rfl rfl ?_
        refine zV.ic (v := nI 0) C dX10_routeAt_1 (by decide) ?_
        refine zV.pI 435 (k := 19) C dX10_routeAt_2 zcl_X10 (by decide) rfl lk_X10_39 rfl hm.1 rfl ⟨rfl, rfl⟩ ?_
        refine zV.iload_n C dX10_routeAt_5 rfl ?_
        refine zV.callS (n := 1) C G dX10_routeAt_6 (s_misLawn hzs hst (sI h 435 r (nI 0)) (nI i)) rfl ⟨cd_X10_isLawn, lk_X10_85, st_X10_isLawn, in_X10⟩ ⟨⟨by decide, by decide⟩, by decide⟩ rfl rfl rfl (zaf ?_) (zno)
        rw [e1]
        show zV X _ _ (sI h 435 r (nI 0)) 9 _ (.int (nI 1) :: _)
        refine zV.if_eq (tgt := 19) C dX10_routeAt_9 (by decide) (fun q9 => ?_) (fun q9 => ?_)
        · exact absurd q9 (by decide)
        · refine zV.iload_n C dX10_routeAt_12 rfl ?_
          refine zV.callS (n := 1) C G dX10_routeAt_13 (s_misLawn hzs hst (sI h 435 r (nI 0)) (nI j)) rfl ⟨cd_X10_isLawn, lk_X10_85, st_X10_isLawn, in_X10⟩ ⟨⟨by decide, by decide⟩, by decide⟩ rfl rfl rfl (zaf ?_) (zno)
          rw [e2]
          show zV X _ _ (sI h 435 r (nI 0)) 16 _ (.int (nI 1) :: _)
          refine zV.if_ne (tgt := 25) C dX10_routeAt_16 (by decide) (fun q16 => ?_) (fun q16 => ?_)
          · refine zV.iload_n C dX10_routeAt_25 rfl ?_
            refine zV.ic (v := nI 0) C dX10_routeAt_26 (by decide) ?_
            refine zV.aload_n C dX10_routeAt_27 rfl rfl ?_
            refine zV.iload_n C dX10_routeAt_28 rfl ?_
            refine zV.iload_n C dX10_routeAt_29 rfl ?_
            refine zV.callV (n := 2) C G dX10_routeAt_30 (s_mfar hzs hst (sI h 435 r (nI 0)) r g hm hls hN i j hi hj) rfl ⟨cd_X10_far, lk_X10_113, im_X10_far, se_X10_X10_far, in_X10⟩ ⟨⟨by decide, by decide⟩, by decide⟩ rfl rfl rfl (hm.1) ⟨rfl, by decide⟩ (zaf ?_) (zno)
            refine zV.callS (n := 3) C G dX10_routeAt_33 (s_min hzs hst (sI h 435 r (nI 0)) p (nI 0) (oI (far (gN g) i j))) rfl ⟨cd_X10_in, lk_X10_61, st_X10_in, in_X10⟩ ⟨⟨by decide, by decide⟩, by decide⟩ rfl rfl rfl (zaf ?_) (zno)
            rw [e3]
            show zV X _ _ _ 36 _ (.int (nI 1) :: _)
            refine zV.if_ne (tgt := 45) C dX10_routeAt_36 (by decide) (fun q36 => ?_) (fun q36 => ?_)
            · refine zV.iload_n C dX10_routeAt_45 rfl ?_
              refine zV.istore (lo' := [(0, _), (1, _), (2, _), (3, _), (4, _)]) C dX10_routeAt_46 (by decide) rfl rfl rfl ?_
              refine zV.ic (v := nI 0) C dX10_routeAt_48 (by decide) ?_
              refine zV.istore (lo' := [(0, _), (1, _), (2, _), (3, _), (4, _), (5, _)]) C dX10_routeAt_49 (by decide) rfl rfl rfl ?_
              subst ep
              exact L_qroute (h := sI h 435 r (nI 0)) hzs hst C G rfl F (by omega) hj hm ⟨cs, hp, hsrt, hf⟩ hR hb N 0 i e (Nat.zero_add _) hi e4 hNe (mq_r ((lawA_s e1).trans ((lawA_s e2).trans e5)))
            · exact absurd q36 (by decide)
          · exact absurd q16 (by decide)
      · refine zV.aload_n C dX10_routeAt_0 rfl rfl ?_
        refine zV.ic (v := nI 0) C dX10_routeAt_1 (by decide) ?_
        refine zV.pI 435 (k := 19) C dX10_routeAt_2 zcl_X10 (by decide) rfl lk_X10_39 rfl hm.1 rfl ⟨rfl, rfl⟩ ?_
        refine zV.iload_n C dX10_routeAt_5 rfl ?_
        refine zV.callS (n := 1) C G dX10_routeAt_6 (s_misLawn hzs hst (sI h 435 r (nI 0)) (nI i)) rfl ⟨cd_X10_isLawn, lk_X10_85, st_X10_isLawn, in_X10⟩ ⟨⟨by decide, by decide⟩, by decide⟩ rfl rfl rfl (zaf ?_) (zno)
        rw [e1]
        show zV X _ _ (sI h 435 r (nI 0)) 9 _ (.int (nI 1) :: _)
        refine zV.if_eq (tgt := 19) C dX10_routeAt_9 (by decide) (fun q9 => ?_) (fun q9 => ?_)
        · exact absurd q9 (by decide)
        · refine zV.iload_n C dX10_routeAt_12 rfl ?_
          refine zV.callS (n := 1) C G dX10_routeAt_13 (s_misLawn hzs hst (sI h 435 r (nI 0)) (nI j)) rfl ⟨cd_X10_isLawn, lk_X10_85, st_X10_isLawn, in_X10⟩ ⟨⟨by decide, by decide⟩, by decide⟩ rfl rfl rfl (zaf ?_) (zno)
          rw [e2]
          show zV X _ _ (sI h 435 r (nI 0)) 16 _ (.int (nI 1) :: _)
          refine zV.if_ne (tgt := 25) C dX10_routeAt_16 (by decide) (fun q16 => ?_) (fun q16 => ?_)
          · refine zV.iload_n C dX10_routeAt_25 rfl ?_
            refine zV.ic (v := nI 0) C dX10_routeAt_26 (by decide) ?_
            refine zV.aload_n C dX10_routeAt_27 rfl rfl ?_
            refine zV.iload_n C dX10_routeAt_28 rfl ?_
            refine zV.iload_n C dX10_routeAt_29 rfl ?_
            refine zV.callV (n := 2) C G dX10_routeAt_30 (s_mfar hzs hst (sI h 435 r (nI 0)) r g hm hls hN i j hi hj) rfl ⟨cd_X10_far, lk_X10_113, im_X10_far, se_X10_X10_far, in_X10⟩ ⟨⟨by decide, by decide⟩, by decide⟩ rfl rfl rfl (hm.1) ⟨rfl, by decide⟩ (zaf ?_) (zno)
            refine zV.callS (n := 3) C G dX10_routeAt_33 (s_min hzs hst (sI h 435 r (nI 0)) p (nI 0) (oI (far (gN g) i j))) rfl ⟨cd_X10_in, lk_X10_61, st_X10_in, in_X10⟩ ⟨⟨by decide, by decide⟩, by decide⟩ rfl rfl rfl (zaf ?_) (zno)
            rw [e3]
            show zV X _ _ _ 36 _ (.int (nI 0) :: _)
            refine zV.if_ne (tgt := 45) C dX10_routeAt_36 (by decide) (fun q36 => ?_) (fun q36 => ?_)
            · exact absurd rfl q36
            · refine zV.aload_n C dX10_routeAt_39 rfl rfl ?_
              refine zV.ic (v := nI 2) C dX10_routeAt_40 (by decide) ?_
              refine zV.callV (n := 1) C G dX10_routeAt_41 (s_mraises hzs hst (sI h 435 r (nI 0)) r hm (nI 2)) rfl ⟨cd_X10_raises, lk_X10_54, im_X10_raises, se_X10_X10_raises, in_X10⟩ ⟨⟨by decide, by decide⟩, by decide⟩ rfl rfl rfl (hm.1) ⟨rfl, by decide⟩ (zaf ?_) (zno)
              refine zV.iret C F dX10_routeAt_44 rfl ?_
              exact mq_y ((lawA_s e1).trans ((lawA_s e2).trans e5)) c12_n
          · exact absurd q16 (by decide)
