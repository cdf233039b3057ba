/-! the reference: seasons, means, orders of the lawns -/
set_option maxHeartbeats 4000000 in
set_option maxRecDepth 100000 in
theorem s_qseason {l : Launch} {E : zG} (hzs : zS E) (hst : l.stackTraces = false) (h : zH) (r m : Nat) (g : zGd) (hm : zMs h r) (hg : rG (aI h (r + 1)) g) (hR : gR m g) (hb : m + 3000 ≤ big) : zMet l E yX10_season cX10_season 1 (some .int) ({ frames := 0, cells := 0, slots := 0, locals := 0 } : Room) 0 0 [.ref r] h (fun v h' => v = some (.int (nI (gD g / 5 % 4))) ∧ h' = sI h 435 r (nI 0)) (fun _ _ => False) := by
  refine zM_start hzs hst (by decide) (Nat.le_of_ble_eq_true rfl) (fun X C G F I => ?_)
  show zV X 0 0 _ 0 [(0, _)] []
  obtain ⟨cs, hp, hsrt, hf⟩ := hg
  have hw := rG_W hR (by omega) hp
  have hN := hR.2.1
  have hls := hf.2.2.1
  refine zV.aload_n C dX10_season_0 rfl rfl ?_
  refine zV.ic (v := nI 0) C dX10_season_1 (by decide) ?_
  refine zV.pI 435 (k := 19) C dX10_season_2 zcl_X10 (by decide) rfl lk_X10_39 rfl hm.1 rfl ⟨rfl, rfl⟩ ?_
  refine zV.aload_n C dX10_season_5 rfl rfl ?_
  refine zV.gR 416 (k := 0) C dX10_season_6 zcl_X10 (by decide) rfl lk_X10_9 (hm.1) rfl (hm.2.1) ?_
  refine zV.ic (v := nI 2) C dX10_season_9 (by decide) ?_
  refine zV.ialdv (j := 2) C dX10_season_10 (hm.2.2.2.2.2.2.2.2.2.1.1) (rfl) (Nat.lt_of_lt_of_eq (show 2 < 116 by decide) (hm.2.2.2.2.2.2.2.2.2.1.2).symm) (by omega) (hf.2.2.2.2.1) ?_
  refine zV.ic (v := nI 5) C dX10_season_11 (by decide) ?_
  refine zV.idiv C dX10_season_12 (by decide) ?_
  rw [pk_div (by have := hR.1.2.2.2.2.1; have : (big : Nat) = 1000000000 := rfl; omega) (by decide) (by decide)]
  refine zV.ic (v := nI 4) C dX10_season_13 (by decide) ?_
  refine zV.irem C dX10_season_14 (by decide) ?_
  rw [pk_rem (by have := hR.1.2.2.2.2.1; have : (big : Nat) = 1000000000 := rfl; omega) (by decide) (by decide)]
  refine zV.iret C F dX10_season_15 rfl ?_
  exact ⟨rfl, rfl⟩
theorem inB_s4 {x : Int32} : inB x (nI 0) (nI 3) = (s4 x).isSome := by
  rcases h : s4 x with _ | j
  · rcases s4_none h with q | q
    · unfold inB
      rw [decide_eq_false (by exact Int32.not_le.mpr q)]; rfl
    · unfold inB
      rw [decide_eq_false (p := x ≤ nI 3) (fun z => by
        have := Int32.le_trans (Int32.not_lt.mp q) z
        exact absurd this (by decide)), Bool.and_false]; rfl
  · obtain ⟨hj, rfl⟩ := s4_some h
    exact (show ∀ j, j < 4 → inB (nI j) (nI 0) (nI 3) = true by decide) j hj
theorem du_3a : ∀ i, i < 4 → ∀ s, s < 4 → ∀ r, r < 5 → ∀ n, n < 21 → (n < duN i s r → (s + (r + n) / 5) % 4 ≠ i) := by decide +kernel
theorem du_3b : ∀ i, i < 4 → ∀ s, s < 4 → ∀ r, r < 5 → (s + (r + duN i s r) / 5) % 4 = i := by decide +kernel
theorem du_3c : ∀ i, i < 4 → ∀ s, s < 4 → ∀ r, r < 5 → duN i s r < 20 := by decide +kernel
theorem du_3 (i : Nat) (hi : i < 4) (s : Nat) (hs : s < 4) (r : Nat) (hr : r < 5) (n : Nat) (hn : n < 21) : ((n < duN i s r → (s + (r + n) / 5) % 4 ≠ i) ∧ (n = duN i s r → (s + (r + n) / 5) % 4 = i)) ∧ duN i s r < 20 := ⟨⟨du_3a i hi s hs r hr n hn, fun e => by rw [e]; exact du_3b i hi s hs r hr⟩, du_3c i hi s hs r hr⟩
theorem dv_4 (D n : Nat) : (D + n) / 5 % 4 = (D / 5 % 4 + (D % 5 + n) / 5) % 4 := by omega
set_option maxHeartbeats 4000000 in
set_option maxRecDepth 100000 in
theorem s_qduE {X : zX} {l : Launch} {E : zG} {rm : Room} (hzs : zS E) (hst : l.stackTraces = false) (C : zC X cX10_daysUntil RX10 3) (G : zGX X l E rm) {h : zH} {r D i k : Nat} {Qr : Option Value → zH → Prop} {Qx : String → zH → Prop} (F : zF X (some .int) 0 0 Qr Qx) (hm : zMs h r) (hv : aI h (r + 1) 2 = nI D) (hD : D < 1000000000) (hk : k < 20) (he : (D + k) / 5 % 4 = i) (kq : Qr (some (.int (nI k))) h) : zV X 0 0 h 29 [(0, .ref r), (1, .int (nI i)), (2, .int (nI k))] [] := by
  
  refine zV.aload_n C dX10_daysUntil_29 rfl rfl ?_
  refine zV.gR 416 (k := 0) C dX10_daysUntil_30 zcl_X10 (by decide) rfl lk_X10_9 (hm.1) rfl (hm.2.1) ?_
  refine zV.ic (v := nI 2) C dX10_daysUntil_33 (by decide) ?_
  refine zV.ialdv (j := 2) C dX10_daysUntil_34 (hm.2.2.2.2.2.2.2.2.2.1.1) (rfl) (Nat.lt_of_lt_of_eq (show 2 < 116 by decide) (hm.2.2.2.2.2.2.2.2.2.1.2).symm) (by omega) (hv) ?_
  refine zV.iload_n C dX10_daysUntil_35 rfl ?_
  refine zV.iadd C dX10_daysUntil_36 ?_
  rw [nI_add]
  refine zV.ic (v := nI 5) C dX10_daysUntil_37 (by decide) ?_
  refine zV.idiv C dX10_daysUntil_38 (by decide) ?_
  rw [pk_div (by omega) (by decide) (by decide)]
  refine zV.ic (v := nI 4) C dX10_daysUntil_39 (by decide) ?_
  refine zV.irem C dX10_daysUntil_40 (by decide) ?_
  rw [pk_rem (by omega) (by decide) (by decide)]
  refine zV.iload_n C dX10_daysUntil_41 rfl ?_
  refine zV.icmp_eq (tgt := 51) C dX10_daysUntil_42 (by decide) (fun q42 => ?_) (fun q42 => ?_)
  · refine zV.iload_n C dX10_daysUntil_51 rfl ?_
    refine zV.iret C F dX10_daysUntil_52 rfl ?_
    exact kq
  · exact absurd (congrArg nI he) q42
set_option maxHeartbeats 4000000 in
set_option maxRecDepth 100000 in
theorem L_qdaysUntil {X : zX} {l : Launch} {E : zG} {rm : Room} (hzs : zS E) (hst : l.stackTraces = false) (C : zC X cX10_daysUntil RX10 3) (G : zGX X l E rm) {h : zH} {r D i : Nat} {Qr : Option Value → zH → Prop} {Qx : String → zH → Prop} (F : zF X (some .int) 0 0 Qr Qx) (hm : zMs h r) (hv : aI h (r + 1) 2 = nI D) (hD : D < 1000000000) (hi : i < 4) (kq : Qr (some (.int (nI (duN i (D / 5 % 4) (D % 5))))) h) : ∀ n k, k + n = duN i (D / 5 % 4) (D % 5) → zV X 0 0 h 29 [(0, .ref r), (1, .int (nI i)), (2, .int (nI k))] [] := by
  have s4_ : D / 5 % 4 < 4 := Nat.mod_lt _ (by decide)
  have r5_ : D % 5 < 5 := Nat.mod_lt _ (by decide)
  have hd20 := (du_3 i hi _ s4_ _ r5_ 0 (by decide)).2
  intro n
  induction n with
  | zero =>
    intro k hk
    exact s_qduE hzs hst C G F hm hv hD (by omega) (by rw [dv_4]; exact (du_3 i hi _ s4_ _ r5_ k (by omega)).1.2 (by omega)) (by rw [show k = _ from hk]; exact kq)
  | succ n ih =>
    intro k hk
    have hne : (D + k) / 5 % 4 ≠ i := by rw [dv_4]; exact (du_3 i hi _ s4_ _ r5_ k (by omega)).1.1 (by omega)
    refine zV.aload_n C dX10_daysUntil_29 rfl rfl ?_
    refine zV.gR 416 (k := 0) C dX10_daysUntil_30 zcl_X10 (by decide) rfl lk_X10_9 (hm.1) rfl (hm.2.1) ?_
    refine zV.ic (v := nI 2) C dX10_daysUntil_33 (by decide) ?_
    refine zV.ialdv (j := 2) C dX10_daysUntil_34 (hm.2.2.2.2.2.2.2.2.2.1.1) (rfl) (Nat.lt_of_lt_of_eq (show 2 < 116 by decide) (hm.2.2.2.2.2.2.2.2.2.1.2).symm) (by omega) (hv) ?_
    refine zV.iload_n C dX10_daysUntil_35 rfl ?_
    refine zV.iadd C dX10_daysUntil_36 ?_
    rw [nI_add]
    refine zV.ic (v := nI 5) C dX10_daysUntil_37 (by decide) ?_
    refine zV.idiv C dX10_daysUntil_38 (by decide) ?_
    rw [pk_div (by omega) (by decide) (by decide)]
    refine zV.ic (v := nI 4) C dX10_daysUntil_39 (by decide) ?_
    refine zV.irem C dX10_daysUntil_40 (by decide) ?_
    rw [pk_rem (by omega) (by decide) (by decide)]
    refine zV.iload_n C dX10_daysUntil_41 rfl ?_
    refine zV.icmp_eq (tgt := 51) C dX10_daysUntil_42 (by decide) (fun q42 => ?_) (fun q42 => ?_)
    · exact absurd (neq (by omega) (by omega) q42) hne
    · refine zV.iinc (lo' := [(0, _), (1, _), (2, _)]) C dX10_daysUntil_45 rfl (by decide) rfl rfl rfl ?_
      refine zV.goto (tgt := 29) C dX10_daysUntil_48 (by decide) ?_
      rw [inc1]
      exact ih (k + 1) (by omega)
set_option maxHeartbeats 4000000 in
set_option maxRecDepth 100000 in
theorem s_qdaysUntil {l : Launch} {E : zG} (hzs : zS E) (hst : l.stackTraces = false) (h : zH) (r m : Nat) (g : zGd) (hm : zMs h r) (hg : rG (aI h (r + 1)) g) (hR : gR m g) (hb : m + 3000 ≤ big) (x : Int32) : zMet l E yX10_daysUntil cX10_daysUntil 3 (some .int) ({ frames := 1, cells := 0, slots := 0, locals := 22 } : Room) 0 0 [.ref r, .int x] h (mqQ h r (duA g x) c1 (.int (nI 0))) (fun _ _ => False) := by
  refine zM_start hzs hst (by decide) (Nat.le_of_ble_eq_true rfl) (fun X C G F I => ?_)
  show zV X 0 0 _ 0 [(0, _), (1, _)] []
  obtain ⟨cs, hp, hsrt, hf⟩ := hg
  have hw := rG_W hR (by omega) hp
  have hN := hR.2.1
  have hls := hf.2.2.1
  rcases e1 : s4 x with _ | i
  · refine zV.aload_n C dX10_daysUntil_0 rfl rfl ?_
    refine zV.iload_n C dX10_daysUntil_1 rfl ?_
    refine zV.ic (v := nI 0) C dX10_daysUntil_2 (by decide) ?_
    refine zV.ic (v := nI 3) C dX10_daysUntil_3 (by decide) ?_
    refine zV.callS (n := 3) C G dX10_daysUntil_4 (s_min hzs hst h x (nI 0) (nI 3)) rfl ⟨cd_X10_in, lk_X10_61, st_X10_in, in_X10⟩ ⟨⟨by decide, by decide⟩, by decide⟩ rfl rfl rfl (zaf ?_) (zno)
    rw [inB_s4, e1]
    show zV X _ _ _ 7 _ (.int (nI 0) :: _)
    refine zV.if_eq (tgt := 14) C dX10_daysUntil_7 (by decide) (fun q7 => ?_) (fun q7 => ?_)
    · refine zV.ic (v := nI 1) C dX10_daysUntil_14 (by decide) ?_
      refine zV.pI 435 (k := 19) C dX10_daysUntil_15 zcl_X10 (by decide) rfl lk_X10_39 rfl hm.1 rfl ⟨rfl, rfl⟩ ?_
      refine zV.aload_n C dX10_daysUntil_18 rfl rfl ?_
      refine zV.gIv 435 (k := 19) C dX10_daysUntil_19 zcl_X10 (by decide) rfl lk_X10_39 hm.1 rfl (hI_sI) ?_
      refine zV.if_le (tgt := 27) C dX10_daysUntil_22 (by decide) (fun q22 => ?_) (fun q22 => ?_)
      · exact absurd q22 (by decide)
      · refine zV.ic (v := nI 0) C dX10_daysUntil_25 (by decide) ?_
        refine zV.iret C F dX10_daysUntil_26 rfl ?_
        exact mq_x (du_n e1) rfl
    · exact absurd rfl q7
  · refine zV.aload_n C dX10_daysUntil_0 rfl rfl ?_
    refine zV.iload_n C dX10_daysUntil_1 rfl ?_
    refine zV.ic (v := nI 0) C dX10_daysUntil_2 (by decide) ?_
    refine zV.ic (v := nI 3) C dX10_daysUntil_3 (by decide) ?_
    refine zV.callS (n := 3) C G dX10_daysUntil_4 (s_min hzs hst h x (nI 0) (nI 3)) rfl ⟨cd_X10_in, lk_X10_61, st_X10_in, in_X10⟩ ⟨⟨by decide, by decide⟩, by decide⟩ rfl rfl rfl (zaf ?_) (zno)
    rw [inB_s4, e1]
    show zV X _ _ _ 7 _ (.int (nI 1) :: _)
    refine zV.if_eq (tgt := 14) C dX10_daysUntil_7 (by decide) (fun q7 => ?_) (fun q7 => ?_)
    · exact absurd q7 (by decide)
    · refine zV.ic (v := nI 0) C dX10_daysUntil_10 (by decide) ?_
      refine zV.goto (tgt := 15) C dX10_daysUntil_11 (by decide) ?_
      refine zV.pI 435 (k := 19) C dX10_daysUntil_15 zcl_X10 (by decide) rfl lk_X10_39 rfl hm.1 rfl ⟨rfl, rfl⟩ ?_
      refine zV.aload_n C dX10_daysUntil_18 rfl rfl ?_
      refine zV.gIv 435 (k := 19) C dX10_daysUntil_19 zcl_X10 (by decide) rfl lk_X10_39 hm.1 rfl (hI_sI) ?_
      refine zV.if_le (tgt := 27) C dX10_daysUntil_22 (by decide) (fun q22 => ?_) (fun q22 => ?_)
      · refine zV.ic (v := nI 0) C dX10_daysUntil_27 (by decide) ?_
        refine zV.istore_n (lo' := [(0, _), (1, _), (2, _)]) C dX10_daysUntil_28 (by decide) rfl rfl rfl ?_
        obtain ⟨hi, rfl⟩ := s4_some e1
        exact L_qdaysUntil hzs hst C G F hm (h := sI h 435 r (nI 0)) hf.2.2.2.2.1 (by have := hR.1.2.2.2.2.1; have : (big : Nat) = 1000000000 := rfl; omega) hi (mq_r (du_s e1)) _ 0 (Nat.zero_add _)
      · exact absurd (by decide) q22
set_option maxHeartbeats 4000000 in
set_option maxRecDepth 100000 in
theorem s_qmeanRust {l : Launch} {E : zG} (hzs : zS E) (hst : l.stackTraces = false) (h : zH) (r m : Nat) (g : zGd) (hm : zMs h r) (hg : rG (aI h (r + 1)) g) (hR : gR m g) (hb : m + 3000 ≤ big) : zMet l E yX10_meanRust cX10_meanRust 1 (some .double) ({ frames := 2, cells := 0, slots := 0, locals := 44 } : Room) 0 0 [.ref r] h (mqQ h r (mrA g) c1 (.double (FP.i2d (nI 0)))) (fun _ _ => False) := by
  refine zM_start hzs hst (by decide) (Nat.le_of_ble_eq_true rfl) (fun X C G F I => ?_)
  show zV X 0 0 _ 0 [(0, _)] []
  obtain ⟨cs, hp, hsrt, hf⟩ := hg
  have hw := rG_W hR (by omega) hp
  have hN := hR.2.1
  have hls := hf.2.2.1
  have hgw := gQ_W hR.1 (by omega : m ≤ big)
  refine zV.aload_n C dX10_meanRust_0 rfl rfl ?_
  refine zV.ic (v := nI 0) C dX10_meanRust_1 (by decide) ?_
  refine zV.pI 435 (k := 19) C dX10_meanRust_2 zcl_X10 (by decide) rfl lk_X10_39 rfl hm.1 rfl ⟨rfl, rfl⟩ ?_
  refine zV.aload_n C dX10_meanRust_5 rfl rfl ?_
  refine zV.gR 416 (k := 0) C dX10_meanRust_6 zcl_X10 (by decide) rfl lk_X10_9 (hm.1) rfl (hm.2.1) ?_
  refine zV.ic (v := nI 0) C dX10_meanRust_9 (by decide) ?_
  refine zV.ialdv (j := 0) C dX10_meanRust_10 (hm.2.2.2.2.2.2.2.2.2.1.1) (rfl) (Nat.lt_of_lt_of_eq (show 0 < 116 by decide) (hm.2.2.2.2.2.2.2.2.2.1.2).symm) (by omega) ((hf.1.1.trans (by rw [hp.length_eq]) : aI h (r + 1) 0 = nI (gC g).length)) ?_
  refine zV.if_ne (tgt := 23) C dX10_meanRust_11 (by decide) (fun q11 => ?_) (fun q11 => ?_)
  · have e9 : gC g ≠ [] := fun z => q11 (by rw [z]; rfl)
    refine zV.aload_n C dX10_meanRust_23 rfl rfl ?_
    refine zV.callV (n := 0) C G dX10_meanRust_24 (s_mrusts hzs hst (sI h 435 r (nI 0)) r g cs (hrd (gC g)) hm hf hw) rfl ⟨cd_X10_rusts, lk_X10_194, im_X10_rusts, se_X10_X10_rusts, in_X10⟩ ⟨⟨by decide, by decide⟩, by decide⟩ rfl rfl rfl (hm.1) ⟨rfl, by decide⟩ (zaf ?_) (zno)
    rw [rsum_p hp]
    refine zV.i2d C dX10_meanRust_27 ?_
    refine zV.aload_n C dX10_meanRust_28 rfl rfl ?_
    refine zV.gR 416 (k := 0) C dX10_meanRust_29 zcl_X10 (by decide) rfl lk_X10_9 (hm.1) rfl (hm.2.1) ?_
    refine zV.ic (v := nI 0) C dX10_meanRust_32 (by decide) ?_
    refine zV.ialdv (j := 0) C dX10_meanRust_33 (hm.2.2.2.2.2.2.2.2.2.1.1) (rfl) (Nat.lt_of_lt_of_eq (show 0 < 116 by decide) (hm.2.2.2.2.2.2.2.2.2.1.2).symm) (by omega) ((hf.1.1.trans (by rw [hp.length_eq]) : aI h (r + 1) 0 = nI (gC g).length)) ?_
    refine zV.i2d C dX10_meanRust_34 ?_
    refine zV.ddiv C dX10_meanRust_35 (vdd _ (Nat.lt_succ_of_le (gW_len hgw)) (len0 e9) _ (rsum_b hgw)) ?_
    refine zV.dret C F dX10_meanRust_36 rfl ?_
    first
      | exact mq_r (if_neg e9)
      | exact mq_y (if_pos e9) rfl
  · have e9 : gC g = [] := List.length_eq_zero_iff.mp ((n0 (by have := gW_len hgw; omega)).mp q11)
    refine zV.aload_n C dX10_meanRust_14 rfl rfl ?_
    refine zV.ic (v := nI 1) C dX10_meanRust_15 (by decide) ?_
    refine zV.callV (n := 1) C G dX10_meanRust_16 (s_mraises hzs hst (sI h 435 r (nI 0)) r hm (nI 1)) rfl ⟨cd_X10_raises, lk_X10_54, im_X10_raises, se_X10_X10_raises, in_X10⟩ ⟨⟨by decide, by decide⟩, by decide⟩ rfl rfl rfl (hm.1) ⟨rfl, by decide⟩ (zaf ?_) (zno)
    refine zV.i2d C dX10_meanRust_19 ?_
    refine zV.goto (tgt := 36) C dX10_meanRust_20 (by decide) ?_
    refine zV.dret C F dX10_meanRust_36 rfl ?_
    first
      | exact mq_r (if_neg e9)
      | exact mq_y (if_pos e9) rfl
set_option maxHeartbeats 4000000 in
set_option maxRecDepth 100000 in
theorem s_qfoldedShare {l : Launch} {E : zG} (hzs : zS E) (hst : l.stackTraces = false) (h : zH) (r m : Nat) (g : zGd) (hm : zMs h r) (hg : rG (aI h (r + 1)) g) (hR : gR m g) (hb : m + 3000 ≤ big) : zMet l E yX10_foldedShare cX10_foldedShare 1 (some .float) ({ frames := 2, cells := 0, slots := 0, locals := 44 } : Room) 0 0 [.ref r] h (mqQ h r (fsA g) c1 (.float (FP.i2f (nI 0)))) (fun _ _ => False) := by
  refine zM_start hzs hst (by decide) (Nat.le_of_ble_eq_true rfl) (fun X C G F I => ?_)
  show zV X 0 0 _ 0 [(0, _)] []
  obtain ⟨cs, hp, hsrt, hf⟩ := hg
  have hw := rG_W hR (by omega) hp
  have hN := hR.2.1
  have hls := hf.2.2.1
  have hgw := gQ_W hR.1 (by omega : m ≤ big)
  refine zV.aload_n C dX10_foldedShare_0 rfl rfl ?_
  refine zV.ic (v := nI 0) C dX10_foldedShare_1 (by decide) ?_
  refine zV.pI 435 (k := 19) C dX10_foldedShare_2 zcl_X10 (by decide) rfl lk_X10_39 rfl hm.1 rfl ⟨rfl, rfl⟩ ?_
  refine zV.aload_n C dX10_foldedShare_5 rfl rfl ?_
  refine zV.gR 416 (k := 0) C dX10_foldedShare_6 zcl_X10 (by decide) rfl lk_X10_9 (hm.1) rfl (hm.2.1) ?_
  refine zV.ic (v := nI 0) C dX10_foldedShare_9 (by decide) ?_
  refine zV.ialdv (j := 0) C dX10_foldedShare_10 (hm.2.2.2.2.2.2.2.2.2.1.1) (rfl) (Nat.lt_of_lt_of_eq (show 0 < 116 by decide) (hm.2.2.2.2.2.2.2.2.2.1.2).symm) (by omega) ((hf.1.1.trans (by rw [hp.length_eq]) : aI h (r + 1) 0 = nI (gC g).length)) ?_
  refine zV.if_ne (tgt := 23) C dX10_foldedShare_11 (by decide) (fun q11 => ?_) (fun q11 => ?_)
  · have e9 : gC g ≠ [] := fun z => q11 (by rw [z]; rfl)
    refine zV.aload_n C dX10_foldedShare_23 rfl rfl ?_
    refine zV.callV (n := 0) C G dX10_foldedShare_24 (s_mfolded hzs hst (sI h 435 r (nI 0)) r g cs (hrd (gC g)) hm hf hw) rfl ⟨cd_X10_folded, lk_X10_138, im_X10_folded, se_X10_X10_folded, in_X10⟩ ⟨⟨by decide, by decide⟩, by decide⟩ rfl rfl rfl (hm.1) ⟨rfl, by decide⟩ (zaf ?_) (zno)
    rw [hp.countP_eq]
    refine zV.i2f C dX10_foldedShare_27 ?_
    refine zV.aload_n C dX10_foldedShare_28 rfl rfl ?_
    refine zV.gR 416 (k := 0) C dX10_foldedShare_29 zcl_X10 (by decide) rfl lk_X10_9 (hm.1) rfl (hm.2.1) ?_
    refine zV.ic (v := nI 0) C dX10_foldedShare_32 (by decide) ?_
    refine zV.ialdv (j := 0) C dX10_foldedShare_33 (hm.2.2.2.2.2.2.2.2.2.1.1) (rfl) (Nat.lt_of_lt_of_eq (show 0 < 116 by decide) (hm.2.2.2.2.2.2.2.2.2.1.2).symm) (by omega) ((hf.1.1.trans (by rw [hp.length_eq]) : aI h (r + 1) 0 = nI (gC g).length)) ?_
    refine zV.i2f C dX10_foldedShare_34 ?_
    refine zV.fdiv C dX10_foldedShare_35 (vfd _ (Nat.lt_succ_of_le (gW_len hgw)) (len0 e9) _ (by have := List.countP_le_length (p := chF) (l := gC g); have := gW_len hgw; omega)) ?_
    refine zV.fret C F dX10_foldedShare_36 rfl ?_
    first
      | exact mq_r (if_neg e9)
      | exact mq_y (if_pos e9) rfl
  · have e9 : gC g = [] := List.length_eq_zero_iff.mp ((n0 (by have := gW_len hgw; omega)).mp q11)
    refine zV.aload_n C dX10_foldedShare_14 rfl rfl ?_
    refine zV.ic (v := nI 1) C dX10_foldedShare_15 (by decide) ?_
    refine zV.callV (n := 1) C G dX10_foldedShare_16 (s_mraises hzs hst (sI h 435 r (nI 0)) r hm (nI 1)) rfl ⟨cd_X10_raises, lk_X10_54, im_X10_raises, se_X10_X10_raises, in_X10⟩ ⟨⟨by decide, by decide⟩, by decide⟩ rfl rfl rfl (hm.1) ⟨rfl, by decide⟩ (zaf ?_) (zno)
    refine zV.i2f C dX10_foldedShare_19 ?_
    refine zV.goto (tgt := 36) C dX10_foldedShare_20 (by decide) ?_
    refine zV.fret C F dX10_foldedShare_36 rfl ?_
    first
      | exact mq_r (if_neg e9)
      | exact mq_y (if_pos e9) rfl
theorem sub_eq0 {a b : Nat} (ha : a < 2 ^ 30) (hb : b < 2 ^ 30) : nI a - nI b = 0 ↔ a = b := by
  rw [← Int32.toInt_inj, pk_sub_toInt ha hb, Int32.toInt_zero]; omega
theorem sub_gt0 {a b : Nat} (ha : a < 2 ^ 30) (hb : b < 2 ^ 30) : 0 < nI a - nI b ↔ b < a := by
  rw [Int32.lt_iff_toInt_lt, pk_sub_toInt ha hb, Int32.toInt_zero]; omega
theorem bnF_s {g : zGd} {l n k : Nat} {o : Option Nat} : bnF g l (n + 1) k o = bnF g l n (k + 1) (if (gN g l).testBit k = true ∧ (match o with | none => true | some j => bet g k j) = true then some k else o) := rfl
theorem bet_ir (g : zGd) (i : Nat) : bet g i i = false := by unfold bet; simp
set_option maxHeartbeats 4000000 in
set_option maxRecDepth 100000 in
theorem s_qisShadier {l : Launch} {E : zG} (hzs : zS E) (hst : l.stackTraces = false) (h : zH) (r m : Nat) (g : zGd) (hm : zMs h r) (hg : rG (aI h (r + 1)) g) (hR : gR m g) (hb : m + 3000 ≤ big) (i j : Nat) (hi : i < 6) (hj : j < 6) : zMet l E yX10_isShadier cX10_isShadier 4 (some .boolean) ({ frames := 1, cells := 0, slots := 0, locals := 22 } : Room) 0 0 [.ref r, .int (nI i), .int (nI j)] h (fun v h' => v = some (.int (nI (b2 (bet g i j)))) ∧ h' = h) (fun _ _ => False) := by
  refine zM_start hzs hst (by decide) (Nat.le_of_ble_eq_true rfl) (fun X C G F I => ?_)
  show zV X 0 0 _ 0 [(0, _), (1, _), (2, _)] []
  obtain ⟨cs, hp, hsrt, hf⟩ := hg
  have hw := rG_W hR (by omega) hp
  have hN := hR.2.1
  have hls := hf.2.2.1
  have hgw := gQ_W hR.1 (by omega : m ≤ big)
  have s1 := gW_s hgw hi
  have s2 := gW_s hgw hj
  have z1 := hR.1.2.2.1 i hi
  have z2 := hR.1.2.2.1 j hj
  refine zV.aload_n C dX10_isShadier_0 rfl rfl ?_
  refine zV.iload_n C dX10_isShadier_1 rfl ?_
  refine zV.ic (v := nI 0) C dX10_isShadier_2 (by decide) ?_
  refine zV.callV (n := 2) C G dX10_isShadier_3 (s_mlawn hzs hst h r hm i 0 hi (by decide)) rfl ⟨cd_X10_lawn, lk_X10_69, im_X10_lawn, se_X10_X10_lawn, in_X10⟩ ⟨⟨by decide, by decide⟩, by decide⟩ rfl rfl rfl (hm.1) ⟨rfl, by decide⟩ (zaf ?_) (zno)
  rw [show aI h (r + 1) (8 + 8 * i + 0) = nI (gS g i) from (hls i hi).1]
  refine zV.aload_n C dX10_isShadier_6 rfl rfl ?_
  refine zV.iload_n C dX10_isShadier_7 rfl ?_
  refine zV.ic (v := nI 0) C dX10_isShadier_8 (by decide) ?_
  refine zV.callV (n := 2) C G dX10_isShadier_9 (s_mlawn hzs hst h r hm j 0 hj (by decide)) rfl ⟨cd_X10_lawn, lk_X10_69, im_X10_lawn, se_X10_X10_lawn, in_X10⟩ ⟨⟨by decide, by decide⟩, by decide⟩ rfl rfl rfl (hm.1) ⟨rfl, by decide⟩ (zaf ?_) (zno)
  rw [show aI h (r + 1) (8 + 8 * j + 0) = nI (gS g j) from (hls j hj).1]
  refine zV.isub C dX10_isShadier_12 ?_
  refine zV.istore_n (lo' := [(0, _), (1, _), (2, _), (3, _)]) C dX10_isShadier_13 (by decide) rfl rfl rfl ?_
  refine zV.iload_n C dX10_isShadier_14 rfl ?_
  refine zV.if_ne (tgt := 32) C dX10_isShadier_15 (by decide) (fun q15 => ?_) (fun q15 => ?_)
  · have r15 := mt (sub_eq0 (by omega) (by omega)).mpr q15
    refine zV.iload_n C dX10_isShadier_32 rfl ?_
    refine zV.if_gt (tgt := 45) C dX10_isShadier_33 (by decide) (fun q33 => ?_) (fun q33 => ?_)
    · have r33 := (sub_gt0 (by omega) (by omega)).mp q33
      refine zV.ic (v := nI 1) C dX10_isShadier_45 (by decide) ?_
      refine zV.goto (tgt := 50) C dX10_isShadier_46 (by decide) ?_
      refine zV.zret C F dX10_isShadier_50 rfl rfl ?_
      refine ⟨?_, rfl⟩
      unfold bet
      first
        | exact retb (by simp; omega)
        | exact retnb (by simp; omega)
    · have r33 := mt (sub_gt0 (by omega) (by omega)).mpr q33
      refine zV.iload_n C dX10_isShadier_36 rfl ?_
      refine zV.if_ne (tgt := 49) C dX10_isShadier_37 (by decide) (fun q37 => ?_) (fun q37 => ?_)
      · have r37 := mt (sub_eq0 (by omega) (by omega)).mpr q37
        refine zV.ic (v := nI 0) C dX10_isShadier_49 (by decide) ?_
        refine zV.zret C F dX10_isShadier_50 rfl rfl ?_
        refine ⟨?_, rfl⟩
        unfold bet
        first
          | exact retb (by simp; omega)
          | exact retnb (by simp; omega)
      · have r37 := (sub_eq0 (by omega) (by omega)).mp q37
        refine zV.iload_n C dX10_isShadier_40 rfl ?_
        refine zV.iload_n C dX10_isShadier_41 rfl ?_
        refine zV.icmp_ge (tgt := 49) C dX10_isShadier_42 (by decide) (fun q42 => ?_) (fun q42 => ?_)
        · have r42 : ¬ i < j := fun z => by have := nle (by omega) (by omega) q42; omega
          refine zV.ic (v := nI 0) C dX10_isShadier_49 (by decide) ?_
          refine zV.zret C F dX10_isShadier_50 rfl rfl ?_
          refine ⟨?_, rfl⟩
          unfold bet
          first
            | exact retb (by simp; omega)
            | exact retnb (by simp; omega)
        · have r42 : i < j := nlt (by omega) (by omega) q42
          refine zV.ic (v := nI 1) C dX10_isShadier_45 (by decide) ?_
          refine zV.goto (tgt := 50) C dX10_isShadier_46 (by decide) ?_
          refine zV.zret C F dX10_isShadier_50 rfl rfl ?_
          refine ⟨?_, rfl⟩
          unfold bet
          first
            | exact retb (by simp; omega)
            | exact retnb (by simp; omega)
  · have r15 := (sub_eq0 (by omega) (by omega)).mp q15
    refine zV.aload_n C dX10_isShadier_18 rfl rfl ?_
    refine zV.iload_n C dX10_isShadier_19 rfl ?_
    refine zV.ic (v := nI 2) C dX10_isShadier_20 (by decide) ?_
    refine zV.callV (n := 2) C G dX10_isShadier_21 (s_mlawn hzs hst h r hm j 2 hj (by decide)) rfl ⟨cd_X10_lawn, lk_X10_69, im_X10_lawn, se_X10_X10_lawn, in_X10⟩ ⟨⟨by decide, by decide⟩, by decide⟩ rfl rfl rfl (hm.1) ⟨rfl, by decide⟩ (zaf ?_) (zno)
    rw [show aI h (r + 1) (8 + 8 * j + 2) = nI (hsz (gC g) j) from (hf.2.1 j hj).1.trans (by rw [hrd_len])]
    refine zV.aload_n C dX10_isShadier_24 rfl rfl ?_
    refine zV.iload_n C dX10_isShadier_25 rfl ?_
    refine zV.ic (v := nI 2) C dX10_isShadier_26 (by decide) ?_
    refine zV.callV (n := 2) C G dX10_isShadier_27 (s_mlawn hzs hst h r hm i 2 hi (by decide)) rfl ⟨cd_X10_lawn, lk_X10_69, im_X10_lawn, se_X10_X10_lawn, in_X10⟩ ⟨⟨by decide, by decide⟩, by decide⟩ rfl rfl rfl (hm.1) ⟨rfl, by decide⟩ (zaf ?_) (zno)
    rw [show aI h (r + 1) (8 + 8 * i + 2) = nI (hsz (gC g) i) from (hf.2.1 i hi).1.trans (by rw [hrd_len])]
    refine zV.isub C dX10_isShadier_30 ?_
    refine zV.istore_n (lo' := [(0, _), (1, _), (2, _), (3, _)]) C dX10_isShadier_31 (by decide) rfl rfl rfl ?_
    refine zV.iload_n C dX10_isShadier_32 rfl ?_
    refine zV.if_gt (tgt := 45) C dX10_isShadier_33 (by decide) (fun q33 => ?_) (fun q33 => ?_)
    · have r33 := (sub_gt0 (by omega) (by omega)).mp q33
      refine zV.ic (v := nI 1) C dX10_isShadier_45 (by decide) ?_
      refine zV.goto (tgt := 50) C dX10_isShadier_46 (by decide) ?_
      refine zV.zret C F dX10_isShadier_50 rfl rfl ?_
      refine ⟨?_, rfl⟩
      unfold bet
      first
        | exact retb (by simp; omega)
        | exact retnb (by simp; omega)
    · have r33 := mt (sub_gt0 (by omega) (by omega)).mpr q33
      refine zV.iload_n C dX10_isShadier_36 rfl ?_
      refine zV.if_ne (tgt := 49) C dX10_isShadier_37 (by decide) (fun q37 => ?_) (fun q37 => ?_)
      · have r37 := mt (sub_eq0 (by omega) (by omega)).mpr q37
        refine zV.ic (v := nI 0) C dX10_isShadier_49 (by decide) ?_
        refine zV.zret C F dX10_isShadier_50 rfl rfl ?_
        refine ⟨?_, rfl⟩
        unfold bet
        first
          | exact retb (by simp; omega)
          | exact retnb (by simp; omega)
      · have r37 := (sub_eq0 (by omega) (by omega)).mp q37
        refine zV.iload_n C dX10_isShadier_40 rfl ?_
        refine zV.iload_n C dX10_isShadier_41 rfl ?_
        refine zV.icmp_ge (tgt := 49) C dX10_isShadier_42 (by decide) (fun q42 => ?_) (fun q42 => ?_)
        · have r42 : ¬ i < j := fun z => by have := nle (by omega) (by omega) q42; omega
          refine zV.ic (v := nI 0) C dX10_isShadier_49 (by decide) ?_
          refine zV.zret C F dX10_isShadier_50 rfl rfl ?_
          refine ⟨?_, rfl⟩
          unfold bet
          first
            | exact retb (by simp; omega)
            | exact retnb (by simp; omega)
        · have r42 : i < j := nlt (by omega) (by omega) q42
          refine zV.ic (v := nI 1) C dX10_isShadier_45 (by decide) ?_
          refine zV.goto (tgt := 50) C dX10_isShadier_46 (by decide) ?_
          refine zV.zret C F dX10_isShadier_50 rfl rfl ?_
          refine ⟨?_, rfl⟩
          unfold bet
          first
            | exact retb (by simp; omega)
            | exact retnb (by simp; omega)
set_option maxHeartbeats 4000000 in
set_option maxRecDepth 100000 in
theorem s_qbestE {X : zX} {l : Launch} {E : zG} {rm : Room} (hzs : zS E) (hst : l.stackTraces = false) (C : zC X cX10_bestNeighbour RX10 4) (G : zGX X l E rm) {h1 : zH} {r : Nat} {x1 x2 : Int32} (kk : zV X 0 0 h1 58 [(0, .ref r), (1, .int x1), (2, .int x2), (3, .int (nI 6))] []) : zV X 0 0 h1 22 [(0, .ref r), (1, .int x1), (2, .int x2), (3, .int (nI 6))] [] := by
  
  refine zV.iload_n C dX10_bestNeighbour_22 rfl ?_
  refine zV.bi (v := nI 6) C dX10_bestNeighbour_23 (by decide) ?_
  refine zV.icmp_ge (tgt := 58) C dX10_bestNeighbour_25 (by decide) (fun q25 => ?_) (fun q25 => ?_)
  · exact kk
  · exact absurd (by decide) q25
set_option maxHeartbeats 4000000 in
set_option maxRecDepth 100000 in
theorem L_qbest {X : zX} {l : Launch} {E : zG} {rm : Room} (hzs : zS E) (hst : l.stackTraces = false) (C : zC X cX10_bestNeighbour RX10 4) (G : zGX X l E rm) {i : Nat} {Qr : Option Value → zH → Prop} {Qx : String → zH → Prop} (hr : rm = ({ frames := 2, cells := 0, slots := 0, locals := 45 } : Room)) (F : zF X (some .int) 0 0 Qr Qx) (hi : i < 6) {h : zH} {r m : Nat} {g : zGd} (hm : zMs h r) (hg : rG (aI h (r + 1)) g) (hR : gR m g) (hb : m + 3000 ≤ big) {B : Option Nat} (kk : ∀ o, o = B → (∀ j, o = some j → j < 6) → zV X 0 0 h 58 [(0, .ref r), (1, .int (nI i)), (2, .int (oI o)), (3, .int (nI 6))] []) : ∀ n k o, k + n = 6 → bnF g i n k o = B → (∀ j, o = some j → j < 6) → zV X 0 0 h 22 [(0, .ref r), (1, .int (nI i)), (2, .int (oI o)), (3, .int (nI k))] [] := by
  subst hr
  have hls : rLs (aI h (r + 1)) g := by obtain ⟨cs, hp, hsrt, hf⟩ := hg; exact hf.2.2.1
  have hN := hR.2.1
  intro n
  induction n with
  | zero =>
    intro k o hk e ho
    obtain rfl : k = 6 := by omega
    exact s_qbestE hzs hst C G (kk o e ho)
  | succ n ih =>
    intro k o hk e ho
    have hk6 : k < 6 := by omega
    rw [bnF_s] at e
    rcases o with _ | j
    · show zV X 0 0 h 22 [(0, .ref r), (1, .int (nI i)), (2, .int (-1)), (3, .int (nI k))] []
      refine zV.iload_n C dX10_bestNeighbour_22 rfl ?_
      refine zV.bi (v := nI 6) C dX10_bestNeighbour_23 (by decide) ?_
      refine zV.icmp_ge (tgt := 58) C dX10_bestNeighbour_25 (by decide) (fun q25 => ?_) (fun q25 => ?_)
      · exact absurd (nle (by omega) (by decide) q25) (by omega)
      · refine zV.aload_n C dX10_bestNeighbour_28 rfl rfl ?_
        refine zV.iload_n C dX10_bestNeighbour_29 rfl ?_
        refine zV.iload_n C dX10_bestNeighbour_30 rfl ?_
        refine zV.callV (n := 2) C G dX10_bestNeighbour_31 (s_misPath hzs hst h r g hm hls hN i k hi hk6) rfl ⟨cd_X10_isPathBetween, lk_X10_89, im_X10_isPathBetween, se_X10_X10_isPathBetween, in_X10⟩ ⟨⟨by decide, by decide⟩, by decide⟩ rfl rfl rfl (hm.1) ⟨rfl, by decide⟩ (zaf ?_) (zno)
        refine zV.if_eq (tgt := 52) C dX10_bestNeighbour_34 (by decide) (fun q34 => ?_) (fun q34 => ?_)
        · have ep : ¬ (gN g i).testBit k = true := b01.mp q34
          refine zV.iinc (lo' := [(0, _), (1, _), (2, _), (3, _)]) C dX10_bestNeighbour_52 rfl (by decide) rfl rfl rfl ?_
          refine zV.goto (tgt := 22) C dX10_bestNeighbour_55 (by decide) ?_
          rw [inc1]
          first
            | (rw [if_neg (fun z => ep z.1)] at e; exact ih (k + 1) _ (by omega) e ho)
            | (rw [if_pos ⟨ep, rfl⟩] at e; exact ih (k + 1) (some k) (by omega) e (fun j9 z => by cases z; exact hk6))
            | (rw [if_pos ⟨ep, eb⟩] at e; exact ih (k + 1) (some k) (by omega) e (fun j9 z => by cases z; exact hk6))
            | (rw [if_neg (fun z => by rw [show bet g k j = true from z.2] at eb; cases eb)] at e; exact ih (k + 1) _ (by omega) e ho)
        · have ep : (gN g i).testBit k = true := Decidable.not_not.mp (fun z => q34 (b01.mpr z))
          refine zV.iload_n C dX10_bestNeighbour_37 rfl ?_
          refine zV.if_lt (tgt := 50) C dX10_bestNeighbour_38 (by decide) (fun q38 => ?_) (fun q38 => ?_)
          · refine zV.iload_n C dX10_bestNeighbour_50 rfl ?_
            refine zV.istore_n (lo' := [(0, _), (1, _), (2, _), (3, _)]) C dX10_bestNeighbour_51 (by decide) rfl rfl rfl ?_
            refine zV.iinc (lo' := [(0, _), (1, _), (2, _), (3, _)]) C dX10_bestNeighbour_52 rfl (by decide) rfl rfl rfl ?_
            refine zV.goto (tgt := 22) C dX10_bestNeighbour_55 (by decide) ?_
            rw [inc1]
            first
              | (rw [if_neg (fun z => ep z.1)] at e; exact ih (k + 1) _ (by omega) e ho)
              | (rw [if_pos ⟨ep, rfl⟩] at e; exact ih (k + 1) (some k) (by omega) e (fun j9 z => by cases z; exact hk6))
              | (rw [if_pos ⟨ep, eb⟩] at e; exact ih (k + 1) (some k) (by omega) e (fun j9 z => by cases z; exact hk6))
              | (rw [if_neg (fun z => by rw [show bet g k j = true from z.2] at eb; cases eb)] at e; exact ih (k + 1) _ (by omega) e ho)
          · exact absurd (by decide) q38
    · show zV X 0 0 h 22 [(0, .ref r), (1, .int (nI i)), (2, .int (nI j)), (3, .int (nI k))] []
      have hj := ho j rfl
      refine zV.iload_n C dX10_bestNeighbour_22 rfl ?_
      refine zV.bi (v := nI 6) C dX10_bestNeighbour_23 (by decide) ?_
      refine zV.icmp_ge (tgt := 58) C dX10_bestNeighbour_25 (by decide) (fun q25 => ?_) (fun q25 => ?_)
      · exact absurd (nle (by omega) (by decide) q25) (by omega)
      · refine zV.aload_n C dX10_bestNeighbour_28 rfl rfl ?_
        refine zV.iload_n C dX10_bestNeighbour_29 rfl ?_
        refine zV.iload_n C dX10_bestNeighbour_30 rfl ?_
        refine zV.callV (n := 2) C G dX10_bestNeighbour_31 (s_misPath hzs hst h r g hm hls hN i k hi hk6) rfl ⟨cd_X10_isPathBetween, lk_X10_89, im_X10_isPathBetween, se_X10_X10_isPathBetween, in_X10⟩ ⟨⟨by decide, by decide⟩, by decide⟩ rfl rfl rfl (hm.1) ⟨rfl, by decide⟩ (zaf ?_) (zno)
        refine zV.if_eq (tgt := 52) C dX10_bestNeighbour_34 (by decide) (fun q34 => ?_) (fun q34 => ?_)
        · have ep : ¬ (gN g i).testBit k = true := b01.mp q34
          refine zV.iinc (lo' := [(0, _), (1, _), (2, _), (3, _)]) C dX10_bestNeighbour_52 rfl (by decide) rfl rfl rfl ?_
          refine zV.goto (tgt := 22) C dX10_bestNeighbour_55 (by decide) ?_
          rw [inc1]
          first
            | (rw [if_neg (fun z => ep z.1)] at e; exact ih (k + 1) _ (by omega) e ho)
            | (rw [if_pos ⟨ep, rfl⟩] at e; exact ih (k + 1) (some k) (by omega) e (fun j9 z => by cases z; exact hk6))
            | (rw [if_pos ⟨ep, eb⟩] at e; exact ih (k + 1) (some k) (by omega) e (fun j9 z => by cases z; exact hk6))
            | (rw [if_neg (fun z => by rw [show bet g k j = true from z.2] at eb; cases eb)] at e; exact ih (k + 1) _ (by omega) e ho)
        · have ep : (gN g i).testBit k = true := Decidable.not_not.mp (fun z => q34 (b01.mpr z))
          refine zV.iload_n C dX10_bestNeighbour_37 rfl ?_
          refine zV.if_lt (tgt := 50) C dX10_bestNeighbour_38 (by decide) (fun q38 => ?_) (fun q38 => ?_)
          · exact absurd q38 (nI_pos (by omega))
          · refine zV.aload_n C dX10_bestNeighbour_41 rfl rfl ?_
            refine zV.iload_n C dX10_bestNeighbour_42 rfl ?_
            refine zV.iload_n C dX10_bestNeighbour_43 rfl ?_
            refine zV.callV (n := 2) C G dX10_bestNeighbour_44 (s_qisShadier hzs hst h r m g hm hg hR hb k j hk6 hj) rfl ⟨cd_X10_isShadier, lk_X10_185, im_X10_isShadier, se_X10_X10_isShadier, in_X10⟩ ⟨⟨by decide, by decide⟩, by decide⟩ rfl rfl rfl (hm.1) ⟨rfl, by decide⟩ (zaf ?_) (zno)
            refine zV.if_eq (tgt := 52) C dX10_bestNeighbour_47 (by decide) (fun q47 => ?_) (fun q47 => ?_)
            · have eb : bet g k j = false := b2n.mp q47
              refine zV.iinc (lo' := [(0, _), (1, _), (2, _), (3, _)]) C dX10_bestNeighbour_52 rfl (by decide) rfl rfl rfl ?_
              refine zV.goto (tgt := 22) C dX10_bestNeighbour_55 (by decide) ?_
              rw [inc1]
              first
                | (rw [if_neg (fun z => ep z.1)] at e; exact ih (k + 1) _ (by omega) e ho)
                | (rw [if_pos ⟨ep, rfl⟩] at e; exact ih (k + 1) (some k) (by omega) e (fun j9 z => by cases z; exact hk6))
                | (rw [if_pos ⟨ep, eb⟩] at e; exact ih (k + 1) (some k) (by omega) e (fun j9 z => by cases z; exact hk6))
                | (rw [if_neg (fun z => by rw [show bet g k j = true from z.2] at eb; cases eb)] at e; exact ih (k + 1) _ (by omega) e ho)
            · have eb : bet g k j = true := Bool.of_not_eq_false (fun z => q47 (b2n.mpr z))
              refine zV.iload_n C dX10_bestNeighbour_50 rfl ?_
              refine zV.istore_n (lo' := [(0, _), (1, _), (2, _), (3, _)]) C dX10_bestNeighbour_51 (by decide) rfl rfl rfl ?_
              refine zV.iinc (lo' := [(0, _), (1, _), (2, _), (3, _)]) C dX10_bestNeighbour_52 rfl (by decide) rfl rfl rfl ?_
              refine zV.goto (tgt := 22) C dX10_bestNeighbour_55 (by decide) ?_
              rw [inc1]
              first
                | (rw [if_neg (fun z => ep z.1)] at e; exact ih (k + 1) _ (by omega) e ho)
                | (rw [if_pos ⟨ep, rfl⟩] at e; exact ih (k + 1) (some k) (by omega) e (fun j9 z => by cases z; exact hk6))
                | (rw [if_pos ⟨ep, eb⟩] at e; exact ih (k + 1) (some k) (by omega) e (fun j9 z => by cases z; exact hk6))
                | (rw [if_neg (fun z => by rw [show bet g k j = true from z.2] at eb; cases eb)] at e; exact ih (k + 1) _ (by omega) e ho)
set_option maxHeartbeats 4000000 in
set_option maxRecDepth 100000 in
theorem s_qbest58 {X : zX} {l : Launch} {E : zG} {rm : Room} (hzs : zS E) (hst : l.stackTraces = false) (C : zC X cX10_bestNeighbour RX10 4) (G : zGX X l E rm) {h : zH} {r : Nat} {o : Option Nat} {A : zAn} {x1 x3 : Int32} {Qx : String → zH → Prop} (hr : rm = ({ frames := 2, cells := 0, slots := 0, locals := 45 } : Room)) (F : zF X (some .int) 0 0 (mqQ h r A c12 (.int (nI 0))) Qx) (hm : zMs h r) (eA : A = elA (oI o)) (ho : ∀ j, o = some j → j < 6) : zV X 0 0 (sI h 435 r (nI 0)) 58 [(0, .ref r), (1, .int x1), (2, .int (oI o)), (3, .int x3)] [] := by
  subst hr
  rcases o with _ | j
  · show zV X 0 0 (sI h 435 r (nI 0)) 58 [(0, .ref r), (1, .int x1), (2, .int (-1)), (3, .int x3)] []
    refine zV.iload_n C dX10_bestNeighbour_58 rfl ?_
    refine zV.if_ge (tgt := 70) C dX10_bestNeighbour_59 (by decide) (fun q59 => ?_) (fun q59 => ?_)
    · exact absurd q59 (by decide)
    · refine zV.aload_n C dX10_bestNeighbour_62 rfl rfl ?_
      refine zV.ic (v := nI 2) C dX10_bestNeighbour_63 (by decide) ?_
      refine zV.callV (n := 1) C G dX10_bestNeighbour_64 (s_mraises hzs hst (sI h 435 r (nI 0)) r hm (nI 2)) rfl ⟨cd_X10_raises, lk_X10_54, im_X10_raises, se_X10_X10_raises, in_X10⟩ ⟨⟨by decide, by decide⟩, by decide⟩ rfl rfl rfl (hm.1) ⟨rfl, by decide⟩ (zaf ?_) (zno)
      refine zV.goto (tgt := 71) C dX10_bestNeighbour_67 (by decide) ?_
      refine zV.iret C F dX10_bestNeighbour_71 rfl ?_
      exact mq_y (eA.trans (elA_n rfl)) c12_n
  · have hj := ho j rfl
    show zV X 0 0 (sI h 435 r (nI 0)) 58 [(0, .ref r), (1, .int x1), (2, .int (nI j)), (3, .int x3)] []
    refine zV.iload_n C dX10_bestNeighbour_58 rfl ?_
    refine zV.if_ge (tgt := 70) C dX10_bestNeighbour_59 (by decide) (fun q59 => ?_) (fun q59 => ?_)
    · refine zV.iload_n C dX10_bestNeighbour_70 rfl ?_
      refine zV.iret C F dX10_bestNeighbour_71 rfl ?_
      exact mq_r (eA.trans (elA_s rfl (by omega)))
    · exact absurd (nI_le (Nat.zero_le _) (by omega)) q59
set_option maxHeartbeats 4000000 in
set_option maxRecDepth 100000 in
theorem s_qbestNeighbour {l : Launch} {E : zG} (hzs : zS E) (hst : l.stackTraces = false) (h : zH) (r m : Nat) (g : zGd) (hm : zMs h r) (hg : rG (aI h (r + 1)) g) (hR : gR m g) (hb : m + 3000 ≤ big) (x : Int32) : zMet l E yX10_bestNeighbour cX10_bestNeighbour 4 (some .int) ({ frames := 2, cells := 0, slots := 0, locals := 45 } : Room) 0 0 [.ref r, .int x] h (mqQ h r (lawA x (fun i => elA (oI (bnF g i 6 0 none)))) c12 (.int (nI 0))) (fun _ _ => False) := by
  refine zM_start hzs hst (by decide) (Nat.le_of_ble_eq_true rfl) (fun X C G F I => ?_)
  show zV X 0 0 _ 0 [(0, _), (1, _)] []
  obtain ⟨cs, hp, hsrt, hf⟩ := hg
  have hw := rG_W hR (by omega) hp
  have hN := hR.2.1
  have hls := hf.2.2.1
  rcases e1 : ln x with _ | i
  · refine zV.aload_n C dX10_bestNeighbour_0 rfl rfl ?_
    refine zV.ic (v := nI 0) C dX10_bestNeighbour_1 (by decide) ?_
    refine zV.pI 435 (k := 19) C dX10_bestNeighbour_2 zcl_X10 (by decide) rfl lk_X10_39 rfl hm.1 rfl ⟨rfl, rfl⟩ ?_
    refine zV.iload_n C dX10_bestNeighbour_5 rfl ?_
    refine zV.callS (n := 1) C G dX10_bestNeighbour_6 (s_misLawn hzs hst (sI h 435 r (nI 0)) x) rfl ⟨cd_X10_isLawn, lk_X10_85, st_X10_isLawn, in_X10⟩ ⟨⟨by decide, by decide⟩, by decide⟩ rfl rfl rfl (zaf ?_) (zno)
    rw [e1]
    show zV X _ _ (sI h 435 r (nI 0)) 9 _ (.int (nI 0) :: _)
    refine zV.if_ne (tgt := 18) C dX10_bestNeighbour_9 (by decide) (fun q9 => ?_) (fun q9 => ?_)
    · exact absurd rfl q9
    · refine zV.aload_n C dX10_bestNeighbour_12 rfl rfl ?_
      refine zV.ic (v := nI 1) C dX10_bestNeighbour_13 (by decide) ?_
      refine zV.callV (n := 1) C G dX10_bestNeighbour_14 (s_mraises hzs hst (sI h 435 r (nI 0)) r hm (nI 1)) rfl ⟨cd_X10_raises, lk_X10_54, im_X10_raises, se_X10_X10_raises, in_X10⟩ ⟨⟨by decide, by decide⟩, by decide⟩ rfl rfl rfl (hm.1) ⟨rfl, by decide⟩ (zaf ?_) (zno)
      refine zV.iret C F dX10_bestNeighbour_17 rfl ?_
      exact mq_y (lawA_n e1) c12_1
  · obtain ⟨hi, rfl⟩ := ln_some e1
    refine zV.aload_n C dX10_bestNeighbour_0 rfl rfl ?_
    refine zV.ic (v := nI 0) C dX10_bestNeighbour_1 (by decide) ?_
    refine zV.pI 435 (k := 19) C dX10_bestNeighbour_2 zcl_X10 (by decide) rfl lk_X10_39 rfl hm.1 rfl ⟨rfl, rfl⟩ ?_
    refine zV.iload_n C dX10_bestNeighbour_5 rfl ?_
    refine zV.callS (n := 1) C G dX10_bestNeighbour_6 (s_misLawn hzs hst (sI h 435 r (nI 0)) (nI i)) rfl ⟨cd_X10_isLawn, lk_X10_85, st_X10_isLawn, in_X10⟩ ⟨⟨by decide, by decide⟩, by decide⟩ rfl rfl rfl (zaf ?_) (zno)
    rw [e1]
    show zV X _ _ (sI h 435 r (nI 0)) 9 _ (.int (nI 1) :: _)
    refine zV.if_ne (tgt := 18) C dX10_bestNeighbour_9 (by decide) (fun q9 => ?_) (fun q9 => ?_)
    · refine zV.ic (v := (-1)) C dX10_bestNeighbour_18 (by decide) ?_
      refine zV.istore_n (lo' := [(0, _), (1, _), (2, _)]) C dX10_bestNeighbour_19 (by decide) rfl rfl rfl ?_
      refine zV.ic (v := nI 0) C dX10_bestNeighbour_20 (by decide) ?_
      refine zV.istore_n (lo' := [(0, _), (1, _), (2, _), (3, _)]) C dX10_bestNeighbour_21 (by decide) rfl rfl rfl ?_
      exact L_qbest (h := sI h 435 r (nI 0)) hzs hst C G rfl F hi hm ⟨cs, hp, hsrt, hf⟩ hR hb (fun o e ho => s_qbest58 hzs hst C G rfl F hm ((lawA_s e1).trans (by rw [← e])) ho) 6 0 none rfl rfl (fun j z => by cases z)
    · exact absurd q9 (by decide)
set_option maxHeartbeats 4000000 in
set_option maxRecDepth 100000 in
theorem s_qlbsE {X : zX} {l : Launch} {E : zG} {rm : Room} (hzs : zS E) (hst : l.stackTraces = false) (C : zC X cX10_lawnByShade RX10 5) (G : zGX X l E rm) {h1 : zH} {r : Nat} {x1 x2 x3 : Int32} (kk : zV X 0 0 h1 50 [(0, .ref r), (1, .int x1), (2, .int x2), (3, .int x3), (4, .int (nI 6))] []) : zV X 0 0 h1 18 [(0, .ref r), (1, .int x1), (2, .int x2), (3, .int x3), (4, .int (nI 6))] [] := by
  
  refine zV.iload C dX10_lawnByShade_18 rfl ?_
  refine zV.bi (v := nI 6) C dX10_lawnByShade_20 (by decide) ?_
  refine zV.icmp_ge (tgt := 50) C dX10_lawnByShade_22 (by decide) (fun q22 => ?_) (fun q22 => ?_)
  · exact kk
  · exact absurd (by decide) q22
set_option maxHeartbeats 4000000 in
set_option maxRecDepth 100000 in
theorem L_qlbsI {X : zX} {l : Launch} {E : zG} {rm : Room} (hzs : zS E) (hst : l.stackTraces = false) (C : zC X cX10_lawnByShade RX10 5) (G : zGX X l E rm) {x : Int32} {k9 : Nat} (hr : rm = ({ frames := 2, cells := 0, slots := 0, locals := 45 } : Room)) (hk9 : k9 < 6) {h : zH} {r m : Nat} {g : zGd} (hm : zMs h r) (hg : rG (aI h (r + 1)) g) (hR : gR m g) (hb : m + 3000 ≤ big) {B : Nat} (kk : zV X 0 0 h 50 [(0, .ref r), (1, .int x), (2, .int (nI k9)), (3, .int (nI B)), (4, .int (nI 6))] []) : ∀ n q p, q + n = 6 → p + rlF g k9 n q = B → zV X 0 0 h 18 [(0, .ref r), (1, .int x), (2, .int (nI k9)), (3, .int (nI p)), (4, .int (nI q))] [] := by
  subst hr
  intro n
  induction n with
  | zero =>
    intro q p hq e
    obtain rfl : q = 6 := by omega
    obtain rfl : p = B := e
    exact s_qlbsE hzs hst C G kk
  | succ n ih =>
    intro q p hq e
    have hq6 : q < 6 := by omega
    rw [rlF] at e
    refine zV.iload C dX10_lawnByShade_18 rfl ?_
    refine zV.bi (v := nI 6) C dX10_lawnByShade_20 (by decide) ?_
    refine zV.icmp_ge (tgt := 50) C dX10_lawnByShade_22 (by decide) (fun q22 => ?_) (fun q22 => ?_)
    · exact absurd (nle (by omega) (by decide) q22) (by omega)
    · refine zV.iload C dX10_lawnByShade_25 rfl ?_
      refine zV.iload_n C dX10_lawnByShade_27 rfl ?_
      refine zV.icmp_eq (tgt := 44) C dX10_lawnByShade_28 (by decide) (fun q28 => ?_) (fun q28 => ?_)
      · have ek : q = k9 := neq (by omega) (by omega) q28
        refine zV.iinc (lo' := [(0, _), (1, _), (2, _), (3, _), (4, _)]) C dX10_lawnByShade_44 rfl (by decide) rfl rfl rfl ?_
        refine zV.goto (tgt := 18) C dX10_lawnByShade_47 (by decide) ?_
        simp only [inc1]
        first
          | (rw [ek, if_neg (by rw [bet_ir]; decide), Nat.zero_add] at e; exact ih (q + 1) p (by omega) (by rw [ek]; exact e))
          | (rw [if_neg (by rw [eb]; decide), Nat.zero_add] at e; exact ih (q + 1) p (by omega) e)
          | (rw [if_pos eb, ← Nat.add_assoc] at e; exact ih (q + 1) (p + 1) (by omega) e)
      · have ek : q ≠ k9 := fun z => q28 (by rw [z])
        refine zV.aload_n C dX10_lawnByShade_31 rfl rfl ?_
        refine zV.iload C dX10_lawnByShade_32 rfl ?_
        refine zV.iload_n C dX10_lawnByShade_34 rfl ?_
        refine zV.callV (n := 2) C G dX10_lawnByShade_35 (s_qisShadier hzs hst h r m g hm hg hR hb q k9 hq6 hk9) rfl ⟨cd_X10_isShadier, lk_X10_185, im_X10_isShadier, se_X10_X10_isShadier, in_X10⟩ ⟨⟨by decide, by decide⟩, by decide⟩ rfl rfl rfl (hm.1) ⟨rfl, by decide⟩ (zaf ?_) (zno)
        refine zV.if_eq (tgt := 44) C dX10_lawnByShade_38 (by decide) (fun q38 => ?_) (fun q38 => ?_)
        · have eb : bet g q k9 = false := b2n.mp q38
          refine zV.iinc (lo' := [(0, _), (1, _), (2, _), (3, _), (4, _)]) C dX10_lawnByShade_44 rfl (by decide) rfl rfl rfl ?_
          refine zV.goto (tgt := 18) C dX10_lawnByShade_47 (by decide) ?_
          simp only [inc1]
          first
            | (rw [ek, if_neg (by rw [bet_ir]; decide), Nat.zero_add] at e; exact ih (q + 1) p (by omega) (by rw [ek]; exact e))
            | (rw [if_neg (by rw [eb]; decide), Nat.zero_add] at e; exact ih (q + 1) p (by omega) e)
            | (rw [if_pos eb, ← Nat.add_assoc] at e; exact ih (q + 1) (p + 1) (by omega) e)
        · have eb : bet g q k9 = true := Bool.of_not_eq_false (fun z => q38 (b2n.mpr z))
          refine zV.iinc (lo' := [(0, _), (1, _), (2, _), (3, _), (4, _)]) C dX10_lawnByShade_41 rfl (by decide) rfl rfl rfl ?_
          refine zV.iinc (lo' := [(0, _), (1, _), (2, _), (3, _), (4, _)]) C dX10_lawnByShade_44 rfl (by decide) rfl rfl rfl ?_
          refine zV.goto (tgt := 18) C dX10_lawnByShade_47 (by decide) ?_
          simp only [inc1]
          first
            | (rw [ek, if_neg (by rw [bet_ir]; decide), Nat.zero_add] at e; exact ih (q + 1) p (by omega) (by rw [ek]; exact e))
            | (rw [if_neg (by rw [eb]; decide), Nat.zero_add] at e; exact ih (q + 1) p (by omega) e)
            | (rw [if_pos eb, ← Nat.add_assoc] at e; exact ih (q + 1) (p + 1) (by omega) e)
theorem rlF_le (g : zGd) (l : Nat) : ∀ n k, rlF g l n k ≤ n
  | 0, k => Nat.le_refl _
  | n + 1, k => by have := rlF_le g l n (k + 1); unfold rlF; split <;> omega
set_option maxHeartbeats 4000000 in
set_option maxRecDepth 100000 in
theorem s_qlbsX {X : zX} {l : Launch} {E : zG} {rm : Room} (hzs : zS E) (hst : l.stackTraces = false) (C : zC X cX10_lawnByShade RX10 5) (G : zGX X l E rm) {h : zH} {r : Nat} {A : zAn} {x1 : Int32} {Qx : String → zH → Prop} (hr : rm = ({ frames := 2, cells := 0, slots := 0, locals := 45 } : Room)) (F : zF X (some .int) 0 0 (mqQ h r A c1 (.int (nI 0))) Qx) (hm : zMs h r) (eA : A = .inl NSE) : zV X 0 0 (sI h 435 r (nI 0)) 7 [(0, .ref r), (1, .int x1), (2, .int (nI 6))] [] := by
  subst hr
  refine zV.iload_n C dX10_lawnByShade_7 rfl ?_
  refine zV.bi (v := nI 6) C dX10_lawnByShade_8 (by decide) ?_
  refine zV.icmp_ge (tgt := 63) C dX10_lawnByShade_10 (by decide) (fun q10 => ?_) (fun q10 => ?_)
  · refine zV.aload_n C dX10_lawnByShade_63 rfl rfl ?_
    refine zV.ic (v := nI 1) C dX10_lawnByShade_64 (by decide) ?_
    refine zV.callV (n := 1) C G dX10_lawnByShade_65 (s_mraises hzs hst (sI h 435 r (nI 0)) r hm (nI 1)) rfl ⟨cd_X10_raises, lk_X10_54, im_X10_raises, se_X10_X10_raises, in_X10⟩ ⟨⟨by decide, by decide⟩, by decide⟩ rfl rfl rfl (hm.1) ⟨rfl, by decide⟩ (zaf ?_) (zno)
    refine zV.iret C F dX10_lawnByShade_68 rfl ?_
    exact mq_y eA rfl
  · exact absurd (by decide) q10
set_option maxHeartbeats 4000000 in
set_option maxRecDepth 100000 in
theorem L_qlbs {X : zX} {l : Launch} {E : zG} {rm : Room} (hzs : zS E) (hst : l.stackTraces = false) (C : zC X cX10_lawnByShade RX10 5) (G : zGX X l E rm) {x : Int32} {Qx : String → zH → Prop} {B : Int32} (hr : rm = ({ frames := 2, cells := 0, slots := 0, locals := 45 } : Room)) {h : zH} {r m : Nat} {g : zGd} (hm : zMs h r) (hg : rG (aI h (r + 1)) g) (hR : gR m g) (hb : m + 3000 ≤ big) (F : zF X (some .int) 0 0 (mqQ h r (elA B) c1 (.int (nI 0))) Qx) : ∀ n k, k + n = 6 → lrF g x n k = B → zV X 0 0 (sI h 435 r (nI 0)) 7 [(0, .ref r), (1, .int x), (2, .int (nI k))] [] := by
  subst hr
  intro n
  induction n with
  | zero =>
    intro k hk e
    obtain rfl : k = 6 := by omega
    exact s_qlbsX hzs hst C G rfl F hm (by rw [← e]; rfl)
  | succ n ih =>
    intro k hk e
    have hk6 : k < 6 := by omega
    rw [lrF] at e
    refine zV.iload_n C dX10_lawnByShade_7 rfl ?_
    refine zV.bi (v := nI 6) C dX10_lawnByShade_8 (by decide) ?_
    refine zV.icmp_ge (tgt := 63) C dX10_lawnByShade_10 (by decide) (fun q10 => ?_) (fun q10 => ?_)
    · exact absurd (nle (by omega) (by decide) q10) (by omega)
    · refine zV.ic (v := nI 0) C dX10_lawnByShade_13 (by decide) ?_
      refine zV.istore_n (lo' := [(0, _), (1, _), (2, _), (3, _)]) C dX10_lawnByShade_14 (by decide) rfl rfl rfl ?_
      refine zV.ic (v := nI 0) C dX10_lawnByShade_15 (by decide) ?_
      refine zV.istore (lo' := [(0, _), (1, _), (2, _), (3, _), (4, _)]) C dX10_lawnByShade_16 (by decide) rfl rfl rfl ?_
      refine L_qlbsI (h := sI h 435 r (nI 0)) hzs hst C G rfl hk6 hm hg hR hb ?_ 6 0 0 rfl (Nat.zero_add _)
      refine zV.iload_n C dX10_lawnByShade_50 rfl ?_
      refine zV.iload_n C dX10_lawnByShade_51 rfl ?_
      refine zV.icmp_ne (tgt := 57) C dX10_lawnByShade_52 (by decide) (fun q52 => ?_) (fun q52 => ?_)
      · rw [if_neg q52] at e
        refine zV.iinc (lo' := [(0, _), (1, _), (2, _), (3, _), (4, _)]) C dX10_lawnByShade_57 rfl (by decide) rfl rfl rfl ?_
        refine zV.goto (tgt := 7) C dX10_lawnByShade_60 (by decide) ?_
        rw [inc1]
        exact zV.sub [0, 1, 2] rfl (ih (k + 1) (by omega) e)
      · rw [if_pos q52] at e
        refine zV.iload_n C dX10_lawnByShade_55 rfl ?_
        refine zV.iret C F dX10_lawnByShade_56 rfl ?_
        exact mq_r (by rw [← e]; exact if_neg (nI_m1 (by omega)))
set_option maxHeartbeats 4000000 in
set_option maxRecDepth 100000 in
theorem s_qlawnByShade {l : Launch} {E : zG} (hzs : zS E) (hst : l.stackTraces = false) (h : zH) (r m : Nat) (g : zGd) (hm : zMs h r) (hg : rG (aI h (r + 1)) g) (hR : gR m g) (hb : m + 3000 ≤ big) (x : Int32) : zMet l E yX10_lawnByShade cX10_lawnByShade 5 (some .int) ({ frames := 2, cells := 0, slots := 0, locals := 45 } : Room) 0 0 [.ref r, .int x] h (mqQ h r (elA (lrF g x 6 0)) c1 (.int (nI 0))) (fun _ _ => False) := by
  refine zM_start hzs hst (by decide) (Nat.le_of_ble_eq_true rfl) (fun X C G F I => ?_)
  show zV X 0 0 _ 0 [(0, _), (1, _)] []
  refine zV.aload_n C dX10_lawnByShade_0 rfl rfl ?_
  refine zV.ic (v := nI 0) C dX10_lawnByShade_1 (by decide) ?_
  refine zV.pI 435 (k := 19) C dX10_lawnByShade_2 zcl_X10 (by decide) rfl lk_X10_39 rfl hm.1 rfl ⟨rfl, rfl⟩ ?_
  refine zV.ic (v := nI 0) C dX10_lawnByShade_5 (by decide) ?_
  refine zV.istore_n (lo' := [(0, _), (1, _), (2, _)]) C dX10_lawnByShade_6 (by decide) rfl rfl rfl ?_
  exact L_qlbs hzs hst C G rfl hm hg hR hb F 6 0 rfl rfl
