/-! Garden: ranks, the order of the lawns, herds -/
set_option maxHeartbeats 4000000 in
set_option maxRecDepth 100000 in
theorem L_rankOf {X : zX} {l : Launch} {E : zG} {rm : Room} (hzs : zS E) (hst : l.stackTraces = false) (C : zC X cX3_rankOf RX3 4) (G : zGX X l E rm) {h : zH} {b : Nat} {g : zGd} {j : Nat} {c0 : zCh} (hc0 : (gC g)[j]? = some c0) {Qr : Option Value → zH → Prop} {Qx : String → zH → Prop} (hr : rm = ({ frames := 2, cells := 0, slots := 0, locals := 42 } : Room)) (F : zF X (some .int) 0 0 Qr Qx) (hg : zGa h b g) (hw : gW g) : ∀ n k p9, k ≤ (gC g).length → (gC g).length + 1 ≤ k + n → Qr (some (.int (nI (p9 + ((gC g).drop k).countP (fun c => chA c c0))))) h → zV X 0 0 h 4 [(0, .ref b), (1, .ref (cA h b j)), (2, .int (nI p9)), (3, .int (nI k))] [] := by
  subst hr
  have hl := gW_len hw
  have hB := gW_b hw
  intro n
  induction n with
  | zero => intro k p9 h1 h2; exact absurd h2 (by omega)
  | succ n ih =>
    intro k p9 hk hn hq
    have hjl : j < (gC g).length := (List.getElem?_eq_some_iff.mp hc0).1
    have hj12 : j < 12 := by omega
    obtain ⟨d1, d2, d3, d4, d5⟩ := zGa_c hg hc0
    obtain ⟨e1, e2, e3, e4⟩ := gW_cb hw hc0
    refine zV.iload_n C dX3_rankOf_4 rfl ?_
    refine zV.aload_n C dX3_rankOf_5 rfl rfl ?_
    refine zV.gIv 196 (k := 4) C dX3_rankOf_6 zcl_X3 (by decide) rfl lk_X3_50 (hg.1.1) rfl ((zGa_len hg)) ?_
    refine zV.icmp_ge (tgt := 34) C dX3_rankOf_9 (by decide) (fun q9 => ?_) (fun q9 => ?_)
    · have e : k = (gC g).length := by have := nle (by omega) (by omega) q9; omega
      subst e
      rw [List.drop_length] at hq
      refine zV.iload_n C dX3_rankOf_34 rfl ?_
      refine zV.iret C F dX3_rankOf_35 rfl ?_
      exact hq
    · have hkl : k < (gC g).length := nlt (by omega) (by omega) q9
      obtain ⟨c, hc, hd⟩ := drop_cons hkl
      rw [hd] at hq
      have h12 : k < 12 := by omega
      obtain ⟨c1, c2, c3, c4, c5⟩ := zGa_c hg hc
      obtain ⟨b1, b2, b3, b4⟩ := gW_cb hw hc
      refine zV.aload_n C dX3_rankOf_12 rfl rfl ?_
      refine zV.gR 195 (k := 3) C dX3_rankOf_13 zcl_X3 (by decide) rfl lk_X3_30 (hg.1.1) rfl (hg.1.2.2.2.2.1) ?_
      refine zV.iload_n C dX3_rankOf_16 rfl ?_
      refine zV.aaldC (j := k) C dX3_rankOf_17 (hg.1.2.2.2.2.2.2.2.2.1.1) (rfl) (Nat.lt_of_lt_of_eq h12 (hg.1.2.2.2.2.2.2.2.2.1.2).symm) (by omega) (zGa_a hg h12) ?_
      refine zV.aload_n C dX3_rankOf_18 rfl rfl ?_
      refine zV.callV (n := 1) C G dX3_rankOf_19 (s_Chair_rustsAheadOf hzs hst h (cA h b k) (cA h b j) (zGa_k hg h12) (zGa_k hg hj12)) rfl ⟨cd_X0_rustsAheadOf, lk_X3_189, im_X0_rustsAheadOf, se_X0_X0_rustsAheadOf, in_X0⟩ ⟨⟨by decide, by decide⟩, by decide⟩ rfl rfl rfl (zGa_k hg h12) ⟨rfl, by decide⟩ (zafe (vb2 (chA_iff (zGa_c hg hc) (zGa_c hg hc0) b1 e1 b3 e3 b4 e4)) ?_) (zno)
      refine zV.if_eq (tgt := 28) C dX3_rankOf_22 (by decide) (fun q22 => ?_) (fun q22 => ?_)
      · rw [cnt_cons, if_neg (fun z => by rw [b2n.mp q22] at z; cases z)] at hq
        refine zV.iinc (lo' := [(0, _), (1, _), (2, _), (3, _)]) C dX3_rankOf_28 rfl (by decide) rfl rfl rfl ?_
        refine zV.goto (tgt := 4) C dX3_rankOf_31 (by decide) ?_
        simp only [inc1]
        exact ih (k + 1) _ (by omega) (by omega) hq
      · rw [cnt_cons, if_pos (Bool.of_not_eq_false (fun z => q22 (b2n.mpr z))), Nat.add_comm (List.countP _ _) 1, ← Nat.add_assoc] at hq
        refine zV.iinc (lo' := [(0, _), (1, _), (2, _), (3, _)]) C dX3_rankOf_25 rfl (by decide) rfl rfl rfl ?_
        refine zV.iinc (lo' := [(0, _), (1, _), (2, _), (3, _)]) C dX3_rankOf_28 rfl (by decide) rfl rfl rfl ?_
        refine zV.goto (tgt := 4) C dX3_rankOf_31 (by decide) ?_
        simp only [inc1]
        exact ih (k + 1) _ (by omega) (by omega) hq
set_option maxHeartbeats 4000000 in
set_option maxRecDepth 100000 in
theorem s_rankOf {l : Launch} {E : zG} (hzs : zS E) (hst : l.stackTraces = false) (h : zH) (b : Nat) (g : zGd) (j : Nat) (c0 : zCh) (hc0 : (gC g)[j]? = some c0) (hg : zGa h b g) (hw : gW g) : zMet l E yX3_rankOf cX3_rankOf 4 (some .int) ({ frames := 2, cells := 0, slots := 0, locals := 42 } : Room) 0 0 [.ref b, .ref (cA h b j)] h (fun r h' => r = some (.int (nI ((gC g).countP (fun c => chA c c0)))) ∧ h' = h) (fun _ _ => False) := by
  refine zM_start hzs hst (by decide) (Nat.le_of_ble_eq_true rfl) (fun X C G F I => ?_)
  show zV X 0 0 _ 0 [(0, _), (1, _)] []
  refine zV.ic (v := nI 0) C dX3_rankOf_0 (by decide) ?_
  refine zV.istore_n (lo' := [(0, _), (1, _), (2, _)]) C dX3_rankOf_1 (by decide) rfl rfl rfl ?_
  refine zV.ic (v := nI 0) C dX3_rankOf_2 (by decide) ?_
  refine zV.istore_n (lo' := [(0, _), (1, _), (2, _), (3, _)]) C dX3_rankOf_3 (by decide) rfl rfl rfl ?_
  exact L_rankOf hzs hst C G hc0 rfl F hg hw ((gC g).length + 1) 0 0 (by omega) (by omega) ⟨by rw [Nat.zero_add]; rfl, rfl⟩
/-- the id of the first chair from here on with the rank x -/
def rkI (cs : List zCh) (x : Int32) : List zCh → Int32
  | [] => -1
  | c :: t => if nI (cs.countP (fun d => chA d c)) = x then nI (chI c) else rkI cs x t
set_option maxHeartbeats 4000000 in
set_option maxRecDepth 100000 in
theorem L_idAtRank {X : zX} {l : Launch} {E : zG} {rm : Room} (hzs : zS E) (hst : l.stackTraces = false) (C : zC X cX3_idAtRank RX3 3) (G : zGX X l E rm) {h : zH} {b : Nat} {g : zGd} {x : Int32} {Qr : Option Value → zH → Prop} {Qx : String → zH → Prop} (hr : rm = ({ frames := 3, cells := 0, slots := 0, locals := 65 } : Room)) (F : zF X (some .int) 0 0 Qr Qx) (hg : zGa h b g) (hw : gW g) : ∀ n k, k ≤ (gC g).length → (gC g).length + 1 ≤ k + n → Qr (some (.int (rkI (gC g) x ((gC g).drop k)))) h → zV X 0 0 h 2 [(0, .ref b), (1, .int x), (2, .int (nI k))] [] := by
  subst hr
  have hl := gW_len hw
  have hB := gW_b hw
  intro n
  induction n with
  | zero => intro k h1 h2; exact absurd h2 (by omega)
  | succ n ih =>
    intro k hk hn hq
    refine zV.iload_n C dX3_idAtRank_2 rfl ?_
    refine zV.aload_n C dX3_idAtRank_3 rfl rfl ?_
    refine zV.gIv 196 (k := 4) C dX3_idAtRank_4 zcl_X3 (by decide) rfl lk_X3_50 (hg.1.1) rfl ((zGa_len hg)) ?_
    refine zV.icmp_ge (tgt := 40) C dX3_idAtRank_7 (by decide) (fun q7 => ?_) (fun q7 => ?_)
    · have e : k = (gC g).length := by have := nle (by omega) (by omega) q7; omega
      subst e
      rw [List.drop_length] at hq
      refine zV.ic (v := (-1)) C dX3_idAtRank_40 (by decide) ?_
      refine zV.iret C F dX3_idAtRank_41 rfl ?_
      exact hq
    · have hkl : k < (gC g).length := nlt (by omega) (by omega) q7
      obtain ⟨c, hc, hd⟩ := drop_cons hkl
      rw [hd] at hq
      have h12 : k < 12 := by omega
      obtain ⟨c1, c2, c3, c4, c5⟩ := zGa_c hg hc
      obtain ⟨b1, b2, b3, b4⟩ := gW_cb hw hc
      refine zV.aload_n C dX3_idAtRank_10 rfl rfl ?_
      refine zV.aload_n C dX3_idAtRank_11 rfl rfl ?_
      refine zV.gR 195 (k := 3) C dX3_idAtRank_12 zcl_X3 (by decide) rfl lk_X3_30 (hg.1.1) rfl (hg.1.2.2.2.2.1) ?_
      refine zV.iload_n C dX3_idAtRank_15 rfl ?_
      refine zV.aaldC (j := k) C dX3_idAtRank_16 (hg.1.2.2.2.2.2.2.2.2.1.1) (rfl) (Nat.lt_of_lt_of_eq h12 (hg.1.2.2.2.2.2.2.2.2.1.2).symm) (by omega) (zGa_a hg h12) ?_
      refine zV.callV (n := 1) C G dX3_idAtRank_17 (s_rankOf hzs hst h b g k c hc hg hw) rfl ⟨cd_X3_rankOf, lk_X3_185, im_X3_rankOf, se_X3_X3_rankOf, in_X3⟩ ⟨⟨by decide, by decide⟩, by decide⟩ rfl rfl rfl (hg.1.1) ⟨rfl, by decide⟩ (zaf ?_) (zno)
      refine zV.iload_n C dX3_idAtRank_20 rfl ?_
      refine zV.icmp_ne (tgt := 34) C dX3_idAtRank_21 (by decide) (fun q21 => ?_) (fun q21 => ?_)
      · rw [rkI, if_neg q21] at hq
        refine zV.iinc (lo' := [(0, _), (1, _), (2, _)]) C dX3_idAtRank_34 rfl (by decide) rfl rfl rfl ?_
        refine zV.goto (tgt := 2) C dX3_idAtRank_37 (by decide) ?_
        rw [inc1]
        exact ih (k + 1) (by omega) (by omega) hq
      · rw [rkI, if_pos q21] at hq
        refine zV.aload_n C dX3_idAtRank_24 rfl rfl ?_
        refine zV.gR 195 (k := 3) C dX3_idAtRank_25 zcl_X3 (by decide) rfl lk_X3_30 (hg.1.1) rfl (hg.1.2.2.2.2.1) ?_
        refine zV.iload_n C dX3_idAtRank_28 rfl ?_
        refine zV.aaldC (j := k) C dX3_idAtRank_29 (hg.1.2.2.2.2.2.2.2.2.1.1) (rfl) (Nat.lt_of_lt_of_eq h12 (hg.1.2.2.2.2.2.2.2.2.1.2).symm) (by omega) (zGa_a hg h12) ?_
        refine zV.gNIv 128 (k := 0) C dX3_idAtRank_30 zcl_X0 (by decide) rfl lk_X3_110 (zGa_k hg h12) rfl (c1) ?_
        refine zV.iret C F dX3_idAtRank_33 rfl ?_
        exact hq
set_option maxHeartbeats 4000000 in
set_option maxRecDepth 100000 in
theorem s_idAtRank {l : Launch} {E : zG} (hzs : zS E) (hst : l.stackTraces = false) (h : zH) (b : Nat) (g : zGd) (x : Int32) (hg : zGa h b g) (hw : gW g) : zMet l E yX3_idAtRank cX3_idAtRank 3 (some .int) ({ frames := 3, cells := 0, slots := 0, locals := 65 } : Room) 0 0 [.ref b, .int x] h (fun r h' => r = some (.int (rkI (gC g) x (gC g))) ∧ h' = h) (fun _ _ => False) := by
  refine zM_start hzs hst (by decide) (Nat.le_of_ble_eq_true rfl) (fun X C G F I => ?_)
  show zV X 0 0 _ 0 [(0, _), (1, _)] []
  refine zV.ic (v := nI 0) C dX3_idAtRank_0 (by decide) ?_
  refine zV.istore_n (lo' := [(0, _), (1, _), (2, _)]) C dX3_idAtRank_1 (by decide) rfl rfl rfl ?_
  exact L_idAtRank hzs hst C G rfl F hg hw ((gC g).length + 1) 0 (by omega) (by omega) ⟨rfl, rfl⟩
/-- the place of the first chair that grazes on l, from k on -/
def fgF (l : Nat) : List zCh → Nat → Option Nat
  | [], _ => none
  | c :: t, k => if chGr l c = true then some k else fgF l t (k + 1)
theorem fgF_some {l : Nat} : ∀ {t : List zCh} {k j : Nat}, fgF l t k = some j → ∃ i c, t[i]? = some c ∧ j = k + i ∧ chGr l c = true
  | [], _, _, h => by cases h
  | c :: t, k, j, h => by
    rw [fgF] at h
    split at h
    · cases h
      exact ⟨0, c, rfl, rfl, by assumption⟩
    · obtain ⟨i, d, h1, h2, h3⟩ := fgF_some h
      exact ⟨i + 1, d, h1, by omega, h3⟩
theorem fgF_none {l : Nat} : ∀ {t : List zCh} {k : Nat}, fgF l t k = none → t.countP (chGr l) = 0
  | [], _, _ => rfl
  | c :: t, k, h => by
    rw [fgF] at h
    split at h
    · cases h
    · rename_i q
      rw [cnt_cons, if_neg q, fgF_none h]
set_option maxHeartbeats 4000000 in
set_option maxRecDepth 100000 in
theorem L_firstGrazingOn {X : zX} {l : Launch} {E : zG} {rm : Room} (hzs : zS E) (hst : l.stackTraces = false) (C : zC X cX3_firstGrazingOn RX3 3) (G : zGX X l E rm) {h : zH} {b : Nat} {g : zGd} {l9 : Nat} (hl9 : l9 < 6) {Qr : Option Value → zH → Prop} {Qx : String → zH → Prop} (hr : rm = ({ frames := 1, cells := 0, slots := 0, locals := 21 } : Room)) (F : zF X (some .int) 0 0 Qr Qx) (hg : zGa h b g) (hw : gW g) : ∀ n k, k ≤ (gC g).length → (gC g).length + 1 ≤ k + n → Qr (some (.int (oI (fgF l9 ((gC g).drop k) k)))) h → zV X 0 0 h 2 [(0, .ref b), (1, .int (nI l9)), (2, .int (nI k))] [] := by
  subst hr
  have hl := gW_len hw
  have hB := gW_b hw
  intro n
  induction n with
  | zero => intro k h1 h2; exact absurd h2 (by omega)
  | succ n ih =>
    intro k hk hn hq
    refine zV.iload_n C dX3_firstGrazingOn_2 rfl ?_
    refine zV.aload_n C dX3_firstGrazingOn_3 rfl rfl ?_
    refine zV.gIv 196 (k := 4) C dX3_firstGrazingOn_4 zcl_X3 (by decide) rfl lk_X3_50 (hg.1.1) rfl ((zGa_len hg)) ?_
    refine zV.icmp_ge (tgt := 31) C dX3_firstGrazingOn_7 (by decide) (fun q7 => ?_) (fun q7 => ?_)
    · have e : k = (gC g).length := by have := nle (by omega) (by omega) q7; omega
      subst e
      rw [List.drop_length] at hq
      refine zV.ic (v := (-1)) C dX3_firstGrazingOn_31 (by decide) ?_
      refine zV.iret C F dX3_firstGrazingOn_32 rfl ?_
      exact hq
    · have hkl : k < (gC g).length := nlt (by omega) (by omega) q7
      obtain ⟨c, hc, hd⟩ := drop_cons hkl
      rw [hd] at hq
      have h12 : k < 12 := by omega
      obtain ⟨c1, c2, c3, c4, c5⟩ := zGa_c hg hc
      obtain ⟨b1, b2, b3, b4⟩ := gW_cb hw hc
      refine zV.aload_n C dX3_firstGrazingOn_10 rfl rfl ?_
      refine zV.gR 195 (k := 3) C dX3_firstGrazingOn_11 zcl_X3 (by decide) rfl lk_X3_30 (hg.1.1) rfl (hg.1.2.2.2.2.1) ?_
      refine zV.iload_n C dX3_firstGrazingOn_14 rfl ?_
      refine zV.aaldC (j := k) C dX3_firstGrazingOn_15 (hg.1.2.2.2.2.2.2.2.2.1.1) (rfl) (Nat.lt_of_lt_of_eq h12 (hg.1.2.2.2.2.2.2.2.2.1.2).symm) (by omega) (zGa_a hg h12) ?_
      refine zV.iload_n C dX3_firstGrazingOn_16 rfl ?_
      refine zV.callV (n := 1) C G dX3_firstGrazingOn_17 (s_Chair_grazesOn hzs hst h (cA h b k) (nI l9) (zGa_k hg h12)) rfl ⟨cd_X0_grazesOn, lk_X3_161, im_X0_grazesOn, se_X0_X0_grazesOn, in_X0⟩ ⟨⟨by decide, by decide⟩, by decide⟩ rfl rfl rfl (zGa_k hg h12) ⟨rfl, by decide⟩ (zafe (chGr_v (zGa_c hg hc) hl9 b2) ?_) (zno)
      refine zV.if_eq (tgt := 25) C dX3_firstGrazingOn_20 (by decide) (fun q20 => ?_) (fun q20 => ?_)
      · rw [fgF, if_neg (fun z => by rw [b2n.mp q20] at z; cases z)] at hq
        refine zV.iinc (lo' := [(0, _), (1, _), (2, _)]) C dX3_firstGrazingOn_25 rfl (by decide) rfl rfl rfl ?_
        refine zV.goto (tgt := 2) C dX3_firstGrazingOn_28 (by decide) ?_
        rw [inc1]
        exact ih (k + 1) (by omega) (by omega) hq
      · rw [fgF, if_pos (Bool.of_not_eq_false (fun z => q20 (b2n.mpr z)))] at hq
        refine zV.iload_n C dX3_firstGrazingOn_23 rfl ?_
        refine zV.iret C F dX3_firstGrazingOn_24 rfl ?_
        exact hq
set_option maxHeartbeats 4000000 in
set_option maxRecDepth 100000 in
theorem s_firstGrazingOn {l : Launch} {E : zG} (hzs : zS E) (hst : l.stackTraces = false) (h : zH) (b : Nat) (g : zGd) (l9 : Nat) (hl9 : l9 < 6) (hg : zGa h b g) (hw : gW g) : zMet l E yX3_firstGrazingOn cX3_firstGrazingOn 3 (some .int) ({ frames := 1, cells := 0, slots := 0, locals := 21 } : Room) 0 0 [.ref b, .int (nI l9)] h (fun r h' => r = some (.int (oI (fgF l9 (gC g) 0))) ∧ h' = h) (fun _ _ => False) := by
  refine zM_start hzs hst (by decide) (Nat.le_of_ble_eq_true rfl) (fun X C G F I => ?_)
  show zV X 0 0 _ 0 [(0, _), (1, _)] []
  refine zV.ic (v := nI 0) C dX3_firstGrazingOn_0 (by decide) ?_
  refine zV.istore_n (lo' := [(0, _), (1, _), (2, _)]) C dX3_firstGrazingOn_1 (by decide) rfl rfl rfl ?_
  exact L_firstGrazingOn hzs hst C G hl9 rfl F hg hw ((gC g).length + 1) 0 (by omega) (by omega) ⟨rfl, rfl⟩
/-- the lawn i comes ahead of the lawn j -/
def bet (g : zGd) (i j : Nat) : Bool := decide (gS g j < gS g i) || (decide (gS g i = gS g j) && (decide (hsz (gC g) i < hsz (gC g) j) || (decide (hsz (gC g) i = hsz (gC g) j) && decide (i < j))))
theorem hsz_le (cs : List zCh) (l : Nat) : hsz cs l ≤ cs.length := List.countP_le_length
theorem gW_s {g : zGd} (w : gW g) {j : Nat} (h : j < 6) : gS g j ≤ 20 := w.2.2.2.1 j h
theorem retb {x : Bool} (h : x = true) : some (Value.int (nI 1)) = some (.int (nI (b2 x))) := by rw [h]; rfl
theorem retnb {x : Bool} (h : ¬ x = true) : some (Value.int (nI 0)) = some (.int (nI (b2 x))) := by rw [Bool.eq_false_iff.mpr h]; rfl
theorem bb2 {x : Bool} : narrow .boolean (.int (nI (b2 x))) = .int (nI (b2 x)) := by cases x <;> rfl
set_option maxHeartbeats 4000000 in
set_option maxRecDepth 100000 in
theorem s_isBetter {l : Launch} {E : zG} (hzs : zS E) (hst : l.stackTraces = false) (h : zH) (b : Nat) (g : zGd) (i j : Nat) (hi : i < 6) (hj : j < 6) (hg : zGa h b g) (hw : gW g) : zMet l E yX3_isBetter cX3_isBetter 3 (some .boolean) ({ frames := 1, cells := 0, slots := 0, locals := 21 } : Room) 0 0 [.ref b, .int (nI i), .int (nI j)] h (fun r h' => r = some (.int (nI (b2 (bet g i j)))) ∧ h' = h) (fun _ _ => False) := by
  refine zM_start hzs hst (by decide) (Nat.le_of_ble_eq_true rfl) (fun X C G F I => ?_)
  show zV X 0 0 _ 0 [(0, _), (1, _), (2, _)] []
  refine zV.aload_n C dX3_isBetter_0 rfl rfl ?_
  have s1 := gW_s hw hi
  have s2 := gW_s hw hj
  have z1 := hsz_le (gC g) i
  have z2 := hsz_le (gC g) j
  have hl := gW_len hw
  refine zV.gR 193 (k := 1) C dX3_isBetter_1 zcl_X3 (by decide) rfl lk_X3_21 (hg.1.1) rfl (hg.1.2.2.1) ?_
  refine zV.iload_n C dX3_isBetter_4 rfl ?_
  refine zV.callV (n := 1) C G dX3_isBetter_5 (s_LawnRow_at hzs hst h (b + 4) i hi hg.1.2.2.2.2.2.2.1) rfl ⟨cd_X7_at, lk_X3_107, im_X7_at, se_X7_X7_at, in_X7⟩ ⟨⟨by decide, by decide⟩, by decide⟩ rfl rfl rfl (hg.1.2.2.2.2.2.2.1.1) ⟨rfl, by decide⟩ (zaf ?_) (zno)
  rw [zGa_s hg i hi]
  refine zV.aload_n C dX3_isBetter_8 rfl rfl ?_
  refine zV.gR 193 (k := 1) C dX3_isBetter_9 zcl_X3 (by decide) rfl lk_X3_21 (hg.1.1) rfl (hg.1.2.2.1) ?_
  refine zV.iload_n C dX3_isBetter_12 rfl ?_
  refine zV.callV (n := 1) C G dX3_isBetter_13 (s_LawnRow_at hzs hst h (b + 4) j hj hg.1.2.2.2.2.2.2.1) rfl ⟨cd_X7_at, lk_X3_107, im_X7_at, se_X7_X7_at, in_X7⟩ ⟨⟨by decide, by decide⟩, by decide⟩ rfl rfl rfl (hg.1.2.2.2.2.2.2.1.1) ⟨rfl, by decide⟩ (zaf ?_) (zno)
  rw [zGa_s hg j hj]
  refine zV.icmp_eq (tgt := 44) C dX3_isBetter_16 (by decide) (fun q16 => ?_) (fun q16 => ?_)
  · have r16 := (neqn (by omega) (by omega)).mp q16
    refine zV.aload_n C dX3_isBetter_44 rfl rfl ?_
    refine zV.gR 194 (k := 2) C dX3_isBetter_45 zcl_X3 (by decide) rfl lk_X3_25 (hg.1.1) rfl (hg.1.2.2.2.1) ?_
    refine zV.iload_n C dX3_isBetter_48 rfl ?_
    refine zV.callV (n := 1) C G dX3_isBetter_49 (s_LawnRow_at hzs hst h (b + 6) i hi hg.1.2.2.2.2.2.2.2.1) rfl ⟨cd_X7_at, lk_X3_107, im_X7_at, se_X7_X7_at, in_X7⟩ ⟨⟨by decide, by decide⟩, by decide⟩ rfl rfl rfl (hg.1.2.2.2.2.2.2.2.1.1) ⟨rfl, by decide⟩ (zaf ?_) (zno)
    rw [zGa_h hg i hi]
    refine zV.aload_n C dX3_isBetter_52 rfl rfl ?_
    refine zV.gR 194 (k := 2) C dX3_isBetter_53 zcl_X3 (by decide) rfl lk_X3_25 (hg.1.1) rfl (hg.1.2.2.2.1) ?_
    refine zV.iload_n C dX3_isBetter_56 rfl ?_
    refine zV.callV (n := 1) C G dX3_isBetter_57 (s_LawnRow_at hzs hst h (b + 6) j hj hg.1.2.2.2.2.2.2.2.1) rfl ⟨cd_X7_at, lk_X3_107, im_X7_at, se_X7_X7_at, in_X7⟩ ⟨⟨by decide, by decide⟩, by decide⟩ rfl rfl rfl (hg.1.2.2.2.2.2.2.2.1.1) ⟨rfl, by decide⟩ (zaf ?_) (zno)
    rw [zGa_h hg j hj]
    refine zV.icmp_eq (tgt := 88) C dX3_isBetter_60 (by decide) (fun q60 => ?_) (fun q60 => ?_)
    · have r60 := (neqn (by omega) (by omega)).mp q60
      refine zV.iload_n C dX3_isBetter_88 rfl ?_
      refine zV.iload_n C dX3_isBetter_89 rfl ?_
      refine zV.icmp_ge (tgt := 97) C dX3_isBetter_90 (by decide) (fun q90 => ?_) (fun q90 => ?_)
      · have r90 := (nI_leI (by omega) (by omega)).mp q90
        refine zV.ic (v := nI 0) C dX3_isBetter_97 (by decide) ?_
        refine zV.zret C F dX3_isBetter_98 rfl rfl ?_
        refine ⟨?_, rfl⟩
        unfold bet
        first
          | exact retb (by simp; omega)
          | exact retnb (by simp; omega)
      · have r90 := mt (nI_leI (by omega) (by omega)).mpr q90
        refine zV.ic (v := nI 1) C dX3_isBetter_93 (by decide) ?_
        refine zV.goto (tgt := 98) C dX3_isBetter_94 (by decide) ?_
        refine zV.zret C F dX3_isBetter_98 rfl rfl ?_
        refine ⟨?_, rfl⟩
        unfold bet
        first
          | exact retb (by simp; omega)
          | exact retnb (by simp; omega)
    · have r60 := mt (neqn (by omega) (by omega)).mpr q60
      refine zV.aload_n C dX3_isBetter_63 rfl rfl ?_
      refine zV.gR 194 (k := 2) C dX3_isBetter_64 zcl_X3 (by decide) rfl lk_X3_25 (hg.1.1) rfl (hg.1.2.2.2.1) ?_
      refine zV.iload_n C dX3_isBetter_67 rfl ?_
      refine zV.callV (n := 1) C G dX3_isBetter_68 (s_LawnRow_at hzs hst h (b + 6) i hi hg.1.2.2.2.2.2.2.2.1) rfl ⟨cd_X7_at, lk_X3_107, im_X7_at, se_X7_X7_at, in_X7⟩ ⟨⟨by decide, by decide⟩, by decide⟩ rfl rfl rfl (hg.1.2.2.2.2.2.2.2.1.1) ⟨rfl, by decide⟩ (zaf ?_) (zno)
      rw [zGa_h hg i hi]
      refine zV.aload_n C dX3_isBetter_71 rfl rfl ?_
      refine zV.gR 194 (k := 2) C dX3_isBetter_72 zcl_X3 (by decide) rfl lk_X3_25 (hg.1.1) rfl (hg.1.2.2.2.1) ?_
      refine zV.iload_n C dX3_isBetter_75 rfl ?_
      refine zV.callV (n := 1) C G dX3_isBetter_76 (s_LawnRow_at hzs hst h (b + 6) j hj hg.1.2.2.2.2.2.2.2.1) rfl ⟨cd_X7_at, lk_X3_107, im_X7_at, se_X7_X7_at, in_X7⟩ ⟨⟨by decide, by decide⟩, by decide⟩ rfl rfl rfl (hg.1.2.2.2.2.2.2.2.1.1) ⟨rfl, by decide⟩ (zaf ?_) (zno)
      rw [zGa_h hg j hj]
      refine zV.icmp_ge (tgt := 86) C dX3_isBetter_79 (by decide) (fun q79 => ?_) (fun q79 => ?_)
      · have r79 := (nI_leI (by omega) (by omega)).mp q79
        refine zV.ic (v := nI 0) C dX3_isBetter_86 (by decide) ?_
        refine zV.zret C F dX3_isBetter_87 rfl rfl ?_
        refine ⟨?_, rfl⟩
        unfold bet
        first
          | exact retb (by simp; omega)
          | exact retnb (by simp; omega)
      · have r79 := mt (nI_leI (by omega) (by omega)).mpr q79
        refine zV.ic (v := nI 1) C dX3_isBetter_82 (by decide) ?_
        refine zV.goto (tgt := 87) C dX3_isBetter_83 (by decide) ?_
        refine zV.zret C F dX3_isBetter_87 rfl rfl ?_
        refine ⟨?_, rfl⟩
        unfold bet
        first
          | exact retb (by simp; omega)
          | exact retnb (by simp; omega)
  · have r16 := mt (neqn (by omega) (by omega)).mpr q16
    refine zV.aload_n C dX3_isBetter_19 rfl rfl ?_
    refine zV.gR 193 (k := 1) C dX3_isBetter_20 zcl_X3 (by decide) rfl lk_X3_21 (hg.1.1) rfl (hg.1.2.2.1) ?_
    refine zV.iload_n C dX3_isBetter_23 rfl ?_
    refine zV.callV (n := 1) C G dX3_isBetter_24 (s_LawnRow_at hzs hst h (b + 4) i hi hg.1.2.2.2.2.2.2.1) rfl ⟨cd_X7_at, lk_X3_107, im_X7_at, se_X7_X7_at, in_X7⟩ ⟨⟨by decide, by decide⟩, by decide⟩ rfl rfl rfl (hg.1.2.2.2.2.2.2.1.1) ⟨rfl, by decide⟩ (zaf ?_) (zno)
    rw [zGa_s hg i hi]
    refine zV.aload_n C dX3_isBetter_27 rfl rfl ?_
    refine zV.gR 193 (k := 1) C dX3_isBetter_28 zcl_X3 (by decide) rfl lk_X3_21 (hg.1.1) rfl (hg.1.2.2.1) ?_
    refine zV.iload_n C dX3_isBetter_31 rfl ?_
    refine zV.callV (n := 1) C G dX3_isBetter_32 (s_LawnRow_at hzs hst h (b + 4) j hj hg.1.2.2.2.2.2.2.1) rfl ⟨cd_X7_at, lk_X3_107, im_X7_at, se_X7_X7_at, in_X7⟩ ⟨⟨by decide, by decide⟩, by decide⟩ rfl rfl rfl (hg.1.2.2.2.2.2.2.1.1) ⟨rfl, by decide⟩ (zaf ?_) (zno)
    rw [zGa_s hg j hj]
    refine zV.icmp_le (tgt := 42) C dX3_isBetter_35 (by decide) (fun q35 => ?_) (fun q35 => ?_)
    · have r35 := (nI_leI (by omega) (by omega)).mp q35
      refine zV.ic (v := nI 0) C dX3_isBetter_42 (by decide) ?_
      refine zV.zret C F dX3_isBetter_43 rfl rfl ?_
      refine ⟨?_, rfl⟩
      unfold bet
      first
        | exact retb (by simp; omega)
        | exact retnb (by simp; omega)
    · have r35 := mt (nI_leI (by omega) (by omega)).mpr q35
      refine zV.ic (v := nI 1) C dX3_isBetter_38 (by decide) ?_
      refine zV.goto (tgt := 43) C dX3_isBetter_39 (by decide) ?_
      refine zV.zret C F dX3_isBetter_43 rfl rfl ?_
      refine ⟨?_, rfl⟩
      unfold bet
      first
        | exact retb (by simp; omega)
        | exact retnb (by simp; omega)
/-- how many of the lawns from k on, n of them, come ahead of l -/
def rlF (g : zGd) (l : Nat) : Nat → Nat → Nat
  | 0, _ => 0
  | n + 1, k => (if bet g k l = true then 1 else 0) + rlF g l n (k + 1)
/-- the first lawn from k on, of n, that has the rank x -/
def lrF (g : zGd) (x : Int32) : Nat → Nat → Int32
  | 0, _ => -1
  | n + 1, k => if nI (rlF g k 6 0) = x then nI k else lrF g x n (k + 1)
/-- the best neighbour of l among n from k on, and o -/
def bnF (g : zGd) (l : Nat) : Nat → Nat → Option Nat → Option Nat
  | 0, _, o => o
  | n + 1, k, o => bnF g l n (k + 1) (if (gN g l).testBit k = true ∧ (match o with | none => true | some j => bet g k j) = true then some k else o)
set_option maxHeartbeats 4000000 in
set_option maxRecDepth 100000 in
theorem L_rankOfLawn {X : zX} {l : Launch} {E : zG} {rm : Room} (hzs : zS E) (hst : l.stackTraces = false) (C : zC X cX3_rankOfLawn RX3 4) (G : zGX X l E rm) {h : zH} {b : Nat} {g : zGd} {l9 : Nat} (hl9 : l9 < 6) {Qr : Option Value → zH → Prop} {Qx : String → zH → Prop} (hr : rm = ({ frames := 2, cells := 0, slots := 0, locals := 43 } : Room)) (F : zF X (some .int) 0 0 Qr Qx) (hg : zGa h b g) (hw : gW g) : ∀ n k p9, k ≤ 6 → 7 ≤ k + n → Qr (some (.int (nI (p9 + rlF g l9 (6 - k) k)))) h → zV X 0 0 h 4 [(0, .ref b), (1, .int (nI l9)), (2, .int (nI p9)), (3, .int (nI k))] [] := by
  subst hr
  have hl := gW_len hw
  have hB := gW_b hw
  intro n
  induction n with
  | zero => intro k p9 h1 h2; exact absurd h2 (by omega)
  | succ n ih =>
    intro k p9 hk hn hq
    refine zV.iload_n C dX3_rankOfLawn_4 rfl ?_
    refine zV.bi (v := nI 6) C dX3_rankOfLawn_5 (by decide) ?_
    refine zV.icmp_ge (tgt := 28) C dX3_rankOfLawn_7 (by decide) (fun q7 => ?_) (fun q7 => ?_)
    · have e : k = 6 := by have := nle (by omega) (by decide) q7; omega
      subst e
      refine zV.iload_n C dX3_rankOfLawn_28 rfl ?_
      refine zV.iret C F dX3_rankOfLawn_29 rfl ?_
      exact hq
    · have hk6 : k < 6 := nlt (by omega) (by decide) q7
      rw [show 6 - k = (6 - (k + 1)) + 1 by omega, rlF] at hq
      refine zV.aload_n C dX3_rankOfLawn_10 rfl rfl ?_
      refine zV.iload_n C dX3_rankOfLawn_11 rfl ?_
      refine zV.iload_n C dX3_rankOfLawn_12 rfl ?_
      refine zV.callV (n := 2) C G dX3_rankOfLawn_13 (s_isBetter hzs hst h b g k l9 hk6 hl9 hg hw) rfl ⟨cd_X3_isBetter, lk_X3_195, im_X3_isBetter, se_X3_X3_isBetter, in_X3⟩ ⟨⟨by decide, by decide⟩, by decide⟩ rfl rfl rfl (hg.1.1) ⟨rfl, by decide⟩ (zaf ?_) (zno)
      refine zV.if_eq (tgt := 22) C dX3_rankOfLawn_16 (by decide) (fun q16 => ?_) (fun q16 => ?_)
      · rw [if_neg (fun z => by rw [b2n.mp q16] at z; cases z), Nat.zero_add] at hq
        refine zV.iinc (lo' := [(0, _), (1, _), (2, _), (3, _)]) C dX3_rankOfLawn_22 rfl (by decide) rfl rfl rfl ?_
        refine zV.goto (tgt := 4) C dX3_rankOfLawn_25 (by decide) ?_
        simp only [inc1]
        exact ih (k + 1) _ (by omega) (by omega) hq
      · rw [if_pos (Bool.of_not_eq_false (fun z => q16 (b2n.mpr z))), ← Nat.add_assoc] at hq
        refine zV.iinc (lo' := [(0, _), (1, _), (2, _), (3, _)]) C dX3_rankOfLawn_19 rfl (by decide) rfl rfl rfl ?_
        refine zV.iinc (lo' := [(0, _), (1, _), (2, _), (3, _)]) C dX3_rankOfLawn_22 rfl (by decide) rfl rfl rfl ?_
        refine zV.goto (tgt := 4) C dX3_rankOfLawn_25 (by decide) ?_
        simp only [inc1]
        exact ih (k + 1) _ (by omega) (by omega) hq
set_option maxHeartbeats 4000000 in
set_option maxRecDepth 100000 in
theorem s_rankOfLawn {l : Launch} {E : zG} (hzs : zS E) (hst : l.stackTraces = false) (h : zH) (b : Nat) (g : zGd) (l9 : Nat) (hl9 : l9 < 6) (hg : zGa h b g) (hw : gW g) : zMet l E yX3_rankOfLawn cX3_rankOfLawn 4 (some .int) ({ frames := 2, cells := 0, slots := 0, locals := 43 } : Room) 0 0 [.ref b, .int (nI l9)] h (fun r h' => r = some (.int (nI (rlF g l9 6 0))) ∧ h' = h) (fun _ _ => False) := by
  refine zM_start hzs hst (by decide) (Nat.le_of_ble_eq_true rfl) (fun X C G F I => ?_)
  show zV X 0 0 _ 0 [(0, _), (1, _)] []
  refine zV.ic (v := nI 0) C dX3_rankOfLawn_0 (by decide) ?_
  refine zV.istore_n (lo' := [(0, _), (1, _), (2, _)]) C dX3_rankOfLawn_1 (by decide) rfl rfl rfl ?_
  refine zV.ic (v := nI 0) C dX3_rankOfLawn_2 (by decide) ?_
  refine zV.istore_n (lo' := [(0, _), (1, _), (2, _), (3, _)]) C dX3_rankOfLawn_3 (by decide) rfl rfl rfl ?_
  exact L_rankOfLawn hzs hst C G hl9 rfl F hg hw 7 0 0 (by omega) (by omega) ⟨by rw [Nat.zero_add], rfl⟩
set_option maxHeartbeats 4000000 in
set_option maxRecDepth 100000 in
theorem L_lawnAtRank {X : zX} {l : Launch} {E : zG} {rm : Room} (hzs : zS E) (hst : l.stackTraces = false) (C : zC X cX3_lawnAtRank RX3 3) (G : zGX X l E rm) {h : zH} {b : Nat} {g : zGd} {x : Int32} {Qr : Option Value → zH → Prop} {Qx : String → zH → Prop} (hr : rm = ({ frames := 3, cells := 0, slots := 0, locals := 66 } : Room)) (F : zF X (some .int) 0 0 Qr Qx) (hg : zGa h b g) (hw : gW g) : ∀ n k, k ≤ 6 → 7 ≤ k + n → Qr (some (.int (lrF g x (6 - k) k))) h → zV X 0 0 h 2 [(0, .ref b), (1, .int x), (2, .int (nI k))] [] := by
  subst hr
  have hl := gW_len hw
  have hB := gW_b hw
  intro n
  induction n with
  | zero => intro k h1 h2; exact absurd h2 (by omega)
  | succ n ih =>
    intro k hk hn hq
    refine zV.iload_n C dX3_lawnAtRank_2 rfl ?_
    refine zV.bi (v := nI 6) C dX3_lawnAtRank_3 (by decide) ?_
    refine zV.icmp_ge (tgt := 25) C dX3_lawnAtRank_5 (by decide) (fun q5 => ?_) (fun q5 => ?_)
    · have e : k = 6 := by have := nle (by omega) (by decide) q5; omega
      subst e
      refine zV.ic (v := (-1)) C dX3_lawnAtRank_25 (by decide) ?_
      refine zV.iret C F dX3_lawnAtRank_26 rfl ?_
      exact hq
    · have hk6 : k < 6 := nlt (by omega) (by decide) q5
      rw [show 6 - k = (6 - (k + 1)) + 1 by omega, lrF] at hq
      refine zV.aload_n C dX3_lawnAtRank_8 rfl rfl ?_
      refine zV.iload_n C dX3_lawnAtRank_9 rfl ?_
      refine zV.callV (n := 1) C G dX3_lawnAtRank_10 (s_rankOfLawn hzs hst h b g k hk6 hg hw) rfl ⟨cd_X3_rankOfLawn, lk_X3_192, im_X3_rankOfLawn, se_X3_X3_rankOfLawn, in_X3⟩ ⟨⟨by decide, by decide⟩, by decide⟩ rfl rfl rfl (hg.1.1) ⟨rfl, by decide⟩ (zaf ?_) (zno)
      refine zV.iload_n C dX3_lawnAtRank_13 rfl ?_
      refine zV.icmp_ne (tgt := 19) C dX3_lawnAtRank_14 (by decide) (fun q14 => ?_) (fun q14 => ?_)
      · rw [if_neg q14] at hq
        refine zV.iinc (lo' := [(0, _), (1, _), (2, _)]) C dX3_lawnAtRank_19 rfl (by decide) rfl rfl rfl ?_
        refine zV.goto (tgt := 2) C dX3_lawnAtRank_22 (by decide) ?_
        rw [inc1]
        exact ih (k + 1) (by omega) (by omega) hq
      · rw [if_pos q14] at hq
        refine zV.iload_n C dX3_lawnAtRank_17 rfl ?_
        refine zV.iret C F dX3_lawnAtRank_18 rfl ?_
        exact hq
set_option maxHeartbeats 4000000 in
set_option maxRecDepth 100000 in
theorem s_lawnAtRank {l : Launch} {E : zG} (hzs : zS E) (hst : l.stackTraces = false) (h : zH) (b : Nat) (g : zGd) (x : Int32) (hg : zGa h b g) (hw : gW g) : zMet l E yX3_lawnAtRank cX3_lawnAtRank 3 (some .int) ({ frames := 3, cells := 0, slots := 0, locals := 66 } : Room) 0 0 [.ref b, .int x] h (fun r h' => r = some (.int (lrF g x 6 0)) ∧ h' = h) (fun _ _ => False) := by
  refine zM_start hzs hst (by decide) (Nat.le_of_ble_eq_true rfl) (fun X C G F I => ?_)
  show zV X 0 0 _ 0 [(0, _), (1, _)] []
  refine zV.ic (v := nI 0) C dX3_lawnAtRank_0 (by decide) ?_
  refine zV.istore_n (lo' := [(0, _), (1, _), (2, _)]) C dX3_lawnAtRank_1 (by decide) rfl rfl rfl ?_
  exact L_lawnAtRank hzs hst C G rfl F hg hw 7 0 (by omega) (by omega) ⟨rfl, rfl⟩
set_option maxHeartbeats 4000000 in
set_option maxRecDepth 100000 in
theorem L_shadiestNeighbour {X : zX} {l : Launch} {E : zG} {rm : Room} (hzs : zS E) (hst : l.stackTraces = false) (C : zC X cX3_shadiestNeighbour RX3 4) (G : zGX X l E rm) {h : zH} {b : Nat} {g : zGd} {l9 : Nat} (hl9 : l9 < 6) {Qr : Option Value → zH → Prop} {Qx : String → zH → Prop} (hr : rm = ({ frames := 2, cells := 0, slots := 0, locals := 43 } : Room)) (F : zF X (some .int) 0 0 Qr Qx) (hg : zGa h b g) (hw : gW g) : ∀ n k o, k ≤ 6 → 7 ≤ k + n → (∀ j, o = some j → j < 6) → Qr (some (.int (oI (bnF g l9 (6 - k) k o)))) h → zV X 0 0 h 4 [(0, .ref b), (1, .int (nI l9)), (2, .int (oI o)), (3, .int (nI k))] [] := by
  subst hr
  have hl := gW_len hw
  have hB := gW_b hw
  intro n
  induction n with
  | zero => intro k o h1 h2; exact absurd h2 (by omega)
  | succ n ih =>
    intro k o hk hn ho hq
    rcases o with _ | j
    · refine zV.iload_n C dX3_shadiestNeighbour_4 rfl ?_
      refine zV.bi (v := nI 6) C dX3_shadiestNeighbour_5 (by decide) ?_
      refine zV.icmp_ge (tgt := 44) C dX3_shadiestNeighbour_7 (by decide) (fun q7 => ?_) (fun q7 => ?_)
      · have e : k = 6 := by have := nle (by omega) (by decide) q7; omega
        subst e
        refine zV.iload_n C dX3_shadiestNeighbour_44 rfl ?_
        refine zV.iret C F dX3_shadiestNeighbour_45 rfl ?_
        exact hq
      · have hk6 : k < 6 := nlt (by omega) (by decide) q7
        rw [show 6 - k = (6 - (k + 1)) + 1 by omega, bnF] at hq
        refine zV.aload_n C dX3_shadiestNeighbour_10 rfl rfl ?_
        refine zV.gR 192 (k := 0) C dX3_shadiestNeighbour_11 zcl_X3 (by decide) rfl lk_X3_12 (hg.1.1) rfl (hg.1.2.1) ?_
        refine zV.iload_n C dX3_shadiestNeighbour_14 rfl ?_
        refine zV.iload_n C dX3_shadiestNeighbour_15 rfl ?_
        refine zV.callV (n := 2) C G dX3_shadiestNeighbour_16 (s_Paths_areNeighbours hzs hst h (b + 1) l9 k (gN g) hl9 hk6 (zGa_pa hg)) rfl ⟨cd_X8_areNeighbours, lk_X3_199, im_X8_areNeighbours, se_X8_X8_areNeighbours, in_X8⟩ ⟨⟨by decide, by decide⟩, by decide⟩ rfl rfl rfl (hg.1.2.2.2.2.2.1.1) ⟨rfl, by decide⟩ (zaf ?_) (zno)
        refine zV.if_eq (tgt := 38) C dX3_shadiestNeighbour_19 (by decide) (fun q19 => ?_) (fun q19 => ?_)
        · rw [if_neg (fun z => b01.mp q19 z.1)] at hq
          refine zV.iinc (lo' := [(0, _), (1, _), (2, _), (3, _)]) C dX3_shadiestNeighbour_38 rfl (by decide) rfl rfl rfl ?_
          refine zV.goto (tgt := 4) C dX3_shadiestNeighbour_41 (by decide) ?_
          rw [inc1]
          first
            | exact ih (k + 1) (some k) (by omega) (by omega) (fun j9 z => by cases z; exact hk6) hq
            | exact ih (k + 1) none (by omega) (by omega) (fun j9 z => by cases z) hq
            | exact ih (k + 1) (some j) (by omega) (by omega) ho hq
        · have hnb := Decidable.not_not.mp (fun z => q19 (b01.mpr z))
          refine zV.iload_n C dX3_shadiestNeighbour_22 rfl ?_
          refine zV.ic (v := (-1)) C dX3_shadiestNeighbour_23 (by decide) ?_
          refine zV.icmp_eq (tgt := 36) C dX3_shadiestNeighbour_24 (by decide) (fun q24 => ?_) (fun q24 => ?_)
          · rw [if_pos ⟨hnb, rfl⟩] at hq
            refine zV.iload_n C dX3_shadiestNeighbour_36 rfl ?_
            refine zV.istore_n (lo' := [(0, _), (1, _), (2, _), (3, _)]) C dX3_shadiestNeighbour_37 (by decide) rfl rfl rfl ?_
            refine zV.iinc (lo' := [(0, _), (1, _), (2, _), (3, _)]) C dX3_shadiestNeighbour_38 rfl (by decide) rfl rfl rfl ?_
            refine zV.goto (tgt := 4) C dX3_shadiestNeighbour_41 (by decide) ?_
            rw [inc1]
            first
              | exact ih (k + 1) (some k) (by omega) (by omega) (fun j9 z => by cases z; exact hk6) hq
              | exact ih (k + 1) none (by omega) (by omega) (fun j9 z => by cases z) hq
              | exact ih (k + 1) (some j) (by omega) (by omega) ho hq
          · exact absurd rfl q24
    · have hj := ho j rfl
      refine zV.iload_n C dX3_shadiestNeighbour_4 rfl ?_
      refine zV.bi (v := nI 6) C dX3_shadiestNeighbour_5 (by decide) ?_
      refine zV.icmp_ge (tgt := 44) C dX3_shadiestNeighbour_7 (by decide) (fun q7 => ?_) (fun q7 => ?_)
      · have e : k = 6 := by have := nle (by omega) (by decide) q7; omega
        subst e
        refine zV.iload_n C dX3_shadiestNeighbour_44 rfl ?_
        refine zV.iret C F dX3_shadiestNeighbour_45 rfl ?_
        exact hq
      · have hk6 : k < 6 := nlt (by omega) (by decide) q7
        rw [show 6 - k = (6 - (k + 1)) + 1 by omega, bnF] at hq
        refine zV.aload_n C dX3_shadiestNeighbour_10 rfl rfl ?_
        refine zV.gR 192 (k := 0) C dX3_shadiestNeighbour_11 zcl_X3 (by decide) rfl lk_X3_12 (hg.1.1) rfl (hg.1.2.1) ?_
        refine zV.iload_n C dX3_shadiestNeighbour_14 rfl ?_
        refine zV.iload_n C dX3_shadiestNeighbour_15 rfl ?_
        refine zV.callV (n := 2) C G dX3_shadiestNeighbour_16 (s_Paths_areNeighbours hzs hst h (b + 1) l9 k (gN g) hl9 hk6 (zGa_pa hg)) rfl ⟨cd_X8_areNeighbours, lk_X3_199, im_X8_areNeighbours, se_X8_X8_areNeighbours, in_X8⟩ ⟨⟨by decide, by decide⟩, by decide⟩ rfl rfl rfl (hg.1.2.2.2.2.2.1.1) ⟨rfl, by decide⟩ (zaf ?_) (zno)
        refine zV.if_eq (tgt := 38) C dX3_shadiestNeighbour_19 (by decide) (fun q19 => ?_) (fun q19 => ?_)
        · rw [if_neg (fun z => b01.mp q19 z.1)] at hq
          refine zV.iinc (lo' := [(0, _), (1, _), (2, _), (3, _)]) C dX3_shadiestNeighbour_38 rfl (by decide) rfl rfl rfl ?_
          refine zV.goto (tgt := 4) C dX3_shadiestNeighbour_41 (by decide) ?_
          rw [inc1]
          first
            | exact ih (k + 1) (some k) (by omega) (by omega) (fun j9 z => by cases z; exact hk6) hq
            | exact ih (k + 1) none (by omega) (by omega) (fun j9 z => by cases z) hq
            | exact ih (k + 1) (some j) (by omega) (by omega) ho hq
        · have hnb := Decidable.not_not.mp (fun z => q19 (b01.mpr z))
          refine zV.iload_n C dX3_shadiestNeighbour_22 rfl ?_
          refine zV.ic (v := (-1)) C dX3_shadiestNeighbour_23 (by decide) ?_
          refine zV.icmp_eq (tgt := 36) C dX3_shadiestNeighbour_24 (by decide) (fun q24 => ?_) (fun q24 => ?_)
          · exact absurd q24 (nI_m1 (by omega))
          · refine zV.aload_n C dX3_shadiestNeighbour_27 rfl rfl ?_
            refine zV.iload_n C dX3_shadiestNeighbour_28 rfl ?_
            refine zV.iload_n C dX3_shadiestNeighbour_29 rfl ?_
            refine zV.callV (n := 2) C G dX3_shadiestNeighbour_30 (s_isBetter hzs hst h b g k j hk6 hj hg hw) rfl ⟨cd_X3_isBetter, lk_X3_195, im_X3_isBetter, se_X3_X3_isBetter, in_X3⟩ ⟨⟨by decide, by decide⟩, by decide⟩ rfl rfl rfl (hg.1.1) ⟨rfl, by decide⟩ (zaf ?_) (zno)
            refine zV.if_eq (tgt := 38) C dX3_shadiestNeighbour_33 (by decide) (fun q33 => ?_) (fun q33 => ?_)
            · rw [if_neg (fun z => by rw [b2n.mp q33] at z; cases z.2)] at hq
              refine zV.iinc (lo' := [(0, _), (1, _), (2, _), (3, _)]) C dX3_shadiestNeighbour_38 rfl (by decide) rfl rfl rfl ?_
              refine zV.goto (tgt := 4) C dX3_shadiestNeighbour_41 (by decide) ?_
              rw [inc1]
              first
                | exact ih (k + 1) (some k) (by omega) (by omega) (fun j9 z => by cases z; exact hk6) hq
                | exact ih (k + 1) none (by omega) (by omega) (fun j9 z => by cases z) hq
                | exact ih (k + 1) (some j) (by omega) (by omega) ho hq
            · rw [if_pos ⟨hnb, Bool.of_not_eq_false (fun z => q33 (b2n.mpr z))⟩] at hq
              refine zV.iload_n C dX3_shadiestNeighbour_36 rfl ?_
              refine zV.istore_n (lo' := [(0, _), (1, _), (2, _), (3, _)]) C dX3_shadiestNeighbour_37 (by decide) rfl rfl rfl ?_
              refine zV.iinc (lo' := [(0, _), (1, _), (2, _), (3, _)]) C dX3_shadiestNeighbour_38 rfl (by decide) rfl rfl rfl ?_
              refine zV.goto (tgt := 4) C dX3_shadiestNeighbour_41 (by decide) ?_
              rw [inc1]
              first
                | exact ih (k + 1) (some k) (by omega) (by omega) (fun j9 z => by cases z; exact hk6) hq
                | exact ih (k + 1) none (by omega) (by omega) (fun j9 z => by cases z) hq
                | exact ih (k + 1) (some j) (by omega) (by omega) ho hq
set_option maxHeartbeats 4000000 in
set_option maxRecDepth 100000 in
theorem s_shadiestNeighbour {l : Launch} {E : zG} (hzs : zS E) (hst : l.stackTraces = false) (h : zH) (b : Nat) (g : zGd) (l9 : Nat) (hl9 : l9 < 6) (hg : zGa h b g) (hw : gW g) : zMet l E yX3_shadiestNeighbour cX3_shadiestNeighbour 4 (some .int) ({ frames := 2, cells := 0, slots := 0, locals := 43 } : Room) 0 0 [.ref b, .int (nI l9)] h (fun r h' => r = some (.int (oI (bnF g l9 6 0 none))) ∧ h' = h) (fun _ _ => False) := by
  refine zM_start hzs hst (by decide) (Nat.le_of_ble_eq_true rfl) (fun X C G F I => ?_)
  show zV X 0 0 _ 0 [(0, _), (1, _)] []
  refine zV.ic (v := (-1)) C dX3_shadiestNeighbour_0 (by decide) ?_
  refine zV.istore_n (lo' := [(0, _), (1, _), (2, _)]) C dX3_shadiestNeighbour_1 (by decide) rfl rfl rfl ?_
  refine zV.ic (v := nI 0) C dX3_shadiestNeighbour_2 (by decide) ?_
  refine zV.istore_n (lo' := [(0, _), (1, _), (2, _), (3, _)]) C dX3_shadiestNeighbour_3 (by decide) rfl rfl rfl ?_
  exact L_shadiestNeighbour hzs hst C G hl9 rfl F hg hw 7 0 none (by omega) (by omega) (fun j z => by cases z) ⟨rfl, rfl⟩
