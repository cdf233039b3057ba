/-! the reference: its cells, what they hold, its small methods -/
/-- the reference's cells, from r on -/
def zMs (h : zH) (r : Nat) : Prop := hK h r = 14 ∧ hR h 416 r = some (r + 1) ∧ hR h 417 r = some (r + 2) ∧ hR h 418 r = some (r + 3) ∧ hR h 419 r = some (r + 4) ∧ hR h 421 r = some (r + 5) ∧ hR h 423 r = some (r + 6) ∧ hR h 425 r = some (r + 7) ∧ hR h 429 r = some (r + 8) ∧
  (hK h (r + 1) = 103 ∧ hL h (r + 1) = 116) ∧ (hK h (r + 2) = 103 ∧ hL h (r + 2) = 116) ∧ (hK h (r + 3) = 103 ∧ hL h (r + 3) = 116) ∧ (hK h (r + 4) = 103 ∧ hL h (r + 4) = 928) ∧ (hK h (r + 5) = 103 ∧ hL h (r + 5) = 116) ∧ (hK h (r + 6) = 102 ∧ hL h (r + 6) = 60) ∧ (hK h (r + 7) = 102 ∧ hL h (r + 7) = 60) ∧ (hK h (r + 8) = 103 ∧ hL h (r + 8) = 2)
/-- the chairs, in the order of their ids -/
def rCs (f : Nat → Int32) (cs : List zCh) : Prop := f 0 = nI cs.length ∧ ∀ k c, cs[k]? = some c → f (56 + 5 * k) = nI (chI c) ∧ f (56 + 5 * k + 1) = nI (chL c) ∧ f (56 + 5 * k + 2) = nI (chR c) ∧ f (56 + 5 * k + 3) = nI (b2 (chF c)) ∧ f (56 + 5 * k + 4) = nI (chD c)
/-- the herds: for each lawn the ids -/
def rHs (f : Nat → Int32) (H : Nat → List Nat) : Prop := ∀ l, l < 6 → f (8 + 8 * l + 2) = nI (H l).length ∧ ∀ k x, (H l)[k]? = some x → f (8 + 8 * l + 3 + k) = nI x
def rLs (f : Nat → Int32) (g : zGd) : Prop := ∀ l, l < 6 → f (8 + 8 * l) = nI (gS g l) ∧ f (8 + 8 * l + 1) = nI (gN g l)
def rNs (f : Nat → Int32) (g : zGd) : Prop := f 1 = nI (gX g) ∧ f 2 = nI (gD g) ∧ f 3 = nI (gO g) ∧ f 4 = nI (gF g) ∧ f 5 = nI (gU g) ∧ f 6 = nI (gM g) ∧ f 7 = nI (gZ g)
/-- what the numbers f hold: all of g but its chairs; the chairs cs; the herds H -/
def rF (f : Nat → Int32) (g : zGd) (cs : List zCh) (H : Nat → List Nat) : Prop := rCs f cs ∧ rHs f H ∧ rLs f g ∧ rNs f g
/-- the bounds of all of it -/
def rW (g : zGd) (cs : List zCh) (H : Nat → List Nat) : Prop := cs.length ≤ 12 ∧ (∀ c ∈ cs, chI c < big ∧ chL c < 6 ∧ chR c ≤ 11 ∧ chD c ≤ gD g) ∧ (∀ l, l < 6 → (H l).length ≤ 5) ∧ (∀ l, l < 6 → ∀ x ∈ H l, ∃ c ∈ cs, chI c = x ∧ chL c = l) ∧ (∀ c ∈ cs, chI c ∈ H (chL c)) ∧ (∀ l, l < 6 → (H l).Nodup) ∧ (cs.map chI).Nodup
theorem ixm {a b c d : Nat} : nI a + nI b * nI c + nI d = nI (a + b * c + d) := by rw [pk_mul, nI_add, nI_add]
def inB (x a b : Int32) : Bool := decide (a ≤ x) && decide (x ≤ b)
theorem inB_ln {x : Int32} : inB x (nI 0) (nI 5) = (ln x).isSome := by
  rcases h : ln x with _ | j
  · rcases ln_none h with q | q
    · unfold inB
      rw [decide_eq_false (by exact Int32.not_le.mpr q)]; rfl
    · unfold inB
      rw [decide_eq_false (p := x ≤ nI 5) (fun z => by
        have := Int32.le_trans q z
        exact absurd this (by decide)), Bool.and_false]; rfl
  · obtain ⟨hj, rfl⟩ := ln_some h
    exact (show ∀ j, j < 6 → inB (nI j) (nI 0) (nI 5) = true by decide) j hj
theorem bz {x : Bool} : narrow .boolean (.int (nI (b2 x))) = .int (nI (b2 x)) := b01b.1
set_option maxHeartbeats 4000000 in
set_option maxRecDepth 100000 in
theorem s_min {l : Launch} {E : zG} (hzs : zS E) (hst : l.stackTraces = false) (h : zH) (x a b : Int32) : zMet l E yX10_in cX10_in 3 (some .boolean) ({ frames := 0, cells := 0, slots := 0, locals := 0 } : Room) 0 0 [.int x, .int a, .int b] h (fun v h' => v = some (.int (nI (b2 (inB x a b)))) ∧ h' = h) (fun _ _ => False) := by
  refine zM_start hzs hst (by decide) (Nat.le_of_ble_eq_true rfl) (fun X C G F I => ?_)
  show zV X 0 0 _ 0 [(0, _), (1, _), (2, _)] []
  refine zV.iload_n C dX10_in_0 rfl ?_
  refine zV.iload_n C dX10_in_1 rfl ?_
  refine zV.icmp_lt (tgt := 14) C dX10_in_2 (by decide) (fun q2 => ?_) (fun q2 => ?_)
  · have e : inB x a b = false := by unfold inB; rw [decide_eq_false (by exact Int32.not_le.mpr q2)]; rfl
    refine zV.ic (v := nI 0) C dX10_in_14 (by decide) ?_
    refine zV.zret C F dX10_in_15 rfl rfl ?_
    exact ⟨by rw [e]; rfl, rfl⟩
    
  · refine zV.iload_n C dX10_in_5 rfl ?_
    refine zV.iload_n C dX10_in_6 rfl ?_
    refine zV.icmp_gt (tgt := 14) C dX10_in_7 (by decide) (fun q7 => ?_) (fun q7 => ?_)
    · have e : inB x a b = false := by unfold inB; rw [decide_eq_false (p := x ≤ b) (by exact Int32.not_le.mpr q7), Bool.and_false]
      refine zV.ic (v := nI 0) C dX10_in_14 (by decide) ?_
      refine zV.zret C F dX10_in_15 rfl rfl ?_
      exact ⟨by rw [e]; rfl, rfl⟩
    · have e : inB x a b = true := by unfold inB; rw [decide_eq_true (p := a ≤ x) (Int32.not_lt.mp q2), decide_eq_true (p := x ≤ b) (Int32.not_lt.mp q7)]; rfl
      refine zV.ic (v := nI 1) C dX10_in_10 (by decide) ?_
      refine zV.goto (tgt := 15) C dX10_in_11 (by decide) ?_
      refine zV.zret C F dX10_in_15 rfl rfl ?_
      exact ⟨by rw [e]; rfl, rfl⟩
set_option maxHeartbeats 4000000 in
set_option maxRecDepth 100000 in
theorem s_misLawn {l : Launch} {E : zG} (hzs : zS E) (hst : l.stackTraces = false) (h : zH) (x : Int32) : zMet l E yX10_isLawn cX10_isLawn 1 (some .boolean) ({ frames := 1, cells := 0, slots := 0, locals := 22 } : Room) 0 0 [.int x] h (fun v h' => v = some (.int (nI (b2 (ln x).isSome))) ∧ h' = h) (fun _ _ => False) := by
  refine zM_start hzs hst (by decide) (Nat.le_of_ble_eq_true rfl) (fun X C G F I => ?_)
  show zV X 0 0 _ 0 [(0, _)] []
  refine zV.iload_n C dX10_isLawn_0 rfl ?_
  refine zV.ic (v := nI 0) C dX10_isLawn_1 (by decide) ?_
  refine zV.ic (v := nI 5) C dX10_isLawn_2 (by decide) ?_
  refine zV.callS (n := 3) C G dX10_isLawn_3 (s_min hzs hst h x (nI 0) (nI 5)) rfl ⟨cd_X10_in, lk_X10_61, st_X10_in, in_X10⟩ ⟨⟨by decide, by decide⟩, by decide⟩ rfl rfl rfl (zaf ?_) (zno)
  refine zV.zret C F dX10_isLawn_6 bz rfl ?_
  exact ⟨by rw [inB_ln], rfl⟩
set_option maxHeartbeats 4000000 in
set_option maxRecDepth 100000 in
theorem s_mlawn {l : Launch} {E : zG} (hzs : zS E) (hst : l.stackTraces = false) (h : zH) (r : Nat) (hm : zMs h r) (l9 w : Nat) (hl : l9 < 6) (hw : w < 3) : zMet l E yX10_lawn cX10_lawn 3 (some .int) ({ frames := 0, cells := 0, slots := 0, locals := 0 } : Room) 0 0 [.ref r, .int (nI l9), .int (nI w)] h (fun v h' => v = some (.int (aI h (r + 1) (8 + 8 * l9 + w))) ∧ h' = h) (fun _ _ => False) := by
  refine zM_start hzs hst (by decide) (Nat.le_of_ble_eq_true rfl) (fun X C G F I => ?_)
  show zV X 0 0 _ 0 [(0, _), (1, _), (2, _)] []
  refine zV.aload_n C dX10_lawn_0 rfl rfl ?_
  refine zV.gR 416 (k := 0) C dX10_lawn_1 zcl_X10 (by decide) rfl lk_X10_9 (hm.1) rfl (hm.2.1) ?_
  refine zV.bi (v := nI 8) C dX10_lawn_4 (by decide) ?_
  refine zV.bi (v := nI 8) C dX10_lawn_6 (by decide) ?_
  refine zV.iload_n C dX10_lawn_8 rfl ?_
  refine zV.imul C dX10_lawn_9 ?_
  refine zV.iadd C dX10_lawn_10 ?_
  refine zV.iload_n C dX10_lawn_11 rfl ?_
  refine zV.iadd C dX10_lawn_12 ?_
  refine zV.iald (j := 8 + 8 * l9 + w) C dX10_lawn_13 (hm.2.2.2.2.2.2.2.2.2.1.1) (ixm) (Nat.lt_of_lt_of_eq (show 8 + 8 * l9 + w < 116 by omega) (hm.2.2.2.2.2.2.2.2.2.1.2).symm) (by omega) ?_
  refine zV.iret C F dX10_lawn_14 rfl ?_
  exact ⟨rfl, rfl⟩
set_option maxHeartbeats 4000000 in
set_option maxRecDepth 100000 in
theorem s_mherd {l : Launch} {E : zG} (hzs : zS E) (hst : l.stackTraces = false) (h : zH) (r : Nat) (hm : zMs h r) (l9 k : Nat) (hl : l9 < 6) (hk : k < 5) : zMet l E yX10_herd cX10_herd 3 (some .int) ({ frames := 0, cells := 0, slots := 0, locals := 0 } : Room) 0 0 [.ref r, .int (nI l9), .int (nI k)] h (fun v h' => v = some (.int (aI h (r + 1) (8 + 8 * l9 + 3 + k))) ∧ h' = h) (fun _ _ => False) := by
  refine zM_start hzs hst (by decide) (Nat.le_of_ble_eq_true rfl) (fun X C G F I => ?_)
  show zV X 0 0 _ 0 [(0, _), (1, _), (2, _)] []
  refine zV.aload_n C dX10_herd_0 rfl rfl ?_
  refine zV.gR 416 (k := 0) C dX10_herd_1 zcl_X10 (by decide) rfl lk_X10_9 (hm.1) rfl (hm.2.1) ?_
  refine zV.bi (v := nI 8) C dX10_herd_4 (by decide) ?_
  refine zV.bi (v := nI 8) C dX10_herd_6 (by decide) ?_
  refine zV.iload_n C dX10_herd_8 rfl ?_
  refine zV.imul C dX10_herd_9 ?_
  refine zV.iadd C dX10_herd_10 ?_
  refine zV.ic (v := nI 3) C dX10_herd_11 (by decide) ?_
  refine zV.iadd C dX10_herd_12 ?_
  refine zV.iload_n C dX10_herd_13 rfl ?_
  refine zV.iadd C dX10_herd_14 ?_
  refine zV.iald (j := 8 + 8 * l9 + 3 + k) C dX10_herd_15 (hm.2.2.2.2.2.2.2.2.2.1.1) (by rw [ixm, nI_add]) (Nat.lt_of_lt_of_eq (show 8 + 8 * l9 + 3 + k < 116 by omega) (hm.2.2.2.2.2.2.2.2.2.1.2).symm) (by omega) ?_
  refine zV.iret C F dX10_herd_16 rfl ?_
  exact ⟨rfl, rfl⟩
set_option maxHeartbeats 4000000 in
set_option maxRecDepth 100000 in
theorem s_mof {l : Launch} {E : zG} (hzs : zS E) (hst : l.stackTraces = false) (h : zH) (r : Nat) (hm : zMs h r) (k w : Nat) (hk : k < 12) (hw : w < 5) : zMet l E yX10_of cX10_of 3 (some .int) ({ frames := 0, cells := 0, slots := 0, locals := 0 } : Room) 0 0 [.ref r, .int (nI k), .int (nI w)] h (fun v h' => v = some (.int (aI h (r + 1) (56 + 5 * k + w))) ∧ h' = h) (fun _ _ => False) := by
  refine zM_start hzs hst (by decide) (Nat.le_of_ble_eq_true rfl) (fun X C G F I => ?_)
  show zV X 0 0 _ 0 [(0, _), (1, _), (2, _)] []
  refine zV.aload_n C dX10_of_0 rfl rfl ?_
  refine zV.gR 416 (k := 0) C dX10_of_1 zcl_X10 (by decide) rfl lk_X10_9 (hm.1) rfl (hm.2.1) ?_
  refine zV.bi (v := nI 56) C dX10_of_4 (by decide) ?_
  refine zV.ic (v := nI 5) C dX10_of_6 (by decide) ?_
  refine zV.iload_n C dX10_of_7 rfl ?_
  refine zV.imul C dX10_of_8 ?_
  refine zV.iadd C dX10_of_9 ?_
  refine zV.iload_n C dX10_of_10 rfl ?_
  refine zV.iadd C dX10_of_11 ?_
  refine zV.iald (j := 56 + 5 * k + w) C dX10_of_12 (hm.2.2.2.2.2.2.2.2.2.1.1) (ixm) (Nat.lt_of_lt_of_eq (show 56 + 5 * k + w < 116 by omega) (hm.2.2.2.2.2.2.2.2.2.1.2).symm) (by omega) ?_
  refine zV.iret C F dX10_of_13 rfl ?_
  exact ⟨rfl, rfl⟩
set_option maxHeartbeats 4000000 in
set_option maxRecDepth 100000 in
theorem s_msets {l : Launch} {E : zG} (hzs : zS E) (hst : l.stackTraces = false) (h : zH) (r : Nat) (hm : zMs h r) (k w : Nat) (x : Int32) (hk : k < 12) (hw : w < 5) : zMet l E yX10_sets cX10_sets 4 none ({ frames := 0, cells := 0, slots := 0, locals := 0 } : Room) 0 0 [.ref r, .int (nI k), .int (nI w), .int x] h (fun v h' => v = none ∧ h' = saI h (r + 1) (56 + 5 * k + w) x) (fun _ _ => False) := by
  refine zM_start hzs hst (by decide) (Nat.le_of_ble_eq_true rfl) (fun X C G F I => ?_)
  show zV X 0 0 _ 0 [(0, _), (1, _), (2, _), (3, _)] []
  refine zV.aload_n C dX10_sets_0 rfl rfl ?_
  refine zV.gR 416 (k := 0) C dX10_sets_1 zcl_X10 (by decide) rfl lk_X10_9 (hm.1) rfl (hm.2.1) ?_
  refine zV.bi (v := nI 56) C dX10_sets_4 (by decide) ?_
  refine zV.ic (v := nI 5) C dX10_sets_6 (by decide) ?_
  refine zV.iload_n C dX10_sets_7 rfl ?_
  refine zV.imul C dX10_sets_8 ?_
  refine zV.iadd C dX10_sets_9 ?_
  refine zV.iload_n C dX10_sets_10 rfl ?_
  refine zV.iadd C dX10_sets_11 ?_
  refine zV.iload_n C dX10_sets_12 rfl ?_
  refine zV.iast (j := 56 + 5 * k + w) C dX10_sets_13 (hm.2.2.2.2.2.2.2.2.2.1.1) (ixm) (Nat.lt_of_lt_of_eq (show 56 + 5 * k + w < 116 by omega) (hm.2.2.2.2.2.2.2.2.2.1.2).symm) (by omega) ?_
  refine zV.vret C F dX10_sets_14 rfl ?_
  exact ⟨rfl, rfl⟩
set_option maxHeartbeats 4000000 in
set_option maxRecDepth 100000 in
theorem s_mraises {l : Launch} {E : zG} (hzs : zS E) (hst : l.stackTraces = false) (h : zH) (r : Nat) (hm : zMs h r) (x : Int32) : zMet l E yX10_raises cX10_raises 2 (some .int) ({ frames := 0, cells := 0, slots := 0, locals := 0 } : Room) 0 0 [.ref r, .int x] h (fun v h' => v = some (.int (nI 0)) ∧ h' = sI h 435 r x) (fun _ _ => False) := by
  refine zM_start hzs hst (by decide) (Nat.le_of_ble_eq_true rfl) (fun X C G F I => ?_)
  show zV X 0 0 _ 0 [(0, _), (1, _)] []
  refine zV.aload_n C dX10_raises_0 rfl rfl ?_
  refine zV.iload_n C dX10_raises_1 rfl ?_
  refine zV.pI 435 (k := 19) C dX10_raises_2 zcl_X10 (by decide) rfl lk_X10_39 rfl hm.1 rfl ⟨rfl, rfl⟩ ?_
  refine zV.ic (v := nI 0) C dX10_raises_5 (by decide) ?_
  refine zV.iret C F dX10_raises_6 rfl ?_
  exact ⟨rfl, rfl⟩
set_option maxHeartbeats 4000000 in
set_option maxRecDepth 100000 in
theorem s_mthrown {l : Launch} {E : zG} (hzs : zS E) (hst : l.stackTraces = false) (h : zH) (r : Nat) (hm : zMs h r) : zMet l E yX10_thrown cX10_thrown 1 (some .int) ({ frames := 0, cells := 0, slots := 0, locals := 0 } : Room) 0 0 [.ref r] h (fun v h' => v = some (.int (hI h 435 r)) ∧ h' = h) (fun _ _ => False) := by
  refine zM_start hzs hst (by decide) (Nat.le_of_ble_eq_true rfl) (fun X C G F I => ?_)
  show zV X 0 0 _ 0 [(0, _)] []
  refine zV.aload_n C dX10_thrown_0 rfl rfl ?_
  refine zV.gI 435 (k := 19) C dX10_thrown_1 zcl_X10 (by decide) rfl lk_X10_39 hm.1 rfl ?_
  refine zV.iret C F dX10_thrown_4 rfl ?_
  exact ⟨rfl, rfl⟩
set_option maxHeartbeats 4000000 in
set_option maxRecDepth 100000 in
theorem s_mdoes {l : Launch} {E : zG} (hzs : zS E) (hst : l.stackTraces = false) (h : zH) (r : Nat) (hm : zMs h r) (x : Int32) : zMet l E yX10_does cX10_does 2 (some .int) ({ frames := 0, cells := 0, slots := 0, locals := 0 } : Room) 0 0 [.ref r, .int x] h (fun v h' => v = some (.int (nI 0)) ∧ h' = sI h 434 r x) (fun _ _ => False) := by
  refine zM_start hzs hst (by decide) (Nat.le_of_ble_eq_true rfl) (fun X C G F I => ?_)
  show zV X 0 0 _ 0 [(0, _), (1, _)] []
  refine zV.aload_n C dX10_does_0 rfl rfl ?_
  refine zV.iload_n C dX10_does_1 rfl ?_
  refine zV.pI 434 (k := 18) C dX10_does_2 zcl_X10 (by decide) rfl lk_X10_42 rfl hm.1 rfl ⟨rfl, rfl⟩ ?_
  refine zV.ic (v := nI 0) C dX10_does_5 (by decide) ?_
  refine zV.iret C F dX10_does_6 rfl ?_
  exact ⟨rfl, rfl⟩
def rjM (h : zH) (r : Nat) (x y : Int32) : zH := sI (sI (sI h 431 r x) 432 r y) 433 r (nI 0)
set_option maxHeartbeats 4000000 in
set_option maxRecDepth 100000 in
theorem s_mrejects {l : Launch} {E : zG} (hzs : zS E) (hst : l.stackTraces = false) (h : zH) (r : Nat) (hm : zMs h r) (x y : Int32) : zMet l E yX10_rejects cX10_rejects 3 (some .int) ({ frames := 0, cells := 0, slots := 0, locals := 0 } : Room) 0 0 [.ref r, .int x, .int y] h (fun v h' => v = some (.int (-1)) ∧ h' = rjM h r x y) (fun _ _ => False) := by
  refine zM_start hzs hst (by decide) (Nat.le_of_ble_eq_true rfl) (fun X C G F I => ?_)
  show zV X 0 0 _ 0 [(0, _), (1, _), (2, _)] []
  refine zV.aload_n C dX10_rejects_0 rfl rfl ?_
  refine zV.iload_n C dX10_rejects_1 rfl ?_
  refine zV.pI 431 (k := 15) C dX10_rejects_2 zcl_X10 (by decide) rfl lk_X10_45 rfl hm.1 rfl ⟨rfl, rfl⟩ ?_
  refine zV.aload_n C dX10_rejects_5 rfl rfl ?_
  refine zV.iload_n C dX10_rejects_6 rfl ?_
  refine zV.pI 432 (k := 16) C dX10_rejects_7 zcl_X10 (by decide) rfl lk_X10_48 rfl hm.1 rfl ⟨rfl, rfl⟩ ?_
  refine zV.aload_n C dX10_rejects_10 rfl rfl ?_
  refine zV.ic (v := nI 0) C dX10_rejects_11 (by decide) ?_
  refine zV.pI 433 (k := 17) C dX10_rejects_12 zcl_X10 (by decide) rfl lk_X10_51 rfl hm.1 rfl ⟨rfl, rfl⟩ ?_
  refine zV.ic (v := (-1)) C dX10_rejects_15 (by decide) ?_
  refine zV.iret C F dX10_rejects_16 rfl ?_
  exact ⟨rfl, rfl⟩
set_option maxHeartbeats 4000000 in
set_option maxRecDepth 100000 in
theorem L_mplace {X : zX} {l : Launch} {E : zG} {rm : Room} (hzs : zS E) (hst : l.stackTraces = false) (C : zC X cX10_place RX10 3) (G : zGX X l E rm) {x : Int32} {Qr : Option Value → zH → Prop} {Qx : String → zH → Prop} (hr : rm = ({ frames := 1, cells := 0, slots := 0, locals := 22 } : Room)) (F : zF X (some .int) 0 0 Qr Qx) {h : zH} {r : Nat} {g : zGd} {cs : List zCh} {H : Nat → List Nat} (hm : zMs h r) (hf : rF (aI h (r + 1)) g cs H) (hw : rW g cs H) : ∀ n k, k ≤ cs.length → cs.length + 1 ≤ k + n → Qr (some (.int (oI (ixF x (cs.drop k) k)))) h → zV X 0 0 h 2 [(0, .ref r), (1, .int x), (2, .int (nI k))] [] := by
  subst hr
  have hl := hw.1
  intro n
  induction n with
  | zero => intro k h1 h2; exact absurd h2 (by omega)
  | succ n ih =>
    intro k hk hn hq
    refine zV.iload_n C dX10_place_2 rfl ?_
    refine zV.aload_n C dX10_place_3 rfl rfl ?_
    refine zV.gR 416 (k := 0) C dX10_place_4 zcl_X10 (by decide) rfl lk_X10_9 (hm.1) rfl (hm.2.1) ?_
    refine zV.ic (v := nI 0) C dX10_place_7 (by decide) ?_
    refine zV.ialdv (j := 0) C dX10_place_8 (hm.2.2.2.2.2.2.2.2.2.1.1) (rfl) (Nat.lt_of_lt_of_eq (show 0 < 116 by decide) (hm.2.2.2.2.2.2.2.2.2.1.2).symm) (by omega) (hf.1.1) ?_
    refine zV.icmp_ge (tgt := 30) C dX10_place_9 (by decide) (fun q9 => ?_) (fun q9 => ?_)
    · have e : k = cs.length := by have := nle (by omega) (by omega) q9; omega
      subst e
      rw [List.drop_length] at hq
      refine zV.ic (v := (-1)) C dX10_place_30 (by decide) ?_
      refine zV.iret C F dX10_place_31 rfl ?_
      exact hq
    · have hkl : k < cs.length := nlt (by omega) (by omega) q9
      obtain ⟨c, hc, hd⟩ := drop_cons hkl
      rw [hd] at hq
      have h12 : k < 12 := by omega
      obtain ⟨c1, c2, c3, c4, c5⟩ := hf.1.2 k c hc
      obtain ⟨b1, b2_, b3, b4⟩ := hw.2.1 c (List.mem_of_getElem? hc)
      refine zV.aload_n C dX10_place_12 rfl rfl ?_
      refine zV.iload_n C dX10_place_13 rfl ?_
      refine zV.ic (v := nI 0) C dX10_place_14 (by decide) ?_
      refine zV.callV (n := 2) C G dX10_place_15 (s_mof hzs hst h r hm k 0 h12 (by decide)) rfl ⟨cd_X10_of, lk_X10_65, im_X10_of, se_X10_X10_of, in_X10⟩ ⟨⟨by decide, by decide⟩, by decide⟩ rfl rfl rfl (hm.1) ⟨rfl, by decide⟩ (zaf ?_) (zno)
      rw [show 56 + 5 * k + 0 = 56 + 5 * k from rfl, c1]
      refine zV.iload_n C dX10_place_18 rfl ?_
      refine zV.icmp_ne (tgt := 24) C dX10_place_19 (by decide) (fun q19 => ?_) (fun q19 => ?_)
      · rw [ixF, if_neg q19] at hq
        refine zV.iinc (lo' := [(0, _), (1, _), (2, _)]) C dX10_place_24 rfl (by decide) rfl rfl rfl ?_
        refine zV.goto (tgt := 2) C dX10_place_27 (by decide) ?_
        rw [inc1]
        exact ih (k + 1) (by omega) (by omega) hq
      · rw [ixF, if_pos q19] at hq
        refine zV.iload_n C dX10_place_22 rfl ?_
        refine zV.iret C F dX10_place_23 rfl ?_
        exact hq
set_option maxHeartbeats 4000000 in
set_option maxRecDepth 100000 in
theorem s_mplace {l : Launch} {E : zG} (hzs : zS E) (hst : l.stackTraces = false) (h : zH) (r : Nat) (g : zGd) (cs : List zCh) (H : Nat → List Nat) (hm : zMs h r) (hf : rF (aI h (r + 1)) g cs H) (hw : rW g cs H) (x : Int32) : zMet l E yX10_place cX10_place 3 (some .int) ({ frames := 1, cells := 0, slots := 0, locals := 22 } : Room) 0 0 [.ref r, .int x] h (fun v h' => v = some (.int (oI (ixF x cs 0))) ∧ h' = h) (fun _ _ => False) := by
  refine zM_start hzs hst (by decide) (Nat.le_of_ble_eq_true rfl) (fun X C G F I => ?_)
  show zV X 0 0 _ 0 [(0, _), (1, _)] []
  refine zV.ic (v := nI 0) C dX10_place_0 (by decide) ?_
  refine zV.istore_n (lo' := [(0, _), (1, _), (2, _)]) C dX10_place_1 (by decide) rfl rfl rfl ?_
  exact L_mplace hzs hst C G rfl F hm hf hw (cs.length + 1) 0 (Nat.zero_le _) (by omega) ⟨rfl, rfl⟩
set_option maxHeartbeats 4000000 in
set_option maxRecDepth 100000 in
theorem L_mfolded {X : zX} {l : Launch} {E : zG} {rm : Room} (hzs : zS E) (hst : l.stackTraces = false) (C : zC X cX10_folded RX10 3) (G : zGX X l E rm)  {Qr : Option Value → zH → Prop} {Qx : String → zH → Prop} (hr : rm = ({ frames := 1, cells := 0, slots := 0, locals := 22 } : Room)) (F : zF X (some .int) 0 0 Qr Qx) {h : zH} {r : Nat} {g : zGd} {cs : List zCh} {H : Nat → List Nat} (hm : zMs h r) (hf : rF (aI h (r + 1)) g cs H) (hw : rW g cs H) : ∀ n k p, k ≤ cs.length → cs.length + 1 ≤ k + n → Qr (some (.int (nI (p + (cs.drop k).countP chF)))) h → zV X 0 0 h 4 [(0, .ref r), (1, .int (nI p)), (2, .int (nI k))] [] := by
  subst hr
  have hl := hw.1
  intro n
  induction n with
  | zero => intro k p h1 h2; exact absurd h2 (by omega)
  | succ n ih =>
    intro k p hk hn hq
    refine zV.iload_n C dX10_folded_4 rfl ?_
    refine zV.aload_n C dX10_folded_5 rfl rfl ?_
    refine zV.gR 416 (k := 0) C dX10_folded_6 zcl_X10 (by decide) rfl lk_X10_9 (hm.1) rfl (hm.2.1) ?_
    refine zV.ic (v := nI 0) C dX10_folded_9 (by decide) ?_
    refine zV.ialdv (j := 0) C dX10_folded_10 (hm.2.2.2.2.2.2.2.2.2.1.1) (rfl) (Nat.lt_of_lt_of_eq (show 0 < 116 by decide) (hm.2.2.2.2.2.2.2.2.2.1.2).symm) (by omega) (hf.1.1) ?_
    refine zV.icmp_ge (tgt := 29) C dX10_folded_11 (by decide) (fun q11 => ?_) (fun q11 => ?_)
    · have e : k = cs.length := by have := nle (by omega) (by omega) q11; omega
      subst e
      rw [List.drop_length] at hq
      refine zV.iload_n C dX10_folded_29 rfl ?_
      refine zV.iret C F dX10_folded_30 rfl ?_
      exact hq
    · have hkl : k < cs.length := nlt (by omega) (by omega) q11
      obtain ⟨c, hc, hd⟩ := drop_cons hkl
      rw [hd] at hq
      have h12 : k < 12 := by omega
      obtain ⟨c1, c2, c3, c4, c5⟩ := hf.1.2 k c hc
      obtain ⟨b1, b2_, b3, b4⟩ := hw.2.1 c (List.mem_of_getElem? hc)
      refine zV.iload_n C dX10_folded_14 rfl ?_
      refine zV.aload_n C dX10_folded_15 rfl rfl ?_
      refine zV.iload_n C dX10_folded_16 rfl ?_
      refine zV.ic (v := nI 3) C dX10_folded_17 (by decide) ?_
      refine zV.callV (n := 2) C G dX10_folded_18 (s_mof hzs hst h r hm k 3 h12 (by decide)) rfl ⟨cd_X10_of, lk_X10_65, im_X10_of, se_X10_X10_of, in_X10⟩ ⟨⟨by decide, by decide⟩, by decide⟩ rfl rfl rfl (hm.1) ⟨rfl, by decide⟩ (zaf ?_) (zno)
      rw [c4]
      refine zV.iadd C dX10_folded_21 ?_
      refine zV.istore_n (lo' := [(0, _), (1, _), (2, _)]) C dX10_folded_22 (by decide) rfl rfl rfl ?_
      refine zV.iinc (lo' := [(0, _), (1, _), (2, _)]) C dX10_folded_23 rfl (by decide) rfl rfl rfl ?_
      refine zV.goto (tgt := 4) C dX10_folded_26 (by decide) ?_
      rw [inc1, nI_add]
      rw [cnt_cons, Nat.add_comm (List.countP _ _) _, ← Nat.add_assoc] at hq
      exact ih (k + 1) _ (by omega) (by omega) hq
set_option maxHeartbeats 4000000 in
set_option maxRecDepth 100000 in
theorem s_mfolded {l : Launch} {E : zG} (hzs : zS E) (hst : l.stackTraces = false) (h : zH) (r : Nat) (g : zGd) (cs : List zCh) (H : Nat → List Nat) (hm : zMs h r) (hf : rF (aI h (r + 1)) g cs H) (hw : rW g cs H) : zMet l E yX10_folded cX10_folded 3 (some .int) ({ frames := 1, cells := 0, slots := 0, locals := 22 } : Room) 0 0 [.ref r] h (fun v h' => v = some (.int (nI (cs.countP chF))) ∧ h' = h) (fun _ _ => False) := by
  refine zM_start hzs hst (by decide) (Nat.le_of_ble_eq_true rfl) (fun X C G F I => ?_)
  show zV X 0 0 _ 0 [(0, _)] []
  refine zV.ic (v := nI 0) C dX10_folded_0 (by decide) ?_
  refine zV.istore_n (lo' := [(0, _), (1, _)]) C dX10_folded_1 (by decide) rfl rfl rfl ?_
  refine zV.ic (v := nI 0) C dX10_folded_2 (by decide) ?_
  refine zV.istore_n (lo' := [(0, _), (1, _), (2, _)]) C dX10_folded_3 (by decide) rfl rfl rfl ?_
  exact L_mfolded hzs hst C G rfl F hm hf hw (cs.length + 1) 0 0 (Nat.zero_le _) (by omega) ⟨by rw [Nat.zero_add]; rfl, rfl⟩
set_option maxHeartbeats 4000000 in
set_option maxRecDepth 100000 in
theorem L_mrusts {X : zX} {l : Launch} {E : zG} {rm : Room} (hzs : zS E) (hst : l.stackTraces = false) (C : zC X cX10_rusts RX10 3) (G : zGX X l E rm)  {Qr : Option Value → zH → Prop} {Qx : String → zH → Prop} (hr : rm = ({ frames := 1, cells := 0, slots := 0, locals := 22 } : Room)) (F : zF X (some .int) 0 0 Qr Qx) {h : zH} {r : Nat} {g : zGd} {cs : List zCh} {H : Nat → List Nat} (hm : zMs h r) (hf : rF (aI h (r + 1)) g cs H) (hw : rW g cs H) : ∀ n k p, k ≤ cs.length → cs.length + 1 ≤ k + n → Qr (some (.int (nI (p + rsum (cs.drop k))))) h → zV X 0 0 h 4 [(0, .ref r), (1, .int (nI p)), (2, .int (nI k))] [] := by
  subst hr
  have hl := hw.1
  intro n
  induction n with
  | zero => intro k p h1 h2; exact absurd h2 (by omega)
  | succ n ih =>
    intro k p hk hn hq
    refine zV.iload_n C dX10_rusts_4 rfl ?_
    refine zV.aload_n C dX10_rusts_5 rfl rfl ?_
    refine zV.gR 416 (k := 0) C dX10_rusts_6 zcl_X10 (by decide) rfl lk_X10_9 (hm.1) rfl (hm.2.1) ?_
    refine zV.ic (v := nI 0) C dX10_rusts_9 (by decide) ?_
    refine zV.ialdv (j := 0) C dX10_rusts_10 (hm.2.2.2.2.2.2.2.2.2.1.1) (rfl) (Nat.lt_of_lt_of_eq (show 0 < 116 by decide) (hm.2.2.2.2.2.2.2.2.2.1.2).symm) (by omega) (hf.1.1) ?_
    refine zV.icmp_ge (tgt := 29) C dX10_rusts_11 (by decide) (fun q11 => ?_) (fun q11 => ?_)
    · have e : k = cs.length := by have := nle (by omega) (by omega) q11; omega
      subst e
      rw [List.drop_length] at hq
      refine zV.iload_n C dX10_rusts_29 rfl ?_
      refine zV.iret C F dX10_rusts_30 rfl ?_
      exact hq
    · have hkl : k < cs.length := nlt (by omega) (by omega) q11
      obtain ⟨c, hc, hd⟩ := drop_cons hkl
      rw [hd] at hq
      have h12 : k < 12 := by omega
      obtain ⟨c1, c2, c3, c4, c5⟩ := hf.1.2 k c hc
      obtain ⟨b1, b2_, b3, b4⟩ := hw.2.1 c (List.mem_of_getElem? hc)
      refine zV.iload_n C dX10_rusts_14 rfl ?_
      refine zV.aload_n C dX10_rusts_15 rfl rfl ?_
      refine zV.iload_n C dX10_rusts_16 rfl ?_
      refine zV.ic (v := nI 2) C dX10_rusts_17 (by decide) ?_
      refine zV.callV (n := 2) C G dX10_rusts_18 (s_mof hzs hst h r hm k 2 h12 (by decide)) rfl ⟨cd_X10_of, lk_X10_65, im_X10_of, se_X10_X10_of, in_X10⟩ ⟨⟨by decide, by decide⟩, by decide⟩ rfl rfl rfl (hm.1) ⟨rfl, by decide⟩ (zaf ?_) (zno)
      rw [c3]
      refine zV.iadd C dX10_rusts_21 ?_
      refine zV.istore_n (lo' := [(0, _), (1, _), (2, _)]) C dX10_rusts_22 (by decide) rfl rfl rfl ?_
      refine zV.iinc (lo' := [(0, _), (1, _), (2, _)]) C dX10_rusts_23 rfl (by decide) rfl rfl rfl ?_
      refine zV.goto (tgt := 4) C dX10_rusts_26 (by decide) ?_
      rw [inc1, nI_add]
      rw [rsum, ← Nat.add_assoc] at hq
      exact ih (k + 1) _ (by omega) (by omega) hq
set_option maxHeartbeats 4000000 in
set_option maxRecDepth 100000 in
theorem s_mrusts {l : Launch} {E : zG} (hzs : zS E) (hst : l.stackTraces = false) (h : zH) (r : Nat) (g : zGd) (cs : List zCh) (H : Nat → List Nat) (hm : zMs h r) (hf : rF (aI h (r + 1)) g cs H) (hw : rW g cs H) : zMet l E yX10_rusts cX10_rusts 3 (some .int) ({ frames := 1, cells := 0, slots := 0, locals := 22 } : Room) 0 0 [.ref r] h (fun v h' => v = some (.int (nI (rsum cs))) ∧ h' = h) (fun _ _ => False) := by
  refine zM_start hzs hst (by decide) (Nat.le_of_ble_eq_true rfl) (fun X C G F I => ?_)
  show zV X 0 0 _ 0 [(0, _)] []
  refine zV.ic (v := nI 0) C dX10_rusts_0 (by decide) ?_
  refine zV.istore_n (lo' := [(0, _), (1, _)]) C dX10_rusts_1 (by decide) rfl rfl rfl ?_
  refine zV.ic (v := nI 0) C dX10_rusts_2 (by decide) ?_
  refine zV.istore_n (lo' := [(0, _), (1, _), (2, _)]) C dX10_rusts_3 (by decide) rfl rfl rfl ?_
  exact L_mrusts hzs hst C G rfl F hm hf hw (cs.length + 1) 0 0 (Nat.zero_le _) (by omega) ⟨by rw [Nat.zero_add]; rfl, rfl⟩
