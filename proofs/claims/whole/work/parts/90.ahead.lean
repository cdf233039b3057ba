/-! the reference: forecasts; what was rejected; undo; snapshots -/
set_option maxHeartbeats 4000000 in
set_option maxRecDepth 100000 in
theorem s_qsyntaxErrorOffset {l : Launch} {E : zG} (hzs : zS E) (hst : l.stackTraces = false) (h : zH) (r : Nat) (hm : zMs h r) (off : Int32) (ho : hI h 430 r = off) (hoff : off = -1 ∨ 0 ≤ off) : zMet l E yX10_syntaxErrorOffset cX10_syntaxErrorOffset 1 (some .int) ({ frames := 1, cells := 0, slots := 0, locals := 21 } : Room) 0 0 [.ref r] h (mqQ h r (elA off) c1 (.int (nI 0))) (fun _ _ => False) := by
  refine zM_start hzs hst (by decide) (Nat.le_of_ble_eq_true rfl) (fun X C G F I => ?_)
  show zV X 0 0 _ 0 [(0, _)] []
  refine zV.aload_n C dX10_syntaxErrorOffset_0 rfl rfl ?_
  refine zV.ic (v := nI 0) C dX10_syntaxErrorOffset_1 (by decide) ?_
  refine zV.pI 435 (k := 19) C dX10_syntaxErrorOffset_2 zcl_X10 (by decide) rfl lk_X10_39 rfl hm.1 rfl ⟨rfl, rfl⟩ ?_
  refine zV.aload_n C dX10_syntaxErrorOffset_5 rfl rfl ?_
  refine zV.gIv 430 (k := 14) C dX10_syntaxErrorOffset_6 zcl_X10 (by decide) rfl lk_X10_35 hm.1 rfl ((show hI (sI h 435 r (nI 0)) 430 r = off from (hI_sI_f (by decide)).trans ho)) ?_
  refine zV.if_ge (tgt := 20) C dX10_syntaxErrorOffset_9 (by decide) (fun q9 => ?_) (fun q9 => ?_)
  · have e9 : ¬ off = -1 := fun z => by rw [z] at q9; exact absurd q9 (by decide)
    refine zV.aload_n C dX10_syntaxErrorOffset_20 rfl rfl ?_
    refine zV.gIv 430 (k := 14) C dX10_syntaxErrorOffset_21 zcl_X10 (by decide) rfl lk_X10_35 hm.1 rfl ((show hI (sI h 435 r (nI 0)) 430 r = off from (hI_sI_f (by decide)).trans ho)) ?_
    refine zV.iret C F dX10_syntaxErrorOffset_24 rfl ?_
    first
      | exact mq_r (if_neg e9)
      | exact mq_y (show elA off = .inl NSE from if_pos e9) rfl
  · have e9 : off = -1 := hoff.resolve_right q9
    refine zV.aload_n C dX10_syntaxErrorOffset_12 rfl rfl ?_
    refine zV.ic (v := nI 1) C dX10_syntaxErrorOffset_13 (by decide) ?_
    refine zV.callV (n := 1) C G dX10_syntaxErrorOffset_14 (s_mraises hzs hst (sI h 435 r (nI 0)) r hm (nI 1)) rfl ⟨cd_X10_raises, lk_X10_54, im_X10_raises, se_X10_X10_raises, in_X10⟩ ⟨⟨by decide, by decide⟩, by decide⟩ rfl rfl rfl (hm.1) ⟨rfl, by decide⟩ (zaf ?_) (zno)
    refine zV.goto (tgt := 24) C dX10_syntaxErrorOffset_17 (by decide) ?_
    refine zV.iret C F dX10_syntaxErrorOffset_24 rfl ?_
    first
      | exact mq_r (if_neg e9)
      | exact mq_y (show elA off = .inl NSE from if_pos e9) rfl
set_option maxHeartbeats 4000000 in
set_option maxRecDepth 100000 in
theorem s_qrejectionReason {l : Launch} {E : zG} (hzs : zS E) (hst : l.stackTraces = false) (h : zH) (r : Nat) (hm : zMs h r) (rs : Int32) (hr : hI h 431 r = rs) : zMet l E yX10_rejectionReason cX10_rejectionReason 1 (some .int) ({ frames := 0, cells := 0, slots := 0, locals := 0 } : Room) 0 0 [.ref r] h (mqQ h r (rjA rs rs) c1 (.int rs)) (fun _ _ => False) := by
  refine zM_start hzs hst (by decide) (Nat.le_of_ble_eq_true rfl) (fun X C G F I => ?_)
  show zV X 0 0 _ 0 [(0, _)] []
  refine zV.aload_n C dX10_rejectionReason_0 rfl rfl ?_
  refine zV.aload_n C dX10_rejectionReason_1 rfl rfl ?_
  refine zV.gIv 431 (k := 15) C dX10_rejectionReason_2 zcl_X10 (by decide) rfl lk_X10_45 hm.1 rfl (hr) ?_
  refine zV.if_ne (tgt := 12) C dX10_rejectionReason_5 (by decide) (fun q5 => ?_) (fun q5 => ?_)
  · have e5 : ¬ rs = 0 := q5
    refine zV.ic (v := nI 0) C dX10_rejectionReason_12 (by decide) ?_
    refine zV.pI 435 (k := 19) C dX10_rejectionReason_13 zcl_X10 (by decide) rfl lk_X10_39 rfl hm.1 rfl ⟨rfl, rfl⟩ ?_
    refine zV.aload_n C dX10_rejectionReason_16 rfl rfl ?_
    refine zV.gIv 431 (k := 15) C dX10_rejectionReason_17 zcl_X10 (by decide) rfl lk_X10_45 hm.1 rfl ((show hI (sI h 435 r _) 431 r = rs from (hI_sI_f (by decide)).trans hr)) ?_
    refine zV.iret C F dX10_rejectionReason_20 rfl ?_
    first
      | exact mq_r (if_neg e5)
      | exact mq_x (show rjA rs rs = .inl NSE from if_pos e5) rfl
  · have e5 : rs = 0 := q5
    refine zV.ic (v := nI 1) C dX10_rejectionReason_8 (by decide) ?_
    refine zV.goto (tgt := 13) C dX10_rejectionReason_9 (by decide) ?_
    refine zV.pI 435 (k := 19) C dX10_rejectionReason_13 zcl_X10 (by decide) rfl lk_X10_39 rfl hm.1 rfl ⟨rfl, rfl⟩ ?_
    refine zV.aload_n C dX10_rejectionReason_16 rfl rfl ?_
    refine zV.gIv 431 (k := 15) C dX10_rejectionReason_17 zcl_X10 (by decide) rfl lk_X10_45 hm.1 rfl ((show hI (sI h 435 r _) 431 r = rs from (hI_sI_f (by decide)).trans hr)) ?_
    refine zV.iret C F dX10_rejectionReason_20 rfl ?_
    first
      | exact mq_r (if_neg e5)
      | exact mq_x (show rjA rs rs = .inl NSE from if_pos e5) rfl
set_option maxHeartbeats 4000000 in
set_option maxRecDepth 100000 in
theorem s_qrejectionDetail {l : Launch} {E : zG} (hzs : zS E) (hst : l.stackTraces = false) (h : zH) (r : Nat) (hm : zMs h r) (rs dt : Int32) (hr : hI h 431 r = rs) (hd : hI h 432 r = dt) : zMet l E yX10_rejectionDetail cX10_rejectionDetail 1 (some .int) ({ frames := 0, cells := 0, slots := 0, locals := 0 } : Room) 0 0 [.ref r] h (mqQ h r (rjA rs dt) c1 (.int dt)) (fun _ _ => False) := by
  refine zM_start hzs hst (by decide) (Nat.le_of_ble_eq_true rfl) (fun X C G F I => ?_)
  show zV X 0 0 _ 0 [(0, _)] []
  refine zV.aload_n C dX10_rejectionDetail_0 rfl rfl ?_
  refine zV.aload_n C dX10_rejectionDetail_1 rfl rfl ?_
  refine zV.gIv 431 (k := 15) C dX10_rejectionDetail_2 zcl_X10 (by decide) rfl lk_X10_45 hm.1 rfl (hr) ?_
  refine zV.if_ne (tgt := 12) C dX10_rejectionDetail_5 (by decide) (fun q5 => ?_) (fun q5 => ?_)
  · have e5 : ¬ rs = 0 := q5
    refine zV.ic (v := nI 0) C dX10_rejectionDetail_12 (by decide) ?_
    refine zV.pI 435 (k := 19) C dX10_rejectionDetail_13 zcl_X10 (by decide) rfl lk_X10_39 rfl hm.1 rfl ⟨rfl, rfl⟩ ?_
    refine zV.aload_n C dX10_rejectionDetail_16 rfl rfl ?_
    refine zV.gIv 432 (k := 16) C dX10_rejectionDetail_17 zcl_X10 (by decide) rfl lk_X10_48 hm.1 rfl ((show hI (sI h 435 r _) 432 r = dt from (hI_sI_f (by decide)).trans hd)) ?_
    refine zV.iret C F dX10_rejectionDetail_20 rfl ?_
    first
      | exact mq_r (if_neg e5)
      | exact mq_x (show rjA rs dt = .inl NSE from if_pos e5) rfl
  · have e5 : rs = 0 := q5
    refine zV.ic (v := nI 1) C dX10_rejectionDetail_8 (by decide) ?_
    refine zV.goto (tgt := 13) C dX10_rejectionDetail_9 (by decide) ?_
    refine zV.pI 435 (k := 19) C dX10_rejectionDetail_13 zcl_X10 (by decide) rfl lk_X10_39 rfl hm.1 rfl ⟨rfl, rfl⟩ ?_
    refine zV.aload_n C dX10_rejectionDetail_16 rfl rfl ?_
    refine zV.gIv 432 (k := 16) C dX10_rejectionDetail_17 zcl_X10 (by decide) rfl lk_X10_48 hm.1 rfl ((show hI (sI h 435 r _) 432 r = dt from (hI_sI_f (by decide)).trans hd)) ?_
    refine zV.iret C F dX10_rejectionDetail_20 rfl ?_
    first
      | exact mq_r (if_neg e5)
      | exact mq_x (show rjA rs dt = .inl NSE from if_pos e5) rfl
set_option maxHeartbeats 4000000 in
set_option maxRecDepth 100000 in
theorem s_qcauseReason {l : Launch} {E : zG} (hzs : zS E) (hst : l.stackTraces = false) (h : zH) (r : Nat) (hm : zMs h r) (rs cs : Int32) (hc : hI h 433 r = cs) (hi : (rs = nI 11 ∧ ¬ cs = 0) ∨ (rs ≠ nI 11 ∧ cs = 0)) : zMet l E yX10_causeReason cX10_causeReason 1 (some .int) ({ frames := 0, cells := 0, slots := 0, locals := 0 } : Room) 0 0 [.ref r] h (mqQ h r (csA rs cs) c1 (.int (nI 0))) (fun _ _ => False) := by
  refine zM_start hzs hst (by decide) (Nat.le_of_ble_eq_true rfl) (fun X C G F I => ?_)
  show zV X 0 0 _ 0 [(0, _)] []
  refine zV.aload_n C dX10_causeReason_0 rfl rfl ?_
  refine zV.aload_n C dX10_causeReason_1 rfl rfl ?_
  refine zV.gIv 433 (k := 17) C dX10_causeReason_2 zcl_X10 (by decide) rfl lk_X10_51 hm.1 rfl (hc) ?_
  refine zV.if_ne (tgt := 12) C dX10_causeReason_5 (by decide) (fun q5 => ?_) (fun q5 => ?_)
  · have e5 : rs = nI 11 := (hi.resolve_right (fun z => q5 z.2)).1
    refine zV.ic (v := nI 0) C dX10_causeReason_12 (by decide) ?_
    refine zV.pI 435 (k := 19) C dX10_causeReason_13 zcl_X10 (by decide) rfl lk_X10_39 rfl hm.1 rfl ⟨rfl, rfl⟩ ?_
    refine zV.aload_n C dX10_causeReason_16 rfl rfl ?_
    refine zV.gIv 433 (k := 17) C dX10_causeReason_17 zcl_X10 (by decide) rfl lk_X10_51 hm.1 rfl ((show hI (sI h 435 r _) 433 r = cs from (hI_sI_f (by decide)).trans hc)) ?_
    refine zV.iret C F dX10_causeReason_20 rfl ?_
    first
      | exact mq_r (if_pos e5)
      | (rw [q5]; exact mq_x (show csA rs 0 = .inl NSE from if_neg e5) rfl)
  · have e5 : ¬ rs = nI 11 := fun z => by rcases hi with y | y; exact y.2 q5; exact y.1 z
    refine zV.ic (v := nI 1) C dX10_causeReason_8 (by decide) ?_
    refine zV.goto (tgt := 13) C dX10_causeReason_9 (by decide) ?_
    refine zV.pI 435 (k := 19) C dX10_causeReason_13 zcl_X10 (by decide) rfl lk_X10_39 rfl hm.1 rfl ⟨rfl, rfl⟩ ?_
    refine zV.aload_n C dX10_causeReason_16 rfl rfl ?_
    refine zV.gIv 433 (k := 17) C dX10_causeReason_17 zcl_X10 (by decide) rfl lk_X10_51 hm.1 rfl ((show hI (sI h 435 r _) 433 r = cs from (hI_sI_f (by decide)).trans hc)) ?_
    refine zV.iret C F dX10_causeReason_20 rfl ?_
    first
      | exact mq_r (if_pos e5)
      | (rw [q5]; exact mq_x (show csA rs 0 = .inl NSE from if_neg e5) rfl)
/-- a question that looks ahead: the numbers are put back *)-/
def mwQ (h : zH) (r : Nat) (A : zAn) (cf : String → Nat) (g : zGd) : Option Value → zH → Prop := fun v h' => v = some (match A with | .inl _ => .int (nI 0) | .inr w => w) ∧ hI h' 435 r = nI (match A with | .inl Ex => cf Ex | .inr _ => 0) ∧ rE h h' r [435] [1, 3] ∧ rG (aI h' (r + 1)) g
theorem fg_st {h1 : zH} {r m : Nat} {g : zGd} {f1 : Nat → Int32} (hm : zMs h1 r) (ht : rG (aI h1 (r + 3)) g) (hR : gR m g) : rG (cpF (aI h1 (r + 3)) f1 116) g := rG_d ht hR (fun j hj => cpF_y hj)
theorem th_st {h : zH} {r m : Nat} {g : zGd} {x : Int32} (hm : zMs h r) (hg : rG (aI h (r + 1)) g) (hR : gR m g) : ∃ H1, H1 = sRow (sI h 435 r x) (r + 3) (cpF (aI (sI h 435 r x) (r + 1)) (aI (sI h 435 r x) (r + 3)) 116) ∧ rE h H1 r [435] [3] ∧ zMs H1 r ∧ rG (aI H1 (r + 1)) g ∧ rG (aI H1 (r + 3)) g ∧ hI H1 435 r = x := by
  have E1 : rE h (sRow (sI h 435 r x) (r + 3) (cpF (aI (sI h 435 r x) (r + 1)) (aI (sI h 435 r x) (r + 3)) 116)) r [435] [3] := (rE.i.trans rE.a).mono (by simp) (by simp)
  refine ⟨_, rfl, E1, E1.m hm, by rw [E1.r (by decide)]; exact hg, ?_, hI_sI⟩
  rw [show aI (sRow (sI h 435 r x) (r + 3) (cpF (aI (sI h 435 r x) (r + 1)) (aI (sI h 435 r x) (r + 3)) 116)) (r + 3) = cpF (aI (sI h 435 r x) (r + 1)) (aI (sI h 435 r x) (r + 3)) 116 from aI_sRow]
  exact rG_d hg hR (fun j hj => cpF_y hj)
/-- the heap behind a look ahead *)-/
theorem mw_e {h H1 : zH} {r m : Nat} {g : zGd} {f9 : Nat → Int32} (E1 : rE h H1 r [435] [3]) (g3 : rG (aI H1 (r + 3)) g) (hR : gR m g) : rE h (sRow (sRow H1 (r + 1) f9) (r + 1) (cpF (aI (sRow H1 (r + 1) f9) (r + 3)) (aI (sRow H1 (r + 1) f9) (r + 1)) 116)) r [435] [1, 3] ∧ rG (aI (sRow (sRow H1 (r + 1) f9) (r + 1) (cpF (aI (sRow H1 (r + 1) f9) (r + 3)) (aI (sRow H1 (r + 1) f9) (r + 1)) 116)) (r + 1)) g := by
  refine ⟨((E1.trans rE.a).trans rE.a).mono (by simp) (by simp), ?_⟩
  rw [aI_sRow, aI_sRow_a (show r + 3 ≠ r + 1 by omega)]
  exact rG_d g3 hR (fun j hj => cpF_y hj)
set_option maxHeartbeats 4000000 in
set_option maxRecDepth 100000 in
theorem L_qwouldE {X : zX} {l : Launch} {E : zG} {rm : Room} (hzs : zS E) (hst : l.stackTraces = false) (C : zC X cX10_wouldCollapse RX10 4) (G : zGX X l E rm) {h1 : zH} {r N T : Nat} (hN : N ≤ 20) (kk : zV X 0 0 h1 54 [(0, .ref r), (1, .int (nI N)), (2, .int (nI T)), (3, .int (nI N))] []) : zV X 0 0 h1 36 [(0, .ref r), (1, .int (nI N)), (2, .int (nI T)), (3, .int (nI N))] [] := by
  
  refine zV.iload_n C dX10_wouldCollapse_36 rfl ?_
  refine zV.iload_n C dX10_wouldCollapse_37 rfl ?_
  refine zV.icmp_ge (tgt := 54) C dX10_wouldCollapse_38 (by decide) (fun q38 => ?_) (fun q38 => ?_)
  · exact kk
  · exact absurd (nI_le (Nat.le_refl N) (by omega)) q38
set_option maxHeartbeats 4000000 in
set_option maxRecDepth 100000 in
theorem L_qwould {X : zX} {l : Launch} {E : zG} {rm : Room} (hzs : zS E) (hst : l.stackTraces = false) (C : zC X cX10_wouldCollapse RX10 4) (G : zGX X l E rm) {h : zH} {r m N : Nat} {g : zGd} (hr : rm = ({ frames := 4, cells := 0, slots := 0, locals := 95 } : Room)) (hm : zMs h r) (hR : gR m g) (hN : N ≤ 20) (hb : m + 3000 ≤ big) (kk : ∀ f', rG f' (days g N) → zV X 0 0 (sRow h (r + 1) f') 54 [(0, .ref r), (1, .int (nI N)), (2, .int (nI (gF (days g N) - gF g))), (3, .int (nI N))] []) : ∀ n k f, k + n = N → rG f (days g k) → zV X 0 0 (sRow h (r + 1) f) 36 [(0, .ref r), (1, .int (nI N)), (2, .int (nI (gF (days g k) - gF g))), (3, .int (nI k))] [] := by
  subst hr
  intro n
  induction n with
  | zero =>
    intro k f hk hg
    obtain rfl : k = N := by omega
    exact L_qwouldE hzs hst C G (by omega) (kk f hg)
  | succ n ih =>
    intro k f hk hg
    have hRk := days_R hR k
    refine zV.iload_n C dX10_wouldCollapse_36 rfl ?_
    refine zV.iload_n C dX10_wouldCollapse_37 rfl ?_
    refine zV.icmp_ge (tgt := 54) C dX10_wouldCollapse_38 (by decide) (fun q38 => ?_) (fun q38 => ?_)
    · exact absurd (nle (by omega) (by omega) q38) (by omega)
    · refine zV.iload_n C dX10_wouldCollapse_41 rfl ?_
      refine zV.aload_n C dX10_wouldCollapse_42 rfl rfl ?_
      refine zV.callV (n := 0) C G dX10_wouldCollapse_43 (s_mgoesBy hzs hst h r (m + 30 * k) (days g k) f hm hg hRk (by omega)) rfl ⟨cd_X10_goesBy, lk_X10_170, im_X10_goesBy, se_X10_X10_goesBy, in_X10⟩ ⟨⟨by decide, by decide⟩, by decide⟩ rfl rfl rfl (hm.1) ⟨rfl, by decide⟩ (zafR (fun h9 ⟨f9, e9, g9⟩ => ?_)) (zno)
      subst e9
      refine zV.iadd C dX10_wouldCollapse_46 ?_
      rw [nI_add, gF_s]
      refine zV.istore_n (lo' := [(0, _), (1, _), (2, _), (3, _)]) C dX10_wouldCollapse_47 (by decide) rfl rfl rfl ?_
      refine zV.iinc (lo' := [(0, _), (1, _), (2, _), (3, _)]) C dX10_wouldCollapse_48 rfl (by decide) rfl rfl rfl ?_
      refine zV.goto (tgt := 36) C dX10_wouldCollapse_51 (by decide) ?_
      rw [inc1]
      exact ih (k + 1) f9 (by omega) g9
set_option maxHeartbeats 4000000 in
set_option maxRecDepth 100000 in
theorem s_qwould54 {X : zX} {l : Launch} {E : zG} {rm : Room} (hzs : zS E) (hst : l.stackTraces = false) (C : zC X cX10_wouldCollapse RX10 4) (G : zGX X l E rm) {h H1 : zH} {r m : Nat} {g : zGd} {A : zAn} {x1 x2 x3 : Int32} {f9 : Nat → Int32} {Qx : String → zH → Prop} (hr : rm = ({ frames := 4, cells := 0, slots := 0, locals := 95 } : Room)) (F : zF X (some .int) 0 0 (mwQ h r A c1 g) Qx) (m1 : zMs H1 r) (E1 : rE h H1 r [435] [3]) (g3 : rG (aI H1 (r + 3)) g) (hR : gR m g) (t1 : hI H1 435 r = nI 0) (eA : A = .inr (.int x2)) : zV X 0 0 (sRow H1 (r + 1) f9) 54 [(0, .ref r), (1, .int x1), (2, .int x2), (3, .int x3)] [] := by
  subst hr
  refine zV.aload_n C dX10_wouldCollapse_54 rfl rfl ?_
  refine zV.callV (n := 0) C G dX10_wouldCollapse_55 (s_mforgets hzs hst (sRow H1 (r + 1) f9) r m1) rfl ⟨cd_X10_forgets, lk_X10_191, im_X10_forgets, se_X10_X10_forgets, in_X10⟩ ⟨⟨by decide, by decide⟩, by decide⟩ rfl rfl rfl m1.1 ⟨rfl, by decide⟩ (zafv ?_) (zno)
  refine zV.iload_n C dX10_wouldCollapse_58 rfl ?_
  refine zV.iret C F dX10_wouldCollapse_59 rfl ?_
  exact ⟨by rw [eA], by rw [eA]; exact t1, (mw_e E1 g3 hR).1, (mw_e E1 g3 hR).2⟩
set_option maxHeartbeats 4000000 in
set_option maxRecDepth 100000 in
theorem s_qwouldCollapse {l : Launch} {E : zG} (hzs : zS E) (hst : l.stackTraces = false) (h : zH) (r m : Nat) (g : zGd) (hm : zMs h r) (hg : rG (aI h (r + 1)) g) (hR : gR m g) (hb : m + 3000 ≤ big) (x : Int32) : zMet l E yX10_wouldCollapse cX10_wouldCollapse 4 (some .int) ({ frames := 4, cells := 0, slots := 0, locals := 95 } : Room) 0 0 [.ref r, .int x] h (mwQ h r (wcA g x) c1 g) (fun _ _ => False) := by
  refine zM_start hzs hst (by decide) (Nat.le_of_ble_eq_true rfl) (fun X C G F I => ?_)
  show zV X 0 0 _ 0 [(0, _), (1, _)] []
  rcases e1 : dyB x with _ | _
  · refine zV.aload_n C dX10_wouldCollapse_0 rfl rfl ?_
    refine zV.iload_n C dX10_wouldCollapse_1 rfl ?_
    refine zV.ic (v := nI 1) C dX10_wouldCollapse_2 (by decide) ?_
    refine zV.bi (v := nI 20) C dX10_wouldCollapse_3 (by decide) ?_
    refine zV.callS (n := 3) C G dX10_wouldCollapse_5 (s_min hzs hst h x (nI 1) (nI 20)) rfl ⟨cd_X10_in, lk_X10_61, st_X10_in, in_X10⟩ ⟨⟨by decide, by decide⟩, by decide⟩ rfl rfl rfl (zaf ?_) (zno)
    rw [← dyB_in, e1]
    show zV X _ _ _ 8 _ (.int (nI 0) :: _)
    refine zV.if_eq (tgt := 15) C dX10_wouldCollapse_8 (by decide) (fun q8 => ?_) (fun q8 => ?_)
    · refine zV.ic (v := nI 1) C dX10_wouldCollapse_15 (by decide) ?_
      refine zV.pI 435 (k := 19) C dX10_wouldCollapse_16 zcl_X10 (by decide) rfl lk_X10_39 rfl hm.1 rfl ⟨rfl, rfl⟩ ?_
      refine zV.aload_n C dX10_wouldCollapse_19 rfl rfl ?_
      refine zV.gIv 435 (k := 19) C dX10_wouldCollapse_20 zcl_X10 (by decide) rfl lk_X10_39 hm.1 rfl (hI_sI) ?_
      refine zV.if_le (tgt := 28) C dX10_wouldCollapse_23 (by decide) (fun q23 => ?_) (fun q23 => ?_)
      · exact absurd q23 (by decide)
      · refine zV.ic (v := nI 0) C dX10_wouldCollapse_26 (by decide) ?_
        refine zV.iret C F dX10_wouldCollapse_27 rfl ?_
        have eA : wcA g x = .inl IAE := if_neg (by rw [e1]; decide)
        exact ⟨by rw [eA], by rw [eA]; exact hI_sI, rE.i.mono (by simp) (by simp), hg⟩
    · exact absurd rfl q8
  · refine zV.aload_n C dX10_wouldCollapse_0 rfl rfl ?_
    refine zV.iload_n C dX10_wouldCollapse_1 rfl ?_
    refine zV.ic (v := nI 1) C dX10_wouldCollapse_2 (by decide) ?_
    refine zV.bi (v := nI 20) C dX10_wouldCollapse_3 (by decide) ?_
    refine zV.callS (n := 3) C G dX10_wouldCollapse_5 (s_min hzs hst h x (nI 1) (nI 20)) rfl ⟨cd_X10_in, lk_X10_61, st_X10_in, in_X10⟩ ⟨⟨by decide, by decide⟩, by decide⟩ rfl rfl rfl (zaf ?_) (zno)
    rw [← dyB_in, e1]
    show zV X _ _ _ 8 _ (.int (nI 1) :: _)
    refine zV.if_eq (tgt := 15) C dX10_wouldCollapse_8 (by decide) (fun q8 => ?_) (fun q8 => ?_)
    · exact absurd q8 (by decide)
    · refine zV.ic (v := nI 0) C dX10_wouldCollapse_11 (by decide) ?_
      refine zV.goto (tgt := 16) C dX10_wouldCollapse_12 (by decide) ?_
      refine zV.pI 435 (k := 19) C dX10_wouldCollapse_16 zcl_X10 (by decide) rfl lk_X10_39 rfl hm.1 rfl ⟨rfl, rfl⟩ ?_
      refine zV.aload_n C dX10_wouldCollapse_19 rfl rfl ?_
      refine zV.gIv 435 (k := 19) C dX10_wouldCollapse_20 zcl_X10 (by decide) rfl lk_X10_39 hm.1 rfl (hI_sI) ?_
      refine zV.if_le (tgt := 28) C dX10_wouldCollapse_23 (by decide) (fun q23 => ?_) (fun q23 => ?_)
      · refine zV.aload_n C dX10_wouldCollapse_28 rfl rfl ?_
        refine zV.callV (n := 0) C G dX10_wouldCollapse_29 (s_mthinks hzs hst (sI h 435 r (nI 0)) r hm) rfl ⟨cd_X10_thinks, lk_X10_188, im_X10_thinks, se_X10_X10_thinks, in_X10⟩ ⟨⟨by decide, by decide⟩, by decide⟩ rfl rfl rfl (hm.1) ⟨rfl, by decide⟩ (zafv ?_) (zno)
        obtain ⟨H1, hH1, E1, m1, g1, g3, t1⟩ := th_st (x := nI 0) hm hg hR
        rw [← hH1]
        obtain ⟨N, rfl, hN1, hN2⟩ := dyB_t e1
        have eN : (nI N).toNatClampNeg = N := nI_cl (by omega)
        refine zV.ic (v := nI 0) C dX10_wouldCollapse_32 (by decide) ?_
        refine zV.istore_n (lo' := [(0, _), (1, _), (2, _)]) C dX10_wouldCollapse_33 (by decide) rfl rfl rfl ?_
        refine zV.ic (v := nI 0) C dX10_wouldCollapse_34 (by decide) ?_
        refine zV.istore_n (lo' := [(0, _), (1, _), (2, _), (3, _)]) C dX10_wouldCollapse_35 (by decide) rfl rfl rfl ?_
        have z := L_qwould (h := H1) (N := N) hzs hst C G rfl m1 hR hN2 hb (fun f9 hf9 => s_qwould54 hzs hst C G rfl F m1 E1 g3 hR t1 ((if_pos e1).trans (by rw [eN]))) N 0 (aI H1 (r + 1)) (by omega) g1
        rw [sRow_id, show gF (days g 0) - gF g = 0 from Nat.sub_self _] at z
        exact z
      · exact absurd (by decide) q23
theorem grs_ids {g : zGd} {s : Nat} : ∀ k, (gC (grs g s k)).map chI = (gC g).map chI
  | 0 => rfl
  | k + 1 => by
    show (grC k (wOf s) (gC (grs g s k)) (gS (grs g s k) k)).1.map chI = _
    rw [(grC_all (wOf_le s)).1]
    exact grs_ids k
theorem ix_pl {g : zGd} {cs : List zCh} {H : Nat → List Nat} {x : Int32} (p : cs.Perm (gC g)) (w : rW g cs H) : (ixF x (gC g) 0 = none ∧ ixF x cs 0 = none) ∨ (∃ k j, ixF x (gC g) 0 = some k ∧ ixF x cs 0 = some j ∧ j < 12) := by
  rcases kc_pl (x := x) p w with ⟨e0, k, c, j, e1, ej, hcj, hj12, ex, hck⟩ | ⟨e1, ej⟩
  · exact Or.inr ⟨k, j, (kc_some e1).1, ej, hj12⟩
  · exact Or.inl ⟨kc_none e1, ej⟩
theorem ix_day {m : Nat} {g : zGd} {x : Int32} (hR : gR m g) (hm : m ≤ big) {k : Nat} (h : ixF x (gC g) 0 = some k) (h2 : ixF x (gC (dayO g)) 0 = none) : gF g < gF (dayO g) := by
  have eD : dayO g = gwD (col (grs g (gD g / 5 % 4) 6)) (gD g + 1) := by unfold dayO; rfl
  obtain ⟨-, -, -, -, -, -, eF, -⟩ := grs_P (g := g) (s := gD g / 5 % 4) 6
  have eI : (gC (grs g (gD g / 5 % 4) 6)).map chI = (gC g).map chI := grs_ids 6
  generalize grs g (gD g / 5 % 4) 6 = G at *
  obtain ⟨c, h3, h4, -⟩ := ix_some h
  have hc : chI c ∈ (gC G).map chI := by rw [eI]; exact List.mem_map.mpr ⟨c, List.mem_of_getElem? h3, rfl⟩
  obtain ⟨d, hd, hdc⟩ := List.mem_map.mp hc
  have hn : ¬ stay d = true := fun z => by
    have : d ∈ gC (dayO g) := by rw [eD]; exact List.mem_filter.mpr ⟨hd, z⟩
    exact ixF_none h2 d this (by rw [hdc]; exact h4)
  have hp : 0 < nst (gC G) := List.countP_pos_iff.mpr ⟨d, hd, by rw [Bool.eq_false_iff.mpr hn]; rfl⟩
  have hA := day_A eD eF
  omega
def cdB (g : zGd) (x : Int32) (k : Nat) : zAn := if 100 < k then .inl NSE else opA (if ixF x (gC (days g k)) 0 = none then some k else cdF g x (100 - k) (k + 1))
theorem cdB_s {g : zGd} {x : Int32} {k j : Nat} (hk : k ≤ 100) (e : ixF x (gC (days g k)) 0 = some j) : cdB g x k = cdB g x (k + 1) := by
  unfold cdB
  rw [if_neg (by omega), if_neg (by rw [e]; intro z; cases z)]
  by_cases h : 100 < k + 1
  · rw [if_pos h, show 100 - k = 0 by omega]; rfl
  · rw [if_neg h, show 100 - k = (100 - (k + 1)) + 1 by omega]
    rcases e2 : ixF x (gC (days g (k + 1))) 0 with _ | i
    · rw [cdF_z e2, if_pos rfl]
    · rw [cdF_s e2, if_neg (by intro z; cases z)]
theorem cdB_z {g : zGd} {x : Int32} {k : Nat} (hk : k ≤ 100) (e : ixF x (gC (days g k)) 0 = none) : cdB g x k = .inr (.int (nI k)) := by
  unfold cdB
  rw [if_neg (by omega), if_pos e]; rfl
theorem cdB_n {g : zGd} {x : Int32} {k : Nat} (hk : 100 < k) : cdB g x k = .inl NSE := if_pos hk
set_option maxHeartbeats 4000000 in
set_option maxRecDepth 100000 in
theorem s_qcd61 {X : zX} {l : Launch} {E : zG} {rm : Room} (hzs : zS E) (hst : l.stackTraces = false) (C : zC X cX10_collapseDay RX10 4) (G : zGX X l E rm) {h H1 : zH} {r m k t : Nat} {g : zGd} {A : zAn} {x : Int32} {f9 : Nat → Int32} {Qx : String → zH → Prop} (hr : rm = ({ frames := 4, cells := 0, slots := 0, locals := 95 } : Room)) (F : zF X (some .int) 0 0 (mwQ h r A c12 g) Qx) (m1 : zMs H1 r) (E1 : rE h H1 r [435] [3]) (g3 : rG (aI H1 (r + 3)) g) (hR : gR m g) (t1 : hI H1 435 r = nI 0) (hk : k < 200) (ht : t < 2 ^ 31) (eA : (100 < k ∧ A = .inl NSE) ∨ (k ≤ 100 ∧ t ≠ 0 ∧ A = .inr (.int (nI k)))) : zV X 0 0 (sRow H1 (r + 1) f9) 61 [(0, .ref r), (1, .int x), (2, .int (nI k)), (3, .int (nI t))] [] := by
  subst hr
  obtain ⟨w1, w2⟩ := mw_e (f9 := f9) E1 g3 hR
  have E2 := rE.i (h := sRow (sRow H1 (r + 1) f9) (r + 1) (cpF (aI (sRow H1 (r + 1) f9) (r + 3)) (aI (sRow H1 (r + 1) f9) (r + 1)) 116)) (r := r) (f := 435) (v := nI 2)
  refine zV.aload_n C dX10_collapseDay_61 rfl rfl ?_
  refine zV.callV (n := 0) C G dX10_collapseDay_62 (s_mforgets hzs hst (sRow H1 (r + 1) f9) r m1) rfl ⟨cd_X10_forgets, lk_X10_191, im_X10_forgets, se_X10_X10_forgets, in_X10⟩ ⟨⟨by decide, by decide⟩, by decide⟩ rfl rfl rfl m1.1 ⟨rfl, by decide⟩ (zafv ?_) (zno)
  refine zV.iload_n C dX10_collapseDay_65 rfl ?_
  refine zV.bi (v := nI 100) C dX10_collapseDay_66 (by decide) ?_
  refine zV.icmp_gt (tgt := 75) C dX10_collapseDay_68 (by decide) (fun q68 => ?_) (fun q68 => ?_)
  · have e68 : 100 < k := (nI_ltI (by decide) (by omega)).mp q68
    refine zV.aload_n C dX10_collapseDay_75 rfl rfl ?_
    refine zV.ic (v := nI 2) C dX10_collapseDay_76 (by decide) ?_
    refine zV.callV (n := 1) C G dX10_collapseDay_77 (s_mraises hzs hst (sRow (sRow H1 (r + 1) f9) (r + 1) (cpF (aI (sRow H1 (r + 1) f9) (r + 3)) (aI (sRow H1 (r + 1) f9) (r + 1)) 116)) r m1 (nI 2)) rfl ⟨cd_X10_raises, lk_X10_54, im_X10_raises, se_X10_X10_raises, in_X10⟩ ⟨⟨by decide, by decide⟩, by decide⟩ rfl rfl rfl m1.1 ⟨rfl, by decide⟩ (zaf ?_) (zno)
    refine zV.goto (tgt := 84) C dX10_collapseDay_80 (by decide) ?_
    refine zV.iret C F dX10_collapseDay_84 rfl ?_
    first
      | (rcases eA with ⟨z1, z2⟩ | ⟨z1, z2, z3⟩
         · exact absurd z1 e68
         · exact ⟨by rw [z3], by rw [z3]; exact t1, w1, w2⟩)
      | (rcases eA with ⟨z1, z2⟩ | ⟨z1, z2, z3⟩
         · exact ⟨by rw [z2], by rw [z2]; exact hI_sI.trans (congrArg nI c12_n.symm), (w1.trans E2).mono (by simp) (by simp), w2⟩
         · exact absurd e72 z2)
      | (rcases eA with ⟨z1, z2⟩ | ⟨z1, z2, z3⟩
         · exact ⟨by rw [z2], by rw [z2]; exact hI_sI.trans (congrArg nI c12_n.symm), (w1.trans E2).mono (by simp) (by simp), w2⟩
         · omega)
  · have e68 : ¬ 100 < k := fun z => q68 (nI_lt z (by omega))
    refine zV.iload_n C dX10_collapseDay_71 rfl ?_
    refine zV.if_ne (tgt := 83) C dX10_collapseDay_72 (by decide) (fun q72 => ?_) (fun q72 => ?_)
    · refine zV.iload_n C dX10_collapseDay_83 rfl ?_
      refine zV.iret C F dX10_collapseDay_84 rfl ?_
      first
        | (rcases eA with ⟨z1, z2⟩ | ⟨z1, z2, z3⟩
           · exact absurd z1 e68
           · exact ⟨by rw [z3], by rw [z3]; exact t1, w1, w2⟩)
        | (rcases eA with ⟨z1, z2⟩ | ⟨z1, z2, z3⟩
           · exact ⟨by rw [z2], by rw [z2]; exact hI_sI.trans (congrArg nI c12_n.symm), (w1.trans E2).mono (by simp) (by simp), w2⟩
           · exact absurd e72 z2)
        | (rcases eA with ⟨z1, z2⟩ | ⟨z1, z2, z3⟩
           · exact ⟨by rw [z2], by rw [z2]; exact hI_sI.trans (congrArg nI c12_n.symm), (w1.trans E2).mono (by simp) (by simp), w2⟩
           · omega)
    · have e72 : t = 0 := (n0 ht).mp q72
      refine zV.aload_n C dX10_collapseDay_75 rfl rfl ?_
      refine zV.ic (v := nI 2) C dX10_collapseDay_76 (by decide) ?_
      refine zV.callV (n := 1) C G dX10_collapseDay_77 (s_mraises hzs hst (sRow (sRow H1 (r + 1) f9) (r + 1) (cpF (aI (sRow H1 (r + 1) f9) (r + 3)) (aI (sRow H1 (r + 1) f9) (r + 1)) 116)) r m1 (nI 2)) rfl ⟨cd_X10_raises, lk_X10_54, im_X10_raises, se_X10_X10_raises, in_X10⟩ ⟨⟨by decide, by decide⟩, by decide⟩ rfl rfl rfl m1.1 ⟨rfl, by decide⟩ (zaf ?_) (zno)
      refine zV.goto (tgt := 84) C dX10_collapseDay_80 (by decide) ?_
      refine zV.iret C F dX10_collapseDay_84 rfl ?_
      first
        | (rcases eA with ⟨z1, z2⟩ | ⟨z1, z2, z3⟩
           · exact absurd z1 e68
           · exact ⟨by rw [z3], by rw [z3]; exact t1, w1, w2⟩)
        | (rcases eA with ⟨z1, z2⟩ | ⟨z1, z2, z3⟩
           · exact ⟨by rw [z2], by rw [z2]; exact hI_sI.trans (congrArg nI c12_n.symm), (w1.trans E2).mono (by simp) (by simp), w2⟩
           · exact absurd e72 z2)
        | (rcases eA with ⟨z1, z2⟩ | ⟨z1, z2, z3⟩
           · exact ⟨by rw [z2], by rw [z2]; exact hI_sI.trans (congrArg nI c12_n.symm), (w1.trans E2).mono (by simp) (by simp), w2⟩
           · omega)
set_option maxHeartbeats 4000000 in
set_option maxRecDepth 100000 in
theorem s_qcdE {X : zX} {l : Launch} {E : zG} {rm : Room} (hzs : zS E) (hst : l.stackTraces = false) (C : zC X cX10_collapseDay RX10 4) (G : zGX X l E rm) {h1 : zH} {r : Nat} {x1 x3 : Int32} (kk : zV X 0 0 h1 61 [(0, .ref r), (1, .int x1), (2, .int (nI 101)), (3, .int x3)] []) : zV X 0 0 h1 34 [(0, .ref r), (1, .int x1), (2, .int (nI 101)), (3, .int x3)] [] := by
  
  refine zV.iload_n C dX10_collapseDay_34 rfl ?_
  refine zV.bi (v := nI 101) C dX10_collapseDay_35 (by decide) ?_
  refine zV.icmp_ge (tgt := 61) C dX10_collapseDay_37 (by decide) (fun q37 => ?_) (fun q37 => ?_)
  · exact kk
  · exact absurd (by decide) q37
set_option maxHeartbeats 4000000 in
set_option maxRecDepth 100000 in
theorem L_qcd {X : zX} {l : Launch} {E : zG} {rm : Room} (hzs : zS E) (hst : l.stackTraces = false) (C : zC X cX10_collapseDay RX10 4) (G : zGX X l E rm) {h H1 : zH} {r m : Nat} {g : zGd} {x : Int32} {Qx : String → zH → Prop} {A : zAn} (hr : rm = ({ frames := 4, cells := 0, slots := 0, locals := 95 } : Room)) (F : zF X (some .int) 0 0 (mwQ h r A c12 g) Qx) (m1 : zMs H1 r) (E1 : rE h H1 r [435] [3]) (g3 : rG (aI H1 (r + 3)) g) (hR : gR m g) (hb : m + 3300 ≤ big) (t1 : hI H1 435 r = nI 0) : ∀ n k f, k + n = 101 → A = cdB g x k → rG f (days g k) → (ixF x (gC (days g k)) 0 = none → gF (days g k) - gF g ≠ 0) → zV X 0 0 (sRow H1 (r + 1) f) 34 [(0, .ref r), (1, .int x), (2, .int (nI k)), (3, .int (nI (gF (days g k) - gF g)))] [] := by
  subst hr
  have hb9 : (big : Nat) = 1000000000 := rfl
  intro n
  induction n with
  | zero =>
    intro k f hk eA hg h0
    obtain rfl : k = 101 := by omega
    have hF9 := (days_R hR 101).1.2.2.2.2.2.1
    exact s_qcdE hzs hst C G (s_qcd61 hzs hst C G rfl F m1 E1 g3 hR t1 (by decide) (by omega) (Or.inl ⟨by decide, by rw [eA]; exact cdB_n (by decide)⟩))
  | succ n ih =>
    intro k f hk eA hg h0
    have hRk := days_R hR k
    have hF9 := hRk.1.2.2.2.2.2.1
    obtain ⟨cs, hp, hsrt, hf⟩ := id hg
    have hw := rG_W hRk (by omega) hp
    refine zV.iload_n C dX10_collapseDay_34 rfl ?_
    refine zV.bi (v := nI 101) C dX10_collapseDay_35 (by decide) ?_
    refine zV.icmp_ge (tgt := 61) C dX10_collapseDay_37 (by decide) (fun q37 => ?_) (fun q37 => ?_)
    · exact absurd (nle (by omega) (by decide) q37) (by omega)
    · rcases ix_pl (x := x) hp hw with ⟨e1, e2⟩ | ⟨k9, j9, e1, e2, hj12⟩
      · refine zV.aload_n C dX10_collapseDay_40 rfl rfl ?_
        refine zV.iload_n C dX10_collapseDay_41 rfl ?_
        refine zV.callV (n := 1) C G dX10_collapseDay_42 (s_mplace hzs hst (sRow H1 (r + 1) f) r (days g k) cs (hrd (gC (days g k))) m1 (by rw [aI_sRow]; exact hf) hw x) rfl ⟨cd_X10_place, lk_X10_129, im_X10_place, se_X10_X10_place, in_X10⟩ ⟨⟨by decide, by decide⟩, by decide⟩ rfl rfl rfl m1.1 ⟨rfl, by decide⟩ (zaf ?_) (zno)
        rw [e2]
        show zV X _ _ _ 45 _ (.int (-1) :: _)
        refine zV.if_lt (tgt := 61) C dX10_collapseDay_45 (by decide) (fun q45 => ?_) (fun q45 => ?_)
        · exact s_qcd61 hzs hst C G rfl F m1 E1 g3 hR t1 (by omega) (by omega) (Or.inr ⟨by omega, h0 e1, by rw [eA]; exact cdB_z (by omega) e1⟩)
        · exact absurd (by decide) q45
      · refine zV.aload_n C dX10_collapseDay_40 rfl rfl ?_
        refine zV.iload_n C dX10_collapseDay_41 rfl ?_
        refine zV.callV (n := 1) C G dX10_collapseDay_42 (s_mplace hzs hst (sRow H1 (r + 1) f) r (days g k) cs (hrd (gC (days g k))) m1 (by rw [aI_sRow]; exact hf) hw x) rfl ⟨cd_X10_place, lk_X10_129, im_X10_place, se_X10_X10_place, in_X10⟩ ⟨⟨by decide, by decide⟩, by decide⟩ rfl rfl rfl m1.1 ⟨rfl, by decide⟩ (zaf ?_) (zno)
        rw [e2]
        show zV X _ _ _ 45 _ (.int (nI j9) :: _)
        refine zV.if_lt (tgt := 61) C dX10_collapseDay_45 (by decide) (fun q45 => ?_) (fun q45 => ?_)
        · exact absurd q45 (nI_pos (by omega))
        · refine zV.iload_n C dX10_collapseDay_48 rfl ?_
          refine zV.aload_n C dX10_collapseDay_49 rfl rfl ?_
          refine zV.callV (n := 0) C G dX10_collapseDay_50 (s_mgoesBy hzs hst H1 r (m + 30 * k) (days g k) f m1 hg hRk (by omega)) rfl ⟨cd_X10_goesBy, lk_X10_170, im_X10_goesBy, se_X10_X10_goesBy, in_X10⟩ ⟨⟨by decide, by decide⟩, by decide⟩ rfl rfl rfl m1.1 ⟨rfl, by decide⟩ (zafR (fun h9 ⟨f9, e9, g9⟩ => ?_)) (zno)
          subst e9
          refine zV.iadd C dX10_collapseDay_53 ?_
          rw [nI_add, gF_s]
          refine zV.istore_n (lo' := [(0, _), (1, _), (2, _), (3, _)]) C dX10_collapseDay_54 (by decide) rfl rfl rfl ?_
          refine zV.iinc (lo' := [(0, _), (1, _), (2, _), (3, _)]) C dX10_collapseDay_55 rfl (by decide) rfl rfl rfl ?_
          refine zV.goto (tgt := 34) C dX10_collapseDay_58 (by decide) ?_
          rw [inc1]
          exact ih (k + 1) f9 (by omega) (by rw [eA]; exact cdB_s (by omega) e1) g9 (fun z => by have y := ix_day hRk (by omega) e1 z; have y2 := (days_P g k).2.2.2.2.2.2; show gF (dayO (days g k)) - gF g ≠ 0; omega)
set_option maxHeartbeats 4000000 in
set_option maxRecDepth 100000 in
theorem s_qcollapseDay {l : Launch} {E : zG} (hzs : zS E) (hst : l.stackTraces = false) (h : zH) (r m : Nat) (g : zGd) (hm : zMs h r) (hg : rG (aI h (r + 1)) g) (hR : gR m g) (hb : m + 3300 ≤ big) (x : Int32) : zMet l E yX10_collapseDay cX10_collapseDay 4 (some .int) ({ frames := 4, cells := 0, slots := 0, locals := 95 } : Room) 0 0 [.ref r, .int x] h (mwQ h r (cdA g x) c12 g) (fun _ _ => False) := by
  refine zM_start hzs hst (by decide) (Nat.le_of_ble_eq_true rfl) (fun X C G F I => ?_)
  show zV X 0 0 _ 0 [(0, _), (1, _)] []
  have hg0 := id hg
  obtain ⟨cs, hp, hsrt, hf⟩ := hg
  have hw := rG_W hR (by omega) hp
  have hN := hR.2.1
  have hls := hf.2.2.1
  rcases kc_pl (x := x) hp hw with ⟨e0, k, c, j, e1, ej, hcj, hj12, ex, hck⟩ | ⟨e1, ej⟩
  · refine zV.aload_n C dX10_collapseDay_0 rfl rfl ?_
    refine zV.aload_n C dX10_collapseDay_1 rfl rfl ?_
    refine zV.iload_n C dX10_collapseDay_2 rfl ?_
    refine zV.callV (n := 1) C G dX10_collapseDay_3 (s_mplace hzs hst h r g cs (hrd (gC g)) hm hf hw x) rfl ⟨cd_X10_place, lk_X10_129, im_X10_place, se_X10_X10_place, in_X10⟩ ⟨⟨by decide, by decide⟩, by decide⟩ rfl rfl rfl (hm.1) ⟨rfl, by decide⟩ (zaf ?_) (zno)
    rw [ej]
    show zV X _ _ _ 6 _ (.int (nI j) :: _)
    refine zV.if_ge (tgt := 13) C dX10_collapseDay_6 (by decide) (fun q6 => ?_) (fun q6 => ?_)
    · refine zV.ic (v := nI 0) C dX10_collapseDay_13 (by decide) ?_
      refine zV.pI 435 (k := 19) C dX10_collapseDay_14 zcl_X10 (by decide) rfl lk_X10_39 rfl hm.1 rfl ⟨rfl, rfl⟩ ?_
      refine zV.aload_n C dX10_collapseDay_17 rfl rfl ?_
      refine zV.gIv 435 (k := 19) C dX10_collapseDay_18 zcl_X10 (by decide) rfl lk_X10_39 hm.1 rfl (hI_sI) ?_
      refine zV.if_le (tgt := 26) C dX10_collapseDay_21 (by decide) (fun q21 => ?_) (fun q21 => ?_)
      · refine zV.aload_n C dX10_collapseDay_26 rfl rfl ?_
        refine zV.callV (n := 0) C G dX10_collapseDay_27 (s_mthinks hzs hst (sI h 435 r (nI 0)) r hm) rfl ⟨cd_X10_thinks, lk_X10_188, im_X10_thinks, se_X10_X10_thinks, in_X10⟩ ⟨⟨by decide, by decide⟩, by decide⟩ rfl rfl rfl (hm.1) ⟨rfl, by decide⟩ (zafv ?_) (zno)
        obtain ⟨H1, hH1, E1, m1, g1, g3, t1⟩ := th_st (x := nI 0) hm hg0 hR
        rw [← hH1]
        refine zV.ic (v := nI 0) C dX10_collapseDay_30 (by decide) ?_
        refine zV.istore_n (lo' := [(0, _), (1, _), (2, _)]) C dX10_collapseDay_31 (by decide) rfl rfl rfl ?_
        refine zV.ic (v := nI 0) C dX10_collapseDay_32 (by decide) ?_
        refine zV.istore_n (lo' := [(0, _), (1, _), (2, _), (3, _)]) C dX10_collapseDay_33 (by decide) rfl rfl rfl ?_
        have e5 : cdA g x = cdB g x 0 := by
          refine (chQ_s e1).trans ?_
          unfold cdB
          rw [if_neg (by decide), if_neg (by show ¬ ixF x (gC g) 0 = none; rw [(kc_some e1).1]; intro z; cases z)]
        have z := L_qcd (h := h) (H1 := H1) hzs hst C G rfl F m1 E1 g3 hR hb t1 101 0 (aI H1 (r + 1)) rfl e5 g1 (fun z => by rw [show ixF x (gC (days g 0)) 0 = some k from (kc_some e1).1] at z; cases z)
        rw [sRow_id, show gF (days g 0) - gF g = 0 from Nat.sub_self _] at z
        exact z
      · exact absurd (by decide) q21
    · exact absurd (nI_le (Nat.zero_le _) (by omega)) q6
  · refine zV.aload_n C dX10_collapseDay_0 rfl rfl ?_
    refine zV.aload_n C dX10_collapseDay_1 rfl rfl ?_
    refine zV.iload_n C dX10_collapseDay_2 rfl ?_
    refine zV.callV (n := 1) C G dX10_collapseDay_3 (s_mplace hzs hst h r g cs (hrd (gC g)) hm hf hw x) rfl ⟨cd_X10_place, lk_X10_129, im_X10_place, se_X10_X10_place, in_X10⟩ ⟨⟨by decide, by decide⟩, by decide⟩ rfl rfl rfl (hm.1) ⟨rfl, by decide⟩ (zaf ?_) (zno)
    rw [ej]
    show zV X _ _ _ 6 _ (.int (-1) :: _)
    refine zV.if_ge (tgt := 13) C dX10_collapseDay_6 (by decide) (fun q6 => ?_) (fun q6 => ?_)
    · exact absurd q6 (by decide)
    · refine zV.ic (v := nI 1) C dX10_collapseDay_9 (by decide) ?_
      refine zV.goto (tgt := 14) C dX10_collapseDay_10 (by decide) ?_
      refine zV.pI 435 (k := 19) C dX10_collapseDay_14 zcl_X10 (by decide) rfl lk_X10_39 rfl hm.1 rfl ⟨rfl, rfl⟩ ?_
      refine zV.aload_n C dX10_collapseDay_17 rfl rfl ?_
      refine zV.gIv 435 (k := 19) C dX10_collapseDay_18 zcl_X10 (by decide) rfl lk_X10_39 hm.1 rfl (hI_sI) ?_
      refine zV.if_le (tgt := 26) C dX10_collapseDay_21 (by decide) (fun q21 => ?_) (fun q21 => ?_)
      · exact absurd q21 (by decide)
      · refine zV.ic (v := nI 0) C dX10_collapseDay_24 (by decide) ?_
        refine zV.iret C F dX10_collapseDay_25 rfl ?_
        have eA : cdA g x = .inl IOB := chQ_n e1
        exact ⟨by rw [eA], by rw [eA]; exact hI_sI.trans (congrArg nI c12_1.symm), rE.i.mono (by simp) (by simp), hg0⟩
