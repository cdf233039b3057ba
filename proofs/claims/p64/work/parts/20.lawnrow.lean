/-! LawnRow -/
set_option maxHeartbeats 4000000 in
set_option maxRecDepth 100000 in
theorem s_LawnRow_at {l : Launch} {E : zG} (hzs : zS E) (hst : l.stackTraces = false) (h : zH) (a j : Nat) (hj : j < 6) (g : zLs h a) : zMet l E yX7_at cX7_at 2 (some .int) ({ frames := 0, cells := 0, slots := 0, locals := 0 } : Room) 0 0 [.ref a, .int (nI j)] h (fun r h' => r = some (.int (aI h (a + 1) j)) ∧ h' = h) (fun _ _ => False) := by
  refine zM_start hzs hst (by decide) (Nat.le_of_ble_eq_true rfl) (fun X C G F I => ?_)
  show zV X 0 0 _ 0 [(0, _), (1, _)] []
  refine zV.iload_n C dX7_at_0 rfl ?_
  refine zV.if_lt (tgt := 19) C dX7_at_1 (by decide) (fun q1 => ?_) (fun q1 => ?_)
  · exact absurd q1 (nI_pos (by omega))
  · refine zV.iload_n C dX7_at_4 rfl ?_
    refine zV.bi (v := nI 6) C dX7_at_5 (by decide) ?_
    refine zV.icmp_ge (tgt := 19) C dX7_at_7 (by decide) (fun q7 => ?_) (fun q7 => ?_)
    · exact absurd (nle (by omega) (by decide) q7) (by omega)
    · refine zV.aload_n C dX7_at_10 rfl rfl ?_
      refine zV.gR 320 (k := 0) C dX7_at_11 zcl_X7 (by decide) rfl lk_X7_9 (g.1) rfl (g.2.1) ?_
      refine zV.iload_n C dX7_at_14 rfl ?_
      refine zV.iald (j := j) C dX7_at_15 (g.2.2.1) (rfl) (Nat.lt_of_lt_of_eq hj (g.2.2.2).symm) (by omega) ?_
      refine zV.goto (tgt := 20) C dX7_at_16 (by decide) ?_
      refine zV.iret C F dX7_at_20 rfl ?_
      exact ⟨rfl, rfl⟩
set_option maxHeartbeats 4000000 in
set_option maxRecDepth 100000 in
theorem s_LawnRow_set {l : Launch} {E : zG} (hzs : zS E) (hst : l.stackTraces = false) (h : zH) (a j : Nat) (y : Int32) (hj : j < 6) (g : zLs h a) : zMet l E yX7_set cX7_set 3 none ({ frames := 0, cells := 0, slots := 0, locals := 0 } : Room) 0 0 [.ref a, .int (nI j), .int y] h (fun r h' => r = none ∧ h' = saI h (a + 1) j y) (fun _ _ => False) := by
  refine zM_start hzs hst (by decide) (Nat.le_of_ble_eq_true rfl) (fun X C G F I => ?_)
  show zV X 0 0 _ 0 [(0, _), (1, _), (2, _)] []
  refine zV.iload_n C dX7_set_0 rfl ?_
  refine zV.if_lt (tgt := 17) C dX7_set_1 (by decide) (fun q1 => ?_) (fun q1 => ?_)
  · exact absurd q1 (nI_pos (by omega))
  · refine zV.iload_n C dX7_set_4 rfl ?_
    refine zV.bi (v := nI 6) C dX7_set_5 (by decide) ?_
    refine zV.icmp_ge (tgt := 17) C dX7_set_7 (by decide) (fun q7 => ?_) (fun q7 => ?_)
    · exact absurd (nle (by omega) (by decide) q7) (by omega)
    · refine zV.aload_n C dX7_set_10 rfl rfl ?_
      refine zV.gR 320 (k := 0) C dX7_set_11 zcl_X7 (by decide) rfl lk_X7_9 (g.1) rfl (g.2.1) ?_
      refine zV.iload_n C dX7_set_14 rfl ?_
      refine zV.iload_n C dX7_set_15 rfl ?_
      refine zV.iast (j := j) C dX7_set_16 (g.2.2.1) (rfl) (Nat.lt_of_lt_of_eq hj (g.2.2.2).symm) (by omega) ?_
      refine zV.vret C F dX7_set_17 rfl ?_
      exact ⟨rfl, rfl⟩
set_option maxHeartbeats 4000000 in
set_option maxRecDepth 100000 in
theorem s_LawnRow_grow {l : Launch} {E : zG} (hzs : zS E) (hst : l.stackTraces = false) (h : zH) (a j : Nat) (y : Int32) (hj : j < 6) (g : zLs h a) : zMet l E yX7_grow cX7_grow 3 none ({ frames := 0, cells := 0, slots := 0, locals := 0 } : Room) 0 0 [.ref a, .int (nI j), .int y] h (fun r h' => r = none ∧ h' = saI h (a + 1) j (aI h (a + 1) j + y)) (fun _ _ => False) := by
  refine zM_start hzs hst (by decide) (Nat.le_of_ble_eq_true rfl) (fun X C G F I => ?_)
  show zV X 0 0 _ 0 [(0, _), (1, _), (2, _)] []
  refine zV.iload_n C dX7_grow_0 rfl ?_
  refine zV.if_lt (tgt := 20) C dX7_grow_1 (by decide) (fun q1 => ?_) (fun q1 => ?_)
  · exact absurd q1 (nI_pos (by omega))
  · refine zV.iload_n C dX7_grow_4 rfl ?_
    refine zV.bi (v := nI 6) C dX7_grow_5 (by decide) ?_
    refine zV.icmp_ge (tgt := 20) C dX7_grow_7 (by decide) (fun q7 => ?_) (fun q7 => ?_)
    · exact absurd (nle (by omega) (by decide) q7) (by omega)
    · refine zV.aload_n C dX7_grow_10 rfl rfl ?_
      refine zV.gR 320 (k := 0) C dX7_grow_11 zcl_X7 (by decide) rfl lk_X7_9 (g.1) rfl (g.2.1) ?_
      refine zV.iload_n C dX7_grow_14 rfl ?_
      refine zV.dup2 C dX7_grow_15 rfl rfl ?_
      refine zV.iald (j := j) C dX7_grow_16 (g.2.2.1) (rfl) (Nat.lt_of_lt_of_eq hj (g.2.2.2).symm) (by omega) ?_
      refine zV.iload_n C dX7_grow_17 rfl ?_
      refine zV.iadd C dX7_grow_18 ?_
      refine zV.iast (j := j) C dX7_grow_19 (g.2.2.1) (rfl) (Nat.lt_of_lt_of_eq hj (g.2.2.2).symm) (by omega) ?_
      refine zV.vret C F dX7_grow_20 rfl ?_
      exact ⟨rfl, rfl⟩
set_option maxHeartbeats 4000000 in
set_option maxRecDepth 100000 in
theorem s_LawnRow_become {l : Launch} {E : zG} (hzs : zS E) (hst : l.stackTraces = false) (h : zH) (a b : Nat) (g : zLs h a) (g2 : zLs h b) : zMet l E yX7_become cX7_become 2 none ({ frames := 1, cells := 0, slots := 0, locals := 100 } : Room) 0 0 [.ref a, .ref b] h (fun r h' => r = none ∧ h' = sRow h (a + 1) (va_cpy (aI h (b + 1)) (aI h (a + 1)) 0 0 6)) (fun _ _ => False) := by
  refine zM_start hzs hst (by decide) (Nat.le_of_ble_eq_true rfl) (fun X C G F I => ?_)
  show zV X 0 0 _ 0 [(0, _), (1, _)] []
  refine zV.aload_n C dX7_become_0 rfl rfl ?_
  refine zV.gR 320 (k := 0) C dX7_become_1 zcl_X7 (by decide) rfl lk_X7_9 (g2.1) rfl (g2.2.1) ?_
  refine zV.ic (v := nI 0) C dX7_become_4 (by decide) ?_
  refine zV.aload_n C dX7_become_5 rfl rfl ?_
  refine zV.gR 320 (k := 0) C dX7_become_6 zcl_X7 (by decide) rfl lk_X7_9 (g.1) rfl (g.2.1) ?_
  refine zV.ic (v := nI 0) C dX7_become_9 (by decide) ?_
  refine zV.bi (v := nI 6) C dX7_become_10 (by decide) ?_
  refine zV.copy (n := 6) C G dX7_become_12 ⟨lk_X7_15, na_acopy, st_acopy, in_J10⟩ g2.2.2.1 g.2.2.1 rfl (by decide) (Nat.le_of_eq g2.2.2.2.symm) (Nat.le_of_eq g.2.2.2.symm) rfl ?_
  refine zV.vret C F dX7_become_15 rfl ?_
  exact ⟨rfl, rfl⟩
set_option maxHeartbeats 4000000 in
set_option maxRecDepth 100000 in
theorem s_LawnRow_init {l : Launch} {E : zG} (hzs : zS E) (hst : l.stackTraces = false) (h : zH) (a : Nat) (hk : hK h a = 11) (hn : hN h = a + 1) : zMet l E yX7_init cX7_init 1 none ({ frames := 1, cells := 1, slots := 6, locals := 20 } : Room) 1 6 [.ref a] h (fun r h' => r = none ∧ h' = sR (hNew h 103 6) 320 a (some (a + 1))) (fun _ _ => False) := by
  refine zM_start hzs hst (by decide) (Nat.le_of_ble_eq_true rfl) (fun X C G F I => ?_)
  show zV X 0 0 _ 0 [(0, _)] []
  have I := I rfl
  refine zV.aload_n C dX7_init_0 rfl rfl ?_
  refine zV.obj C G dX7_init_1 ⟨lk_X7_3, im_Oinit, cd_Oinit⟩ rfl rfl ?_
  refine zV.aload_n C dX7_init_4 rfl rfl ?_
  refine zV.bi (v := nI 6) C dX7_init_5 (by decide) ?_
  refine zV.newI (n := 6) C G dX7_init_7 ac_int (rfl) (by decide) rfl ?_
  refine zV.pFR 320 (k := 0) C dX7_init_9 zcl_X7 (by decide) rfl lk_X7_9 rfl I rfl (by show va_up (hK h) (hN h) 103 a = 11; unfold va_up; rw [if_neg (by omega), hk]) rfl (fun _ => ⟨rfl, rfl⟩) ?_
  refine zV.vret C F dX7_init_12 rfl ?_
  exact ⟨rfl, by rw [hn]⟩
