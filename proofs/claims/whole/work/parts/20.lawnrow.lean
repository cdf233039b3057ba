/-- a lawn's number, 0 outside -/
def rAt (f : Nat → Int32) (x : Int32) : Int32 := if 0 ≤ x ∧ x < 6 then f x.toNatClampNeg else 0
theorem rAt_n {f : Nat → Int32} {j : Nat} (hj : j < 6) : rAt f (nI j) = f j := by
  unfold rAt
  rw [if_pos ⟨nI_pos' (by omega), (nI_ltI (a := j) (b := 6) (by omega) (by decide)).mpr hj⟩, nI_clamp (by omega)]
theorem rAt_lt {f : Nat → Int32} {x : Int32} (h : x < 0) : rAt f x = 0 := if_neg (fun q => by
  rw [Int32.le_iff_toInt_le] at q; rw [Int32.lt_iff_toInt_lt] at h; omega)
theorem rAt_ge {f : Nat → Int32} {x : Int32} (h : 6 ≤ x) : rAt f x = 0 := if_neg (fun q => by
  have := q.2; rw [Int32.lt_iff_toInt_lt] at this; rw [Int32.le_iff_toInt_le] at h; omega)
set_option maxHeartbeats 4000000 in
set_option maxRecDepth 100000 in
theorem s_LawnRow_at {l : Launch} {E : zG} (hzs : zS E) (hst : l.stackTraces = false) (h : zH) (a : Nat) (x : Int32) (g : zLs h a) : zMet l E yX7_at cX7_at 2 (some .int) ({ frames := 0, cells := 0, slots := 0, locals := 0 } : Room) 0 0 [.ref a, .int x] h (fun r h' => r = some (.int (rAt (aI h (a + 1)) x)) ∧ h' = h) (fun _ _ => False) := by
  refine zM_start hzs hst (by decide) (Nat.le_of_ble_eq_true rfl) (fun X C G F I => ?_)
  show zV X 0 0 _ 0 [(0, _), (1, _)] []
  refine zV.iload_n C dX7_at_0 rfl ?_
  refine zV.if_lt (tgt := 19) C dX7_at_1 (by decide) (fun q1 => ?_) (fun q1 => ?_)
  · refine zV.ic (v := 0) C dX7_at_19 (by decide) ?_
    refine zV.iret C F dX7_at_20 rfl ?_
    exact ⟨by first | rw [rAt_lt q1] | rw [rAt_ge q7] | rw [hj2, rAt_n hj], rfl⟩
  · refine zV.iload_n C dX7_at_4 rfl ?_
    refine zV.bi (v := 6) C dX7_at_5 (by decide) ?_
    refine zV.icmp_ge (tgt := 19) C dX7_at_7 (by decide) (fun q7 => ?_) (fun q7 => ?_)
    · refine zV.ic (v := 0) C dX7_at_19 (by decide) ?_
      refine zV.iret C F dX7_at_20 rfl ?_
      exact ⟨by first | rw [rAt_lt q1] | rw [rAt_ge q7] | rw [hj2, rAt_n hj], rfl⟩
    · obtain ⟨j, hj, hj2⟩ := ge6 q1 q7
      refine zV.aload_n C dX7_at_10 rfl rfl ?_
      refine zV.getR (k := 0) C dX7_at_11 zcl_X7.1 zcl_X7.2.1 (by decide) rfl lk_X7_9 (g.1) (by decide) (g.2.1) ?_
      refine zV.iload_n C dX7_at_14 rfl ?_
      refine zV.iald (j := j) C dX7_at_15 (g.2.2.1) (hj2) (Nat.lt_of_lt_of_eq hj (g.2.2.2).symm) (by omega) ?_
      refine zV.goto (tgt := 20) C dX7_at_16 (by decide) ?_
      refine zV.iret C F dX7_at_20 rfl ?_
      exact ⟨by first | rw [rAt_lt q1] | rw [rAt_ge q7] | rw [hj2, rAt_n hj], rfl⟩
