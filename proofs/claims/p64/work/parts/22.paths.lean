/-! Paths -/
/-- the lawns of s, and their neighbours among the first k -/
def wnA (nb : Nat → Nat) (s : Nat) : Nat → Nat
  | 0 => s
  | k + 1 => if s.testBit k then wnA nb s k ||| nb k else wnA nb s k
def wn (nb : Nat → Nat) (s : Nat) : Nat := wnA nb s 6
/-- the first step at which the set holds j, from step k on, at most n steps -/
def zst (nb : Nat → Nat) (j : Nat) : Nat → Nat → Nat → Option Nat
  | 0, _, _ => none
  | n + 1, k, s => if s.testBit j then some k else zst nb j n (k + 1) (wn nb s)
def far (nb : Nat → Nat) (i j : Nat) : Option Nat := zst nb j 6 0 (2 ^ i)
def oI (o : Option Nat) : Int32 := match o with
  | some k => nI k
  | none => -1
theorem wnA_lt {nb : Nat → Nat} (hb : ∀ j, j < 6 → nb j < 64) {s : Nat} (hs : s < 64) : ∀ k, k ≤ 6 → wnA nb s k < 64
  | 0, _ => hs
  | k + 1, hk => by
    rw [wnA]
    split
    · exact Nat.or_lt_two_pow (n := 6) (wnA_lt hb hs k (by omega)) (hb k (by omega))
    · exact wnA_lt hb hs k (by omega)
theorem wn_lt {nb : Nat → Nat} (hb : ∀ j, j < 6 → nb j < 64) {s : Nat} (hs : s < 64) : wn nb s < 64 := wnA_lt hb hs 6 (Nat.le_refl 6)
/-- the paths' cells hold the sets nb and the number c -/
def zPa (h : zH) (a : Nat) (nb : Nat → Nat) : Prop := zPs h a ∧ ∀ j, j < 6 → aI h (a + 2) j = nI (nb j) ∧ nb j < 64
set_option maxHeartbeats 4000000 in
set_option maxRecDepth 100000 in
theorem s_Paths_holds {l : Launch} {E : zG} (hzs : zS E) (hst : l.stackTraces = false) (h : zH) (s j : Nat) (hs : s < 64) (hj : j < 6) : zMet l E yX8_holds cX8_holds 2 (some .boolean) ({ frames := 0, cells := 0, slots := 0, locals := 0 } : Room) 0 0 [.int (nI s), .int (nI j)] h (fun r h' => r = some (.int (nI (if s.testBit j then 1 else 0))) ∧ h' = h) (fun _ _ => False) := by
  refine zM_start hzs hst (by decide) (Nat.le_of_ble_eq_true rfl) (fun X C G F I => ?_)
  show zV X 0 0 _ 0 [(0, _), (1, _)] []
  refine zV.iload_n C dX8_holds_0 rfl ?_
  refine zV.iload_n C dX8_holds_1 rfl ?_
  refine zV.ishr C dX8_holds_2 ?_
  refine zV.ic (v := nI 1) C dX8_holds_3 (by decide) ?_
  refine zV.iand C dX8_holds_4 ?_
  refine zV.if_eq (tgt := 12) C dX8_holds_5 (by decide) (fun q5 => ?_) (fun q5 => ?_)
  · refine zV.ic (v := nI 0) C dX8_holds_12 (by decide) ?_
    refine zV.zret C F dX8_holds_13 rfl rfl ?_
    rw [holds_i s hs j hj] at q5
    refine ⟨?_, rfl⟩
    first
      | exact retF (Bool.eq_false_iff.mp q5)
      | exact retT (Bool.of_not_eq_false q5)
  · refine zV.ic (v := nI 1) C dX8_holds_8 (by decide) ?_
    refine zV.goto (tgt := 13) C dX8_holds_9 (by decide) ?_
    refine zV.zret C F dX8_holds_13 rfl rfl ?_
    rw [holds_i s hs j hj] at q5
    refine ⟨?_, rfl⟩
    first
      | exact retF (Bool.eq_false_iff.mp q5)
      | exact retT (Bool.of_not_eq_false q5)
set_option maxHeartbeats 4000000 in
set_option maxRecDepth 100000 in
theorem s_Paths_areNeighbours {l : Launch} {E : zG} (hzs : zS E) (hst : l.stackTraces = false) (h : zH) (a i j : Nat) (nb : Nat → Nat) (hi : i < 6) (hj : j < 6) (g : zPa h a nb) : zMet l E yX8_areNeighbours cX8_areNeighbours 3 (some .boolean) ({ frames := 1, cells := 0, slots := 0, locals := 21 } : Room) 0 0 [.ref a, .int (nI i), .int (nI j)] h (fun r h' => r = some (.int (nI (if (nb i).testBit j then 1 else 0))) ∧ h' = h) (fun _ _ => False) := by
  refine zM_start hzs hst (by decide) (Nat.le_of_ble_eq_true rfl) (fun X C G F I => ?_)
  show zV X 0 0 _ 0 [(0, _), (1, _), (2, _)] []
  refine zV.aload_n C dX8_areNeighbours_0 rfl rfl ?_
  refine zV.gR 352 (k := 0) C dX8_areNeighbours_1 zcl_X8 (by decide) rfl lk_X8_12 (g.1.1) rfl (g.1.2.1) ?_
  refine zV.iload_n C dX8_areNeighbours_4 rfl ?_
  refine zV.callV (n := 1) C G dX8_areNeighbours_5 (s_LawnRow_at hzs hst h (a + 1) i hi g.1.2.2) rfl ⟨cd_X7_at, lk_X8_26, im_X7_at, se_X7_X7_at, in_X7⟩ ⟨⟨by decide, by decide⟩, by decide⟩ rfl rfl rfl (g.1.2.2.1) ⟨rfl, by decide⟩ (zaf ?_) (zno)
  rw [(g.2 i hi).1]
  refine zV.iload_n C dX8_areNeighbours_8 rfl ?_
  refine zV.callS (n := 2) C G dX8_areNeighbours_9 (s_Paths_holds hzs hst h (nb i) j (g.2 i hi).2 hj) rfl ⟨cd_X8_holds, lk_X8_30, st_X8_holds, in_X8⟩ ⟨⟨by decide, by decide⟩, by decide⟩ rfl rfl rfl (zaf ?_) (zno)
  refine zV.zret C F dX8_areNeighbours_12 b01z rfl ?_
  exact ⟨rfl, rfl⟩
set_option maxHeartbeats 4000000 in
set_option maxRecDepth 100000 in
theorem L_Paths_wn {X : zX} {l : Launch} {E : zG} {rm : Room} (hzs : zS E) (hst : l.stackTraces = false) (C : zC X cX8_withNeighbours RX8 4) (G : zGX X l E rm) {h : zH} {a s : Nat} {nb : Nat → Nat} (hr : rm = ({ frames := 1, cells := 0, slots := 0, locals := 21 } : Room)) (hs : s < 64) (g : zPa h a nb) (kx : zV X 0 0 h 35 [(0, .ref a), (1, .int (nI s)), (2, .int (nI (wn nb s))), (3, .int (nI 6))] []) : ∀ n k, k ≤ 6 → 7 ≤ k + n → zV X 0 0 h 4 [(0, .ref a), (1, .int (nI s)), (2, .int (nI (wnA nb s k))), (3, .int (nI k))] [] := by
  subst hr
  intro n
  induction n with
  | zero => intro k h1 h2; exact absurd h2 (by omega)
  | succ n ih =>
    intro k hk hn
    refine zV.iload_n C dX8_withNeighbours_4 rfl ?_
    refine zV.bi (v := nI 6) C dX8_withNeighbours_5 (by decide) ?_
    refine zV.icmp_ge (tgt := 35) C dX8_withNeighbours_7 (by decide) (fun q7 => ?_) (fun q7 => ?_)
    · have e : k = 6 := by have := nle (by omega) (by decide) q7; omega
      subst e
      exact kx
    · have hk6 : k < 6 := nlt (by omega) (by decide) q7
      refine zV.iload_n C dX8_withNeighbours_10 rfl ?_
      refine zV.iload_n C dX8_withNeighbours_11 rfl ?_
      refine zV.callS (n := 2) C G dX8_withNeighbours_12 (s_Paths_holds hzs hst h s k hs hk6) rfl ⟨cd_X8_holds, lk_X8_30, st_X8_holds, in_X8⟩ ⟨⟨by decide, by decide⟩, by decide⟩ rfl rfl rfl (zaf ?_) (zno)
      refine zV.if_eq (tgt := 29) C dX8_withNeighbours_15 (by decide) (fun q15 => ?_) (fun q15 => ?_)
      · have hb : s.testBit k = false := Bool.eq_false_iff.mpr (b01.mp q15)
        refine zV.iinc (lo' := [(0, _), (1, _), (2, _), (3, _)]) C dX8_withNeighbours_29 rfl (by decide) rfl rfl rfl ?_
        refine zV.goto (tgt := 4) C dX8_withNeighbours_32 (by decide) ?_
        rw [inc1]
        first
          | (rw [nI_or, (show wnA nb s k ||| nb k = wnA nb s (k + 1) by rw [wnA, if_pos hb])]; exact ih (k + 1) (by omega) (by omega))
          | (rw [(show wnA nb s k = wnA nb s (k + 1) by rw [wnA, hb]; rfl)]; exact ih (k + 1) (by omega) (by omega))
      · have hb : s.testBit k = true := Decidable.not_not.mp (fun z => q15 (b01.mpr z))
        refine zV.iload_n C dX8_withNeighbours_18 rfl ?_
        refine zV.aload_n C dX8_withNeighbours_19 rfl rfl ?_
        refine zV.gR 352 (k := 0) C dX8_withNeighbours_20 zcl_X8 (by decide) rfl lk_X8_12 (g.1.1) rfl (g.1.2.1) ?_
        refine zV.iload_n C dX8_withNeighbours_23 rfl ?_
        refine zV.callV (n := 1) C G dX8_withNeighbours_24 (s_LawnRow_at hzs hst h (a + 1) k hk6 g.1.2.2) rfl ⟨cd_X7_at, lk_X8_26, im_X7_at, se_X7_X7_at, in_X7⟩ ⟨⟨by decide, by decide⟩, by decide⟩ rfl rfl rfl (g.1.2.2.1) ⟨rfl, by decide⟩ (zaf ?_) (zno)
        rw [(g.2 k hk6).1]
        refine zV.ior C dX8_withNeighbours_27 ?_
        refine zV.istore_n (lo' := [(0, _), (1, _), (2, _), (3, _)]) C dX8_withNeighbours_28 (by decide) rfl rfl rfl ?_
        refine zV.iinc (lo' := [(0, _), (1, _), (2, _), (3, _)]) C dX8_withNeighbours_29 rfl (by decide) rfl rfl rfl ?_
        refine zV.goto (tgt := 4) C dX8_withNeighbours_32 (by decide) ?_
        rw [inc1]
        first
          | (rw [nI_or, (show wnA nb s k ||| nb k = wnA nb s (k + 1) by rw [wnA, if_pos hb])]; exact ih (k + 1) (by omega) (by omega))
          | (rw [(show wnA nb s k = wnA nb s (k + 1) by rw [wnA, hb]; rfl)]; exact ih (k + 1) (by omega) (by omega))
set_option maxHeartbeats 4000000 in
set_option maxRecDepth 100000 in
theorem s_Paths_withNeighbours {l : Launch} {E : zG} (hzs : zS E) (hst : l.stackTraces = false) (h : zH) (a s : Nat) (nb : Nat → Nat) (hs : s < 64) (g : zPa h a nb) : zMet l E yX8_withNeighbours cX8_withNeighbours 4 (some .int) ({ frames := 1, cells := 0, slots := 0, locals := 21 } : Room) 0 0 [.ref a, .int (nI s)] h (fun r h' => r = some (.int (nI (wn nb s))) ∧ h' = h) (fun _ _ => False) := by
  refine zM_start hzs hst (by decide) (Nat.le_of_ble_eq_true rfl) (fun X C G F I => ?_)
  show zV X 0 0 _ 0 [(0, _), (1, _)] []
  refine zV.iload_n C dX8_withNeighbours_0 rfl ?_
  refine zV.istore_n (lo' := [(0, _), (1, _), (2, _)]) C dX8_withNeighbours_1 (by decide) rfl rfl rfl ?_
  refine zV.ic (v := nI 0) C dX8_withNeighbours_2 (by decide) ?_
  refine zV.istore_n (lo' := [(0, _), (1, _), (2, _), (3, _)]) C dX8_withNeighbours_3 (by decide) rfl rfl rfl ?_
  refine L_Paths_wn hzs hst C G rfl hs g ?_ 7 0 (by omega) (by omega)
  refine zV.iload_n C dX8_withNeighbours_35 rfl ?_
  refine zV.iret C F dX8_withNeighbours_36 rfl ?_
  exact ⟨rfl, rfl⟩
