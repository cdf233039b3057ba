/-! Paths, the rest -/
set_option maxHeartbeats 4000000 in
set_option maxRecDepth 100000 in
theorem s_Paths_init {l : Launch} {E : zG} (hzs : zS E) (hst : l.stackTraces = false) (h : zH) (a : Nat) (hk : hK h a = 12) (hn : hN h = a + 1) : zMet l E yX8_init cX8_init 1 none ({ frames := 2, cells := 2, slots := 7, locals := 40 } : Room) 2 7 [.ref a] h (fun r h' => r = none ∧ h' = sR (sR (hNew (hNew h 11 0) 103 6) 320 (a + 1) (some (a + 2))) 352 a (some (a + 1))) (fun _ _ => False) := by
  refine zM_start hzs hst (by decide) (Nat.le_of_ble_eq_true rfl) (fun X C G F I => ?_)
  show zV X 0 0 _ 0 [(0, _)] []
  have I := I rfl
  refine zV.aload_n C dX8_init_0 rfl rfl ?_
  refine zV.obj C G dX8_init_1 ⟨lk_X8_3, im_Oinit, cd_Oinit⟩ rfl rfl ?_
  refine zV.aload_n C dX8_init_4 rfl rfl ?_
  refine zV.new C G dX8_init_5 zcl_X7 ⟨lk_X8_9, it_X7, in_X7⟩ (by decide) rfl ?_
  refine zV.dup C dX8_init_8 rfl ?_
  refine zV.callIN (n := 0) C G dX8_init_9 (s_LawnRow_init hzs hst (hNew h 11 0) (hN h) hK_newE rfl) rfl ⟨cd_X7_init, lk_X8_11, im_X7_init, in_X7⟩ rfl ⟨⟨by decide, by decide⟩, by decide⟩ rfl rfl rfl (zafv ?_) (zno)
  refine zV.pFR 352 (k := 0) C dX8_init_12 zcl_X8 (by decide) rfl lk_X8_12 rfl I rfl ((hK_new (h := hNew h 11 0) (z := 6) (by show a ≠ hN h + 1; omega)).trans ((hK_new (by omega)).trans hk)) rfl (fun _ => ⟨rfl, rfl⟩) ?_
  refine zV.vret C F dX8_init_15 rfl ?_
  exact ⟨rfl, by rw [hn]⟩
set_option maxHeartbeats 4000000 in
set_option maxRecDepth 100000 in
theorem s_Paths_become {l : Launch} {E : zG} (hzs : zS E) (hst : l.stackTraces = false) (h : zH) (a b : Nat) (g : zPs h a) (g2 : zPs h b) : zMet l E yX8_become cX8_become 2 none ({ frames := 2, cells := 0, slots := 0, locals := 121 } : Room) 0 0 [.ref a, .ref b] h (fun r h' => r = none ∧ h' = sI (sRow h (a + 2) (va_cpy (aI h (b + 2)) (aI h (a + 2)) 0 0 6)) 353 a (hI h 353 b)) (fun _ _ => False) := by
  refine zM_start hzs hst (by decide) (Nat.le_of_ble_eq_true rfl) (fun X C G F I => ?_)
  show zV X 0 0 _ 0 [(0, _), (1, _)] []
  refine zV.aload_n C dX8_become_0 rfl rfl ?_
  refine zV.gR 352 (k := 0) C dX8_become_1 zcl_X8 (by decide) rfl lk_X8_12 (g.1) rfl (g.2.1) ?_
  refine zV.aload_n C dX8_become_4 rfl rfl ?_
  refine zV.gR 352 (k := 0) C dX8_become_5 zcl_X8 (by decide) rfl lk_X8_12 (g2.1) rfl (g2.2.1) ?_
  refine zV.callV (n := 1) C G dX8_become_8 (s_LawnRow_become hzs hst h (a + 1) (b + 1) g.2.2 g2.2.2) rfl ⟨cd_X7_become, lk_X8_18, im_X7_become, se_X7_X7_become, in_X7⟩ ⟨⟨by decide, by decide⟩, by decide⟩ rfl rfl rfl (g.2.2.1) ⟨rfl, by decide⟩ (zafv ?_) (zno)
  refine zV.aload_n C dX8_become_11 rfl rfl ?_
  refine zV.aload_n C dX8_become_12 rfl rfl ?_
  refine zV.gI 353 (k := 1) C dX8_become_13 zcl_X8 (by decide) rfl lk_X8_22 (g2.1) rfl ?_
  refine zV.pI 353 (k := 1) C dX8_become_16 zcl_X8 (by decide) rfl lk_X8_22 rfl (g.1) rfl ⟨rfl, rfl⟩ ?_
  refine zV.vret C F dX8_become_19 rfl ?_
  exact ⟨rfl, rfl⟩
set_option maxHeartbeats 4000000 in
set_option maxRecDepth 100000 in
theorem s_Paths_add {l : Launch} {E : zG} (hzs : zS E) (hst : l.stackTraces = false) (h : zH) (a i j c : Nat) (nb : Nat → Nat) (hi : i < 6) (hj : j < 6) (hij : i ≠ j) (g : zPa h a nb) (hc : hI h 353 a = nI c) : zMet l E yX8_add cX8_add 3 (some .int) ({ frames := 1, cells := 0, slots := 0, locals := 22 } : Room) 0 0 [.ref a, .int (nI i), .int (nI j)] h (fun r h' => r = some (.int (nI (c + 1))) ∧ h' = sI (saI (saI h (a + 2) i (nI (setb (nb i) j))) (a + 2) j (nI (setb (nb j) i))) 353 a (nI (c + 1))) (fun _ _ => False) := by
  refine zM_start hzs hst (by decide) (Nat.le_of_ble_eq_true rfl) (fun X C G F I => ?_)
  show zV X 0 0 _ 0 [(0, _), (1, _), (2, _)] []
  refine zV.aload_n C dX8_add_0 rfl rfl ?_
  refine zV.gR 352 (k := 0) C dX8_add_1 zcl_X8 (by decide) rfl lk_X8_12 (g.1.1) rfl (g.1.2.1) ?_
  refine zV.iload_n C dX8_add_4 rfl ?_
  refine zV.aload_n C dX8_add_5 rfl rfl ?_
  refine zV.gR 352 (k := 0) C dX8_add_6 zcl_X8 (by decide) rfl lk_X8_12 (g.1.1) rfl (g.1.2.1) ?_
  refine zV.iload_n C dX8_add_9 rfl ?_
  refine zV.callV (n := 1) C G dX8_add_10 (s_LawnRow_at hzs hst h (a + 1) i hi g.1.2.2) rfl ⟨cd_X7_at, lk_X8_26, im_X7_at, se_X7_X7_at, in_X7⟩ ⟨⟨by decide, by decide⟩, by decide⟩ rfl rfl rfl (g.1.2.2.1) ⟨rfl, by decide⟩ (zafe (congrArg Value.int (g.2 i hi).1) ?_) (zno)
  refine zV.ic (v := nI 1) C dX8_add_13 (by decide) ?_
  refine zV.iload_n C dX8_add_14 rfl ?_
  refine zV.ishl C dX8_add_15 ?_
  rw [sh1 j hj]
  show zV X 0 0 _ _ _ (.int (nI (2 ^ j)) :: .int (nI (nb i)) :: _)
  refine zV.ior C dX8_add_16 ?_
  rw [nI_or (nb i) (2 ^ j), show nb i ||| 2 ^ j = setb (nb i) j from rfl]
  refine zV.callV (n := 2) C G dX8_add_17 (s_LawnRow_set hzs hst h (a + 1) i (nI (setb (nb i) j)) hi g.1.2.2) rfl ⟨cd_X7_set, lk_X8_34, im_X7_set, se_X7_X7_set, in_X7⟩ ⟨⟨by decide, by decide⟩, by decide⟩ rfl rfl rfl (g.1.2.2.1) ⟨rfl, by decide⟩ (zafv ?_) (zno)
  refine zV.aload_n C dX8_add_20 rfl rfl ?_
  refine zV.gR 352 (k := 0) C dX8_add_21 zcl_X8 (by decide) rfl lk_X8_12 (g.1.1) rfl (g.1.2.1) ?_
  refine zV.iload_n C dX8_add_24 rfl ?_
  refine zV.aload_n C dX8_add_25 rfl rfl ?_
  refine zV.gR 352 (k := 0) C dX8_add_26 zcl_X8 (by decide) rfl lk_X8_12 (g.1.1) rfl (g.1.2.1) ?_
  refine zV.iload_n C dX8_add_29 rfl ?_
  refine zV.callV (n := 1) C G dX8_add_30 (s_LawnRow_at hzs hst (saI h (a + 2) i (nI (setb (nb i) j))) (a + 1) j hj g.1.2.2) rfl ⟨cd_X7_at, lk_X8_26, im_X7_at, se_X7_X7_at, in_X7⟩ ⟨⟨by decide, by decide⟩, by decide⟩ rfl rfl rfl (g.1.2.2.1) ⟨rfl, by decide⟩ (zafe (congrArg Value.int ((aI_saI_i (fun z => hij z.symm)).trans (g.2 j hj).1)) ?_) (zno)
  refine zV.ic (v := nI 1) C dX8_add_33 (by decide) ?_
  refine zV.iload_n C dX8_add_34 rfl ?_
  refine zV.ishl C dX8_add_35 ?_
  rw [sh1 i hi]
  refine zV.ior C dX8_add_36 ?_
  rw [nI_or (nb j) (2 ^ i), show nb j ||| 2 ^ i = setb (nb j) i from rfl]
  refine zV.callV (n := 2) C G dX8_add_37 (s_LawnRow_set hzs hst (saI h (a + 2) i (nI (setb (nb i) j))) (a + 1) j (nI (setb (nb j) i)) hj g.1.2.2) rfl ⟨cd_X7_set, lk_X8_34, im_X7_set, se_X7_X7_set, in_X7⟩ ⟨⟨by decide, by decide⟩, by decide⟩ rfl rfl rfl (g.1.2.2.1) ⟨rfl, by decide⟩ (zafv ?_) (zno)
  refine zV.aload_n C dX8_add_40 rfl rfl ?_
  refine zV.dup C dX8_add_41 rfl ?_
  refine zV.gIv 353 (k := 1) C dX8_add_42 zcl_X8 (by decide) rfl lk_X8_22 (g.1.1) rfl (hc) ?_
  refine zV.ic (v := nI 1) C dX8_add_45 (by decide) ?_
  refine zV.iadd C dX8_add_46 ?_
  rw [show nI c + nI 1 = nI (c + 1) from nI_1 c]
  refine zV.pI 353 (k := 1) C dX8_add_47 zcl_X8 (by decide) rfl lk_X8_22 rfl (g.1.1) rfl ⟨rfl, rfl⟩ ?_
  refine zV.aload_n C dX8_add_50 rfl rfl ?_
  refine zV.gIv 353 (k := 1) C dX8_add_51 zcl_X8 (by decide) rfl lk_X8_22 (g.1.1) rfl (hI_sI) ?_
  refine zV.iret C F dX8_add_54 rfl ?_
  exact ⟨rfl, rfl⟩
set_option maxHeartbeats 4000000 in
set_option maxRecDepth 100000 in
theorem s_Paths_remove {l : Launch} {E : zG} (hzs : zS E) (hst : l.stackTraces = false) (h : zH) (a i j c : Nat) (nb : Nat → Nat) (hi : i < 6) (hj : j < 6) (hij : i ≠ j) (hc0 : 0 < c) (g : zPa h a nb) (hc : hI h 353 a = nI c) : zMet l E yX8_remove cX8_remove 3 (some .int) ({ frames := 1, cells := 0, slots := 0, locals := 22 } : Room) 0 0 [.ref a, .int (nI i), .int (nI j)] h (fun r h' => r = some (.int (nI (c - 1))) ∧ h' = sI (saI (saI h (a + 2) i (nI (clrb (nb i) j))) (a + 2) j (nI (clrb (nb j) i))) 353 a (nI (c - 1))) (fun _ _ => False) := by
  refine zM_start hzs hst (by decide) (Nat.le_of_ble_eq_true rfl) (fun X C G F I => ?_)
  show zV X 0 0 _ 0 [(0, _), (1, _), (2, _)] []
  refine zV.aload_n C dX8_remove_0 rfl rfl ?_
  refine zV.gR 352 (k := 0) C dX8_remove_1 zcl_X8 (by decide) rfl lk_X8_12 (g.1.1) rfl (g.1.2.1) ?_
  refine zV.iload_n C dX8_remove_4 rfl ?_
  refine zV.aload_n C dX8_remove_5 rfl rfl ?_
  refine zV.gR 352 (k := 0) C dX8_remove_6 zcl_X8 (by decide) rfl lk_X8_12 (g.1.1) rfl (g.1.2.1) ?_
  refine zV.iload_n C dX8_remove_9 rfl ?_
  refine zV.callV (n := 1) C G dX8_remove_10 (s_LawnRow_at hzs hst h (a + 1) i hi g.1.2.2) rfl ⟨cd_X7_at, lk_X8_26, im_X7_at, se_X7_X7_at, in_X7⟩ ⟨⟨by decide, by decide⟩, by decide⟩ rfl rfl rfl (g.1.2.2.1) ⟨rfl, by decide⟩ (zafe (congrArg Value.int (g.2 i hi).1) ?_) (zno)
  refine zV.ic (v := nI 1) C dX8_remove_13 (by decide) ?_
  refine zV.iload_n C dX8_remove_14 rfl ?_
  refine zV.ishl C dX8_remove_15 ?_
  rw [sh1 j hj]
  refine zV.ic (v := (-1)) C dX8_remove_16 (by decide) ?_
  refine zV.ixor C dX8_remove_17 ?_
  refine zV.iand C dX8_remove_18 ?_
  rw [clrb_i (nb i) (g.2 i hi).2 j hj]
  refine zV.callV (n := 2) C G dX8_remove_19 (s_LawnRow_set hzs hst h (a + 1) i (nI (clrb (nb i) j)) hi g.1.2.2) rfl ⟨cd_X7_set, lk_X8_34, im_X7_set, se_X7_X7_set, in_X7⟩ ⟨⟨by decide, by decide⟩, by decide⟩ rfl rfl rfl (g.1.2.2.1) ⟨rfl, by decide⟩ (zafv ?_) (zno)
  refine zV.aload_n C dX8_remove_22 rfl rfl ?_
  refine zV.gR 352 (k := 0) C dX8_remove_23 zcl_X8 (by decide) rfl lk_X8_12 (g.1.1) rfl (g.1.2.1) ?_
  refine zV.iload_n C dX8_remove_26 rfl ?_
  refine zV.aload_n C dX8_remove_27 rfl rfl ?_
  refine zV.gR 352 (k := 0) C dX8_remove_28 zcl_X8 (by decide) rfl lk_X8_12 (g.1.1) rfl (g.1.2.1) ?_
  refine zV.iload_n C dX8_remove_31 rfl ?_
  refine zV.callV (n := 1) C G dX8_remove_32 (s_LawnRow_at hzs hst (saI h (a + 2) i (nI (clrb (nb i) j))) (a + 1) j hj g.1.2.2) rfl ⟨cd_X7_at, lk_X8_26, im_X7_at, se_X7_X7_at, in_X7⟩ ⟨⟨by decide, by decide⟩, by decide⟩ rfl rfl rfl (g.1.2.2.1) ⟨rfl, by decide⟩ (zafe (congrArg Value.int ((aI_saI_i (fun z => hij z.symm)).trans (g.2 j hj).1)) ?_) (zno)
  refine zV.ic (v := nI 1) C dX8_remove_35 (by decide) ?_
  refine zV.iload_n C dX8_remove_36 rfl ?_
  refine zV.ishl C dX8_remove_37 ?_
  rw [sh1 i hi]
  refine zV.ic (v := (-1)) C dX8_remove_38 (by decide) ?_
  refine zV.ixor C dX8_remove_39 ?_
  refine zV.iand C dX8_remove_40 ?_
  rw [clrb_i (nb j) (g.2 j hj).2 i hi]
  refine zV.callV (n := 2) C G dX8_remove_41 (s_LawnRow_set hzs hst (saI h (a + 2) i (nI (clrb (nb i) j))) (a + 1) j (nI (clrb (nb j) i)) hj g.1.2.2) rfl ⟨cd_X7_set, lk_X8_34, im_X7_set, se_X7_X7_set, in_X7⟩ ⟨⟨by decide, by decide⟩, by decide⟩ rfl rfl rfl (g.1.2.2.1) ⟨rfl, by decide⟩ (zafv ?_) (zno)
  refine zV.aload_n C dX8_remove_44 rfl rfl ?_
  refine zV.dup C dX8_remove_45 rfl ?_
  refine zV.gIv 353 (k := 1) C dX8_remove_46 zcl_X8 (by decide) rfl lk_X8_22 (g.1.1) rfl (hc) ?_
  refine zV.ic (v := nI 1) C dX8_remove_49 (by decide) ?_
  refine zV.isub C dX8_remove_50 ?_
  rw [show nI c - nI 1 = nI (c - 1) from pk_sub hc0]
  refine zV.pI 353 (k := 1) C dX8_remove_51 zcl_X8 (by decide) rfl lk_X8_22 rfl (g.1.1) rfl ⟨rfl, rfl⟩ ?_
  refine zV.aload_n C dX8_remove_54 rfl rfl ?_
  refine zV.gIv 353 (k := 1) C dX8_remove_55 zcl_X8 (by decide) rfl lk_X8_22 (g.1.1) rfl (hI_sI) ?_
  refine zV.iret C F dX8_remove_58 rfl ?_
  exact ⟨rfl, rfl⟩
set_option maxHeartbeats 4000000 in
set_option maxRecDepth 100000 in
theorem L_Paths_steps {X : zX} {l : Launch} {E : zG} {rm : Room} (hzs : zS E) (hst : l.stackTraces = false) (C : zC X cX8_stepsBetween RX8 5) (G : zGX X l E rm) {h : zH} {a j : Nat} {x : Int32} {nb : Nat → Nat} {Qr : Option Value → zH → Prop} {Qx : String → zH → Prop} (hr : rm = ({ frames := 2, cells := 0, slots := 0, locals := 44 } : Room)) (F : zF X (some .int) 0 0 Qr Qx) (hj : j < 6) (g : zPa h a nb) : ∀ n k s, k ≤ 6 → 7 ≤ k + n → s < 64 → Qr (some (.int (oI (zst nb j (6 - k) k s)))) h → zV X 0 0 h 7 [(0, .ref a), (1, .int x), (2, .int (nI j)), (3, .int (nI s)), (4, .int (nI k))] [] := by
  subst hr
  intro n
  induction n with
  | zero => intro k s h1 h2; exact absurd h2 (by omega)
  | succ n ih =>
    intro k s hk hn hs hq
    refine zV.iload C dX8_stepsBetween_7 rfl ?_
    refine zV.bi (v := nI 6) C dX8_stepsBetween_9 (by decide) ?_
    refine zV.icmp_ge (tgt := 37) C dX8_stepsBetween_11 (by decide) (fun q11 => ?_) (fun q11 => ?_)
    · have e : k = 6 := by have := nle (by omega) (by decide) q11; omega
      subst e
      refine zV.ic (v := (-1)) C dX8_stepsBetween_37 (by decide) ?_
      refine zV.iret C F dX8_stepsBetween_38 rfl ?_
      exact hq
    · have hk6 : k < 6 := nlt (by omega) (by decide) q11
      rw [show 6 - k = (6 - (k + 1)) + 1 by omega, zst] at hq
      refine zV.iload_n C dX8_stepsBetween_14 rfl ?_
      refine zV.iload_n C dX8_stepsBetween_15 rfl ?_
      refine zV.callS (n := 2) C G dX8_stepsBetween_16 (s_Paths_holds hzs hst h s j hs hj) rfl ⟨cd_X8_holds, lk_X8_30, st_X8_holds, in_X8⟩ ⟨⟨by decide, by decide⟩, by decide⟩ rfl rfl rfl (zaf ?_) (zno)
      refine zV.if_eq (tgt := 25) C dX8_stepsBetween_19 (by decide) (fun q19 => ?_) (fun q19 => ?_)
      · rw [if_neg (b01.mp q19)] at hq
        refine zV.aload_n C dX8_stepsBetween_25 rfl rfl ?_
        refine zV.iload_n C dX8_stepsBetween_26 rfl ?_
        refine zV.callV (n := 1) C G dX8_stepsBetween_27 (s_Paths_withNeighbours hzs hst h a s nb hs g) rfl ⟨cd_X8_withNeighbours, lk_X8_38, im_X8_withNeighbours, se_X8_X8_withNeighbours, in_X8⟩ ⟨⟨by decide, by decide⟩, by decide⟩ rfl rfl rfl (g.1.1) ⟨rfl, by decide⟩ (zaf ?_) (zno)
        refine zV.istore_n (lo' := [(0, _), (1, _), (2, _), (3, _), (4, _)]) C dX8_stepsBetween_30 (by decide) rfl rfl rfl ?_
        refine zV.iinc (lo' := [(0, _), (1, _), (2, _), (3, _), (4, _)]) C dX8_stepsBetween_31 rfl (by decide) rfl rfl rfl ?_
        refine zV.goto (tgt := 7) C dX8_stepsBetween_34 (by decide) ?_
        rw [inc1]
        exact ih (k + 1) (wn nb s) (by omega) (by omega) (wn_lt (fun j hj => (g.2 j hj).2) hs) hq
      · rw [if_pos (Decidable.not_not.mp (fun z => q19 (b01.mpr z)))] at hq
        refine zV.iload C dX8_stepsBetween_22 rfl ?_
        refine zV.iret C F dX8_stepsBetween_24 rfl ?_
        exact hq
set_option maxHeartbeats 4000000 in
set_option maxRecDepth 100000 in
theorem s_Paths_stepsBetween {l : Launch} {E : zG} (hzs : zS E) (hst : l.stackTraces = false) (h : zH) (a i j : Nat) (nb : Nat → Nat) (hi : i < 6) (hj : j < 6) (g : zPa h a nb) : zMet l E yX8_stepsBetween cX8_stepsBetween 5 (some .int) ({ frames := 2, cells := 0, slots := 0, locals := 44 } : Room) 0 0 [.ref a, .int (nI i), .int (nI j)] h (fun r h' => r = some (.int (oI (far nb i j))) ∧ h' = h) (fun _ _ => False) := by
  refine zM_start hzs hst (by decide) (Nat.le_of_ble_eq_true rfl) (fun X C G F I => ?_)
  show zV X 0 0 _ 0 [(0, _), (1, _), (2, _)] []
  refine zV.ic (v := nI 1) C dX8_stepsBetween_0 (by decide) ?_
  refine zV.iload_n C dX8_stepsBetween_1 rfl ?_
  refine zV.ishl C dX8_stepsBetween_2 ?_
  rw [sh1 i hi]
  refine zV.istore_n (lo' := [(0, _), (1, _), (2, _), (3, _)]) C dX8_stepsBetween_3 (by decide) rfl rfl rfl ?_
  refine zV.ic (v := nI 0) C dX8_stepsBetween_4 (by decide) ?_
  refine zV.istore (lo' := [(0, _), (1, _), (2, _), (3, _), (4, _)]) C dX8_stepsBetween_5 (by decide) rfl rfl rfl ?_
  exact L_Paths_steps hzs hst C G rfl F hj g 7 0 (2 ^ i) (by omega) (by omega) ((show ∀ i, i < 6 → 2 ^ i < 64 by decide) i hi) ⟨rfl, rfl⟩
/-- the first lawn from k on, of n, that is a neighbour of i and v steps from j; else i -/
def nxF (nb : Nat → Nat) (i j : Nat) (v : Int32) : Nat → Nat → Nat
  | 0, _ => i
  | n + 1, k => if (nb i).testBit k = true ∧ oI (far nb k j) = v then k else nxF nb i j v n (k + 1)
def nxt (nb : Nat → Nat) (i j : Nat) : Nat := nxF nb i j (oI (far nb i j) - nI 1) 6 0
set_option maxHeartbeats 4000000 in
set_option maxRecDepth 100000 in
theorem L_Paths_next {X : zX} {l : Launch} {E : zG} {rm : Room} (hzs : zS E) (hst : l.stackTraces = false) (C : zC X cX8_nextTowards RX8 5) (G : zGX X l E rm) {h : zH} {a i j : Nat} {v : Int32} {nb : Nat → Nat} {Qr : Option Value → zH → Prop} {Qx : String → zH → Prop} (hr : rm = ({ frames := 3, cells := 0, slots := 0, locals := 68 } : Room)) (F : zF X (some .int) 0 0 Qr Qx) (hi : i < 6) (hj : j < 6) (g : zPa h a nb) : ∀ n k, k ≤ 6 → 7 ≤ k + n → Qr (some (.int (nI (nxF nb i j v (6 - k) k)))) h → zV X 0 0 h 12 [(0, .ref a), (1, .int (nI i)), (2, .int (nI j)), (3, .int v), (4, .int (nI k))] [] := by
  subst hr
  intro n
  induction n with
  | zero => intro k h1 h2; exact absurd h2 (by omega)
  | succ n ih =>
    intro k hk hn hq
    refine zV.iload C dX8_nextTowards_12 rfl ?_
    refine zV.bi (v := nI 6) C dX8_nextTowards_14 (by decide) ?_
    refine zV.icmp_ge (tgt := 49) C dX8_nextTowards_16 (by decide) (fun q16 => ?_) (fun q16 => ?_)
    · have e : k = 6 := by have := nle (by omega) (by decide) q16; omega
      subst e
      refine zV.iload_n C dX8_nextTowards_49 rfl ?_
      refine zV.iret C F dX8_nextTowards_50 rfl ?_
      exact hq
    · have hk6 : k < 6 := nlt (by omega) (by decide) q16
      rw [show 6 - k = (6 - (k + 1)) + 1 by omega, nxF] at hq
      refine zV.aload_n C dX8_nextTowards_19 rfl rfl ?_
      refine zV.iload_n C dX8_nextTowards_20 rfl ?_
      refine zV.iload C dX8_nextTowards_21 rfl ?_
      refine zV.callV (n := 2) C G dX8_nextTowards_23 (s_Paths_areNeighbours hzs hst h a i k nb hi hk6 g) rfl ⟨cd_X8_areNeighbours, lk_X8_50, im_X8_areNeighbours, se_X8_X8_areNeighbours, in_X8⟩ ⟨⟨by decide, by decide⟩, by decide⟩ rfl rfl rfl (g.1.1) ⟨rfl, by decide⟩ (zaf ?_) (zno)
      refine zV.if_eq (tgt := 43) C dX8_nextTowards_26 (by decide) (fun q26 => ?_) (fun q26 => ?_)
      · rw [if_neg (fun z => b01.mp q26 z.1)] at hq
        refine zV.iinc (lo' := [(0, _), (1, _), (2, _), (3, _), (4, _)]) C dX8_nextTowards_43 rfl (by decide) rfl rfl rfl ?_
        refine zV.goto (tgt := 12) C dX8_nextTowards_46 (by decide) ?_
        rw [inc1]
        exact ih (k + 1) (by omega) (by omega) hq
      · have hb := Decidable.not_not.mp (fun z => q26 (b01.mpr z))
        refine zV.aload_n C dX8_nextTowards_29 rfl rfl ?_
        refine zV.iload C dX8_nextTowards_30 rfl ?_
        refine zV.iload_n C dX8_nextTowards_32 rfl ?_
        refine zV.callV (n := 2) C G dX8_nextTowards_33 (s_Paths_stepsBetween hzs hst h a k j nb hk6 hj g) rfl ⟨cd_X8_stepsBetween, lk_X8_46, im_X8_stepsBetween, se_X8_X8_stepsBetween, in_X8⟩ ⟨⟨by decide, by decide⟩, by decide⟩ rfl rfl rfl (g.1.1) ⟨rfl, by decide⟩ (zaf ?_) (zno)
        refine zV.iload_n C dX8_nextTowards_36 rfl ?_
        refine zV.icmp_ne (tgt := 43) C dX8_nextTowards_37 (by decide) (fun q37 => ?_) (fun q37 => ?_)
        · rw [if_neg (fun z => q37 z.2)] at hq
          refine zV.iinc (lo' := [(0, _), (1, _), (2, _), (3, _), (4, _)]) C dX8_nextTowards_43 rfl (by decide) rfl rfl rfl ?_
          refine zV.goto (tgt := 12) C dX8_nextTowards_46 (by decide) ?_
          rw [inc1]
          exact ih (k + 1) (by omega) (by omega) hq
        · rw [if_pos ⟨hb, q37⟩] at hq
          refine zV.iload C dX8_nextTowards_40 rfl ?_
          refine zV.iret C F dX8_nextTowards_42 rfl ?_
          exact hq
set_option maxHeartbeats 4000000 in
set_option maxRecDepth 100000 in
theorem s_Paths_nextTowards {l : Launch} {E : zG} (hzs : zS E) (hst : l.stackTraces = false) (h : zH) (a i j : Nat) (nb : Nat → Nat) (hi : i < 6) (hj : j < 6) (g : zPa h a nb) : zMet l E yX8_nextTowards cX8_nextTowards 5 (some .int) ({ frames := 3, cells := 0, slots := 0, locals := 68 } : Room) 0 0 [.ref a, .int (nI i), .int (nI j)] h (fun r h' => r = some (.int (nI (nxt nb i j))) ∧ h' = h) (fun _ _ => False) := by
  refine zM_start hzs hst (by decide) (Nat.le_of_ble_eq_true rfl) (fun X C G F I => ?_)
  show zV X 0 0 _ 0 [(0, _), (1, _), (2, _)] []
  refine zV.aload_n C dX8_nextTowards_0 rfl rfl ?_
  refine zV.iload_n C dX8_nextTowards_1 rfl ?_
  refine zV.iload_n C dX8_nextTowards_2 rfl ?_
  refine zV.callV (n := 2) C G dX8_nextTowards_3 (s_Paths_stepsBetween hzs hst h a i j nb hi hj g) rfl ⟨cd_X8_stepsBetween, lk_X8_46, im_X8_stepsBetween, se_X8_X8_stepsBetween, in_X8⟩ ⟨⟨by decide, by decide⟩, by decide⟩ rfl rfl rfl (g.1.1) ⟨rfl, by decide⟩ (zaf ?_) (zno)
  refine zV.ic (v := nI 1) C dX8_nextTowards_6 (by decide) ?_
  refine zV.isub C dX8_nextTowards_7 ?_
  refine zV.istore_n (lo' := [(0, _), (1, _), (2, _), (3, _)]) C dX8_nextTowards_8 (by decide) rfl rfl rfl ?_
  refine zV.ic (v := nI 0) C dX8_nextTowards_9 (by decide) ?_
  refine zV.istore (lo' := [(0, _), (1, _), (2, _), (3, _), (4, _)]) C dX8_nextTowards_10 (by decide) rfl rfl rfl ?_
  exact L_Paths_next hzs hst C G rfl F hi hj g 7 0 (by omega) (by omega) ⟨rfl, rfl⟩
def popc (s : Nat) : Nat := fb_ct (fun k => s.testBit k) 6
