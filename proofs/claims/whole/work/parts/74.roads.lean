/-! the reference: paths and distances; the unfolded of a herd -/
theorem holds_1 : ∀ s, s < 64 → ∀ j, j < 6 → ((nI s >>> (nI j &&& 31)) &&& nI 1 = nI 1 ↔ s.testBit j = true) := by decide +kernel
theorem ptb {s : Nat} {j : Nat} (hs : s < 64) (hj : j < 6) (q : (nI s >>> (nI j &&& 31)) &&& nI 1 = nI 1) : (if s.testBit j = true then 1 else 0) = 1 := if_pos ((holds_1 s hs j hj).mp q)
theorem ptn {s : Nat} {j : Nat} (hs : s < 64) (hj : j < 6) (q : ¬ (nI s >>> (nI j &&& 31)) &&& nI 1 = nI 1) : (if s.testBit j = true then 1 else 0) = 0 := if_neg (fun z => q ((holds_1 s hs j hj).mpr z))
set_option maxHeartbeats 4000000 in
set_option maxRecDepth 100000 in
theorem s_misPath {l : Launch} {E : zG} (hzs : zS E) (hst : l.stackTraces = false) (h : zH) (r : Nat) (g : zGd) (hm : zMs h r) (hf : rLs (aI h (r + 1)) g) (hN : ∀ i, i < 6 → gN g i < 64) (i j : Nat) (hi : i < 6) (hj : j < 6) : zMet l E yX10_isPathBetween cX10_isPathBetween 3 (some .boolean) ({ frames := 1, cells := 0, slots := 0, locals := 22 } : Room) 0 0 [.ref r, .int (nI i), .int (nI j)] h (fun v h' => v = some (.int (nI (if (gN g i).testBit j = true then 1 else 0))) ∧ h' = h) (fun _ _ => False) := by
  refine zM_start hzs hst (by decide) (Nat.le_of_ble_eq_true rfl) (fun X C G F I => ?_)
  show zV X 0 0 _ 0 [(0, _), (1, _), (2, _)] []
  refine zV.aload_n C dX10_isPathBetween_0 rfl rfl ?_
  refine zV.iload_n C dX10_isPathBetween_1 rfl ?_
  refine zV.ic (v := nI 1) C dX10_isPathBetween_2 (by decide) ?_
  refine zV.callV (n := 2) C G dX10_isPathBetween_3 (s_mlawn hzs hst h r hm i 1 hi (by decide)) rfl ⟨cd_X10_lawn, lk_X10_69, im_X10_lawn, se_X10_X10_lawn, in_X10⟩ ⟨⟨by decide, by decide⟩, by decide⟩ rfl rfl rfl (hm.1) ⟨rfl, by decide⟩ (zaf ?_) (zno)
  rw [(hf i hi).2]
  refine zV.iload_n C dX10_isPathBetween_6 rfl ?_
  refine zV.ishr C dX10_isPathBetween_7 ?_
  refine zV.ic (v := nI 1) C dX10_isPathBetween_8 (by decide) ?_
  refine zV.iand C dX10_isPathBetween_9 ?_
  refine zV.ic (v := nI 1) C dX10_isPathBetween_10 (by decide) ?_
  refine zV.icmp_ne (tgt := 18) C dX10_isPathBetween_11 (by decide) (fun q11 => ?_) (fun q11 => ?_)
  · refine zV.ic (v := nI 0) C dX10_isPathBetween_18 (by decide) ?_
    refine zV.zret C F dX10_isPathBetween_19 rfl rfl ?_
    first
      | exact ⟨by rw [ptb (hN i hi) hj q11], rfl⟩
      | exact ⟨by rw [ptn (hN i hi) hj q11], rfl⟩
  · refine zV.ic (v := nI 1) C dX10_isPathBetween_14 (by decide) ?_
    refine zV.goto (tgt := 19) C dX10_isPathBetween_15 (by decide) ?_
    refine zV.zret C F dX10_isPathBetween_19 rfl rfl ?_
    first
      | exact ⟨by rw [ptb (hN i hi) hj q11], rfl⟩
      | exact ⟨by rw [ptn (hN i hi) hj q11], rfl⟩
set_option maxHeartbeats 4000000 in
set_option maxRecDepth 100000 in
theorem L_mfarI {X : zX} {l : Launch} {E : zG} {rm : Room} (hzs : zS E) (hst : l.stackTraces = false) (C : zC X cX10_far RX10 7) (G : zGX X l E rm) {h : zH} {r : Nat} {g : zGd} (hm : zMs h r) (hf : rLs (aI h (r + 1)) g) (hN : ∀ i, i < 6 → gN g i < 64) {x1 : Int32} {j s k9 : Nat} {Qr : Option Value → zH → Prop} {Qx : String → zH → Prop} (hr : rm = ({ frames := 1, cells := 0, slots := 0, locals := 22 } : Room)) (hs : s < 64) (kk : zV X 0 0 h 67 [(0, .ref r), (1, .int x1), (2, .int (nI j)), (3, .int (nI s)), (4, .int (nI k9)), (5, .int (nI (wn (gN g) s))), (6, .int (nI (6)))] []) : ∀ n k, k ≤ 6 → 7 ≤ k + n → zV X 0 0 h 32 [(0, .ref r), (1, .int x1), (2, .int (nI j)), (3, .int (nI s)), (4, .int (nI k9)), (5, .int (nI (wnA (gN g) s k))), (6, .int (nI (k)))] [] := by
  subst hr
  intro n
  induction n with
  | zero => intro k h1 h2; exact absurd h2 (by omega)
  | succ n ih =>
    intro k hk hn
    refine zV.iload C dX10_far_32 rfl ?_
    refine zV.bi (v := nI 6) C dX10_far_34 (by decide) ?_
    refine zV.icmp_ge (tgt := 67) C dX10_far_36 (by decide) (fun q36 => ?_) (fun q36 => ?_)
    · have e : k = 6 := by have := nle (by omega) (by decide) q36; omega
      subst e
      exact kk
    · have hk6 : k < 6 := nlt (by omega) (by decide) q36
      refine zV.iload_n C dX10_far_39 rfl ?_
      refine zV.iload C dX10_far_40 rfl ?_
      refine zV.ishr C dX10_far_42 ?_
      refine zV.ic (v := nI 1) C dX10_far_43 (by decide) ?_
      refine zV.iand C dX10_far_44 ?_
      refine zV.ic (v := nI 1) C dX10_far_45 (by decide) ?_
      refine zV.icmp_ne (tgt := 61) C dX10_far_46 (by decide) (fun q46 => ?_) (fun q46 => ?_)
      · have e : wnA (gN g) s (k + 1) = wnA (gN g) s k := if_neg (fun z => q46 ((holds_1 s hs k hk6).mpr z))
        refine zV.iinc (lo' := [(0, _), (1, _), (2, _), (3, _), (4, _), (5, _), (6, _)]) C dX10_far_61 rfl (by decide) rfl rfl rfl ?_
        refine zV.goto (tgt := 32) C dX10_far_64 (by decide) ?_
        rw [inc1]
        first
          | exact ih (k + 1) (by omega) (by omega)
          | (rw [← e]; exact ih (k + 1) (by omega) (by omega))
      · have e : wnA (gN g) s (k + 1) = wnA (gN g) s k ||| gN g k := if_pos ((holds_1 s hs k hk6).mp q46)
        refine zV.iload C dX10_far_49 rfl ?_
        refine zV.aload_n C dX10_far_51 rfl rfl ?_
        refine zV.iload C dX10_far_52 rfl ?_
        refine zV.ic (v := nI 1) C dX10_far_54 (by decide) ?_
        refine zV.callV (n := 2) C G dX10_far_55 (s_mlawn hzs hst h r hm k 1 hk6 (by decide)) rfl ⟨cd_X10_lawn, lk_X10_69, im_X10_lawn, se_X10_X10_lawn, in_X10⟩ ⟨⟨by decide, by decide⟩, by decide⟩ rfl rfl rfl (hm.1) ⟨rfl, by decide⟩ (zaf ?_) (zno)
        rw [(hf k hk6).2]
        refine zV.ior C dX10_far_58 ?_
        rw [nI_or, ← e]
        refine zV.istore (lo' := [(0, _), (1, _), (2, _), (3, _), (4, _), (5, _), (6, _)]) C dX10_far_59 (by decide) rfl rfl rfl ?_
        refine zV.iinc (lo' := [(0, _), (1, _), (2, _), (3, _), (4, _), (5, _), (6, _)]) C dX10_far_61 rfl (by decide) rfl rfl rfl ?_
        refine zV.goto (tgt := 32) C dX10_far_64 (by decide) ?_
        rw [inc1]
        first
          | exact ih (k + 1) (by omega) (by omega)
          | (rw [← e]; exact ih (k + 1) (by omega) (by omega))
set_option maxHeartbeats 4000000 in
set_option maxRecDepth 100000 in
theorem s_mfarE {X : zX} {l : Launch} {E : zG} {rm : Room} (hzs : zS E) (hst : l.stackTraces = false) (C : zC X cX10_far RX10 7) (G : zGX X l E rm) {h : zH} {r s : Nat} {x1 x2 : Int32} {Qr : Option Value → zH → Prop} {Qx : String → zH → Prop} (F : zF X (some .int) 0 0 Qr Qx) (hq : Qr (some (.int (-1))) h) : zV X 0 0 h 7 [(0, .ref r), (1, .int x1), (2, .int x2), (3, .int (nI s)), (4, .int (nI 6))] [] := by
  
  refine zV.iload C dX10_far_7 rfl ?_
  refine zV.bi (v := nI 6) C dX10_far_9 (by decide) ?_
  refine zV.icmp_ge (tgt := 76) C dX10_far_11 (by decide) (fun q11 => ?_) (fun q11 => ?_)
  · refine zV.ic (v := (-1)) C dX10_far_76 (by decide) ?_
    refine zV.iret C F dX10_far_77 rfl ?_
    exact hq
  · exact absurd (by decide) q11
set_option maxHeartbeats 4000000 in
set_option maxRecDepth 100000 in
theorem L_mfar {X : zX} {l : Launch} {E : zG} {rm : Room} (hzs : zS E) (hst : l.stackTraces = false) (C : zC X cX10_far RX10 7) (G : zGX X l E rm) {h : zH} {r : Nat} {g : zGd} (hm : zMs h r) (hf : rLs (aI h (r + 1)) g) (hN : ∀ i, i < 6 → gN g i < 64) {x1 : Int32} {j : Nat} {Qr : Option Value → zH → Prop} {Qx : String → zH → Prop} (hr : rm = ({ frames := 1, cells := 0, slots := 0, locals := 22 } : Room)) (F : zF X (some .int) 0 0 Qr Qx) (hj : j < 6) : ∀ n k s, k + n = 6 → s < 64 → Qr (some (.int (oI (zst (gN g) j n k s)))) h → zV X 0 0 h 7 [(0, .ref r), (1, .int x1), (2, .int (nI j)), (3, .int (nI s)), (4, .int (nI k))] [] := by
  subst hr
  intro n
  induction n with
  | zero =>
    intro k s hk hs hq
    obtain rfl : k = 6 := by omega
    exact s_mfarE hzs hst C G F hq
  | succ n ih =>
    intro k s hk hs hq
    rw [zst] at hq
    refine zV.iload C dX10_far_7 rfl ?_
    refine zV.bi (v := nI 6) C dX10_far_9 (by decide) ?_
    refine zV.icmp_ge (tgt := 76) C dX10_far_11 (by decide) (fun q11 => ?_) (fun q11 => ?_)
    · exact absurd (nle (by omega) (by decide) q11) (by omega)
    · refine zV.iload_n C dX10_far_14 rfl ?_
      refine zV.iload_n C dX10_far_15 rfl ?_
      refine zV.ishr C dX10_far_16 ?_
      refine zV.ic (v := nI 1) C dX10_far_17 (by decide) ?_
      refine zV.iand C dX10_far_18 ?_
      refine zV.ic (v := nI 1) C dX10_far_19 (by decide) ?_
      refine zV.icmp_ne (tgt := 26) C dX10_far_20 (by decide) (fun q20 => ?_) (fun q20 => ?_)
      · rw [if_neg (fun z => q20 ((holds_1 s hs j hj).mpr z))] at hq
        refine zV.iload_n C dX10_far_26 rfl ?_
        refine zV.istore (lo' := [(0, _), (1, _), (2, _), (3, _), (4, _), (5, _)]) C dX10_far_27 (by decide) rfl rfl rfl ?_
        refine zV.ic (v := nI 0) C dX10_far_29 (by decide) ?_
        refine zV.istore (lo' := [(0, _), (1, _), (2, _), (3, _), (4, _), (5, _), (6, _)]) C dX10_far_30 (by decide) rfl rfl rfl ?_
        refine L_mfarI (Qr := Qr) (Qx := Qx) hzs hst C G hm hf hN rfl hs ?_ 7 0 (by omega) (by omega)
        refine zV.iload C dX10_far_67 rfl ?_
        refine zV.istore_n (lo' := [(0, _), (1, _), (2, _), (3, _), (4, _), (5, _), (6, _)]) C dX10_far_69 (by decide) rfl rfl rfl ?_
        refine zV.iinc (lo' := [(0, _), (1, _), (2, _), (3, _), (4, _), (5, _), (6, _)]) C dX10_far_70 rfl (by decide) rfl rfl rfl ?_
        refine zV.goto (tgt := 7) C dX10_far_73 (by decide) ?_
        rw [inc1]
        exact zV.sub [0, 1, 2, 3, 4] rfl (ih (k + 1) _ (by omega) (wn_lt hN hs) hq)
      · rw [if_pos ((holds_1 s hs j hj).mp q20)] at hq
        refine zV.iload C dX10_far_23 rfl ?_
        refine zV.iret C F dX10_far_25 rfl ?_
        exact hq
set_option maxHeartbeats 4000000 in
set_option maxRecDepth 100000 in
theorem s_mfar {l : Launch} {E : zG} (hzs : zS E) (hst : l.stackTraces = false) (h : zH) (r : Nat) (g : zGd) (hm : zMs h r) (hf : rLs (aI h (r + 1)) g) (hN : ∀ i, i < 6 → gN g i < 64) (i j : Nat) (hi : i < 6) (hj : j < 6) : zMet l E yX10_far cX10_far 7 (some .int) ({ frames := 1, cells := 0, slots := 0, locals := 22 } : Room) 0 0 [.ref r, .int (nI i), .int (nI j)] h (fun v h' => v = some (.int (oI (far (gN g) i j))) ∧ h' = h) (fun _ _ => False) := by
  refine zM_start hzs hst (by decide) (Nat.le_of_ble_eq_true rfl) (fun X C G F I => ?_)
  show zV X 0 0 _ 0 [(0, _), (1, _), (2, _)] []
  refine zV.ic (v := nI 1) C dX10_far_0 (by decide) ?_
  refine zV.iload_n C dX10_far_1 rfl ?_
  refine zV.ishl C dX10_far_2 ?_
  rw [sh1 i hi]
  refine zV.istore_n (lo' := [(0, _), (1, _), (2, _), (3, _)]) C dX10_far_3 (by decide) rfl rfl rfl ?_
  refine zV.ic (v := nI 0) C dX10_far_4 (by decide) ?_
  refine zV.istore (lo' := [(0, _), (1, _), (2, _), (3, _), (4, _)]) C dX10_far_5 (by decide) rfl rfl rfl ?_
  exact L_mfar hzs hst C G hm hf hN rfl F hj 6 0 _ rfl (pow_lt6 i hi) ⟨rfl, rfl⟩
def psm (nb : Nat → Nat) : Nat → Nat
  | 0 => 0
  | k + 1 => psm nb k + popc (nb k)
theorem psm_le (nb : Nat → Nat) : ∀ k, psm nb k ≤ 6 * k
  | 0 => Nat.le_refl _
  | k + 1 => by have := psm_le nb k; have := popc_le (nb k); unfold psm; omega
set_option maxHeartbeats 4000000 in
set_option maxRecDepth 100000 in
theorem L_mpaths {X : zX} {l : Launch} {E : zG} {rm : Room} (hzs : zS E) (hst : l.stackTraces = false) (C : zC X cX10_paths RX10 3) (G : zGX X l E rm) {h : zH} {r : Nat} {g : zGd} (hm : zMs h r) (hf : rLs (aI h (r + 1)) g) (hN : ∀ i, i < 6 → gN g i < 64) {Qr : Option Value → zH → Prop} {Qx : String → zH → Prop} (hr : rm = ({ frames := 1, cells := 0, slots := 0, locals := 22 } : Room)) (F : zF X (some .int) 0 0 Qr Qx) (hq : Qr (some (.int (nI (psm (gN g) 6 / 2)))) h) : ∀ n k, k ≤ 6 → 7 ≤ k + n → zV X 0 0 h 4 [(0, .ref r), (1, .int (nI (psm (gN g) k))), (2, .int (nI k))] [] := by
  subst hr
  intro n
  induction n with
  | zero => intro k h1 h2; exact absurd h2 (by omega)
  | succ n ih =>
    intro k hk hn
    have pb := psm_le (gN g) 6
    refine zV.iload_n C dX10_paths_4 rfl ?_
    refine zV.bi (v := nI 6) C dX10_paths_5 (by decide) ?_
    refine zV.icmp_ge (tgt := 28) C dX10_paths_7 (by decide) (fun q7 => ?_) (fun q7 => ?_)
    · have e : k = 6 := by have := nle (by omega) (by decide) q7; omega
      subst e
      refine zV.iload_n C dX10_paths_28 rfl ?_
      refine zV.ic (v := nI 2) C dX10_paths_29 (by decide) ?_
      refine zV.idiv C dX10_paths_30 (by decide) ?_
      rw [pk_div (by omega) (by decide) (by decide)]
      refine zV.iret C F dX10_paths_31 rfl ?_
      exact hq
    · have hk6 : k < 6 := nlt (by omega) (by decide) q7
      refine zV.iload_n C dX10_paths_10 rfl ?_
      refine zV.aload_n C dX10_paths_11 rfl rfl ?_
      refine zV.iload_n C dX10_paths_12 rfl ?_
      refine zV.ic (v := nI 1) C dX10_paths_13 (by decide) ?_
      refine zV.callV (n := 2) C G dX10_paths_14 (s_mlawn hzs hst h r hm k 1 hk6 (by decide)) rfl ⟨cd_X10_lawn, lk_X10_69, im_X10_lawn, se_X10_X10_lawn, in_X10⟩ ⟨⟨by decide, by decide⟩, by decide⟩ rfl rfl rfl (hm.1) ⟨rfl, by decide⟩ (zaf ?_) (zno)
      rw [(hf k hk6).2]
      refine zV.callS (n := 1) C G dX10_paths_17 (s_bitCount hzs hst h (gN g k) (hN k hk6)) rfl ⟨cd_J6_bitCount_0f7a4, lk_X10_72, st_J6_bitCount_0f7a4, in_J6⟩ ⟨⟨by decide, by decide⟩, by decide⟩ rfl rfl rfl (zaf ?_) (zno)
      refine zV.iadd C dX10_paths_20 ?_
      rw [nI_add]
      refine zV.istore_n (lo' := [(0, _), (1, _), (2, _)]) C dX10_paths_21 (by decide) rfl rfl rfl ?_
      refine zV.iinc (lo' := [(0, _), (1, _), (2, _)]) C dX10_paths_22 rfl (by decide) rfl rfl rfl ?_
      refine zV.goto (tgt := 4) C dX10_paths_25 (by decide) ?_
      rw [inc1]
      exact ih (k + 1) (by omega) (by omega)
theorem psm_P {g : zGd} (p : gPt g) : psm (gN g) 6 / 2 = gP g := by
  have h := p.2.2.2
  show (0 + popc (gN g 0) + popc (gN g 1) + popc (gN g 2) + popc (gN g 3) + popc (gN g 4) + popc (gN g 5)) / 2 = gP g
  omega
set_option maxHeartbeats 4000000 in
set_option maxRecDepth 100000 in
theorem s_mpaths {l : Launch} {E : zG} (hzs : zS E) (hst : l.stackTraces = false) (h : zH) (r : Nat) (g : zGd) (hm : zMs h r) (hf : rLs (aI h (r + 1)) g) (hN : ∀ i, i < 6 → gN g i < 64) (p : gPt g) : zMet l E yX10_paths cX10_paths 3 (some .int) ({ frames := 1, cells := 0, slots := 0, locals := 22 } : Room) 0 0 [.ref r] h (fun v h' => v = some (.int (nI (gP g))) ∧ h' = h) (fun _ _ => False) := by
  refine zM_start hzs hst (by decide) (Nat.le_of_ble_eq_true rfl) (fun X C G F I => ?_)
  show zV X 0 0 _ 0 [(0, _)] []
  refine zV.ic (v := nI 0) C dX10_paths_0 (by decide) ?_
  refine zV.istore_n (lo' := [(0, _), (1, _)]) C dX10_paths_1 (by decide) rfl rfl rfl ?_
  refine zV.ic (v := nI 0) C dX10_paths_2 (by decide) ?_
  refine zV.istore_n (lo' := [(0, _), (1, _), (2, _)]) C dX10_paths_3 (by decide) rfl rfl rfl ?_
  exact L_mpaths hzs hst C G hm hf hN rfl F ⟨by rw [psm_P p], rfl⟩ 7 0 (by omega) (by omega)
theorem ixF_none {x : Int32} : ∀ {t : List zCh} {k : Nat}, ixF x t k = none → ∀ c ∈ t, nI (chI c) ≠ x
  | [], _, _, c, hc => by cases hc
  | d :: t, k, h, c, hc => by
    rw [ixF] at h
    split at h
    · cases h
    · rcases List.mem_cons.mp hc with rfl | hc
      · assumption
      · exact ixF_none h c hc
theorem ch_inj {cs : List zCh} (nd : (cs.map chI).Nodup) {c d : zCh} (h1 : d ∈ cs) (h2 : c ∈ cs) (e : chI d = chI c) : d = c := by
  induction cs with
  | nil => cases h1
  | cons a t ih =>
    rw [List.map_cons, List.nodup_cons] at nd
    rcases List.mem_cons.mp h1 with e1 | h3
    · rcases List.mem_cons.mp h2 with e2 | h4
      · rw [e1, e2]
      · exact absurd (List.mem_map.mpr ⟨c, h4, e.symm.trans (congrArg chI e1)⟩) nd.1
    · rcases List.mem_cons.mp h2 with e2 | h4
      · exact absurd (List.mem_map.mpr ⟨d, h3, e.trans (congrArg chI e2)⟩) nd.1
      · exact ih nd.2 h3 h4
/-- the place of a chair that is there -/
theorem pl_of {g : zGd} {cs : List zCh} {H : Nat → List Nat} (w : rW g cs H) {c : zCh} (hc : c ∈ cs) : ∃ j, ixF (nI (chI c)) cs 0 = some j ∧ cs[j]? = some c ∧ j < cs.length := by
  rcases h : ixF (nI (chI c)) cs 0 with _ | j
  · exact absurd rfl (ixF_none h c hc)
  · obtain ⟨d, h1, h2, h3⟩ := ix_some h
    have hb : (big : Nat) = 1000000000 := rfl
    have e : chI d = chI c := neq (by have := (w.2.1 d (List.mem_of_getElem? h1)).1; omega) (by have := (w.2.1 c hc).1; omega) h2
    obtain rfl : d = c := ch_inj w.2.2.2.2.2.2 (List.mem_of_getElem? h1) hc e
    exact ⟨j, rfl, h1, h3⟩
/-- is the chair with this id folded -/
def fOf (cs : List zCh) (x : Nat) : Bool := match cs.find? (fun c => decide (chI c = x)) with
  | none => false
  | some c => chF c
theorem find_of {cs : List zCh} (nd : (cs.map chI).Nodup) {c : zCh} (hc : c ∈ cs) : cs.find? (fun d => decide (chI d = chI c)) = some c := by
  induction cs with
  | nil => cases hc
  | cons d t ih =>
    rw [List.map_cons, List.nodup_cons] at nd
    rcases List.mem_cons.mp hc with rfl | hc
    · rw [List.find?_cons, decide_eq_true rfl]
    · have ne : chI d ≠ chI c := fun e => nd.1 (e ▸ List.mem_map.mpr ⟨c, hc, rfl⟩)
      rw [List.find?_cons, decide_eq_false ne]
      exact ih nd.2 hc
theorem fOf_of {cs : List zCh} (nd : (cs.map chI).Nodup) {c : zCh} (hc : c ∈ cs) : fOf cs (chI c) = chF c := by unfold fOf; rw [find_of nd hc]
def opn (cs : List zCh) (t : List Nat) : Nat := t.countP (fun x => !fOf cs x)
theorem opn_s {cs : List zCh} {t : List Nat} {k x : Nat} (h : t[k]? = some x) : opn cs (t.take (k + 1)) = opn cs (t.take k) + (1 - b2 (fOf cs x)) := by
  unfold opn
  rw [List.take_add_one, h, List.countP_append]
  rcases hx : fOf cs x with _ | _ <;> simp [hx, b2]
theorem one_b2 {x : Bool} : nI 1 - nI (b2 x) = nI (1 - b2 x) := by cases x <;> decide
set_option maxHeartbeats 4000000 in
set_option maxRecDepth 100000 in
theorem L_mopen {X : zX} {l : Launch} {E : zG} {rm : Room} (hzs : zS E) (hst : l.stackTraces = false) (C : zC X cX10_open RX10 4) (G : zGX X l E rm) {l9 : Nat} {Qr : Option Value → zH → Prop} {Qx : String → zH → Prop} (hr : rm = ({ frames := 2, cells := 0, slots := 0, locals := 44 } : Room)) (F : zF X (some .int) 0 0 Qr Qx) (hl : l9 < 6) {h : zH} {r : Nat} {g : zGd} {cs : List zCh} {H : Nat → List Nat} (hm : zMs h r) (hf : rF (aI h (r + 1)) g cs H) (hw : rW g cs H) (hq : Qr (some (.int (nI (opn cs (H l9))))) h) : ∀ n k, k ≤ (H l9).length → (H l9).length + 1 ≤ k + n → zV X 0 0 h 4 [(0, .ref r), (1, .int (nI l9)), (2, .int (nI (opn cs ((H l9).take k)))), (3, .int (nI k))] [] := by
  subst hr
  have h5 := hw.2.2.1 l9 hl
  intro n
  induction n with
  | zero => intro k h1 h2; exact absurd h2 (by omega)
  | succ n ih =>
    intro k hk hn
    refine zV.iload_n C dX10_open_4 rfl ?_
    refine zV.aload_n C dX10_open_5 rfl rfl ?_
    refine zV.iload_n C dX10_open_6 rfl ?_
    refine zV.ic (v := nI 2) C dX10_open_7 (by decide) ?_
    refine zV.callV (n := 2) C G dX10_open_8 (s_mlawn hzs hst h r hm l9 2 hl (by decide)) rfl ⟨cd_X10_lawn, lk_X10_69, im_X10_lawn, se_X10_X10_lawn, in_X10⟩ ⟨⟨by decide, by decide⟩, by decide⟩ rfl rfl rfl (hm.1) ⟨rfl, by decide⟩ (zaf ?_) (zno)
    rw [(hf.2.1 l9 hl).1]
    refine zV.icmp_ge (tgt := 40) C dX10_open_11 (by decide) (fun q11 => ?_) (fun q11 => ?_)
    · have e : k = (H l9).length := by have := nle (by omega) (by omega) q11; omega
      subst e
      rw [List.take_length]
      refine zV.iload_n C dX10_open_40 rfl ?_
      refine zV.iret C F dX10_open_41 rfl ?_
      exact hq
    · have hkl : k < (H l9).length := nlt (by omega) (by omega) q11
      obtain ⟨x, hx⟩ : ∃ x, (H l9)[k]? = some x := ⟨_, List.getElem?_eq_getElem hkl⟩
      obtain ⟨c, hc, rfl, hcl⟩ := hw.2.2.2.1 l9 hl x (List.mem_of_getElem? hx)
      obtain ⟨j, hj, hcj, hjl⟩ := pl_of hw hc
      have hl12 := hw.1
      refine zV.iload_n C dX10_open_14 rfl ?_
      refine zV.ic (v := nI 1) C dX10_open_15 (by decide) ?_
      refine zV.aload_n C dX10_open_16 rfl rfl ?_
      refine zV.aload_n C dX10_open_17 rfl rfl ?_
      refine zV.aload_n C dX10_open_18 rfl rfl ?_
      refine zV.iload_n C dX10_open_19 rfl ?_
      refine zV.iload_n C dX10_open_20 rfl ?_
      refine zV.callV (n := 2) C G dX10_open_21 (s_mherd hzs hst h r hm l9 k hl (by omega)) rfl ⟨cd_X10_herd, lk_X10_147, im_X10_herd, se_X10_X10_herd, in_X10⟩ ⟨⟨by decide, by decide⟩, by decide⟩ rfl rfl rfl (hm.1) ⟨rfl, by decide⟩ (zaf ?_) (zno)
      rw [(hf.2.1 l9 hl).2 k _ hx]
      refine zV.callV (n := 1) C G dX10_open_24 (s_mplace hzs hst h r g cs H hm hf hw (nI (chI c))) rfl ⟨cd_X10_place, lk_X10_129, im_X10_place, se_X10_X10_place, in_X10⟩ ⟨⟨by decide, by decide⟩, by decide⟩ rfl rfl rfl (hm.1) ⟨rfl, by decide⟩ (zaf ?_) (zno)
      rw [hj]
      show zV X 0 0 h 27 _ (.int (nI j) :: _)
      refine zV.ic (v := nI 3) C dX10_open_27 (by decide) ?_
      refine zV.callV (n := 2) C G dX10_open_28 (s_mof hzs hst h r hm j 3 (by omega) (by decide)) rfl ⟨cd_X10_of, lk_X10_65, im_X10_of, se_X10_X10_of, in_X10⟩ ⟨⟨by decide, by decide⟩, by decide⟩ rfl rfl rfl (hm.1) ⟨rfl, by decide⟩ (zaf ?_) (zno)
      rw [(hf.1.2 j c hcj).2.2.2.1]
      refine zV.isub C dX10_open_31 ?_
      rw [one_b2]
      refine zV.iadd C dX10_open_32 ?_
      rw [nI_add, ← fOf_of hw.2.2.2.2.2.2 hc, ← opn_s hx]
      refine zV.istore_n (lo' := [(0, _), (1, _), (2, _), (3, _)]) C dX10_open_33 (by decide) rfl rfl rfl ?_
      refine zV.iinc (lo' := [(0, _), (1, _), (2, _), (3, _)]) C dX10_open_34 rfl (by decide) rfl rfl rfl ?_
      refine zV.goto (tgt := 4) C dX10_open_37 (by decide) ?_
      rw [inc1]
      exact ih (k + 1) (by omega) (by omega)
set_option maxHeartbeats 4000000 in
set_option maxRecDepth 100000 in
theorem s_mopen {l : Launch} {E : zG} (hzs : zS E) (hst : l.stackTraces = false) (h : zH) (r : Nat) (g : zGd) (cs : List zCh) (H : Nat → List Nat) (hm : zMs h r) (hf : rF (aI h (r + 1)) g cs H) (hw : rW g cs H) (l9 : Nat) (hl : l9 < 6) : zMet l E yX10_open cX10_open 4 (some .int) ({ frames := 2, cells := 0, slots := 0, locals := 44 } : Room) 0 0 [.ref r, .int (nI l9)] h (fun v h' => v = some (.int (nI (opn cs (H l9)))) ∧ h' = h) (fun _ _ => False) := by
  refine zM_start hzs hst (by decide) (Nat.le_of_ble_eq_true rfl) (fun X C G F I => ?_)
  show zV X 0 0 _ 0 [(0, _), (1, _)] []
  refine zV.ic (v := nI 0) C dX10_open_0 (by decide) ?_
  refine zV.istore_n (lo' := [(0, _), (1, _), (2, _)]) C dX10_open_1 (by decide) rfl rfl rfl ?_
  refine zV.ic (v := nI 0) C dX10_open_2 (by decide) ?_
  refine zV.istore_n (lo' := [(0, _), (1, _), (2, _), (3, _)]) C dX10_open_3 (by decide) rfl rfl rfl ?_
  exact L_mopen hzs hst C G rfl F hl hm hf hw ⟨rfl, rfl⟩ ((H l9).length + 1) 0 (Nat.zero_le _) (by omega)
