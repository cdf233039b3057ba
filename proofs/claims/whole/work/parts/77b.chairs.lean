/-! the reference: chairs come, go, are folded, oiled, moved -/
theorem jCm_n {g : zGd} {x y : Int32} (e : ln x = none) : jCm g x y = (1, 0, 0) := by unfold jCm; rw [e]
theorem jCm_s {g : zGd} {x y : Int32} {i : Nat} (e : ln x = some i) : jCm g x y = if inB y (nI 0) (nI 9) = true then (if 12 ≤ (gC g).length then (3, 3, nI 12) else if 5 ≤ hsz (gC g) i then (3, 4, x) else (0, 0, 0)) else (2, 0, 0) := by
  unfold jCm inB
  rw [e]
  show (if y < 0 then _ else _) = _
  by_cases h1 : y < 0
  · rw [if_pos h1, decide_eq_false (p := nI 0 ≤ y) (Int32.not_le.mpr h1)]; rfl
  · rw [if_neg h1, decide_eq_true (p := nI 0 ≤ y) (Int32.not_lt.mp h1)]
    by_cases h2 : y ≤ nI 9
    · rw [if_pos h2, decide_eq_true h2]; rfl
    · rw [if_neg h2, decide_eq_false h2]; rfl
theorem jSc_n {g : zGd} {x : Int32} (e : kc g x = none) : jSc g x = (1, 0, 0) := by unfold jSc; rw [e]
theorem jSc_s {g : zGd} {x : Int32} {k : Nat} {c : zCh} (e : kc g x = some (k, c)) : jSc g x = (0, 0, 0) := by unfold jSc; rw [e]
theorem jFo_n {g : zGd} {x : Int32} (e : kc g x = none) : jFo g x = (1, 0, 0) := by unfold jFo; rw [e]
theorem jFo_s {g : zGd} {x : Int32} {k : Nat} {c : zCh} (e : kc g x = some (k, c)) : jFo g x = if chF c = true then (3, 5, x) else (0, 0, 0) := by unfold jFo; rw [e]
theorem jUn_n {g : zGd} {x : Int32} (e : kc g x = none) : jUn g x = (1, 0, 0) := by unfold jUn; rw [e]
theorem jUn_s {g : zGd} {x : Int32} {k : Nat} {c : zCh} (e : kc g x = some (k, c)) : jUn g x = if chF c = true then (0, 0, 0) else (3, 6, x) := by unfold jUn; rw [e]
theorem jOi_n {g : zGd} {x : Int32} (e : kc g x = none) : jOi g x = (1, 0, 0) := by unfold jOi; rw [e]
theorem jOi_s {g : zGd} {x : Int32} {k : Nat} {c : zCh} (e : kc g x = some (k, c)) : jOi g x = if chR c = 0 then (3, 8, nI (gO g)) else if gO g = 0 then (3, 9, nI (chR c)) else (0, 0, 0) := by unfold jOi; rw [e]
theorem jMv_n1 {g : zGd} {x y : Int32} (e : kc g x = none) : jMv g x y = (1, 0, 0) := by unfold jMv; rw [e]
theorem jMv_n2 {g : zGd} {x y : Int32} {k : Nat} {c : zCh} (e : kc g x = some (k, c)) (e2 : ln y = none) : jMv g x y = (1, 0, 0) := by unfold jMv; rw [e]; simp only [e2]
theorem jMv_s {g : zGd} {x y : Int32} {k j : Nat} {c : zCh} (e : kc g x = some (k, c)) (e2 : ln y = some j) : jMv g x y = if chF c = true then (3, 5, x) else if (gN g (chL c)).testBit j = true then (if 5 ≤ hsz (gC g) j then (3, 4, y) else (0, 0, 0)) else (3, 2, oI (far (gN g) (chL c) j)) := by unfold jMv; rw [e]; simp only [e2]
theorem hq_of {g : zGd} {cs : List zCh} {H : Nat → List Nat} (w : rW g cs H) {c : zCh} (hc : c ∈ cs) : ∃ q : Nat, (H (chL c))[q]? = some (chI c) := List.mem_iff_getElem?.mp (w.2.2.2.2.1 c hc)
/-- a chair comes -/
def cmF (f : Nat → Int32) (n x l s z d : Nat) : Nat → Int32 := jnF (fup (fup (fup (fup (fup (fup f 0 (nI (n + 1))) 1 (nI (x + 1))) (56 + 5 * n + 0) (nI x)) (56 + 5 * n + 2) (nI s)) (56 + 5 * n + 3) (nI 0)) (56 + 5 * n + 4) (nI d)) n l z x
theorem cmF_F {f : Nat → Int32} {g : zGd} {cs : List zCh} {H : Nat → List Nat} {l s : Nat} (q : rF f g cs H) (hn : cs.length < 12) (hl : l < 6) (h5 : ∀ l, l < 6 → (H l).length ≤ 5) (hz : (H l).length < 5) : rF (cmF f cs.length (gX g) l s (H l).length (gD g)) (opSt g l s) (cs ++ [(gX g, l, s, gD g, false)]) (upH H l (H l ++ [gX g])) := by
  obtain ⟨qc, qh, ql, q1, q2, q3, q4, q5, q6, q7⟩ := q
  refine ⟨⟨?_, fun k c hk => ?_⟩, fun i hi => ?_, fun i hi => ⟨?_, ?_⟩, ?_⟩
  · unfold cmF jnF
    rw [fup_n (by omega), fup_n (by omega), fup_n (by omega), fup_n (by omega), fup_n (by omega), fup_n (by omega), fup_n (by omega), fup_n (by omega), fup_e, List.length_append]; rfl
  · by_cases z : k < cs.length
    · rw [List.getElem?_append_left z] at hk
      obtain ⟨c1, c2, c3, c4, c5⟩ := qc.2 k c hk
      have e : ∀ i, i < 5 → cmF f cs.length (gX g) l s (H l).length (gD g) (56 + 5 * k + i) = f (56 + 5 * k + i) := fun i hi => by
        unfold cmF jnF
        rw [fup_n (by omega), fup_n (by omega), fup_n (by omega), fup_n (by omega), fup_n (by omega), fup_n (by omega), fup_n (by omega), fup_n (by omega), fup_n (by omega)]
      exact ⟨(e 0 (by omega)).trans c1, (e 1 (by omega)).trans c2, (e 2 (by omega)).trans c3, (e 3 (by omega)).trans c4, (e 4 (by omega)).trans c5⟩
    · rw [List.getElem?_append_right (by omega)] at hk
      have z2 : k - cs.length = 0 := by have := (List.getElem?_eq_some_iff.mp hk).1; rw [List.length_singleton] at this; omega
      rw [z2] at hk
      cases hk
      obtain rfl : k = cs.length := by omega
      unfold cmF jnF
      refine ⟨?_, fup_e, ?_, ?_, ?_⟩
      · rw [fup_n (by omega), fup_n (by omega), fup_n (by omega), fup_n (by omega), fup_n (by omega), fup_n (by omega)]; exact fup_e
      · rw [fup_n (by omega), fup_n (by omega), fup_n (by omega), fup_n (by omega), fup_n (by omega)]; exact fup_e
      · rw [fup_n (by omega), fup_n (by omega), fup_n (by omega), fup_n (by omega)]; exact fup_e
      · rw [fup_n (by omega), fup_n (by omega), fup_n (by omega)]; exact fup_e
  · unfold upH
    by_cases z : i = l
    · subst z
      rw [if_pos rfl]
      refine ⟨by unfold cmF jnF; rw [fup_n (by omega), fup_n (by omega), fup_e, List.length_append]; rfl, fun k x hk => ?_⟩
      by_cases z : k < (H i).length
      · rw [List.getElem?_append_left z] at hk
        unfold cmF jnF
        rw [fup_n (by omega), fup_n (by omega), fup_n (by omega), fup_n (by omega), fup_n (by omega), fup_n (by omega), fup_n (by omega), fup_n (by omega), fup_n (by omega)]
        exact (qh i hi).2 k x hk
      · rw [List.getElem?_append_right (by omega)] at hk
        have z2 : k - (H i).length = 0 := by have := (List.getElem?_eq_some_iff.mp hk).1; rw [List.length_singleton] at this; omega
        rw [z2] at hk
        cases hk
        obtain rfl : k = (H i).length := by omega
        unfold cmF jnF
        rw [fup_n (by omega)]; exact fup_e
    · rw [if_neg z]
      have e : ∀ j, 2 ≤ j → j < 8 → cmF f cs.length (gX g) l s (H l).length (gD g) (8 + 8 * i + j) = f (8 + 8 * i + j) := fun j h1 h2 => by
        unfold cmF jnF
        rw [fup_n (by omega), fup_n (by omega), fup_n (by omega), fup_n (by omega), fup_n (by omega), fup_n (by omega), fup_n (by omega), fup_n (by omega), fup_n (by omega)]
      refine ⟨(e 2 (by omega) (by omega)).trans (qh i hi).1, fun k x hk => ?_⟩
      have := (List.getElem?_eq_some_iff.mp hk).1
      have := h5 i hi
      have := (qh i hi).2 k x hk
      rw [show 8 + 8 * i + 3 + k = 8 + 8 * i + (3 + k) by omega] at this ⊢
      exact (e (3 + k) (by omega) (by omega)).trans this
  · unfold cmF jnF
    rw [fup_n (by omega), fup_n (by omega), fup_n (by omega), fup_n (by omega), fup_n (by omega), fup_n (by omega), fup_n (by omega), fup_n (by omega), fup_n (by omega)]
    exact (ql i hi).1
  · unfold cmF jnF
    rw [fup_n (by omega), fup_n (by omega), fup_n (by omega), fup_n (by omega), fup_n (by omega), fup_n (by omega), fup_n (by omega), fup_n (by omega), fup_n (by omega)]
    exact (ql i hi).2
  · have e : ∀ j, 2 ≤ j → j < 8 → cmF f cs.length (gX g) l s (H l).length (gD g) j = f j := fun j h1 h2 => by
      unfold cmF jnF
      rw [fup_n (by omega), fup_n (by omega), fup_n (by omega), fup_n (by omega), fup_n (by omega), fup_n (by omega), fup_n (by omega), fup_n (by omega), fup_n (by omega)]
    refine ⟨?_, (e 2 (by omega) (by omega)).trans q2, (e 3 (by omega) (by omega)).trans q3, (e 4 (by omega) (by omega)).trans q4, (e 5 (by omega) (by omega)).trans q5, (e 6 (by omega) (by omega)).trans q6, (e 7 (by omega) (by omega)).trans q7⟩
    unfold cmF jnF
    rw [fup_n (by omega), fup_n (by omega), fup_n (by omega), fup_n (by omega), fup_n (by omega), fup_n (by omega), fup_n (by omega), fup_e]; rfl
theorem cm_G {f' : Nat → Int32} {g : zGd} {cs : List zCh} {l s : Nat} (w : gW g) (hp : cs.Perm (gC g)) (hs : (cs.map chI).Pairwise (· < ·)) (q : rF f' (opSt g l s) (cs ++ [(gX g, l, s, gD g, false)]) (upH (hrd (gC g)) l (hrd (gC g) l ++ [gX g]))) : rG f' (opSt g l s) := by
  refine ⟨_, hp.append_right _, ?_, rF_H q (fun i hi => hrd_app (ds := gC g) (c := (gX g, l, s, gD g, false)) i)⟩
  rw [List.map_append, List.pairwise_append]
  refine ⟨hs, List.pairwise_singleton _ _, fun a ha b hb => ?_⟩
  obtain ⟨c, hc, rfl⟩ := List.mem_map.mp ha
  have := List.mem_singleton.mp hb
  subst this
  exact (w.1 c (hp.mem_iff.mp hc)).1
set_option maxHeartbeats 4000000 in
set_option maxRecDepth 100000 in
theorem s_mcomes {l : Launch} {E : zG} (hzs : zS E) (hst : l.stackTraces = false) (h : zH) (r m : Nat) (g : zGd) (hm : zMs h r) (hg : rG (aI h (r + 1)) g) (hR : gR m g) (hb : m + 3000 ≤ big) (x y : Int32) : zMet l E yX10_comes cX10_comes 4 (some .int) ({ frames := 2, cells := 0, slots := 0, locals := 46 } : Room) 0 0 [.ref r, .int x, .int y] h (opQ h r (jCm g x y) (ap g 99 x y).2 (fun f' => rG f' (ap g 99 x y).1)) (fun _ _ => False) := by
  refine zM_start hzs hst (by decide) (Nat.le_of_ble_eq_true rfl) (fun X C G F I => ?_)
  show zV X 0 0 _ 0 [(0, _), (1, _), (2, _)] []
  obtain ⟨cs, hp, hsrt, hf⟩ := hg
  have hw := rG_W hR (by omega) hp
  have hN := hR.2.1
  have hls := hf.2.2.1
  have hgw := gQ_W hR.1 (by omega : m ≤ big)
  rcases e1 : ln x with _ | i
  · refine zV.iload_n C dX10_comes_0 rfl ?_
    refine zV.callS (n := 1) C G dX10_comes_1 (s_misLawn hzs hst h x) rfl ⟨cd_X10_isLawn, lk_X10_85, st_X10_isLawn, in_X10⟩ ⟨⟨by decide, by decide⟩, by decide⟩ rfl rfl rfl (zaf ?_) (zno)
    rw [e1]
    show zV X _ _ h 4 _ (.int (nI 0) :: _)
    refine zV.if_ne (tgt := 9) C dX10_comes_4 (by decide) (fun q4 => ?_) (fun q4 => ?_)
    · exact absurd rfl q4
    · refine zV.ic (v := nI 1) C dX10_comes_7 (by decide) ?_
      refine zV.iret C F dX10_comes_8 rfl ?_
      exact opQ_1 (jCm_n e1)
  · obtain ⟨hi, rfl⟩ := ln_some e1
    refine zV.iload_n C dX10_comes_0 rfl ?_
    refine zV.callS (n := 1) C G dX10_comes_1 (s_misLawn hzs hst h (nI i)) rfl ⟨cd_X10_isLawn, lk_X10_85, st_X10_isLawn, in_X10⟩ ⟨⟨by decide, by decide⟩, by decide⟩ rfl rfl rfl (zaf ?_) (zno)
    rw [e1]
    show zV X _ _ h 4 _ (.int (nI 1) :: _)
    refine zV.if_ne (tgt := 9) C dX10_comes_4 (by decide) (fun q4 => ?_) (fun q4 => ?_)
    · refine zV.iload_n C dX10_comes_9 rfl ?_
      refine zV.ic (v := nI 0) C dX10_comes_10 (by decide) ?_
      refine zV.bi (v := nI 9) C dX10_comes_11 (by decide) ?_
      refine zV.callS (n := 3) C G dX10_comes_13 (s_min hzs hst h y (nI 0) (nI 9)) rfl ⟨cd_X10_in, lk_X10_61, st_X10_in, in_X10⟩ ⟨⟨by decide, by decide⟩, by decide⟩ rfl rfl rfl (zaf ?_) (zno)
      refine zV.if_ne (tgt := 21) C dX10_comes_16 (by decide) (fun q16 => ?_) (fun q16 => ?_)
      · have e3 : inB y (nI 0) (nI 9) = true := Bool.of_not_eq_false (fun z => q16 (b2n.mpr z))
        obtain ⟨N, rfl, hN1, hN2⟩ := inB_n (by decide) (by decide) e3
        have hl12 := hw.1
        refine zV.aload_n C dX10_comes_21 rfl rfl ?_
        refine zV.gR 416 (k := 0) C dX10_comes_22 zcl_X10 (by decide) rfl lk_X10_9 (hm.1) rfl (hm.2.1) ?_
        refine zV.ic (v := nI 0) C dX10_comes_25 (by decide) ?_
        refine zV.ialdv (j := 0) C dX10_comes_26 (hm.2.2.2.2.2.2.2.2.2.1.1) (rfl) (Nat.lt_of_lt_of_eq (show 0 < 116 by decide) (hm.2.2.2.2.2.2.2.2.2.1.2).symm) (by omega) (hf.1.1) ?_
        refine zV.bi (v := nI 12) C dX10_comes_27 (by decide) ?_
        refine zV.icmp_ne (tgt := 40) C dX10_comes_29 (by decide) (fun q29 => ?_) (fun q29 => ?_)
        · have e4 : ¬ 12 ≤ (gC g).length := by rw [← hp.length_eq]; intro z; exact q29 (congrArg nI (by omega))
          have h5 := hw.2.2.1 i hi
          refine zV.aload_n C dX10_comes_40 rfl rfl ?_
          refine zV.iload_n C dX10_comes_41 rfl ?_
          refine zV.ic (v := nI 2) C dX10_comes_42 (by decide) ?_
          refine zV.callV (n := 2) C G dX10_comes_43 (s_mlawn hzs hst h r hm i 2 hi (by decide)) rfl ⟨cd_X10_lawn, lk_X10_69, im_X10_lawn, se_X10_X10_lawn, in_X10⟩ ⟨⟨by decide, by decide⟩, by decide⟩ rfl rfl rfl (hm.1) ⟨rfl, by decide⟩ (zaf ?_) (zno)
          rw [(hf.2.1 i hi).1]
          refine zV.ic (v := nI 5) C dX10_comes_46 (by decide) ?_
          refine zV.icmp_ne (tgt := 57) C dX10_comes_47 (by decide) (fun q47 => ?_) (fun q47 => ?_)
          · have e5 : ¬ 5 ≤ hsz (gC g) i := by rw [← hrd_len]; intro z; exact q47 (congrArg nI (by omega))
            have e4_ : ¬ 12 ≤ cs.length := by rw [hp.length_eq]; exact e4
            have e5_ : ¬ 5 ≤ (hrd (gC g) i).length := by rw [hrd_len]; exact e5
            refine zV.aload_n C dX10_comes_57 rfl rfl ?_
            refine zV.gR 416 (k := 0) C dX10_comes_58 zcl_X10 (by decide) rfl lk_X10_9 (hm.1) rfl (hm.2.1) ?_
            refine zV.ic (v := nI 0) C dX10_comes_61 (by decide) ?_
            refine zV.dup2 C dX10_comes_62 rfl rfl ?_
            refine zV.ialdv (j := 0) C dX10_comes_63 (hm.2.2.2.2.2.2.2.2.2.1.1) (rfl) (Nat.lt_of_lt_of_eq (show 0 < 116 by decide) (hm.2.2.2.2.2.2.2.2.2.1.2).symm) (by omega) (hf.1.1) ?_
            refine zV.dup_x2 C dX10_comes_64 rfl rfl rfl ?_
            refine zV.ic (v := nI 1) C dX10_comes_65 (by decide) ?_
            refine zV.iadd C dX10_comes_66 ?_
            rw [nI_add]
            refine zV.iast (j := 0) C dX10_comes_67 (hm.2.2.2.2.2.2.2.2.2.1.1) (rfl) (Nat.lt_of_lt_of_eq (show 0 < 116 by decide) (hm.2.2.2.2.2.2.2.2.2.1.2).symm) (by omega) ?_
            rw [saI_row]
            refine zV.istore_n (lo' := [(0, _), (1, _), (2, _), (3, _)]) C dX10_comes_68 (by decide) rfl rfl rfl ?_
            refine zV.aload_n C dX10_comes_69 rfl rfl ?_
            refine zV.iload_n C dX10_comes_70 rfl ?_
            refine zV.ic (v := nI 0) C dX10_comes_71 (by decide) ?_
            refine zV.aload_n C dX10_comes_72 rfl rfl ?_
            refine zV.gR 416 (k := 0) C dX10_comes_73 zcl_X10 (by decide) rfl lk_X10_9 (hm.1) rfl (hm.2.1) ?_
            refine zV.ic (v := nI 1) C dX10_comes_76 (by decide) ?_
            refine zV.dup2 C dX10_comes_77 rfl rfl ?_
            refine zV.ialdv (j := 1) C dX10_comes_78 (hm.2.2.2.2.2.2.2.2.2.1.1) (rfl) (Nat.lt_of_lt_of_eq (show 1 < 116 by decide) (hm.2.2.2.2.2.2.2.2.2.1.2).symm) (by omega) ((show aI (sRow h (r + 1) (fup (aI h (r + 1)) 0 (nI (cs.length + 1)))) (r + 1) 1 = nI (gX g) from by rw [aI_sRow, fup_n (by omega)]; exact hf.2.2.2.1)) ?_
            refine zV.dup_x2 C dX10_comes_79 rfl rfl rfl ?_
            refine zV.ic (v := nI 1) C dX10_comes_80 (by decide) ?_
            refine zV.iadd C dX10_comes_81 ?_
            rw [nI_add]
            refine zV.iast (j := 1) C dX10_comes_82 (hm.2.2.2.2.2.2.2.2.2.1.1) (rfl) (Nat.lt_of_lt_of_eq (show 1 < 116 by decide) (hm.2.2.2.2.2.2.2.2.2.1.2).symm) (by omega) ?_
            rw [saI_row2]
            refine zV.callV (n := 3) C G dX10_comes_83 (s_msets hzs hst (sRow h (r + 1) (fup (fup (aI h (r + 1)) 0 (nI (cs.length + 1))) 1 (nI (gX g + 1)))) r hm cs.length 0 (nI (gX g)) (by omega) (by decide)) rfl ⟨cd_X10_sets, lk_X10_77, im_X10_sets, se_X10_X10_sets, in_X10⟩ ⟨⟨by decide, by decide⟩, by decide⟩ rfl rfl rfl (hm.1) ⟨rfl, by decide⟩ (zafv ?_) (zno)
            rw [saI_row2]
            refine zV.aload_n C dX10_comes_86 rfl rfl ?_
            refine zV.iload_n C dX10_comes_87 rfl ?_
            refine zV.ic (v := nI 2) C dX10_comes_88 (by decide) ?_
            refine zV.iload_n C dX10_comes_89 rfl ?_
            refine zV.callV (n := 3) C G dX10_comes_90 (s_msets hzs hst (sRow h (r + 1) (fup (fup (fup (aI h (r + 1)) 0 (nI (cs.length + 1))) 1 (nI (gX g + 1))) (56 + 5 * cs.length + 0) (nI (gX g)))) r hm cs.length 2 (nI N) (by omega) (by decide)) rfl ⟨cd_X10_sets, lk_X10_77, im_X10_sets, se_X10_X10_sets, in_X10⟩ ⟨⟨by decide, by decide⟩, by decide⟩ rfl rfl rfl (hm.1) ⟨rfl, by decide⟩ (zafv ?_) (zno)
            rw [saI_row2]
            refine zV.aload_n C dX10_comes_93 rfl rfl ?_
            refine zV.iload_n C dX10_comes_94 rfl ?_
            refine zV.ic (v := nI 3) C dX10_comes_95 (by decide) ?_
            refine zV.ic (v := nI 0) C dX10_comes_96 (by decide) ?_
            refine zV.callV (n := 3) C G dX10_comes_97 (s_msets hzs hst (sRow h (r + 1) (fup (fup (fup (fup (aI h (r + 1)) 0 (nI (cs.length + 1))) 1 (nI (gX g + 1))) (56 + 5 * cs.length + 0) (nI (gX g))) (56 + 5 * cs.length + 2) (nI N))) r hm cs.length 3 (nI 0) (by omega) (by decide)) rfl ⟨cd_X10_sets, lk_X10_77, im_X10_sets, se_X10_X10_sets, in_X10⟩ ⟨⟨by decide, by decide⟩, by decide⟩ rfl rfl rfl (hm.1) ⟨rfl, by decide⟩ (zafv ?_) (zno)
            rw [saI_row2]
            refine zV.aload_n C dX10_comes_100 rfl rfl ?_
            refine zV.iload_n C dX10_comes_101 rfl ?_
            refine zV.ic (v := nI 4) C dX10_comes_102 (by decide) ?_
            refine zV.aload_n C dX10_comes_103 rfl rfl ?_
            refine zV.gR 416 (k := 0) C dX10_comes_104 zcl_X10 (by decide) rfl lk_X10_9 (hm.1) rfl (hm.2.1) ?_
            refine zV.ic (v := nI 2) C dX10_comes_107 (by decide) ?_
            refine zV.ialdv (j := 2) C dX10_comes_108 (hm.2.2.2.2.2.2.2.2.2.1.1) (rfl) (Nat.lt_of_lt_of_eq (show 2 < 116 by decide) (hm.2.2.2.2.2.2.2.2.2.1.2).symm) (by omega) ((show aI (sRow h (r + 1) (fup (fup (fup (fup (fup (aI h (r + 1)) 0 (nI (cs.length + 1))) 1 (nI (gX g + 1))) (56 + 5 * cs.length + 0) (nI (gX g))) (56 + 5 * cs.length + 2) (nI N)) (56 + 5 * cs.length + 3) (nI 0))) (r + 1) 2 = nI (gD g) from by rw [aI_sRow, fup_n (by omega), fup_n (by omega), fup_n (by omega), fup_n (by omega), fup_n (by omega)]; exact hf.2.2.2.2.1)) ?_
            refine zV.callV (n := 3) C G dX10_comes_109 (s_msets hzs hst (sRow h (r + 1) (fup (fup (fup (fup (fup (aI h (r + 1)) 0 (nI (cs.length + 1))) 1 (nI (gX g + 1))) (56 + 5 * cs.length + 0) (nI (gX g))) (56 + 5 * cs.length + 2) (nI N)) (56 + 5 * cs.length + 3) (nI 0))) r hm cs.length 4 (nI (gD g)) (by omega) (by decide)) rfl ⟨cd_X10_sets, lk_X10_77, im_X10_sets, se_X10_X10_sets, in_X10⟩ ⟨⟨by decide, by decide⟩, by decide⟩ rfl rfl rfl (hm.1) ⟨rfl, by decide⟩ (zafv ?_) (zno)
            rw [saI_row2]
            refine zV.aload_n C dX10_comes_112 rfl rfl ?_
            refine zV.iload_n C dX10_comes_113 rfl ?_
            refine zV.iload_n C dX10_comes_114 rfl ?_
            refine zV.callV (n := 2) C G dX10_comes_115 (s_mjoins hzs hst (sRow h (r + 1) (fup (fup (fup (fup (fup (fup (aI h (r + 1)) 0 (nI (cs.length + 1))) 1 (nI (gX g + 1))) (56 + 5 * cs.length + 0) (nI (gX g))) (56 + 5 * cs.length + 2) (nI N)) (56 + 5 * cs.length + 3) (nI 0)) (56 + 5 * cs.length + 4) (nI (gD g)))) r hm cs.length i (hrd (gC g) i).length (gX g) (by omega) hi (by omega) (by rw [aI_sRow, fup_n (by omega), fup_n (by omega), fup_n (by omega), fup_n (by omega), fup_n (by omega), fup_n (by omega)]; exact (hf.2.1 i hi).1) (by rw [aI_sRow, fup_n (by omega), fup_n (by omega), fup_n (by omega)]; exact fup_e)) rfl ⟨cd_X10_joins, lk_X10_122, im_X10_joins, se_X10_X10_joins, in_X10⟩ ⟨⟨by decide, by decide⟩, by decide⟩ rfl rfl rfl (hm.1) ⟨rfl, by decide⟩ (zafv ?_) (zno)
            rw [sRow_row, aI_sRow]
            show zV X _ _ (sRow h (r + 1) (cmF (aI h (r + 1)) cs.length (gX g) i N (hrd (gC g) i).length (gD g))) 118 _ _
            have F9 := cmF_F (s := N) hf (by omega) hi hw.2.2.1 (by omega)
            refine zV.aload_n C dX10_comes_118 rfl rfl ?_
            refine zV.aload_n C dX10_comes_119 rfl rfl ?_
            refine zV.iload_n C dX10_comes_120 rfl ?_
            refine zV.ic (v := nI 0) C dX10_comes_121 (by decide) ?_
            refine zV.callV (n := 2) C G dX10_comes_122 (s_mof hzs hst (sRow h (r + 1) (cmF (aI h (r + 1)) cs.length (gX g) i N (hrd (gC g) i).length (gD g))) r hm cs.length 0 (by omega) (by decide)) rfl ⟨cd_X10_of, lk_X10_65, im_X10_of, se_X10_X10_of, in_X10⟩ ⟨⟨by decide, by decide⟩, by decide⟩ rfl rfl rfl (hm.1) ⟨rfl, by decide⟩ (zaf ?_) (zno)
            rw [show aI (sRow h (r + 1) (cmF (aI h (r + 1)) cs.length (gX g) i N (hrd (gC g) i).length (gD g))) (r + 1) (56 + 5 * cs.length + 0) = nI (gX g) from by rw [aI_sRow]; exact (F9.1.2 cs.length _ List.getElem?_concat_length).1]
            refine zV.callV (n := 1) C G dX10_comes_125 (s_mdoes hzs hst (sRow h (r + 1) (cmF (aI h (r + 1)) cs.length (gX g) i N (hrd (gC g) i).length (gD g))) r hm (nI (gX g))) rfl ⟨cd_X10_does, lk_X10_100, im_X10_does, se_X10_X10_does, in_X10⟩ ⟨⟨by decide, by decide⟩, by decide⟩ rfl rfl rfl (hm.1) ⟨rfl, by decide⟩ (zaf ?_) (zno)
            refine zV.iret C F dX10_comes_128 rfl ?_
            exact opQ_0 ((jCm_s e1).trans ((if_pos e3).trans ((if_neg e4).trans (if_neg e5)))) (congrArg Prod.snd (aL_e e1)) (show rG _ (ap g 99 (nI i) (nI N)).1 from (congrArg Prod.fst (show ap g 99 (nI i) (nI N) = (opSt g i N, nI (gX g)) from (aL_e e1).trans (by rw [nI_cl (by omega)]))) ▸ cm_G hgw hp hsrt F9)
          · have e5 : 5 ≤ hsz (gC g) i := by rw [← hrd_len]; have := neq (by omega) (by decide) q47; omega
            refine zV.aload_n C dX10_comes_50 rfl rfl ?_
            refine zV.ic (v := nI 4) C dX10_comes_51 (by decide) ?_
            refine zV.iload_n C dX10_comes_52 rfl ?_
            refine zV.callV (n := 2) C G dX10_comes_53 (s_mrejects hzs hst h r hm (nI 4) (nI i)) rfl ⟨cd_X10_rejects, lk_X10_97, im_X10_rejects, se_X10_X10_rejects, in_X10⟩ ⟨⟨by decide, by decide⟩, by decide⟩ rfl rfl rfl (hm.1) ⟨rfl, by decide⟩ (zaf ?_) (zno)
            refine zV.iret C F dX10_comes_56 rfl ?_
            exact opQ_3 ((jCm_s e1).trans ((if_pos e3).trans ((if_neg e4).trans (if_pos e5)))) rfl
        · have e4 : 12 ≤ (gC g).length := by rw [← hp.length_eq]; have := neq (by omega) (by decide) q29; omega
          refine zV.aload_n C dX10_comes_32 rfl rfl ?_
          refine zV.ic (v := nI 3) C dX10_comes_33 (by decide) ?_
          refine zV.bi (v := nI 12) C dX10_comes_34 (by decide) ?_
          refine zV.callV (n := 2) C G dX10_comes_36 (s_mrejects hzs hst h r hm (nI 3) (nI 12)) rfl ⟨cd_X10_rejects, lk_X10_97, im_X10_rejects, se_X10_X10_rejects, in_X10⟩ ⟨⟨by decide, by decide⟩, by decide⟩ rfl rfl rfl (hm.1) ⟨rfl, by decide⟩ (zaf ?_) (zno)
          refine zV.iret C F dX10_comes_39 rfl ?_
          exact opQ_3 ((jCm_s e1).trans ((if_pos e3).trans (if_pos e4))) rfl
      · have e3 : ¬ inB y (nI 0) (nI 9) = true := fun z => by rw [b2n.mp q16] at z; cases z
        refine zV.ic (v := nI 2) C dX10_comes_19 (by decide) ?_
        refine zV.iret C F dX10_comes_20 rfl ?_
        exact opQ_2 ((jCm_s e1).trans (if_neg e3))
    · exact absurd q4 (by decide)
theorem rW_set {g : zGd} {cs : List zCh} {H : Nat → List Nat} {k : Nat} {c c' : zCh} (w : rW g cs H) (hc : cs[k]? = some c) (e1 : chI c' = chI c) (e2 : chL c' = chL c) (e3 : chR c' ≤ 11) (e4 : chD c' = chD c) : rW g (cs.set k c') H := by
  obtain ⟨w1, w2, w3, w4, w5, w6, w7⟩ := w
  have hm := List.mem_of_getElem? hc
  obtain ⟨b1, b2_, b3, b4⟩ := w2 c hm
  have hk := (List.getElem?_eq_some_iff.mp hc).1
  refine ⟨by rw [List.length_set]; exact w1, fun d hd => ?_, w3, fun l hl x hx => ?_, fun d hd => ?_, w6, by rw [map_set_id hc e1]; exact w7⟩
  · rcases mem_set_or hd with rfl | hd
    · exact ⟨e1 ▸ b1, e2 ▸ b2_, e3, e4 ▸ b4⟩
    · exact w2 d hd
  · obtain ⟨d, hd, h1, h2⟩ := w4 l hl x hx
    by_cases z : d = c
    · subst z
      exact ⟨c', List.mem_iff_getElem?.mpr ⟨k, by rw [List.getElem?_set, if_pos rfl, if_pos hk]⟩, e1.trans h1, e2.trans h2⟩
    · obtain ⟨i, hi⟩ := List.mem_iff_getElem?.mp hd
      refine ⟨d, List.mem_iff_getElem?.mpr ⟨i, ?_⟩, h1, h2⟩
      rw [List.getElem?_set, if_neg (fun e => z (by subst e; rw [hc] at hi; exact (Option.some.inj hi).symm))]
      exact hi
  · rcases mem_set_or hd with rfl | hd
    · rw [e1, e2]; exact w5 c hm
    · exact w5 d hd
theorem srt_er {cs : List zCh} {j : Nat} (h : (cs.map chI).Pairwise (· < ·)) : ((cs.eraseIdx j).map chI).Pairwise (· < ·) := h.sublist ((List.eraseIdx_sublist cs j).map chI)
theorem srt_st {cs : List zCh} {j : Nat} {c c' : zCh} (h : (cs.map chI).Pairwise (· < ·)) (hc : cs[j]? = some c) (e : chI c' = chI c) : ((cs.set j c').map chI).Pairwise (· < ·) := by rw [map_set_id hc e]; exact h
theorem er_5 {H : Nat → List Nat} {l q : Nat} (h5 : ∀ l, l < 6 → (H l).length ≤ 5) (hl : l < 6) : ∀ i, i < 6 → (upH H l ((H l).eraseIdx q) i).length ≤ 5 := upH_5 h5 (Nat.le_trans (List.length_eraseIdx_le _ _) (h5 l hl))
theorem sc_F {f : Nat → Int32} {g : zGd} {cs : List zCh} {k j q : Nat} {c : zCh} {H : Nat → List Nat} (hw : rW g cs H) (hf : rF f g cs H) (hcj : cs[j]? = some c) (hq : (H (chL c))[q]? = some (chI c)) : rF (rmF (lvF f (chL c) q (H (chL c)).length) j cs.length) g (cs.eraseIdx j) (upH H (chL c) ((H (chL c)).eraseIdx q)) :=
  rmF_F (lvF_F hf (hw.2.1 c (List.mem_of_getElem? hcj)).2.1 hw.2.2.1 (List.getElem?_eq_some_iff.mp hq).1) (er_5 hw.2.2.1 (hw.2.1 c (List.mem_of_getElem? hcj)).2.1) (List.getElem?_eq_some_iff.mp hcj).1 hw.1
theorem sc_G {f : Nat → Int32} {g : zGd} {cs : List zCh} {k j q : Nat} {c : zCh} (w : gW g) (hp : cs.Perm (gC g)) (hs : (cs.map chI).Pairwise (· < ·)) (hw : rW g cs (hrd (gC g))) (hf : rF f g cs (hrd (gC g))) (hcj : cs[j]? = some c) (hck : (gC g)[k]? = some c) (hq : (hrd (gC g) (chL c))[q]? = some (chI c)) : rG (fup (rmF (lvF f (chL c) q (hrd (gC g) (chL c)).length) j cs.length) 5 (nI (gU g + 1))) (opSc g k) := by
  have F := sc_F (k := k) hw hf hcj hq
  obtain ⟨q1, q2, q3, q4, q5, q6, q7⟩ := F.2.2.2
  refine ⟨_, perm_er hp w.2.1 hcj hck, srt_er hs, rF_H (rF_g F (opSc g k) rfl rfl ⟨(fup_n (by decide)).trans q1, (fup_n (by decide)).trans q2, (fup_n (by decide)).trans q3, (fup_n (by decide)).trans q4, fup_e, (fup_n (by decide)).trans q6, (fup_n (by decide)).trans q7⟩ (fun i hi => fup_n (by omega))) (fun l hl => hrd_er w.2.1 hck hq (hw.2.2.2.2.2.1 _ (hw.2.1 c (List.mem_of_getElem? hcj)).2.1) l)⟩
theorem set_G {f f' : Nat → Int32} {g : zGd} {cs : List zCh} {k j : Nat} {c c' : zCh} (w : gW g) (hp : cs.Perm (gC g)) (hs : (cs.map chI).Pairwise (· < ·)) (hw : rW g cs (hrd (gC g))) (hf : rF f g cs (hrd (gC g))) (hcj : cs[j]? = some c) (hck : (gC g)[k]? = some c) (e1 : chI c' = chI c) (e2 : chL c' = chL c) (g' : zGd) (hg' : gC g' = (gC g).set k c') (F : rF f' g' (cs.set j c') (hrd (gC g))) : rG f' g' := by
  refine ⟨_, by rw [hg']; exact perm_st c' hp w.2.1 hcj hck, srt_st hs hcj e1, rF_H F (fun l hl => by rw [hg']; exact hrd_set hck e1 e2 l)⟩
theorem mv_F {f : Nat → Int32} {g : zGd} {cs : List zCh} {j q l : Nat} {c : zCh} {H : Nat → List Nat} (hw : rW g cs H) (hf : rF f g cs H) (hcj : cs[j]? = some c) (hq : (H (chL c))[q]? = some (chI c)) (hl : l < 6) (hn : (upH H (chL c) ((H (chL c)).eraseIdx q) l).length < 5) : rF (jnF (lvF f (chL c) q (H (chL c)).length) j l (upH H (chL c) ((H (chL c)).eraseIdx q) l).length (chI c)) g (cs.set j (wL c l)) (upH (upH H (chL c) ((H (chL c)).eraseIdx q)) l (upH H (chL c) ((H (chL c)).eraseIdx q) l ++ [chI c])) :=
  jnF_F (lvF_F hf (hw.2.1 c (List.mem_of_getElem? hcj)).2.1 hw.2.2.1 (List.getElem?_eq_some_iff.mp hq).1) hl (er_5 hw.2.2.1 (hw.2.1 c (List.mem_of_getElem? hcj)).2.1) hn hcj
theorem mv_H {ds : List zCh} {k q l : Nat} {c : zCh} (nd : (ds.map chI).Nodup) (h : ds[k]? = some c) (hq : (hrd ds (chL c))[q]? = some (chI c)) (ndl : (hrd ds (chL c)).Nodup) (i : Nat) : hrd (ds.eraseIdx k ++ [wL c l]) i = upH (upH (hrd ds) (chL c) ((hrd ds (chL c)).eraseIdx q)) l (upH (hrd ds) (chL c) ((hrd ds (chL c)).eraseIdx q) l ++ [chI c]) i := by
  rw [hrd_app]
  unfold upH
  show (if i = l then _ else _) = _
  by_cases e : i = l
  · rw [if_pos e, if_pos e]
    exact congrArg (· ++ [chI c]) (hrd_er nd h hq ndl l)
  · rw [if_neg e, if_neg e]
    exact hrd_er nd h hq ndl i
set_option maxHeartbeats 4000000 in
set_option maxRecDepth 100000 in
theorem s_mscraps {l : Launch} {E : zG} (hzs : zS E) (hst : l.stackTraces = false) (h : zH) (r m : Nat) (g : zGd) (hm : zMs h r) (hg : rG (aI h (r + 1)) g) (hR : gR m g) (hb : m + 3000 ≤ big) (x : Int32) : zMet l E yX10_scraps cX10_scraps 4 (some .int) ({ frames := 3, cells := 0, slots := 0, locals := 68 } : Room) 0 0 [.ref r, .int x] h (opQ h r (jSc g x) (ap g 115 x 0).2 (fun f' => rG f' (ap g 115 x 0).1)) (fun _ _ => False) := by
  refine zM_start hzs hst (by decide) (Nat.le_of_ble_eq_true rfl) (fun X C G F I => ?_)
  show zV X 0 0 _ 0 [(0, _), (1, _)] []
  obtain ⟨cs, hp, hsrt, hf⟩ := hg
  have hw := rG_W hR (by omega) hp
  have hN := hR.2.1
  have hls := hf.2.2.1
  have hgw := gQ_W hR.1 (by omega : m ≤ big)
  rcases e1 : kc g x with _ | ⟨k, c⟩
  · have ep := pl_n hp e1
    refine zV.aload_n C dX10_scraps_0 rfl rfl ?_
    refine zV.iload_n C dX10_scraps_1 rfl ?_
    refine zV.callV (n := 1) C G dX10_scraps_2 (s_mplace hzs hst h r g cs (hrd (gC g)) hm hf hw x) rfl ⟨cd_X10_place, lk_X10_129, im_X10_place, se_X10_X10_place, in_X10⟩ ⟨⟨by decide, by decide⟩, by decide⟩ rfl rfl rfl (hm.1) ⟨rfl, by decide⟩ (zaf ?_) (zno)
    rw [ep]
    show zV X _ _ h 5 _ (.int (-1) :: _)
    refine zV.istore_n (lo' := [(0, _), (1, _), (2, _)]) C dX10_scraps_5 (by decide) rfl rfl rfl ?_
    refine zV.iload_n C dX10_scraps_6 rfl ?_
    refine zV.if_ge (tgt := 12) C dX10_scraps_7 (by decide) (fun q7 => ?_) (fun q7 => ?_)
    · exact absurd q7 (by decide)
    · refine zV.ic (v := nI 1) C dX10_scraps_10 (by decide) ?_
      refine zV.iret C F dX10_scraps_11 rfl ?_
      exact opQ_1 (jSc_n e1)
  · obtain ⟨j, hj, hcj, hj12, rfl, hck⟩ := pl_s hp hw e1
    have hmem := List.mem_of_getElem? hcj
    obtain ⟨q, hq⟩ := hq_of hw hmem
    obtain ⟨c1, c2, c3, c4, c5⟩ := hf.1.2 j c hcj
    obtain ⟨b1, b2_, b3, b4⟩ := hw.2.1 c hmem
    have hb9 : (big : Nat) = 1000000000 := rfl
    refine zV.aload_n C dX10_scraps_0 rfl rfl ?_
    refine zV.iload_n C dX10_scraps_1 rfl ?_
    refine zV.callV (n := 1) C G dX10_scraps_2 (s_mplace hzs hst h r g cs (hrd (gC g)) hm hf hw (nI (chI c))) rfl ⟨cd_X10_place, lk_X10_129, im_X10_place, se_X10_X10_place, in_X10⟩ ⟨⟨by decide, by decide⟩, by decide⟩ rfl rfl rfl (hm.1) ⟨rfl, by decide⟩ (zaf ?_) (zno)
    rw [hj]
    show zV X _ _ h 5 _ (.int (nI j) :: _)
    refine zV.istore_n (lo' := [(0, _), (1, _), (2, _)]) C dX10_scraps_5 (by decide) rfl rfl rfl ?_
    refine zV.iload_n C dX10_scraps_6 rfl ?_
    refine zV.if_ge (tgt := 12) C dX10_scraps_7 (by decide) (fun q7 => ?_) (fun q7 => ?_)
    · refine zV.aload_n C dX10_scraps_12 rfl rfl ?_
      refine zV.iload_n C dX10_scraps_13 rfl ?_
      refine zV.ic (v := nI 2) C dX10_scraps_14 (by decide) ?_
      refine zV.callV (n := 2) C G dX10_scraps_15 (s_mof hzs hst h r hm j 2 hj12 (by decide)) rfl ⟨cd_X10_of, lk_X10_65, im_X10_of, se_X10_X10_of, in_X10⟩ ⟨⟨by decide, by decide⟩, by decide⟩ rfl rfl rfl (hm.1) ⟨rfl, by decide⟩ (zaf ?_) (zno)
      rw [c3]
      refine zV.istore_n (lo' := [(0, _), (1, _), (2, _), (3, _)]) C dX10_scraps_18 (by decide) rfl rfl rfl ?_
      refine zV.aload_n C dX10_scraps_19 rfl rfl ?_
      refine zV.iload_n C dX10_scraps_20 rfl ?_
      refine zV.callV (n := 1) C G dX10_scraps_21 (s_mremoves hzs hst h r g cs (hrd (gC g)) hm hf hw j c hcj q hq) rfl ⟨cd_X10_removes, lk_X10_132, im_X10_removes, se_X10_X10_removes, in_X10⟩ ⟨⟨by decide, by decide⟩, by decide⟩ rfl rfl rfl (hm.1) ⟨rfl, by decide⟩ (zafv ?_) (zno)
      refine zV.aload_n C dX10_scraps_24 rfl rfl ?_
      refine zV.gR 416 (k := 0) C dX10_scraps_25 zcl_X10 (by decide) rfl lk_X10_9 (hm.1) rfl (hm.2.1) ?_
      refine zV.ic (v := nI 5) C dX10_scraps_28 (by decide) ?_
      refine zV.dup2 C dX10_scraps_29 rfl rfl ?_
      refine zV.ialdv (j := 5) C dX10_scraps_30 (hm.2.2.2.2.2.2.2.2.2.1.1) (rfl) (Nat.lt_of_lt_of_eq (show 5 < 116 by decide) (hm.2.2.2.2.2.2.2.2.2.1.2).symm) (by omega) ((show aI (sRow h (r + 1) (rmF (lvF (aI h (r + 1)) (chL c) q (hrd (gC g) (chL c)).length) j cs.length)) (r + 1) 5 = nI (gU g) from by rw [aI_sRow]; exact (sc_F (k := k) hw hf hcj hq).2.2.2.2.2.2.2.1)) ?_
      refine zV.ic (v := nI 1) C dX10_scraps_31 (by decide) ?_
      refine zV.iadd C dX10_scraps_32 ?_
      rw [nI_add]
      refine zV.iast (j := 5) C dX10_scraps_33 (hm.2.2.2.2.2.2.2.2.2.1.1) (rfl) (Nat.lt_of_lt_of_eq (show 5 < 116 by decide) (hm.2.2.2.2.2.2.2.2.2.1.2).symm) (by omega) ?_
      rw [saI_row2]
      refine zV.aload_n C dX10_scraps_34 rfl rfl ?_
      refine zV.iload_n C dX10_scraps_35 rfl ?_
      refine zV.callV (n := 1) C G dX10_scraps_36 (s_mdoes hzs hst (sRow h (r + 1) (fup (rmF (lvF (aI h (r + 1)) (chL c) q (hrd (gC g) (chL c)).length) j cs.length) 5 (nI (gU g + 1)))) r hm (nI (chR c))) rfl ⟨cd_X10_does, lk_X10_100, im_X10_does, se_X10_X10_does, in_X10⟩ ⟨⟨by decide, by decide⟩, by decide⟩ rfl rfl rfl (hm.1) ⟨rfl, by decide⟩ (zaf ?_) (zno)
      refine zV.iret C F dX10_scraps_39 rfl ?_
      exact opQ_0 (jSc_s e1) (congrArg Prod.snd (aK_e e1)) (show rG _ (ap g 115 (nI (chI c)) 0).1 from (congrArg Prod.fst (show ap g 115 (nI (chI c)) 0 = (opSc g k, nI (chR c)) from aK_e e1)) ▸ sc_G hgw hp hsrt hw hf hcj hck hq)
    · exact absurd (nI_le (Nat.zero_le _) (by omega)) q7
set_option maxHeartbeats 4000000 in
set_option maxRecDepth 100000 in
theorem s_mfold1 {l : Launch} {E : zG} (hzs : zS E) (hst : l.stackTraces = false) (h : zH) (r m : Nat) (g : zGd) (hm : zMs h r) (hg : rG (aI h (r + 1)) g) (hR : gR m g) (hb : m + 3000 ≤ big) (x : Int32) : zMet l E yX10_folds cX10_folds 4 (some .int) ({ frames := 2, cells := 0, slots := 0, locals := 44 } : Room) 0 0 [.ref r, .int x, .int (nI 1)] h (opQ h r (jFo g x) (ap g 102 x 0).2 (fun f' => rG f' (ap g 102 x 0).1)) (fun _ _ => False) := by
  refine zM_start hzs hst (by decide) (Nat.le_of_ble_eq_true rfl) (fun X C G F I => ?_)
  show zV X 0 0 _ 0 [(0, _), (1, _), (2, _)] []
  obtain ⟨cs, hp, hsrt, hf⟩ := hg
  have hw := rG_W hR (by omega) hp
  have hN := hR.2.1
  have hls := hf.2.2.1
  have hgw := gQ_W hR.1 (by omega : m ≤ big)
  rcases e1 : kc g x with _ | ⟨k, c⟩
  · have ep := pl_n hp e1
    refine zV.aload_n C dX10_folds_0 rfl rfl ?_
    refine zV.iload_n C dX10_folds_1 rfl ?_
    refine zV.callV (n := 1) C G dX10_folds_2 (s_mplace hzs hst h r g cs (hrd (gC g)) hm hf hw x) rfl ⟨cd_X10_place, lk_X10_129, im_X10_place, se_X10_X10_place, in_X10⟩ ⟨⟨by decide, by decide⟩, by decide⟩ rfl rfl rfl (hm.1) ⟨rfl, by decide⟩ (zaf ?_) (zno)
    rw [ep]
    show zV X _ _ h 5 _ (.int (-1) :: _)
    refine zV.istore_n (lo' := [(0, _), (1, _), (2, _), (3, _)]) C dX10_folds_5 (by decide) rfl rfl rfl ?_
    refine zV.iload_n C dX10_folds_6 rfl ?_
    refine zV.if_ge (tgt := 12) C dX10_folds_7 (by decide) (fun q7 => ?_) (fun q7 => ?_)
    · exact absurd q7 (by decide)
    · refine zV.ic (v := nI 1) C dX10_folds_10 (by decide) ?_
      refine zV.iret C F dX10_folds_11 rfl ?_
      exact opQ_1 (jFo_n e1)
  · obtain ⟨j, hj, hcj, hj12, rfl, hck⟩ := pl_s hp hw e1
    have hmem := List.mem_of_getElem? hcj
    obtain ⟨q, hq⟩ := hq_of hw hmem
    obtain ⟨c1, c2, c3, c4, c5⟩ := hf.1.2 j c hcj
    obtain ⟨b1, b2_, b3, b4⟩ := hw.2.1 c hmem
    have hb9 : (big : Nat) = 1000000000 := rfl
    refine zV.aload_n C dX10_folds_0 rfl rfl ?_
    refine zV.iload_n C dX10_folds_1 rfl ?_
    refine zV.callV (n := 1) C G dX10_folds_2 (s_mplace hzs hst h r g cs (hrd (gC g)) hm hf hw (nI (chI c))) rfl ⟨cd_X10_place, lk_X10_129, im_X10_place, se_X10_X10_place, in_X10⟩ ⟨⟨by decide, by decide⟩, by decide⟩ rfl rfl rfl (hm.1) ⟨rfl, by decide⟩ (zaf ?_) (zno)
    rw [hj]
    show zV X _ _ h 5 _ (.int (nI j) :: _)
    refine zV.istore_n (lo' := [(0, _), (1, _), (2, _), (3, _)]) C dX10_folds_5 (by decide) rfl rfl rfl ?_
    refine zV.iload_n C dX10_folds_6 rfl ?_
    refine zV.if_ge (tgt := 12) C dX10_folds_7 (by decide) (fun q7 => ?_) (fun q7 => ?_)
    · refine zV.aload_n C dX10_folds_12 rfl rfl ?_
      refine zV.iload_n C dX10_folds_13 rfl ?_
      refine zV.ic (v := nI 3) C dX10_folds_14 (by decide) ?_
      refine zV.callV (n := 2) C G dX10_folds_15 (s_mof hzs hst h r hm j 3 hj12 (by decide)) rfl ⟨cd_X10_of, lk_X10_65, im_X10_of, se_X10_X10_of, in_X10⟩ ⟨⟨by decide, by decide⟩, by decide⟩ rfl rfl rfl (hm.1) ⟨rfl, by decide⟩ (zaf ?_) (zno)
      rw [c4]
      refine zV.iload_n C dX10_folds_18 rfl ?_
      refine zV.icmp_ne (tgt := 39) C dX10_folds_19 (by decide) (fun q19 => ?_) (fun q19 => ?_)
      · have e3 : ¬ chF c = true := fun z => q19 (by rw [z]; rfl)
        refine zV.aload_n C dX10_folds_39 rfl rfl ?_
        refine zV.iload_n C dX10_folds_40 rfl ?_
        refine zV.ic (v := nI 3) C dX10_folds_41 (by decide) ?_
        refine zV.iload_n C dX10_folds_42 rfl ?_
        refine zV.callV (n := 3) C G dX10_folds_43 (s_msets hzs hst h r hm j 3 (nI 1) hj12 (by decide)) rfl ⟨cd_X10_sets, lk_X10_77, im_X10_sets, se_X10_X10_sets, in_X10⟩ ⟨⟨by decide, by decide⟩, by decide⟩ rfl rfl rfl (hm.1) ⟨rfl, by decide⟩ (zafv ?_) (zno)
        rw [saI_row]
        have F9 : rF (fup (aI h (r + 1)) (56 + 5 * j + 3) (nI 1)) g (cs.set j (wF c true)) (hrd (gC g)) := rF_set hf hw.2.2.1 hcj (fun i hi => fup_n (by omega)) ⟨(fup_n (by omega)).trans c1, (fup_n (by omega)).trans c2, (fup_n (by omega)).trans c3, fup_e, (fup_n (by omega)).trans c5⟩
        have hcnt : (cs.set j (wF c true)).countP chF = (gC (opFo g k c true)).countP chF := (perm_st (wF c true) hp hgw.2.1 hcj hck).countP_eq chF
        refine zV.aload_n C dX10_folds_46 rfl rfl ?_
        refine zV.aload_n C dX10_folds_47 rfl rfl ?_
        refine zV.callV (n := 0) C G dX10_folds_48 (s_mfolded hzs hst (sRow h (r + 1) (fup (aI h (r + 1)) (56 + 5 * j + 3) (nI 1))) r g (cs.set j (wF c true)) (hrd (gC g)) hm (by rw [aI_sRow]; exact F9) (rW_set hw hcj rfl rfl b3 rfl)) rfl ⟨cd_X10_folded, lk_X10_138, im_X10_folded, se_X10_X10_folded, in_X10⟩ ⟨⟨by decide, by decide⟩, by decide⟩ rfl rfl rfl (hm.1) ⟨rfl, by decide⟩ (zaf ?_) (zno)
        rw [hcnt]
        refine zV.callV (n := 1) C G dX10_folds_51 (s_mdoes hzs hst (sRow h (r + 1) (fup (aI h (r + 1)) (56 + 5 * j + 3) (nI 1))) r hm (nI ((gC (opFo g k c true)).countP chF))) rfl ⟨cd_X10_does, lk_X10_100, im_X10_does, se_X10_X10_does, in_X10⟩ ⟨⟨by decide, by decide⟩, by decide⟩ rfl rfl rfl (hm.1) ⟨rfl, by decide⟩ (zaf ?_) (zno)
        refine zV.iret C F dX10_folds_54 rfl ?_
        exact opQ_0 ((jFo_s e1).trans (if_neg e3)) (congrArg Prod.snd (aK_e e1)) (show rG _ (ap g 102 (nI (chI c)) 0).1 from (congrArg Prod.fst (show ap g 102 (nI (chI c)) 0 = (opFo g k c true, nI ((gC (opFo g k c true)).countP chF)) from aK_e e1)) ▸ set_G (c' := wF c true) hgw hp hsrt hw hf hcj hck rfl rfl (opFo g k c true) rfl F9)
      · have e3 : chF c = true := by
          rcases hx : chF c with _ | _
          · rw [hx] at q19; exact absurd q19 (by decide)
          · rfl
        refine zV.aload_n C dX10_folds_22 rfl rfl ?_
        refine zV.iload_n C dX10_folds_23 rfl ?_
        refine zV.ic (v := nI 1) C dX10_folds_24 (by decide) ?_
        refine zV.icmp_ne (tgt := 32) C dX10_folds_25 (by decide) (fun q25 => ?_) (fun q25 => ?_)
        · exact absurd rfl q25
        · refine zV.ic (v := nI 5) C dX10_folds_28 (by decide) ?_
          refine zV.goto (tgt := 34) C dX10_folds_29 (by decide) ?_
          refine zV.iload_n C dX10_folds_34 rfl ?_
          refine zV.callV (n := 2) C G dX10_folds_35 (s_mrejects hzs hst h r hm (nI 5) (nI (chI c))) rfl ⟨cd_X10_rejects, lk_X10_97, im_X10_rejects, se_X10_X10_rejects, in_X10⟩ ⟨⟨by decide, by decide⟩, by decide⟩ rfl rfl rfl (hm.1) ⟨rfl, by decide⟩ (zaf ?_) (zno)
          refine zV.iret C F dX10_folds_38 rfl ?_
          exact opQ_3 ((jFo_s e1).trans (if_pos e3)) rfl
    · exact absurd (nI_le (Nat.zero_le _) (by omega)) q7
set_option maxHeartbeats 4000000 in
set_option maxRecDepth 100000 in
theorem s_mfold0 {l : Launch} {E : zG} (hzs : zS E) (hst : l.stackTraces = false) (h : zH) (r m : Nat) (g : zGd) (hm : zMs h r) (hg : rG (aI h (r + 1)) g) (hR : gR m g) (hb : m + 3000 ≤ big) (x : Int32) : zMet l E yX10_folds cX10_folds 4 (some .int) ({ frames := 2, cells := 0, slots := 0, locals := 44 } : Room) 0 0 [.ref r, .int x, .int (nI 0)] h (opQ h r (jUn g x) (ap g 117 x 0).2 (fun f' => rG f' (ap g 117 x 0).1)) (fun _ _ => False) := by
  refine zM_start hzs hst (by decide) (Nat.le_of_ble_eq_true rfl) (fun X C G F I => ?_)
  show zV X 0 0 _ 0 [(0, _), (1, _), (2, _)] []
  obtain ⟨cs, hp, hsrt, hf⟩ := hg
  have hw := rG_W hR (by omega) hp
  have hN := hR.2.1
  have hls := hf.2.2.1
  have hgw := gQ_W hR.1 (by omega : m ≤ big)
  rcases e1 : kc g x with _ | ⟨k, c⟩
  · have ep := pl_n hp e1
    refine zV.aload_n C dX10_folds_0 rfl rfl ?_
    refine zV.iload_n C dX10_folds_1 rfl ?_
    refine zV.callV (n := 1) C G dX10_folds_2 (s_mplace hzs hst h r g cs (hrd (gC g)) hm hf hw x) rfl ⟨cd_X10_place, lk_X10_129, im_X10_place, se_X10_X10_place, in_X10⟩ ⟨⟨by decide, by decide⟩, by decide⟩ rfl rfl rfl (hm.1) ⟨rfl, by decide⟩ (zaf ?_) (zno)
    rw [ep]
    show zV X _ _ h 5 _ (.int (-1) :: _)
    refine zV.istore_n (lo' := [(0, _), (1, _), (2, _), (3, _)]) C dX10_folds_5 (by decide) rfl rfl rfl ?_
    refine zV.iload_n C dX10_folds_6 rfl ?_
    refine zV.if_ge (tgt := 12) C dX10_folds_7 (by decide) (fun q7 => ?_) (fun q7 => ?_)
    · exact absurd q7 (by decide)
    · refine zV.ic (v := nI 1) C dX10_folds_10 (by decide) ?_
      refine zV.iret C F dX10_folds_11 rfl ?_
      exact opQ_1 (jUn_n e1)
  · obtain ⟨j, hj, hcj, hj12, rfl, hck⟩ := pl_s hp hw e1
    have hmem := List.mem_of_getElem? hcj
    obtain ⟨q, hq⟩ := hq_of hw hmem
    obtain ⟨c1, c2, c3, c4, c5⟩ := hf.1.2 j c hcj
    obtain ⟨b1, b2_, b3, b4⟩ := hw.2.1 c hmem
    have hb9 : (big : Nat) = 1000000000 := rfl
    refine zV.aload_n C dX10_folds_0 rfl rfl ?_
    refine zV.iload_n C dX10_folds_1 rfl ?_
    refine zV.callV (n := 1) C G dX10_folds_2 (s_mplace hzs hst h r g cs (hrd (gC g)) hm hf hw (nI (chI c))) rfl ⟨cd_X10_place, lk_X10_129, im_X10_place, se_X10_X10_place, in_X10⟩ ⟨⟨by decide, by decide⟩, by decide⟩ rfl rfl rfl (hm.1) ⟨rfl, by decide⟩ (zaf ?_) (zno)
    rw [hj]
    show zV X _ _ h 5 _ (.int (nI j) :: _)
    refine zV.istore_n (lo' := [(0, _), (1, _), (2, _), (3, _)]) C dX10_folds_5 (by decide) rfl rfl rfl ?_
    refine zV.iload_n C dX10_folds_6 rfl ?_
    refine zV.if_ge (tgt := 12) C dX10_folds_7 (by decide) (fun q7 => ?_) (fun q7 => ?_)
    · refine zV.aload_n C dX10_folds_12 rfl rfl ?_
      refine zV.iload_n C dX10_folds_13 rfl ?_
      refine zV.ic (v := nI 3) C dX10_folds_14 (by decide) ?_
      refine zV.callV (n := 2) C G dX10_folds_15 (s_mof hzs hst h r hm j 3 hj12 (by decide)) rfl ⟨cd_X10_of, lk_X10_65, im_X10_of, se_X10_X10_of, in_X10⟩ ⟨⟨by decide, by decide⟩, by decide⟩ rfl rfl rfl (hm.1) ⟨rfl, by decide⟩ (zaf ?_) (zno)
      rw [c4]
      refine zV.iload_n C dX10_folds_18 rfl ?_
      refine zV.icmp_ne (tgt := 39) C dX10_folds_19 (by decide) (fun q19 => ?_) (fun q19 => ?_)
      · have e3 : ¬ chF c = false := fun z => q19 (by rw [z]; rfl)
        refine zV.aload_n C dX10_folds_39 rfl rfl ?_
        refine zV.iload_n C dX10_folds_40 rfl ?_
        refine zV.ic (v := nI 3) C dX10_folds_41 (by decide) ?_
        refine zV.iload_n C dX10_folds_42 rfl ?_
        refine zV.callV (n := 3) C G dX10_folds_43 (s_msets hzs hst h r hm j 3 (nI 0) hj12 (by decide)) rfl ⟨cd_X10_sets, lk_X10_77, im_X10_sets, se_X10_X10_sets, in_X10⟩ ⟨⟨by decide, by decide⟩, by decide⟩ rfl rfl rfl (hm.1) ⟨rfl, by decide⟩ (zafv ?_) (zno)
        rw [saI_row]
        have F9 : rF (fup (aI h (r + 1)) (56 + 5 * j + 3) (nI 0)) g (cs.set j (wF c false)) (hrd (gC g)) := rF_set hf hw.2.2.1 hcj (fun i hi => fup_n (by omega)) ⟨(fup_n (by omega)).trans c1, (fup_n (by omega)).trans c2, (fup_n (by omega)).trans c3, fup_e, (fup_n (by omega)).trans c5⟩
        have hcnt : (cs.set j (wF c false)).countP chF = (gC (opFo g k c false)).countP chF := (perm_st (wF c false) hp hgw.2.1 hcj hck).countP_eq chF
        refine zV.aload_n C dX10_folds_46 rfl rfl ?_
        refine zV.aload_n C dX10_folds_47 rfl rfl ?_
        refine zV.callV (n := 0) C G dX10_folds_48 (s_mfolded hzs hst (sRow h (r + 1) (fup (aI h (r + 1)) (56 + 5 * j + 3) (nI 0))) r g (cs.set j (wF c false)) (hrd (gC g)) hm (by rw [aI_sRow]; exact F9) (rW_set hw hcj rfl rfl b3 rfl)) rfl ⟨cd_X10_folded, lk_X10_138, im_X10_folded, se_X10_X10_folded, in_X10⟩ ⟨⟨by decide, by decide⟩, by decide⟩ rfl rfl rfl (hm.1) ⟨rfl, by decide⟩ (zaf ?_) (zno)
        rw [hcnt]
        refine zV.callV (n := 1) C G dX10_folds_51 (s_mdoes hzs hst (sRow h (r + 1) (fup (aI h (r + 1)) (56 + 5 * j + 3) (nI 0))) r hm (nI ((gC (opFo g k c false)).countP chF))) rfl ⟨cd_X10_does, lk_X10_100, im_X10_does, se_X10_X10_does, in_X10⟩ ⟨⟨by decide, by decide⟩, by decide⟩ rfl rfl rfl (hm.1) ⟨rfl, by decide⟩ (zaf ?_) (zno)
        refine zV.iret C F dX10_folds_54 rfl ?_
        exact opQ_0 ((jUn_s e1).trans (if_pos (by rcases hx : chF c with _ | _; exact absurd hx e3; rfl))) (congrArg Prod.snd (aK_e e1)) (show rG _ (ap g 117 (nI (chI c)) 0).1 from (congrArg Prod.fst (show ap g 117 (nI (chI c)) 0 = (opFo g k c false, nI ((gC (opFo g k c false)).countP chF)) from aK_e e1)) ▸ set_G (c' := wF c false) hgw hp hsrt hw hf hcj hck rfl rfl (opFo g k c false) rfl F9)
      · have e3 : chF c = false := by
          rcases hx : chF c with _ | _
          · rfl
          · rw [hx] at q19; exact absurd q19 (by decide)
        refine zV.aload_n C dX10_folds_22 rfl rfl ?_
        refine zV.iload_n C dX10_folds_23 rfl ?_
        refine zV.ic (v := nI 1) C dX10_folds_24 (by decide) ?_
        refine zV.icmp_ne (tgt := 32) C dX10_folds_25 (by decide) (fun q25 => ?_) (fun q25 => ?_)
        · refine zV.bi (v := nI 6) C dX10_folds_32 (by decide) ?_
          refine zV.iload_n C dX10_folds_34 rfl ?_
          refine zV.callV (n := 2) C G dX10_folds_35 (s_mrejects hzs hst h r hm (nI 6) (nI (chI c))) rfl ⟨cd_X10_rejects, lk_X10_97, im_X10_rejects, se_X10_X10_rejects, in_X10⟩ ⟨⟨by decide, by decide⟩, by decide⟩ rfl rfl rfl (hm.1) ⟨rfl, by decide⟩ (zaf ?_) (zno)
          refine zV.iret C F dX10_folds_38 rfl ?_
          exact opQ_3 ((jUn_s e1).trans (if_neg (by rw [e3]; decide))) rfl
        · exact absurd q25 (by decide)
    · exact absurd (nI_le (Nat.zero_le _) (by omega)) q7
set_option maxHeartbeats 4000000 in
set_option maxRecDepth 100000 in
theorem s_moils {l : Launch} {E : zG} (hzs : zS E) (hst : l.stackTraces = false) (h : zH) (r m : Nat) (g : zGd) (hm : zMs h r) (hg : rG (aI h (r + 1)) g) (hR : gR m g) (hb : m + 3000 ≤ big) (x : Int32) : zMet l E yX10_oils cX10_oils 3 (some .int) ({ frames := 2, cells := 0, slots := 0, locals := 44 } : Room) 0 0 [.ref r, .int x] h (opQ h r (jOi g x) (ap g 111 x 0).2 (fun f' => rG f' (ap g 111 x 0).1)) (fun _ _ => False) := by
  refine zM_start hzs hst (by decide) (Nat.le_of_ble_eq_true rfl) (fun X C G F I => ?_)
  show zV X 0 0 _ 0 [(0, _), (1, _)] []
  obtain ⟨cs, hp, hsrt, hf⟩ := hg
  have hw := rG_W hR (by omega) hp
  have hN := hR.2.1
  have hls := hf.2.2.1
  have hgw := gQ_W hR.1 (by omega : m ≤ big)
  rcases e1 : kc g x with _ | ⟨k, c⟩
  · have ep := pl_n hp e1
    refine zV.aload_n C dX10_oils_0 rfl rfl ?_
    refine zV.iload_n C dX10_oils_1 rfl ?_
    refine zV.callV (n := 1) C G dX10_oils_2 (s_mplace hzs hst h r g cs (hrd (gC g)) hm hf hw x) rfl ⟨cd_X10_place, lk_X10_129, im_X10_place, se_X10_X10_place, in_X10⟩ ⟨⟨by decide, by decide⟩, by decide⟩ rfl rfl rfl (hm.1) ⟨rfl, by decide⟩ (zaf ?_) (zno)
    rw [ep]
    show zV X _ _ h 5 _ (.int (-1) :: _)
    refine zV.istore_n (lo' := [(0, _), (1, _), (2, _)]) C dX10_oils_5 (by decide) rfl rfl rfl ?_
    refine zV.iload_n C dX10_oils_6 rfl ?_
    refine zV.if_ge (tgt := 12) C dX10_oils_7 (by decide) (fun q7 => ?_) (fun q7 => ?_)
    · exact absurd q7 (by decide)
    · refine zV.ic (v := nI 1) C dX10_oils_10 (by decide) ?_
      refine zV.iret C F dX10_oils_11 rfl ?_
      exact opQ_1 (jOi_n e1)
  · obtain ⟨j, hj, hcj, hj12, rfl, hck⟩ := pl_s hp hw e1
    have hmem := List.mem_of_getElem? hcj
    obtain ⟨q, hq⟩ := hq_of hw hmem
    obtain ⟨c1, c2, c3, c4, c5⟩ := hf.1.2 j c hcj
    obtain ⟨b1, b2_, b3, b4⟩ := hw.2.1 c hmem
    have hb9 : (big : Nat) = 1000000000 := rfl
    refine zV.aload_n C dX10_oils_0 rfl rfl ?_
    refine zV.iload_n C dX10_oils_1 rfl ?_
    refine zV.callV (n := 1) C G dX10_oils_2 (s_mplace hzs hst h r g cs (hrd (gC g)) hm hf hw (nI (chI c))) rfl ⟨cd_X10_place, lk_X10_129, im_X10_place, se_X10_X10_place, in_X10⟩ ⟨⟨by decide, by decide⟩, by decide⟩ rfl rfl rfl (hm.1) ⟨rfl, by decide⟩ (zaf ?_) (zno)
    rw [hj]
    show zV X _ _ h 5 _ (.int (nI j) :: _)
    refine zV.istore_n (lo' := [(0, _), (1, _), (2, _)]) C dX10_oils_5 (by decide) rfl rfl rfl ?_
    refine zV.iload_n C dX10_oils_6 rfl ?_
    refine zV.if_ge (tgt := 12) C dX10_oils_7 (by decide) (fun q7 => ?_) (fun q7 => ?_)
    · refine zV.aload_n C dX10_oils_12 rfl rfl ?_
      refine zV.iload_n C dX10_oils_13 rfl ?_
      refine zV.ic (v := nI 2) C dX10_oils_14 (by decide) ?_
      refine zV.callV (n := 2) C G dX10_oils_15 (s_mof hzs hst h r hm j 2 hj12 (by decide)) rfl ⟨cd_X10_of, lk_X10_65, im_X10_of, se_X10_X10_of, in_X10⟩ ⟨⟨by decide, by decide⟩, by decide⟩ rfl rfl rfl (hm.1) ⟨rfl, by decide⟩ (zaf ?_) (zno)
      rw [c3]
      refine zV.if_ne (tgt := 34) C dX10_oils_18 (by decide) (fun q18 => ?_) (fun q18 => ?_)
      · have e3 : ¬ chR c = 0 := fun z => q18 (by rw [z]; rfl)
        refine zV.aload_n C dX10_oils_34 rfl rfl ?_
        refine zV.gR 416 (k := 0) C dX10_oils_35 zcl_X10 (by decide) rfl lk_X10_9 (hm.1) rfl (hm.2.1) ?_
        refine zV.ic (v := nI 3) C dX10_oils_38 (by decide) ?_
        refine zV.ialdv (j := 3) C dX10_oils_39 (hm.2.2.2.2.2.2.2.2.2.1.1) (rfl) (Nat.lt_of_lt_of_eq (show 3 < 116 by decide) (hm.2.2.2.2.2.2.2.2.2.1.2).symm) (by omega) (hf.2.2.2.2.2.1) ?_
        refine zV.if_ne (tgt := 56) C dX10_oils_40 (by decide) (fun q40 => ?_) (fun q40 => ?_)
        · have e4 : ¬ gO g = 0 := fun z => q40 (by rw [z]; rfl)
          refine zV.aload_n C dX10_oils_56 rfl rfl ?_
          refine zV.gR 416 (k := 0) C dX10_oils_57 zcl_X10 (by decide) rfl lk_X10_9 (hm.1) rfl (hm.2.1) ?_
          refine zV.ic (v := nI 3) C dX10_oils_60 (by decide) ?_
          refine zV.dup2 C dX10_oils_61 rfl rfl ?_
          refine zV.ialdv (j := 3) C dX10_oils_62 (hm.2.2.2.2.2.2.2.2.2.1.1) (rfl) (Nat.lt_of_lt_of_eq (show 3 < 116 by decide) (hm.2.2.2.2.2.2.2.2.2.1.2).symm) (by omega) (hf.2.2.2.2.2.1) ?_
          refine zV.ic (v := nI 1) C dX10_oils_63 (by decide) ?_
          refine zV.isub C dX10_oils_64 ?_
          rw [show nI (gO g) - nI 1 = nI (gO g - 1) from pk_sub (by omega)]
          refine zV.iast (j := 3) C dX10_oils_65 (hm.2.2.2.2.2.2.2.2.2.1.1) (rfl) (Nat.lt_of_lt_of_eq (show 3 < 116 by decide) (hm.2.2.2.2.2.2.2.2.2.1.2).symm) (by omega) ?_
          rw [saI_row]
          refine zV.aload_n C dX10_oils_66 rfl rfl ?_
          refine zV.iload_n C dX10_oils_67 rfl ?_
          refine zV.ic (v := nI 2) C dX10_oils_68 (by decide) ?_
          refine zV.ic (v := nI 0) C dX10_oils_69 (by decide) ?_
          refine zV.aload_n C dX10_oils_70 rfl rfl ?_
          refine zV.iload_n C dX10_oils_71 rfl ?_
          refine zV.ic (v := nI 2) C dX10_oils_72 (by decide) ?_
          refine zV.callV (n := 2) C G dX10_oils_73 (s_mof hzs hst (sRow h (r + 1) (fup (aI h (r + 1)) 3 (nI (gO g - 1)))) r hm j 2 hj12 (by decide)) rfl ⟨cd_X10_of, lk_X10_65, im_X10_of, se_X10_X10_of, in_X10⟩ ⟨⟨by decide, by decide⟩, by decide⟩ rfl rfl rfl (hm.1) ⟨rfl, by decide⟩ (zaf ?_) (zno)
          rw [show aI (sRow h (r + 1) (fup (aI h (r + 1)) 3 (nI (gO g - 1)))) (r + 1) (56 + 5 * j + 2) = nI (chR c) from by rw [aI_sRow, fup_n (by omega)]; exact c3]
          refine zV.ic (v := nI 3) C dX10_oils_76 (by decide) ?_
          refine zV.isub C dX10_oils_77 ?_
          refine zV.mmax C G dX10_oils_78 ⟨lk_X10_156, st_J9_max_7cf53, in_J9, cd_J9_max_7cf53⟩ rfl ?_
          rw [max0 (p := chR c) (s := 3) (by omega) (by decide)]
          refine zV.callV (n := 3) C G dX10_oils_81 (s_msets hzs hst (sRow h (r + 1) (fup (aI h (r + 1)) 3 (nI (gO g - 1)))) r hm j 2 (nI (chR c - 3)) hj12 (by decide)) rfl ⟨cd_X10_sets, lk_X10_77, im_X10_sets, se_X10_X10_sets, in_X10⟩ ⟨⟨by decide, by decide⟩, by decide⟩ rfl rfl rfl (hm.1) ⟨rfl, by decide⟩ (zafv ?_) (zno)
          rw [saI_row2]
          have F8 : rF (fup (aI h (r + 1)) 3 (nI (gO g - 1))) (gwO g (gO g - 1)) cs (hrd (gC g)) := stF_F hf
          have F9 : rF (fup (fup (aI h (r + 1)) 3 (nI (gO g - 1))) (56 + 5 * j + 2) (nI (chR c - 3))) (opOi g k c) (cs.set j (wR c (chR c - 3))) (hrd (gC g)) := rF_set (g := gwO g (gO g - 1)) F8 hw.2.2.1 hcj (fun i hi => fup_n (by omega)) ⟨(fup_n (by omega)).trans ((fup_n (by omega)).trans c1), (fup_n (by omega)).trans ((fup_n (by omega)).trans c2), fup_e, (fup_n (by omega)).trans ((fup_n (by omega)).trans c4), (fup_n (by omega)).trans ((fup_n (by omega)).trans c5)⟩
          refine zV.aload_n C dX10_oils_84 rfl rfl ?_
          refine zV.aload_n C dX10_oils_85 rfl rfl ?_
          refine zV.iload_n C dX10_oils_86 rfl ?_
          refine zV.ic (v := nI 2) C dX10_oils_87 (by decide) ?_
          refine zV.callV (n := 2) C G dX10_oils_88 (s_mof hzs hst (sRow h (r + 1) (fup (fup (aI h (r + 1)) 3 (nI (gO g - 1))) (56 + 5 * j + 2) (nI (chR c - 3)))) r hm j 2 hj12 (by decide)) rfl ⟨cd_X10_of, lk_X10_65, im_X10_of, se_X10_X10_of, in_X10⟩ ⟨⟨by decide, by decide⟩, by decide⟩ rfl rfl rfl (hm.1) ⟨rfl, by decide⟩ (zaf ?_) (zno)
          rw [show aI (sRow h (r + 1) (fup (fup (aI h (r + 1)) 3 (nI (gO g - 1))) (56 + 5 * j + 2) (nI (chR c - 3)))) (r + 1) (56 + 5 * j + 2) = nI (chR c - 3) from by rw [aI_sRow]; exact fup_e]
          refine zV.callV (n := 1) C G dX10_oils_91 (s_mdoes hzs hst (sRow h (r + 1) (fup (fup (aI h (r + 1)) 3 (nI (gO g - 1))) (56 + 5 * j + 2) (nI (chR c - 3)))) r hm (nI (chR c - 3))) rfl ⟨cd_X10_does, lk_X10_100, im_X10_does, se_X10_X10_does, in_X10⟩ ⟨⟨by decide, by decide⟩, by decide⟩ rfl rfl rfl (hm.1) ⟨rfl, by decide⟩ (zaf ?_) (zno)
          refine zV.iret C F dX10_oils_94 rfl ?_
          exact opQ_0 ((jOi_s e1).trans ((if_neg e3).trans (if_neg e4))) (congrArg Prod.snd (aK_e e1)) (show rG _ (ap g 111 (nI (chI c)) 0).1 from (congrArg Prod.fst (show ap g 111 (nI (chI c)) 0 = (opOi g k c, nI (chR c - 3)) from aK_e e1)) ▸ set_G (c' := wR c (chR c - 3)) hgw hp hsrt hw hf hcj hck rfl rfl (opOi g k c) rfl F9)
        · have e4 : gO g = 0 := (n0 (by have := hgw.2.2.2.2.1; omega)).mp q40
          refine zV.aload_n C dX10_oils_43 rfl rfl ?_
          refine zV.bi (v := nI 9) C dX10_oils_44 (by decide) ?_
          refine zV.aload_n C dX10_oils_46 rfl rfl ?_
          refine zV.iload_n C dX10_oils_47 rfl ?_
          refine zV.ic (v := nI 2) C dX10_oils_48 (by decide) ?_
          refine zV.callV (n := 2) C G dX10_oils_49 (s_mof hzs hst h r hm j 2 hj12 (by decide)) rfl ⟨cd_X10_of, lk_X10_65, im_X10_of, se_X10_X10_of, in_X10⟩ ⟨⟨by decide, by decide⟩, by decide⟩ rfl rfl rfl (hm.1) ⟨rfl, by decide⟩ (zaf ?_) (zno)
          rw [c3]
          refine zV.callV (n := 2) C G dX10_oils_52 (s_mrejects hzs hst h r hm (nI 9) (nI (chR c))) rfl ⟨cd_X10_rejects, lk_X10_97, im_X10_rejects, se_X10_X10_rejects, in_X10⟩ ⟨⟨by decide, by decide⟩, by decide⟩ rfl rfl rfl (hm.1) ⟨rfl, by decide⟩ (zaf ?_) (zno)
          refine zV.iret C F dX10_oils_55 rfl ?_
          exact opQ_3 ((jOi_s e1).trans ((if_neg e3).trans (if_pos e4))) rfl
      · have e3 : chR c = 0 := (n0 (by omega)).mp q18
        refine zV.aload_n C dX10_oils_21 rfl rfl ?_
        refine zV.bi (v := nI 8) C dX10_oils_22 (by decide) ?_
        refine zV.aload_n C dX10_oils_24 rfl rfl ?_
        refine zV.gR 416 (k := 0) C dX10_oils_25 zcl_X10 (by decide) rfl lk_X10_9 (hm.1) rfl (hm.2.1) ?_
        refine zV.ic (v := nI 3) C dX10_oils_28 (by decide) ?_
        refine zV.ialdv (j := 3) C dX10_oils_29 (hm.2.2.2.2.2.2.2.2.2.1.1) (rfl) (Nat.lt_of_lt_of_eq (show 3 < 116 by decide) (hm.2.2.2.2.2.2.2.2.2.1.2).symm) (by omega) (hf.2.2.2.2.2.1) ?_
        refine zV.callV (n := 2) C G dX10_oils_30 (s_mrejects hzs hst h r hm (nI 8) (nI (gO g))) rfl ⟨cd_X10_rejects, lk_X10_97, im_X10_rejects, se_X10_X10_rejects, in_X10⟩ ⟨⟨by decide, by decide⟩, by decide⟩ rfl rfl rfl (hm.1) ⟨rfl, by decide⟩ (zaf ?_) (zno)
        refine zV.iret C F dX10_oils_33 rfl ?_
        exact opQ_3 ((jOi_s e1).trans (if_pos e3)) rfl
    · exact absurd (nI_le (Nat.zero_le _) (by omega)) q7
theorem mv_G {f : Nat → Int32} {g : zGd} {cs : List zCh} {k j q l : Nat} {c : zCh} (w : gW g) (hp : cs.Perm (gC g)) (hs : (cs.map chI).Pairwise (· < ·)) (hw : rW g cs (hrd (gC g))) (hf : rF f g cs (hrd (gC g))) (hcj : cs[j]? = some c) (hck : (gC g)[k]? = some c) (hq : (hrd (gC g) (chL c))[q]? = some (chI c)) (hl : l < 6) (hn : (upH (hrd (gC g)) (chL c) ((hrd (gC g) (chL c)).eraseIdx q) l).length < 5) : rG (fup (jnF (lvF f (chL c) q (hrd (gC g) (chL c)).length) j l (upH (hrd (gC g)) (chL c) ((hrd (gC g) (chL c)).eraseIdx q) l).length (chI c)) 6 (nI (gM g + 1))) (opMv g k c l) := by
  have F := mv_F hw hf hcj hq hl hn
  obtain ⟨q1, q2, q3, q4, q5, q6, q7⟩ := F.2.2.2
  exact ⟨_, perm_mv (wL c l) hp w.2.1 hcj hck, srt_st hs hcj rfl, rF_H (rF_g F (opMv g k c l) rfl rfl ⟨(fup_n (by decide)).trans q1, (fup_n (by decide)).trans q2, (fup_n (by decide)).trans q3, (fup_n (by decide)).trans q4, (fup_n (by decide)).trans q5, fup_e, (fup_n (by decide)).trans q7⟩ (fun i hi => fup_n (by omega))) (fun i hi => mv_H w.2.1 hck hq (hw.2.2.2.2.2.1 _ (hw.2.1 c (List.mem_of_getElem? hcj)).2.1) i)⟩
theorem ap_mv {g : zGd} {x y : Int32} {k j : Nat} {c : zCh} (e1 : kc g x = some (k, c)) (e2 : ln y = some j) : ap g 109 x y = (opMv g k c j, nI (chL c)) := by
  show aK g x (fun k c => aL g y (fun j => (opMv g k c j, nI (chL c)))) = _
  rw [aK_e e1, aL_e e2]
theorem mv_n {g : zGd} {c : zCh} {q l : Nat} (p : gPt g) (hc : chL c < 6) (hb : (gN g (chL c)).testBit l = true) (h5 : ¬ 5 ≤ hsz (gC g) l) : (upH (hrd (gC g)) (chL c) ((hrd (gC g) (chL c)).eraseIdx q) l).length < 5 := by
  unfold upH
  rw [if_neg (fun e => by rw [e, p.2.2.1 _ hc] at hb; cases hb), hrd_len]
  omega
set_option maxHeartbeats 4000000 in
set_option maxRecDepth 100000 in
theorem s_mmoves {l : Launch} {E : zG} (hzs : zS E) (hst : l.stackTraces = false) (h : zH) (r m : Nat) (g : zGd) (hm : zMs h r) (hg : rG (aI h (r + 1)) g) (hR : gR m g) (hb : m + 3000 ≤ big) (x y : Int32) : zMet l E yX10_moves cX10_moves 5 (some .int) ({ frames := 2, cells := 0, slots := 0, locals := 48 } : Room) 0 0 [.ref r, .int x, .int y] h (opQ h r (jMv g x y) (ap g 109 x y).2 (fun f' => rG f' (ap g 109 x y).1)) (fun _ _ => False) := by
  refine zM_start hzs hst (by decide) (Nat.le_of_ble_eq_true rfl) (fun X C G F I => ?_)
  show zV X 0 0 _ 0 [(0, _), (1, _), (2, _)] []
  obtain ⟨cs, hp, hsrt, hf⟩ := hg
  have hw := rG_W hR (by omega) hp
  have hN := hR.2.1
  have hls := hf.2.2.1
  have hgw := gQ_W hR.1 (by omega : m ≤ big)
  rcases e1 : kc g x with _ | ⟨k, c⟩
  · have ep := pl_n hp e1
    refine zV.aload_n C dX10_moves_0 rfl rfl ?_
    refine zV.iload_n C dX10_moves_1 rfl ?_
    refine zV.callV (n := 1) C G dX10_moves_2 (s_mplace hzs hst h r g cs (hrd (gC g)) hm hf hw x) rfl ⟨cd_X10_place, lk_X10_129, im_X10_place, se_X10_X10_place, in_X10⟩ ⟨⟨by decide, by decide⟩, by decide⟩ rfl rfl rfl (hm.1) ⟨rfl, by decide⟩ (zaf ?_) (zno)
    rw [ep]
    show zV X _ _ h 5 _ (.int (-1) :: _)
    refine zV.istore_n (lo' := [(0, _), (1, _), (2, _), (3, _)]) C dX10_moves_5 (by decide) rfl rfl rfl ?_
    refine zV.iload_n C dX10_moves_6 rfl ?_
    refine zV.if_lt (tgt := 17) C dX10_moves_7 (by decide) (fun q7 => ?_) (fun q7 => ?_)
    · refine zV.ic (v := nI 1) C dX10_moves_17 (by decide) ?_
      refine zV.iret C F dX10_moves_18 rfl ?_
      exact opQ_1 (jMv_n1 e1)
    · exact absurd (by decide) q7
  · obtain ⟨j, hj, hcj, hj12, rfl, hck⟩ := pl_s hp hw e1
    have hmem := List.mem_of_getElem? hcj
    obtain ⟨q, hq⟩ := hq_of hw hmem
    obtain ⟨c1, c2, c3, c4, c5⟩ := hf.1.2 j c hcj
    obtain ⟨b1, b2_, b3, b4⟩ := hw.2.1 c hmem
    have hb9 : (big : Nat) = 1000000000 := rfl
    rcases e2 : ln y with _ | jj
    · refine zV.aload_n C dX10_moves_0 rfl rfl ?_
      refine zV.iload_n C dX10_moves_1 rfl ?_
      refine zV.callV (n := 1) C G dX10_moves_2 (s_mplace hzs hst h r g cs (hrd (gC g)) hm hf hw (nI (chI c))) rfl ⟨cd_X10_place, lk_X10_129, im_X10_place, se_X10_X10_place, in_X10⟩ ⟨⟨by decide, by decide⟩, by decide⟩ rfl rfl rfl (hm.1) ⟨rfl, by decide⟩ (zaf ?_) (zno)
      rw [hj]
      show zV X _ _ h 5 _ (.int (nI j) :: _)
      refine zV.istore_n (lo' := [(0, _), (1, _), (2, _), (3, _)]) C dX10_moves_5 (by decide) rfl rfl rfl ?_
      refine zV.iload_n C dX10_moves_6 rfl ?_
      refine zV.if_lt (tgt := 17) C dX10_moves_7 (by decide) (fun q7 => ?_) (fun q7 => ?_)
      · exact absurd q7 (nI_pos (by omega))
      · refine zV.iload_n C dX10_moves_10 rfl ?_
        refine zV.callS (n := 1) C G dX10_moves_11 (s_misLawn hzs hst h y) rfl ⟨cd_X10_isLawn, lk_X10_85, st_X10_isLawn, in_X10⟩ ⟨⟨by decide, by decide⟩, by decide⟩ rfl rfl rfl (zaf ?_) (zno)
        rw [e2]
        show zV X _ _ h 14 _ (.int (nI 0) :: _)
        refine zV.if_ne (tgt := 19) C dX10_moves_14 (by decide) (fun q14 => ?_) (fun q14 => ?_)
        · exact absurd rfl q14
        · refine zV.ic (v := nI 1) C dX10_moves_17 (by decide) ?_
          refine zV.iret C F dX10_moves_18 rfl ?_
          exact opQ_1 (jMv_n2 e1 e2)
    · obtain ⟨hjj, rfl⟩ := ln_some e2
      refine zV.aload_n C dX10_moves_0 rfl rfl ?_
      refine zV.iload_n C dX10_moves_1 rfl ?_
      refine zV.callV (n := 1) C G dX10_moves_2 (s_mplace hzs hst h r g cs (hrd (gC g)) hm hf hw (nI (chI c))) rfl ⟨cd_X10_place, lk_X10_129, im_X10_place, se_X10_X10_place, in_X10⟩ ⟨⟨by decide, by decide⟩, by decide⟩ rfl rfl rfl (hm.1) ⟨rfl, by decide⟩ (zaf ?_) (zno)
      rw [hj]
      show zV X _ _ h 5 _ (.int (nI j) :: _)
      refine zV.istore_n (lo' := [(0, _), (1, _), (2, _), (3, _)]) C dX10_moves_5 (by decide) rfl rfl rfl ?_
      refine zV.iload_n C dX10_moves_6 rfl ?_
      refine zV.if_lt (tgt := 17) C dX10_moves_7 (by decide) (fun q7 => ?_) (fun q7 => ?_)
      · exact absurd q7 (nI_pos (by omega))
      · refine zV.iload_n C dX10_moves_10 rfl ?_
        refine zV.callS (n := 1) C G dX10_moves_11 (s_misLawn hzs hst h (nI jj)) rfl ⟨cd_X10_isLawn, lk_X10_85, st_X10_isLawn, in_X10⟩ ⟨⟨by decide, by decide⟩, by decide⟩ rfl rfl rfl (zaf ?_) (zno)
        rw [e2]
        show zV X _ _ h 14 _ (.int (nI 1) :: _)
        refine zV.if_ne (tgt := 19) C dX10_moves_14 (by decide) (fun q14 => ?_) (fun q14 => ?_)
        · refine zV.aload_n C dX10_moves_19 rfl rfl ?_
          refine zV.iload_n C dX10_moves_20 rfl ?_
          refine zV.ic (v := nI 1) C dX10_moves_21 (by decide) ?_
          refine zV.callV (n := 2) C G dX10_moves_22 (s_mof hzs hst h r hm j 1 hj12 (by decide)) rfl ⟨cd_X10_of, lk_X10_65, im_X10_of, se_X10_X10_of, in_X10⟩ ⟨⟨by decide, by decide⟩, by decide⟩ rfl rfl rfl (hm.1) ⟨rfl, by decide⟩ (zaf ?_) (zno)
          rw [c2]
          refine zV.istore (lo' := [(0, _), (1, _), (2, _), (3, _), (4, _)]) C dX10_moves_25 (by decide) rfl rfl rfl ?_
          refine zV.aload_n C dX10_moves_27 rfl rfl ?_
          refine zV.iload_n C dX10_moves_28 rfl ?_
          refine zV.ic (v := nI 3) C dX10_moves_29 (by decide) ?_
          refine zV.callV (n := 2) C G dX10_moves_30 (s_mof hzs hst h r hm j 3 hj12 (by decide)) rfl ⟨cd_X10_of, lk_X10_65, im_X10_of, se_X10_X10_of, in_X10⟩ ⟨⟨by decide, by decide⟩, by decide⟩ rfl rfl rfl (hm.1) ⟨rfl, by decide⟩ (zaf ?_) (zno)
          rw [c4]
          refine zV.ic (v := nI 1) C dX10_moves_33 (by decide) ?_
          refine zV.icmp_ne (tgt := 44) C dX10_moves_34 (by decide) (fun q34 => ?_) (fun q34 => ?_)
          · have e3 : ¬ chF c = true := fun z => q34 (by rw [z]; rfl)
            refine zV.aload_n C dX10_moves_44 rfl rfl ?_
            refine zV.iload C dX10_moves_45 rfl ?_
            refine zV.iload_n C dX10_moves_47 rfl ?_
            refine zV.callV (n := 2) C G dX10_moves_48 (s_misPath hzs hst h r g hm hls hN (chL c) jj b2_ hjj) rfl ⟨cd_X10_isPathBetween, lk_X10_89, im_X10_isPathBetween, se_X10_X10_isPathBetween, in_X10⟩ ⟨⟨by decide, by decide⟩, by decide⟩ rfl rfl rfl (hm.1) ⟨rfl, by decide⟩ (zaf ?_) (zno)
            refine zV.if_ne (tgt := 67) C dX10_moves_51 (by decide) (fun q51 => ?_) (fun q51 => ?_)
            · have e4 : (gN g (chL c)).testBit jj = true := Decidable.not_not.mp (fun z => q51 (b01.mpr z))
              refine zV.aload_n C dX10_moves_67 rfl rfl ?_
              refine zV.iload_n C dX10_moves_68 rfl ?_
              refine zV.ic (v := nI 2) C dX10_moves_69 (by decide) ?_
              refine zV.callV (n := 2) C G dX10_moves_70 (s_mlawn hzs hst h r hm jj 2 hjj (by decide)) rfl ⟨cd_X10_lawn, lk_X10_69, im_X10_lawn, se_X10_X10_lawn, in_X10⟩ ⟨⟨by decide, by decide⟩, by decide⟩ rfl rfl rfl (hm.1) ⟨rfl, by decide⟩ (zaf ?_) (zno)
              rw [(hf.2.1 jj hjj).1]
              refine zV.ic (v := nI 5) C dX10_moves_73 (by decide) ?_
              refine zV.icmp_ne (tgt := 84) C dX10_moves_74 (by decide) (fun q74 => ?_) (fun q74 => ?_)
              · have e5 : ¬ 5 ≤ hsz (gC g) jj := by rw [← hrd_len]; intro z; exact q74 (congrArg nI (by have := hw.2.2.1 jj hjj; omega))
                have hn5 := mv_n (q := q) hR.2 b2_ e4 e5
                have FL := lvF_F hf b2_ hw.2.2.1 (List.getElem?_eq_some_iff.mp hq).1
                have FJ := mv_F hw hf hcj hq hjj hn5
                refine zV.aload_n C dX10_moves_84 rfl rfl ?_
                refine zV.iload_n C dX10_moves_85 rfl ?_
                refine zV.callV (n := 1) C G dX10_moves_86 (s_mleaves hzs hst h r g cs (hrd (gC g)) hm hf hw j c hcj q hq) rfl ⟨cd_X10_leaves, lk_X10_81, im_X10_leaves, se_X10_X10_leaves, in_X10⟩ ⟨⟨by decide, by decide⟩, by decide⟩ rfl rfl rfl (hm.1) ⟨rfl, by decide⟩ (zafv ?_) (zno)
                refine zV.aload_n C dX10_moves_89 rfl rfl ?_
                refine zV.iload_n C dX10_moves_90 rfl ?_
                refine zV.iload_n C dX10_moves_91 rfl ?_
                refine zV.callV (n := 2) C G dX10_moves_92 (s_mjoins hzs hst (sRow h (r + 1) (lvF (aI h (r + 1)) (chL c) q (hrd (gC g) (chL c)).length)) r hm j jj ((upH (hrd (gC g)) (chL c) ((hrd (gC g) (chL c)).eraseIdx q)) jj).length (chI c) hj12 hjj hn5 (by rw [aI_sRow]; exact (FL.2.1 jj hjj).1) (by rw [aI_sRow]; exact (FL.1.2 j c hcj).1)) rfl ⟨cd_X10_joins, lk_X10_122, im_X10_joins, se_X10_X10_joins, in_X10⟩ ⟨⟨by decide, by decide⟩, by decide⟩ rfl rfl rfl (hm.1) ⟨rfl, by decide⟩ (zafv ?_) (zno)
                rw [sRow_row, aI_sRow]
                refine zV.aload_n C dX10_moves_95 rfl rfl ?_
                refine zV.gR 416 (k := 0) C dX10_moves_96 zcl_X10 (by decide) rfl lk_X10_9 (hm.1) rfl (hm.2.1) ?_
                refine zV.bi (v := nI 6) C dX10_moves_99 (by decide) ?_
                refine zV.dup2 C dX10_moves_101 rfl rfl ?_
                refine zV.ialdv (j := 6) C dX10_moves_102 (hm.2.2.2.2.2.2.2.2.2.1.1) (rfl) (Nat.lt_of_lt_of_eq (show 6 < 116 by decide) (hm.2.2.2.2.2.2.2.2.2.1.2).symm) (by omega) ((show aI (sRow h (r + 1) (jnF (lvF (aI h (r + 1)) (chL c) q (hrd (gC g) (chL c)).length) j jj ((upH (hrd (gC g)) (chL c) ((hrd (gC g) (chL c)).eraseIdx q)) jj).length (chI c))) (r + 1) 6 = nI (gM g) from by rw [aI_sRow]; exact FJ.2.2.2.2.2.2.2.2.1)) ?_
                refine zV.ic (v := nI 1) C dX10_moves_103 (by decide) ?_
                refine zV.iadd C dX10_moves_104 ?_
                rw [nI_add]
                refine zV.iast (j := 6) C dX10_moves_105 (hm.2.2.2.2.2.2.2.2.2.1.1) (rfl) (Nat.lt_of_lt_of_eq (show 6 < 116 by decide) (hm.2.2.2.2.2.2.2.2.2.1.2).symm) (by omega) ?_
                rw [saI_row2]
                refine zV.aload_n C dX10_moves_106 rfl rfl ?_
                refine zV.iload C dX10_moves_107 rfl ?_
                refine zV.callV (n := 1) C G dX10_moves_109 (s_mdoes hzs hst (sRow h (r + 1) (fup (jnF (lvF (aI h (r + 1)) (chL c) q (hrd (gC g) (chL c)).length) j jj ((upH (hrd (gC g)) (chL c) ((hrd (gC g) (chL c)).eraseIdx q)) jj).length (chI c)) 6 (nI (gM g + 1)))) r hm (nI (chL c))) rfl ⟨cd_X10_does, lk_X10_100, im_X10_does, se_X10_X10_does, in_X10⟩ ⟨⟨by decide, by decide⟩, by decide⟩ rfl rfl rfl (hm.1) ⟨rfl, by decide⟩ (zaf ?_) (zno)
                refine zV.iret C F dX10_moves_112 rfl ?_
                exact opQ_0 ((jMv_s e1 e2).trans ((if_neg e3).trans ((if_pos e4).trans (if_neg e5)))) (congrArg Prod.snd (ap_mv e1 e2)) (show rG _ (ap g 109 (nI (chI c)) (nI jj)).1 from (congrArg Prod.fst (ap_mv e1 e2)) ▸ mv_G hgw hp hsrt hw hf hcj hck hq hjj hn5)
              · have e5 : 5 ≤ hsz (gC g) jj := by rw [← hrd_len]; have := neq (by have := hw.2.2.1 jj hjj; omega) (by decide) q74; omega
                refine zV.aload_n C dX10_moves_77 rfl rfl ?_
                refine zV.ic (v := nI 4) C dX10_moves_78 (by decide) ?_
                refine zV.iload_n C dX10_moves_79 rfl ?_
                refine zV.callV (n := 2) C G dX10_moves_80 (s_mrejects hzs hst h r hm (nI 4) (nI jj)) rfl ⟨cd_X10_rejects, lk_X10_97, im_X10_rejects, se_X10_X10_rejects, in_X10⟩ ⟨⟨by decide, by decide⟩, by decide⟩ rfl rfl rfl (hm.1) ⟨rfl, by decide⟩ (zaf ?_) (zno)
                refine zV.iret C F dX10_moves_83 rfl ?_
                exact opQ_3 ((jMv_s e1 e2).trans ((if_neg e3).trans ((if_pos e4).trans (if_pos e5)))) rfl
            · have e4 : ¬ (gN g (chL c)).testBit jj = true := b01.mp q51
              refine zV.aload_n C dX10_moves_54 rfl rfl ?_
              refine zV.ic (v := nI 2) C dX10_moves_55 (by decide) ?_
              refine zV.aload_n C dX10_moves_56 rfl rfl ?_
              refine zV.iload C dX10_moves_57 rfl ?_
              refine zV.iload_n C dX10_moves_59 rfl ?_
              refine zV.callV (n := 2) C G dX10_moves_60 (s_mfar hzs hst h r g hm hls hN (chL c) jj b2_ hjj) rfl ⟨cd_X10_far, lk_X10_113, im_X10_far, se_X10_X10_far, in_X10⟩ ⟨⟨by decide, by decide⟩, by decide⟩ rfl rfl rfl (hm.1) ⟨rfl, by decide⟩ (zaf ?_) (zno)
              refine zV.callV (n := 2) C G dX10_moves_63 (s_mrejects hzs hst h r hm (nI 2) (oI (far (gN g) (chL c) jj))) rfl ⟨cd_X10_rejects, lk_X10_97, im_X10_rejects, se_X10_X10_rejects, in_X10⟩ ⟨⟨by decide, by decide⟩, by decide⟩ rfl rfl rfl (hm.1) ⟨rfl, by decide⟩ (zaf ?_) (zno)
              refine zV.iret C F dX10_moves_66 rfl ?_
              exact opQ_3 ((jMv_s e1 e2).trans ((if_neg e3).trans (if_neg e4))) rfl
          · have e3 : chF c = true := by
              rcases hx : chF c with _ | _
              · rw [hx] at q34; exact absurd q34 (by decide)
              · rfl
            refine zV.aload_n C dX10_moves_37 rfl rfl ?_
            refine zV.ic (v := nI 5) C dX10_moves_38 (by decide) ?_
            refine zV.iload_n C dX10_moves_39 rfl ?_
            refine zV.callV (n := 2) C G dX10_moves_40 (s_mrejects hzs hst h r hm (nI 5) (nI (chI c))) rfl ⟨cd_X10_rejects, lk_X10_97, im_X10_rejects, se_X10_X10_rejects, in_X10⟩ ⟨⟨by decide, by decide⟩, by decide⟩ rfl rfl rfl (hm.1) ⟨rfl, by decide⟩ (zaf ?_) (zno)
            refine zV.iret C F dX10_moves_43 rfl ?_
            exact opQ_3 ((jMv_s e1 e2).trans (if_pos e3)) rfl
        · exact absurd q14 (by decide)
