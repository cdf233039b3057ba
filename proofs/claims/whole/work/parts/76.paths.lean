/-! the reference: paths, shades, oil changed -/
/-- the ids of the lawn l's chairs, in the order of arrival -/
def hrd (cs : List zCh) (l : Nat) : List Nat := (cs.filter (fun c => decide (chL c = l))).map chI
/-- the numbers f hold the garden g -/
def rG (f : Nat → Int32) (g : zGd) : Prop := ∃ cs, cs.Perm (gC g) ∧ (cs.map chI).Pairwise (· < ·) ∧ rF f g cs (hrd (gC g))
theorem hrd_len {cs : List zCh} {l : Nat} : (hrd cs l).length = hsz cs l := by
  unfold hrd hsz
  rw [List.length_map, List.countP_eq_length_filter]
theorem hrd_mem {cs : List zCh} {l x : Nat} : x ∈ hrd cs l ↔ ∃ c ∈ cs, chI c = x ∧ chL c = l := by
  unfold hrd
  rw [List.mem_map]
  constructor
  · rintro ⟨c, hc, e⟩
    rw [List.mem_filter] at hc
    exact ⟨c, hc.1, e, of_decide_eq_true hc.2⟩
  · rintro ⟨c, hc, e, el⟩
    exact ⟨c, List.mem_filter.mpr ⟨hc, decide_eq_true el⟩, e⟩
theorem rG_W {m : Nat} {g : zGd} {cs : List zCh} (q : gR m g) (hm : m ≤ big) (hp : cs.Perm (gC g)) : rW g cs (hrd (gC g)) := by
  have w := gQ_W q.1 hm
  have gx : gX g ≤ m := q.1.2.2.2.1
  refine ⟨by rw [hp.length_eq]; exact gW_len w, fun c hc => ?_, fun l hl => by rw [hrd_len]; exact q.1.2.2.1 l hl, fun l hl x hx => ?_, fun c hc => hrd_mem.mpr ⟨c, hp.mem_iff.mp hc, rfl, rfl⟩, fun l hl => ?_, (hp.map chI).nodup_iff.mpr w.2.1⟩
  · obtain ⟨a1, a2, a3, a4⟩ := w.1 c (hp.mem_iff.mp hc)
    exact ⟨by omega, a2, a3, a4⟩
  · obtain ⟨c, hc, e⟩ := hrd_mem.mp hx
    exact ⟨c, hp.mem_iff.mpr hc, e⟩
  · exact List.Nodup.sublist (List.Sublist.map chI List.filter_sublist) w.2.1
theorem rF_l {f f' : Nat → Int32} {g g' : zGd} {cs : List zCh} {H : Nat → List Nat} (q : rF f g cs H) (h5 : ∀ l, l < 6 → (H l).length ≤ 5) (e : ∀ j, (j < 8 ∨ 56 ≤ j ∨ 2 ≤ (j - 8) % 8) → f' j = f j) (n : rLs f' g') (m : rNs f g') : rF f' g' cs H := by
  obtain ⟨qc, qh, ql, qn⟩ := q
  refine ⟨⟨(e 0 (by omega)).trans qc.1, fun k c hc => ?_⟩, fun i hi => ⟨(e _ (by omega)).trans (qh i hi).1, fun k x hk => ?_⟩, n, ?_⟩
  · obtain ⟨c1, c2, c3, c4, c5⟩ := qc.2 k c hc
    exact ⟨(e _ (by omega)).trans c1, (e _ (by omega)).trans c2, (e _ (by omega)).trans c3, (e _ (by omega)).trans c4, (e _ (by omega)).trans c5⟩
  · have := (List.getElem?_eq_some_iff.mp hk).1
    have := h5 i hi
    exact (e _ (by omega)).trans ((qh i hi).2 k x hk)
  · obtain ⟨q1, q2, q3, q4, q5, q6, q7⟩ := m
    exact ⟨(e _ (by omega)).trans q1, (e _ (by omega)).trans q2, (e _ (by omega)).trans q3, (e _ (by omega)).trans q4, (e _ (by omega)).trans q5, (e _ (by omega)).trans q6, (e _ (by omega)).trans q7⟩
theorem rF_n {f f' : Nat → Int32} {g g' : zGd} {cs : List zCh} {H : Nat → List Nat} (q : rF f g cs H) (e : ∀ j, (j = 0 ∨ 8 ≤ j) → f' j = f j) (n : rNs f' g') (m : rLs f g') : rF f' g' cs H := by
  obtain ⟨qc, qh, ql, qn⟩ := q
  refine ⟨⟨(e 0 (by omega)).trans qc.1, fun k c hc => ?_⟩, fun i hi => ⟨(e _ (by omega)).trans (qh i hi).1, fun k x hk => (e _ (by omega)).trans ((qh i hi).2 k x hk)⟩, fun i hi => ⟨(e _ (by omega)).trans (m i hi).1, (e _ (by omega)).trans (m i hi).2⟩, n⟩
  obtain ⟨c1, c2, c3, c4, c5⟩ := qc.2 k c hc
  exact ⟨(e _ (by omega)).trans c1, (e _ (by omega)).trans c2, (e _ (by omega)).trans c3, (e _ (by omega)).trans c4, (e _ (by omega)).trans c5⟩
/-- what a change answers: fine, an unknown index, a number not accepted, rejected -/
def opQ (h : zH) (r : Nat) (J : zJ) (A : Int32) (P : (Nat → Int32) → Prop) : Option Value → zH → Prop := fun v h' => (J.1 = 0 ∧ v = some (.int (nI 0)) ∧ ∃ f', h' = sI (sRow h (r + 1) f') 434 r A ∧ P f') ∨ (J.1 = 1 ∧ v = some (.int (nI 1)) ∧ h' = h) ∨ (J.1 = 2 ∧ v = some (.int (nI 2)) ∧ h' = h) ∨ (J.1 = 3 ∧ v = some (.int (-1)) ∧ h' = rjM h r (nI J.2.1) J.2.2)
theorem opQ_0 {h : zH} {r : Nat} {J : zJ} {A B : Int32} {P : (Nat → Int32) → Prop} {f' : Nat → Int32} (e : J = (0, 0, 0)) (eA : A = B) (p : P f') : opQ h r J A P (some (.int (nI 0))) (sI (sRow h (r + 1) f') 434 r B) := Or.inl ⟨by rw [e], rfl, f', by rw [eA], p⟩
theorem opQ_1 {h : zH} {r : Nat} {J : zJ} {A : Int32} {P : (Nat → Int32) → Prop} (e : J = (1, 0, 0)) : opQ h r J A P (some (.int (nI 1))) h := Or.inr (Or.inl ⟨by rw [e], rfl, rfl⟩)
theorem opQ_2 {h : zH} {r : Nat} {J : zJ} {A : Int32} {P : (Nat → Int32) → Prop} (e : J = (2, 0, 0)) : opQ h r J A P (some (.int (nI 2))) h := Or.inr (Or.inr (Or.inl ⟨by rw [e], rfl, rfl⟩))
theorem opQ_3 {h : zH} {r a : Nat} {J : zJ} {A x y : Int32} {P : (Nat → Int32) → Prop} (e : J = (3, a, y)) (ex : x = nI a) : opQ h r J A P (some (.int (-1))) (rjM h r x y) := Or.inr (Or.inr (Or.inr ⟨by rw [e], rfl, by rw [e, ex]⟩))
theorem jPv_n1 {g : zGd} {x y : Int32} (e : ln x = none) : jPv g x y = (1, 0, 0) := by unfold jPv; rw [e]
theorem jPv_n2 {g : zGd} {x y : Int32} {i : Nat} (e : ln x = some i) (e2 : ln y = none) : jPv g x y = (1, 0, 0) := by unfold jPv; rw [e]; simp only [e2]
theorem jPv_s {g : zGd} {x y : Int32} {i j : Nat} (e : ln x = some i) (e2 : ln y = some j) : jPv g x y = if i = j then (2, 0, 0) else if (gN g i).testBit j = true then (3, 1, nI (gP g)) else (0, 0, 0) := by unfold jPv; rw [e]; simp only [e2]
theorem jDg_n1 {g : zGd} {x y : Int32} (e : ln x = none) : jDg g x y = (1, 0, 0) := by unfold jDg; rw [e]
theorem jDg_n2 {g : zGd} {x y : Int32} {i : Nat} (e : ln x = some i) (e2 : ln y = none) : jDg g x y = (1, 0, 0) := by unfold jDg; rw [e]; simp only [e2]
theorem jDg_s {g : zGd} {x y : Int32} {i j : Nat} (e : ln x = some i) (e2 : ln y = some j) : jDg g x y = if i = j then (2, 0, 0) else if (gN g i).testBit j = true then (0, 0, 0) else (3, 2, oI (far (gN g) i j)) := by unfold jDg; rw [e]; simp only [e2]
def nbF (f : Nat → Int32) (i j a b : Nat) : Nat → Int32 := fup (fup f (8 + 8 * i + 1) (nI a)) (8 + 8 * j + 1) (nI b)
theorem nbF_F {f : Nat → Int32} {g : zGd} {cs : List zCh} {H : Nat → List Nat} {i j a b c : Nat} (q : rF f g cs H) (h5 : ∀ l, l < 6 → (H l).length ≤ 5) (hi : i < 6) (hj : j < 6) (hij : i ≠ j) : rF (nbF f i j a b) (gwN g (upN (upN (gN g) i a) j b) c) cs H := by
  refine rF_l q h5 (fun k hk => ?_) (fun k hk => ⟨?_, ?_⟩) q.2.2.2
  · unfold nbF; rw [fup_n (by omega), fup_n (by omega)]
  · unfold nbF; rw [fup_n (by omega), fup_n (by omega)]; exact (q.2.2.1 k hk).1
  · show nbF f i j a b (8 + 8 * k + 1) = nI (upN (upN (gN g) i a) j b k)
    unfold nbF upN
    by_cases e : k = j
    · subst e; rw [if_pos rfl, fup_e]
    · rw [if_neg e, fup_n (by omega)]
      by_cases e2 : k = i
      · subst e2; rw [if_pos rfl, fup_e]
      · rw [if_neg e2, fup_n (by omega)]; exact (q.2.2.1 k hk).2
theorem xr_clr : ∀ s, s < 64 → ∀ j, j < 6 → s.testBit j = true → nI s ^^^ nI (2 ^ j) = nI (clrb s j) := by decide +kernel
set_option maxHeartbeats 4000000 in
set_option maxRecDepth 100000 in
theorem s_mpaves {l : Launch} {E : zG} (hzs : zS E) (hst : l.stackTraces = false) (h : zH) (r m : Nat) (g : zGd) (hm : zMs h r) (hg : rG (aI h (r + 1)) g) (hR : gR m g) (hb : m + 3000 ≤ big) (x y : Int32) : zMet l E yX10_paves cX10_paves 3 (some .int) ({ frames := 2, cells := 0, slots := 0, locals := 44 } : Room) 0 0 [.ref r, .int x, .int y] h (opQ h r (jPv g x y) (ap g 112 x y).2 (fun f' => rG f' (ap g 112 x y).1)) (fun _ _ => False) := by
  refine zM_start hzs hst (by decide) (Nat.le_of_ble_eq_true rfl) (fun X C G F I => ?_)
  show zV X 0 0 _ 0 [(0, _), (1, _), (2, _)] []
  obtain ⟨cs, hp, hsrt, hf⟩ := hg
  have hw := rG_W hR (by omega) hp
  have hN := hR.2.1
  have hls := hf.2.2.1
  rcases e1 : ln x with _ | i
  · refine zV.iload_n C dX10_paves_0 rfl ?_
    refine zV.callS (n := 1) C G dX10_paves_1 (s_misLawn hzs hst h x) rfl ⟨cd_X10_isLawn, lk_X10_85, st_X10_isLawn, in_X10⟩ ⟨⟨by decide, by decide⟩, by decide⟩ rfl rfl rfl (zaf ?_) (zno)
    rw [e1]
    show zV X _ _ h 4 _ (.int (nI 0) :: _)
    refine zV.if_eq (tgt := 14) C dX10_paves_4 (by decide) (fun q4 => ?_) (fun q4 => ?_)
    · refine zV.ic (v := nI 1) C dX10_paves_14 (by decide) ?_
      refine zV.iret C F dX10_paves_15 rfl ?_
      exact opQ_1 (jPv_n1 e1)
    · exact absurd rfl q4
  · obtain ⟨hi, rfl⟩ := ln_some e1
    rcases e2 : ln y with _ | j
    · refine zV.iload_n C dX10_paves_0 rfl ?_
      refine zV.callS (n := 1) C G dX10_paves_1 (s_misLawn hzs hst h (nI i)) rfl ⟨cd_X10_isLawn, lk_X10_85, st_X10_isLawn, in_X10⟩ ⟨⟨by decide, by decide⟩, by decide⟩ rfl rfl rfl (zaf ?_) (zno)
      rw [e1]
      show zV X _ _ h 4 _ (.int (nI 1) :: _)
      refine zV.if_eq (tgt := 14) C dX10_paves_4 (by decide) (fun q4 => ?_) (fun q4 => ?_)
      · exact absurd q4 (by decide)
      · refine zV.iload_n C dX10_paves_7 rfl ?_
        refine zV.callS (n := 1) C G dX10_paves_8 (s_misLawn hzs hst h y) rfl ⟨cd_X10_isLawn, lk_X10_85, st_X10_isLawn, in_X10⟩ ⟨⟨by decide, by decide⟩, by decide⟩ rfl rfl rfl (zaf ?_) (zno)
        rw [e2]
        show zV X _ _ h 11 _ (.int (nI 0) :: _)
        refine zV.if_ne (tgt := 16) C dX10_paves_11 (by decide) (fun q11 => ?_) (fun q11 => ?_)
        · exact absurd rfl q11
        · refine zV.ic (v := nI 1) C dX10_paves_14 (by decide) ?_
          refine zV.iret C F dX10_paves_15 rfl ?_
          exact opQ_1 (jPv_n2 e1 e2)
    · obtain ⟨hj, rfl⟩ := ln_some e2
      refine zV.iload_n C dX10_paves_0 rfl ?_
      refine zV.callS (n := 1) C G dX10_paves_1 (s_misLawn hzs hst h (nI i)) rfl ⟨cd_X10_isLawn, lk_X10_85, st_X10_isLawn, in_X10⟩ ⟨⟨by decide, by decide⟩, by decide⟩ rfl rfl rfl (zaf ?_) (zno)
      rw [e1]
      show zV X _ _ h 4 _ (.int (nI 1) :: _)
      refine zV.if_eq (tgt := 14) C dX10_paves_4 (by decide) (fun q4 => ?_) (fun q4 => ?_)
      · exact absurd q4 (by decide)
      · refine zV.iload_n C dX10_paves_7 rfl ?_
        refine zV.callS (n := 1) C G dX10_paves_8 (s_misLawn hzs hst h (nI j)) rfl ⟨cd_X10_isLawn, lk_X10_85, st_X10_isLawn, in_X10⟩ ⟨⟨by decide, by decide⟩, by decide⟩ rfl rfl rfl (zaf ?_) (zno)
        rw [e2]
        show zV X _ _ h 11 _ (.int (nI 1) :: _)
        refine zV.if_ne (tgt := 16) C dX10_paves_11 (by decide) (fun q11 => ?_) (fun q11 => ?_)
        · refine zV.iload_n C dX10_paves_16 rfl ?_
          refine zV.iload_n C dX10_paves_17 rfl ?_
          refine zV.icmp_ne (tgt := 23) C dX10_paves_18 (by decide) (fun q18 => ?_) (fun q18 => ?_)
          · have hij : i ≠ j := fun z => q18 (by rw [z])
            refine zV.aload_n C dX10_paves_23 rfl rfl ?_
            refine zV.iload_n C dX10_paves_24 rfl ?_
            refine zV.iload_n C dX10_paves_25 rfl ?_
            refine zV.callV (n := 2) C G dX10_paves_26 (s_misPath hzs hst h r g hm hls hN i j hi hj) rfl ⟨cd_X10_isPathBetween, lk_X10_89, im_X10_isPathBetween, se_X10_X10_isPathBetween, in_X10⟩ ⟨⟨by decide, by decide⟩, by decide⟩ rfl rfl rfl (hm.1) ⟨rfl, by decide⟩ (zaf ?_) (zno)
            refine zV.if_eq (tgt := 42) C dX10_paves_29 (by decide) (fun q29 => ?_) (fun q29 => ?_)
            · have hb9 : ¬ (gN g i).testBit j = true := b01.mp q29
              refine zV.aload_n C dX10_paves_42 rfl rfl ?_
              refine zV.gR 416 (k := 0) C dX10_paves_43 zcl_X10 (by decide) rfl lk_X10_9 (hm.1) rfl (hm.2.1) ?_
              refine zV.bi (v := nI 8) C dX10_paves_46 (by decide) ?_
              refine zV.bi (v := nI 8) C dX10_paves_48 (by decide) ?_
              refine zV.iload_n C dX10_paves_50 rfl ?_
              refine zV.imul C dX10_paves_51 ?_
              refine zV.iadd C dX10_paves_52 ?_
              refine zV.ic (v := nI 1) C dX10_paves_53 (by decide) ?_
              refine zV.iadd C dX10_paves_54 ?_
              refine zV.dup2 C dX10_paves_55 rfl rfl ?_
              refine zV.ialdv (j := 8 + 8 * i + 1) C dX10_paves_56 (hm.2.2.2.2.2.2.2.2.2.1.1) (ixm) (Nat.lt_of_lt_of_eq (show 8 + 8 * i + 1 < 116 by omega) (hm.2.2.2.2.2.2.2.2.2.1.2).symm) (by omega) ((hls i hi).2) ?_
              refine zV.ic (v := nI 1) C dX10_paves_57 (by decide) ?_
              refine zV.iload_n C dX10_paves_58 rfl ?_
              refine zV.ishl C dX10_paves_59 ?_
              rw [sh1 j hj]
              refine zV.ior C dX10_paves_60 ?_
              rw [nI_or]
              refine zV.iast (j := 8 + 8 * i + 1) C dX10_paves_61 (hm.2.2.2.2.2.2.2.2.2.1.1) (ixm) (Nat.lt_of_lt_of_eq (show 8 + 8 * i + 1 < 116 by omega) (hm.2.2.2.2.2.2.2.2.2.1.2).symm) (by omega) ?_
              rw [saI_row]
              refine zV.aload_n C dX10_paves_62 rfl rfl ?_
              refine zV.gR 416 (k := 0) C dX10_paves_63 zcl_X10 (by decide) rfl lk_X10_9 (hm.1) rfl (hm.2.1) ?_
              refine zV.bi (v := nI 8) C dX10_paves_66 (by decide) ?_
              refine zV.bi (v := nI 8) C dX10_paves_68 (by decide) ?_
              refine zV.iload_n C dX10_paves_70 rfl ?_
              refine zV.imul C dX10_paves_71 ?_
              refine zV.iadd C dX10_paves_72 ?_
              refine zV.ic (v := nI 1) C dX10_paves_73 (by decide) ?_
              refine zV.iadd C dX10_paves_74 ?_
              refine zV.dup2 C dX10_paves_75 rfl rfl ?_
              refine zV.ialdv (j := 8 + 8 * j + 1) C dX10_paves_76 (hm.2.2.2.2.2.2.2.2.2.1.1) (ixm) (Nat.lt_of_lt_of_eq (show 8 + 8 * j + 1 < 116 by omega) (hm.2.2.2.2.2.2.2.2.2.1.2).symm) (by omega) ((show aI (sRow h (r + 1) _) (r + 1) (8 + 8 * j + 1) = nI (gN g j) from by rw [aI_sRow, fup_n (by omega)]; exact (hls j hj).2)) ?_
              refine zV.ic (v := nI 1) C dX10_paves_77 (by decide) ?_
              refine zV.iload_n C dX10_paves_78 rfl ?_
              refine zV.ishl C dX10_paves_79 ?_
              rw [sh1 i hi]
              refine zV.ior C dX10_paves_80 ?_
              rw [nI_or]
              refine zV.iast (j := 8 + 8 * j + 1) C dX10_paves_81 (hm.2.2.2.2.2.2.2.2.2.1.1) (ixm) (Nat.lt_of_lt_of_eq (show 8 + 8 * j + 1 < 116 by omega) (hm.2.2.2.2.2.2.2.2.2.1.2).symm) (by omega) ?_
              rw [saI_row2]
              have F3 : rF (nbF (aI h (r + 1)) i j (setb (gN g i) j) (setb (gN g j) i)) (pvN g i j) cs (hrd (gC g)) := nbF_F hf hw.2.2.1 hi hj hij
              have F2 : rF (aI (sRow h (r + 1) (nbF (aI h (r + 1)) i j (setb (gN g i) j) (setb (gN g j) i))) (r + 1)) (pvN g i j) cs (hrd (gC g)) := by rw [aI_sRow]; exact F3
              have P2 := gPt_pv hR.2 hi hj hij hb9
              show zV X _ _ (sRow h (r + 1) (nbF (aI h (r + 1)) i j (setb (gN g i) j) (setb (gN g j) i))) 82 _ _
              refine zV.aload_n C dX10_paves_82 rfl rfl ?_
              refine zV.aload_n C dX10_paves_83 rfl rfl ?_
              refine zV.callV (n := 0) C G dX10_paves_84 (s_mpaths hzs hst (sRow h (r + 1) (nbF (aI h (r + 1)) i j (setb (gN g i) j) (setb (gN g j) i))) r (pvN g i j) hm F2.2.2.1 P2.1 P2) rfl ⟨cd_X10_paths, lk_X10_93, im_X10_paths, se_X10_X10_paths, in_X10⟩ ⟨⟨by decide, by decide⟩, by decide⟩ rfl rfl rfl (hm.1) ⟨rfl, by decide⟩ (zaf ?_) (zno)
              refine zV.callV (n := 1) C G dX10_paves_87 (s_mdoes hzs hst (sRow h (r + 1) (nbF (aI h (r + 1)) i j (setb (gN g i) j) (setb (gN g j) i))) r hm (nI (gP g + 1))) rfl ⟨cd_X10_does, lk_X10_100, im_X10_does, se_X10_X10_does, in_X10⟩ ⟨⟨by decide, by decide⟩, by decide⟩ rfl rfl rfl (hm.1) ⟨rfl, by decide⟩ (zaf ?_) (zno)
              refine zV.iret C F dX10_paves_90 rfl ?_
              exact opQ_0 ((jPv_s e1 e2).trans ((if_neg hij).trans (if_neg hb9))) (congrArg Prod.snd (aLL_e e1 e2)) (show rG _ (ap g 112 (nI i) (nI j)).1 from (congrArg Prod.fst (show ap g 112 (nI i) (nI j) = (pvN g i j, nI (gP g + 1)) from aLL_e e1 e2)) ▸ ⟨cs, hp, hsrt, F3⟩)
            · have hb9 : (gN g i).testBit j = true := Decidable.not_not.mp (fun z => q29 (b01.mpr z))
              refine zV.aload_n C dX10_paves_32 rfl rfl ?_
              refine zV.ic (v := nI 1) C dX10_paves_33 (by decide) ?_
              refine zV.aload_n C dX10_paves_34 rfl rfl ?_
              refine zV.callV (n := 0) C G dX10_paves_35 (s_mpaths hzs hst h r g hm hls hN hR.2) rfl ⟨cd_X10_paths, lk_X10_93, im_X10_paths, se_X10_X10_paths, in_X10⟩ ⟨⟨by decide, by decide⟩, by decide⟩ rfl rfl rfl (hm.1) ⟨rfl, by decide⟩ (zaf ?_) (zno)
              refine zV.callV (n := 2) C G dX10_paves_38 (s_mrejects hzs hst h r hm (nI 1) (nI (gP g))) rfl ⟨cd_X10_rejects, lk_X10_97, im_X10_rejects, se_X10_X10_rejects, in_X10⟩ ⟨⟨by decide, by decide⟩, by decide⟩ rfl rfl rfl (hm.1) ⟨rfl, by decide⟩ (zaf ?_) (zno)
              refine zV.iret C F dX10_paves_41 rfl ?_
              exact opQ_3 ((jPv_s e1 e2).trans ((if_neg hij).trans (if_pos hb9))) rfl
          · have hij : i = j := neq (by omega) (by omega) q18
            refine zV.ic (v := nI 2) C dX10_paves_21 (by decide) ?_
            refine zV.iret C F dX10_paves_22 rfl ?_
            exact opQ_2 ((jPv_s e1 e2).trans (if_pos hij))
        · exact absurd q11 (by decide)
set_option maxHeartbeats 4000000 in
set_option maxRecDepth 100000 in
theorem s_mdigs {l : Launch} {E : zG} (hzs : zS E) (hst : l.stackTraces = false) (h : zH) (r m : Nat) (g : zGd) (hm : zMs h r) (hg : rG (aI h (r + 1)) g) (hR : gR m g) (hb : m + 3000 ≤ big) (x y : Int32) : zMet l E yX10_digs cX10_digs 3 (some .int) ({ frames := 2, cells := 0, slots := 0, locals := 48 } : Room) 0 0 [.ref r, .int x, .int y] h (opQ h r (jDg g x y) (ap g 113 x y).2 (fun f' => rG f' (ap g 113 x y).1)) (fun _ _ => False) := by
  refine zM_start hzs hst (by decide) (Nat.le_of_ble_eq_true rfl) (fun X C G F I => ?_)
  show zV X 0 0 _ 0 [(0, _), (1, _), (2, _)] []
  obtain ⟨cs, hp, hsrt, hf⟩ := hg
  have hw := rG_W hR (by omega) hp
  have hN := hR.2.1
  have hls := hf.2.2.1
  rcases e1 : ln x with _ | i
  · refine zV.iload_n C dX10_digs_0 rfl ?_
    refine zV.callS (n := 1) C G dX10_digs_1 (s_misLawn hzs hst h x) rfl ⟨cd_X10_isLawn, lk_X10_85, st_X10_isLawn, in_X10⟩ ⟨⟨by decide, by decide⟩, by decide⟩ rfl rfl rfl (zaf ?_) (zno)
    rw [e1]
    show zV X _ _ h 4 _ (.int (nI 0) :: _)
    refine zV.if_eq (tgt := 14) C dX10_digs_4 (by decide) (fun q4 => ?_) (fun q4 => ?_)
    · refine zV.ic (v := nI 1) C dX10_digs_14 (by decide) ?_
      refine zV.iret C F dX10_digs_15 rfl ?_
      exact opQ_1 (jDg_n1 e1)
    · exact absurd rfl q4
  · obtain ⟨hi, rfl⟩ := ln_some e1
    rcases e2 : ln y with _ | j
    · refine zV.iload_n C dX10_digs_0 rfl ?_
      refine zV.callS (n := 1) C G dX10_digs_1 (s_misLawn hzs hst h (nI i)) rfl ⟨cd_X10_isLawn, lk_X10_85, st_X10_isLawn, in_X10⟩ ⟨⟨by decide, by decide⟩, by decide⟩ rfl rfl rfl (zaf ?_) (zno)
      rw [e1]
      show zV X _ _ h 4 _ (.int (nI 1) :: _)
      refine zV.if_eq (tgt := 14) C dX10_digs_4 (by decide) (fun q4 => ?_) (fun q4 => ?_)
      · exact absurd q4 (by decide)
      · refine zV.iload_n C dX10_digs_7 rfl ?_
        refine zV.callS (n := 1) C G dX10_digs_8 (s_misLawn hzs hst h y) rfl ⟨cd_X10_isLawn, lk_X10_85, st_X10_isLawn, in_X10⟩ ⟨⟨by decide, by decide⟩, by decide⟩ rfl rfl rfl (zaf ?_) (zno)
        rw [e2]
        show zV X _ _ h 11 _ (.int (nI 0) :: _)
        refine zV.if_ne (tgt := 16) C dX10_digs_11 (by decide) (fun q11 => ?_) (fun q11 => ?_)
        · exact absurd rfl q11
        · refine zV.ic (v := nI 1) C dX10_digs_14 (by decide) ?_
          refine zV.iret C F dX10_digs_15 rfl ?_
          exact opQ_1 (jDg_n2 e1 e2)
    · obtain ⟨hj, rfl⟩ := ln_some e2
      refine zV.iload_n C dX10_digs_0 rfl ?_
      refine zV.callS (n := 1) C G dX10_digs_1 (s_misLawn hzs hst h (nI i)) rfl ⟨cd_X10_isLawn, lk_X10_85, st_X10_isLawn, in_X10⟩ ⟨⟨by decide, by decide⟩, by decide⟩ rfl rfl rfl (zaf ?_) (zno)
      rw [e1]
      show zV X _ _ h 4 _ (.int (nI 1) :: _)
      refine zV.if_eq (tgt := 14) C dX10_digs_4 (by decide) (fun q4 => ?_) (fun q4 => ?_)
      · exact absurd q4 (by decide)
      · refine zV.iload_n C dX10_digs_7 rfl ?_
        refine zV.callS (n := 1) C G dX10_digs_8 (s_misLawn hzs hst h (nI j)) rfl ⟨cd_X10_isLawn, lk_X10_85, st_X10_isLawn, in_X10⟩ ⟨⟨by decide, by decide⟩, by decide⟩ rfl rfl rfl (zaf ?_) (zno)
        rw [e2]
        show zV X _ _ h 11 _ (.int (nI 1) :: _)
        refine zV.if_ne (tgt := 16) C dX10_digs_11 (by decide) (fun q11 => ?_) (fun q11 => ?_)
        · refine zV.iload_n C dX10_digs_16 rfl ?_
          refine zV.iload_n C dX10_digs_17 rfl ?_
          refine zV.icmp_ne (tgt := 23) C dX10_digs_18 (by decide) (fun q18 => ?_) (fun q18 => ?_)
          · have hij : i ≠ j := fun z => q18 (by rw [z])
            refine zV.aload_n C dX10_digs_23 rfl rfl ?_
            refine zV.iload_n C dX10_digs_24 rfl ?_
            refine zV.iload_n C dX10_digs_25 rfl ?_
            refine zV.callV (n := 2) C G dX10_digs_26 (s_misPath hzs hst h r g hm hls hN i j hi hj) rfl ⟨cd_X10_isPathBetween, lk_X10_89, im_X10_isPathBetween, se_X10_X10_isPathBetween, in_X10⟩ ⟨⟨by decide, by decide⟩, by decide⟩ rfl rfl rfl (hm.1) ⟨rfl, by decide⟩ (zaf ?_) (zno)
            refine zV.if_ne (tgt := 44) C dX10_digs_29 (by decide) (fun q29 => ?_) (fun q29 => ?_)
            · have hb9 : (gN g i).testBit j = true := Decidable.not_not.mp (fun z => q29 (b01.mpr z))
              have G2 := gPt_dg hR.2 hi hj hij hb9
              have hb8 : (gN g j).testBit i = true := by rw [← hR.2.2.1 i j hi hj]; exact hb9
              refine zV.aload_n C dX10_digs_44 rfl rfl ?_
              refine zV.gR 416 (k := 0) C dX10_digs_45 zcl_X10 (by decide) rfl lk_X10_9 (hm.1) rfl (hm.2.1) ?_
              refine zV.bi (v := nI 8) C dX10_digs_48 (by decide) ?_
              refine zV.bi (v := nI 8) C dX10_digs_50 (by decide) ?_
              refine zV.iload_n C dX10_digs_52 rfl ?_
              refine zV.imul C dX10_digs_53 ?_
              refine zV.iadd C dX10_digs_54 ?_
              refine zV.ic (v := nI 1) C dX10_digs_55 (by decide) ?_
              refine zV.iadd C dX10_digs_56 ?_
              refine zV.dup2 C dX10_digs_57 rfl rfl ?_
              refine zV.ialdv (j := 8 + 8 * i + 1) C dX10_digs_58 (hm.2.2.2.2.2.2.2.2.2.1.1) (ixm) (Nat.lt_of_lt_of_eq (show 8 + 8 * i + 1 < 116 by omega) (hm.2.2.2.2.2.2.2.2.2.1.2).symm) (by omega) ((hls i hi).2) ?_
              refine zV.ic (v := nI 1) C dX10_digs_59 (by decide) ?_
              refine zV.iload_n C dX10_digs_60 rfl ?_
              refine zV.ishl C dX10_digs_61 ?_
              rw [sh1 j hj]
              refine zV.ixor C dX10_digs_62 ?_
              rw [xr_clr _ (hN i hi) j hj hb9]
              refine zV.iast (j := 8 + 8 * i + 1) C dX10_digs_63 (hm.2.2.2.2.2.2.2.2.2.1.1) (ixm) (Nat.lt_of_lt_of_eq (show 8 + 8 * i + 1 < 116 by omega) (hm.2.2.2.2.2.2.2.2.2.1.2).symm) (by omega) ?_
              rw [saI_row]
              refine zV.aload_n C dX10_digs_64 rfl rfl ?_
              refine zV.gR 416 (k := 0) C dX10_digs_65 zcl_X10 (by decide) rfl lk_X10_9 (hm.1) rfl (hm.2.1) ?_
              refine zV.bi (v := nI 8) C dX10_digs_68 (by decide) ?_
              refine zV.bi (v := nI 8) C dX10_digs_70 (by decide) ?_
              refine zV.iload_n C dX10_digs_72 rfl ?_
              refine zV.imul C dX10_digs_73 ?_
              refine zV.iadd C dX10_digs_74 ?_
              refine zV.ic (v := nI 1) C dX10_digs_75 (by decide) ?_
              refine zV.iadd C dX10_digs_76 ?_
              refine zV.dup2 C dX10_digs_77 rfl rfl ?_
              refine zV.ialdv (j := 8 + 8 * j + 1) C dX10_digs_78 (hm.2.2.2.2.2.2.2.2.2.1.1) (ixm) (Nat.lt_of_lt_of_eq (show 8 + 8 * j + 1 < 116 by omega) (hm.2.2.2.2.2.2.2.2.2.1.2).symm) (by omega) ((show aI (sRow h (r + 1) _) (r + 1) (8 + 8 * j + 1) = nI (gN g j) from by rw [aI_sRow, fup_n (by omega)]; exact (hls j hj).2)) ?_
              refine zV.ic (v := nI 1) C dX10_digs_79 (by decide) ?_
              refine zV.iload_n C dX10_digs_80 rfl ?_
              refine zV.ishl C dX10_digs_81 ?_
              rw [sh1 i hi]
              refine zV.ixor C dX10_digs_82 ?_
              rw [xr_clr _ (hN j hj) i hi hb8]
              refine zV.iast (j := 8 + 8 * j + 1) C dX10_digs_83 (hm.2.2.2.2.2.2.2.2.2.1.1) (ixm) (Nat.lt_of_lt_of_eq (show 8 + 8 * j + 1 < 116 by omega) (hm.2.2.2.2.2.2.2.2.2.1.2).symm) (by omega) ?_
              rw [saI_row2]
              have F3 : rF (nbF (aI h (r + 1)) i j (clrb (gN g i) j) (clrb (gN g j) i)) (dgN g i j) cs (hrd (gC g)) := nbF_F hf hw.2.2.1 hi hj hij
              have F2 : rF (aI (sRow h (r + 1) (nbF (aI h (r + 1)) i j (clrb (gN g i) j) (clrb (gN g j) i))) (r + 1)) (dgN g i j) cs (hrd (gC g)) := by rw [aI_sRow]; exact F3
              have P2 := G2.1
              show zV X _ _ (sRow h (r + 1) (nbF (aI h (r + 1)) i j (clrb (gN g i) j) (clrb (gN g j) i))) 84 _ _
              refine zV.aload_n C dX10_digs_84 rfl rfl ?_
              refine zV.aload_n C dX10_digs_85 rfl rfl ?_
              refine zV.callV (n := 0) C G dX10_digs_86 (s_mpaths hzs hst (sRow h (r + 1) (nbF (aI h (r + 1)) i j (clrb (gN g i) j) (clrb (gN g j) i))) r (dgN g i j) hm F2.2.2.1 P2.1 P2) rfl ⟨cd_X10_paths, lk_X10_93, im_X10_paths, se_X10_X10_paths, in_X10⟩ ⟨⟨by decide, by decide⟩, by decide⟩ rfl rfl rfl (hm.1) ⟨rfl, by decide⟩ (zaf ?_) (zno)
              refine zV.callV (n := 1) C G dX10_digs_89 (s_mdoes hzs hst (sRow h (r + 1) (nbF (aI h (r + 1)) i j (clrb (gN g i) j) (clrb (gN g j) i))) r hm (nI (gP g - 1))) rfl ⟨cd_X10_does, lk_X10_100, im_X10_does, se_X10_X10_does, in_X10⟩ ⟨⟨by decide, by decide⟩, by decide⟩ rfl rfl rfl (hm.1) ⟨rfl, by decide⟩ (zaf ?_) (zno)
              refine zV.iret C F dX10_digs_92 rfl ?_
              exact opQ_0 ((jDg_s e1 e2).trans ((if_neg hij).trans (if_pos hb9))) (congrArg Prod.snd (aLL_e e1 e2)) (show rG _ (ap g 113 (nI i) (nI j)).1 from (congrArg Prod.fst (show ap g 113 (nI i) (nI j) = (dgN g i j, nI (gP g - 1)) from aLL_e e1 e2)) ▸ ⟨cs, hp, hsrt, F3⟩)
            · have hb9 : ¬ (gN g i).testBit j = true := b01.mp q29
              refine zV.aload_n C dX10_digs_32 rfl rfl ?_
              refine zV.ic (v := nI 2) C dX10_digs_33 (by decide) ?_
              refine zV.aload_n C dX10_digs_34 rfl rfl ?_
              refine zV.iload_n C dX10_digs_35 rfl ?_
              refine zV.iload_n C dX10_digs_36 rfl ?_
              refine zV.callV (n := 2) C G dX10_digs_37 (s_mfar hzs hst h r g hm hls hN i j hi hj) rfl ⟨cd_X10_far, lk_X10_113, im_X10_far, se_X10_X10_far, in_X10⟩ ⟨⟨by decide, by decide⟩, by decide⟩ rfl rfl rfl (hm.1) ⟨rfl, by decide⟩ (zaf ?_) (zno)
              refine zV.callV (n := 2) C G dX10_digs_40 (s_mrejects hzs hst h r hm (nI 2) (oI (far (gN g) i j))) rfl ⟨cd_X10_rejects, lk_X10_97, im_X10_rejects, se_X10_X10_rejects, in_X10⟩ ⟨⟨by decide, by decide⟩, by decide⟩ rfl rfl rfl (hm.1) ⟨rfl, by decide⟩ (zaf ?_) (zno)
              refine zV.iret C F dX10_digs_43 rfl ?_
              exact opQ_3 ((jDg_s e1 e2).trans ((if_neg hij).trans (if_neg hb9))) rfl
          · have hij : i = j := neq (by omega) (by omega) q18
            refine zV.ic (v := nI 2) C dX10_digs_21 (by decide) ?_
            refine zV.iret C F dX10_digs_22 rfl ?_
            exact opQ_2 ((jDg_s e1 e2).trans (if_pos hij))
        · exact absurd q11 (by decide)
theorem jSh_n {x y : Int32} (e : ln x = none) : jSh x y = (1, 0, 0) := by unfold jSh; rw [e]
theorem jSh_s {x y : Int32} {i : Nat} (e : ln x = some i) : jSh x y = if inB y (nI 0) (nI 20) = true then (0, 0, 0) else (2, 0, 0) := by
  unfold jSh inB
  rw [e]
  show (if y < 0 then _ else _) = _
  by_cases h1 : y < 0
  · rw [if_pos h1, decide_eq_false (p := nI 0 ≤ y) (Int32.not_le.mpr h1)]; rfl
  · rw [if_neg h1, decide_eq_true (p := nI 0 ≤ y) (Int32.not_lt.mp h1)]
    by_cases h2 : y ≤ nI 20
    · rw [if_pos h2, decide_eq_true h2]; rfl
    · rw [if_neg h2, decide_eq_false h2]; rfl
theorem inB_n {x : Int32} {a b : Nat} (ha : a < 2 ^ 31) (hb : b < 2 ^ 31) (h : inB x (nI a) (nI b) = true) : ∃ n, x = nI n ∧ a ≤ n ∧ n ≤ b := by
  unfold inB at h
  rw [Bool.and_eq_true] at h
  have h1 := of_decide_eq_true h.1
  have h2 := of_decide_eq_true h.2
  have h0 : ¬ x < 0 := Int32.not_lt.mpr (Int32.le_trans (nI_le (Nat.zero_le a) ha) h1)
  obtain ⟨n, h3, rfl⟩ := nI_of2 (n := b) (nI_toInt hb) h0 h2
  exact ⟨n, rfl, nle (by omega) ha h1, h3⟩
theorem shF_F {f : Nat → Int32} {g : zGd} {cs : List zCh} {H : Nat → List Nat} {i s : Nat} (q : rF f g cs H) (h5 : ∀ l, l < 6 → (H l).length ≤ 5) (hi : i < 6) : rF (fup f (8 + 8 * i) (nI s)) (opSh g i s) cs H := by
  refine rF_l q h5 (fun k hk => fup_n (by omega)) (fun k hk => ⟨?_, (fup_n (by omega)).trans (q.2.2.1 k hk).2⟩) q.2.2.2
  show fup f (8 + 8 * i) (nI s) (8 + 8 * k) = nI (upN (gS g) i s k)
  unfold upN
  by_cases e : k = i
  · subst e; rw [if_pos rfl, fup_e]
  · rw [if_neg e, fup_n (by omega)]; exact (q.2.2.1 k hk).1
theorem jAo_s {g : zGd} {x : Int32} : jAo g x = if inB x (nI 1) (nI 10) = true then (if nI (gO g) + x ≤ nI 20 then (0, 0, 0) else (3, 10, nI (gO g))) else (2, 0, 0) := by
  unfold jAo inB
  by_cases h1 : x < nI 1
  · rw [if_pos h1, decide_eq_false (p := nI 1 ≤ x) (Int32.not_le.mpr h1)]; rfl
  · rw [if_neg h1, decide_eq_true (p := nI 1 ≤ x) (Int32.not_lt.mp h1)]
    by_cases h2 : x ≤ nI 10
    · rw [if_pos h2, decide_eq_true h2]; rfl
    · rw [if_neg h2, decide_eq_false h2]; rfl
theorem stF_F {f : Nat → Int32} {g : zGd} {cs : List zCh} {H : Nat → List Nat} {n : Nat} (q : rF f g cs H) : rF (fup f 3 (nI n)) (gwO g n) cs H := by
  obtain ⟨q1, q2, q3, q4, q5, q6, q7⟩ := q.2.2.2
  exact rF_n q (fun j hj => fup_n (by omega)) ⟨(fup_n (by decide)).trans q1, (fup_n (by decide)).trans q2, fup_e, (fup_n (by decide)).trans q4, (fup_n (by decide)).trans q5, (fup_n (by decide)).trans q6, (fup_n (by decide)).trans q7⟩ q.2.2.1
set_option maxHeartbeats 4000000 in
set_option maxRecDepth 100000 in
theorem s_mshades {l : Launch} {E : zG} (hzs : zS E) (hst : l.stackTraces = false) (h : zH) (r m : Nat) (g : zGd) (hm : zMs h r) (hg : rG (aI h (r + 1)) g) (hR : gR m g) (hb : m + 3000 ≤ big) (x y : Int32) : zMet l E yX10_shades cX10_shades 4 (some .int) ({ frames := 2, cells := 0, slots := 0, locals := 42 } : Room) 0 0 [.ref r, .int x, .int y] h (opQ h r (jSh x y) (ap g 104 x y).2 (fun f' => rG f' (ap g 104 x y).1)) (fun _ _ => False) := by
  refine zM_start hzs hst (by decide) (Nat.le_of_ble_eq_true rfl) (fun X C G F I => ?_)
  show zV X 0 0 _ 0 [(0, _), (1, _), (2, _)] []
  obtain ⟨cs, hp, hsrt, hf⟩ := hg
  have hw := rG_W hR (by omega) hp
  have hN := hR.2.1
  have hls := hf.2.2.1
  rcases e1 : ln x with _ | i
  · refine zV.iload_n C dX10_shades_0 rfl ?_
    refine zV.callS (n := 1) C G dX10_shades_1 (s_misLawn hzs hst h x) rfl ⟨cd_X10_isLawn, lk_X10_85, st_X10_isLawn, in_X10⟩ ⟨⟨by decide, by decide⟩, by decide⟩ rfl rfl rfl (zaf ?_) (zno)
    rw [e1]
    show zV X _ _ h 4 _ (.int (nI 0) :: _)
    refine zV.if_ne (tgt := 9) C dX10_shades_4 (by decide) (fun q4 => ?_) (fun q4 => ?_)
    · exact absurd rfl q4
    · refine zV.ic (v := nI 1) C dX10_shades_7 (by decide) ?_
      refine zV.iret C F dX10_shades_8 rfl ?_
      exact opQ_1 (jSh_n e1)
  · obtain ⟨hi, rfl⟩ := ln_some e1
    refine zV.iload_n C dX10_shades_0 rfl ?_
    refine zV.callS (n := 1) C G dX10_shades_1 (s_misLawn hzs hst h (nI i)) rfl ⟨cd_X10_isLawn, lk_X10_85, st_X10_isLawn, in_X10⟩ ⟨⟨by decide, by decide⟩, by decide⟩ rfl rfl rfl (zaf ?_) (zno)
    rw [e1]
    show zV X _ _ h 4 _ (.int (nI 1) :: _)
    refine zV.if_ne (tgt := 9) C dX10_shades_4 (by decide) (fun q4 => ?_) (fun q4 => ?_)
    · refine zV.iload_n C dX10_shades_9 rfl ?_
      refine zV.ic (v := nI 0) C dX10_shades_10 (by decide) ?_
      refine zV.bi (v := nI 20) C dX10_shades_11 (by decide) ?_
      refine zV.callS (n := 3) C G dX10_shades_13 (s_min hzs hst h y (nI 0) (nI 20)) rfl ⟨cd_X10_in, lk_X10_61, st_X10_in, in_X10⟩ ⟨⟨by decide, by decide⟩, by decide⟩ rfl rfl rfl (zaf ?_) (zno)
      refine zV.if_ne (tgt := 21) C dX10_shades_16 (by decide) (fun q16 => ?_) (fun q16 => ?_)
      · have e3 : inB y (nI 0) (nI 20) = true := Bool.of_not_eq_false (fun z => q16 (b2n.mpr z))
        obtain ⟨N, rfl, hN1, hN2⟩ := inB_n (by decide) (by decide) e3
        refine zV.aload_n C dX10_shades_21 rfl rfl ?_
        refine zV.iload_n C dX10_shades_22 rfl ?_
        refine zV.ic (v := nI 0) C dX10_shades_23 (by decide) ?_
        refine zV.callV (n := 2) C G dX10_shades_24 (s_mlawn hzs hst h r hm i 0 hi (by decide)) rfl ⟨cd_X10_lawn, lk_X10_69, im_X10_lawn, se_X10_X10_lawn, in_X10⟩ ⟨⟨by decide, by decide⟩, by decide⟩ rfl rfl rfl (hm.1) ⟨rfl, by decide⟩ (zaf ?_) (zno)
        rw [show 8 + 8 * i + 0 = 8 + 8 * i from rfl, (hls i hi).1]
        refine zV.istore_n (lo' := [(0, _), (1, _), (2, _), (3, _)]) C dX10_shades_27 (by decide) rfl rfl rfl ?_
        refine zV.aload_n C dX10_shades_28 rfl rfl ?_
        refine zV.gR 416 (k := 0) C dX10_shades_29 zcl_X10 (by decide) rfl lk_X10_9 (hm.1) rfl (hm.2.1) ?_
        refine zV.bi (v := nI 8) C dX10_shades_32 (by decide) ?_
        refine zV.bi (v := nI 8) C dX10_shades_34 (by decide) ?_
        refine zV.iload_n C dX10_shades_36 rfl ?_
        refine zV.imul C dX10_shades_37 ?_
        refine zV.iadd C dX10_shades_38 ?_
        refine zV.iload_n C dX10_shades_39 rfl ?_
        refine zV.iast (j := 8 + 8 * i) C dX10_shades_40 (hm.2.2.2.2.2.2.2.2.2.1.1) (by rw [pk_mul, nI_add]) (Nat.lt_of_lt_of_eq (show 8 + 8 * i < 116 by omega) (hm.2.2.2.2.2.2.2.2.2.1.2).symm) (by omega) ?_
        rw [saI_row]
        refine zV.aload_n C dX10_shades_41 rfl rfl ?_
        refine zV.iload_n C dX10_shades_42 rfl ?_
        refine zV.callV (n := 1) C G dX10_shades_43 (s_mdoes hzs hst (sRow h (r + 1) (fup (aI h (r + 1)) (8 + 8 * i) (nI N))) r hm (nI (gS g i))) rfl ⟨cd_X10_does, lk_X10_100, im_X10_does, se_X10_X10_does, in_X10⟩ ⟨⟨by decide, by decide⟩, by decide⟩ rfl rfl rfl (hm.1) ⟨rfl, by decide⟩ (zaf ?_) (zno)
        refine zV.iret C F dX10_shades_46 rfl ?_
        exact opQ_0 ((jSh_s e1).trans (if_pos e3)) (congrArg Prod.snd (aL_e e1)) (show rG _ (ap g 104 (nI i) (nI N)).1 from (congrArg Prod.fst (show ap g 104 (nI i) (nI N) = (opSh g i N, nI (gS g i)) from (aL_e e1).trans (by rw [nI_cl (by omega)]))) ▸ ⟨cs, hp, hsrt, shF_F hf hw.2.2.1 hi⟩)
      · have e3 : ¬ inB y (nI 0) (nI 20) = true := fun z => by rw [b2n.mp q16] at z; cases z
        refine zV.ic (v := nI 2) C dX10_shades_19 (by decide) ?_
        refine zV.iret C F dX10_shades_20 rfl ?_
        exact opQ_2 ((jSh_s e1).trans (if_neg e3))
    · exact absurd q4 (by decide)
set_option maxHeartbeats 4000000 in
set_option maxRecDepth 100000 in
theorem s_mstores {l : Launch} {E : zG} (hzs : zS E) (hst : l.stackTraces = false) (h : zH) (r m : Nat) (g : zGd) (hm : zMs h r) (hg : rG (aI h (r + 1)) g) (hR : gR m g) (hb : m + 3000 ≤ big) (x : Int32) : zMet l E yX10_stores cX10_stores 2 (some .int) ({ frames := 1, cells := 0, slots := 0, locals := 22 } : Room) 0 0 [.ref r, .int x] h (opQ h r (jAo g x) (ap g 97 x 0).2 (fun f' => rG f' (ap g 97 x 0).1)) (fun _ _ => False) := by
  refine zM_start hzs hst (by decide) (Nat.le_of_ble_eq_true rfl) (fun X C G F I => ?_)
  show zV X 0 0 _ 0 [(0, _), (1, _)] []
  obtain ⟨cs, hp, hsrt, hf⟩ := hg
  have hw := rG_W hR (by omega) hp
  have hN := hR.2.1
  have hls := hf.2.2.1
  have v3 : aI h (r + 1) 3 = nI (gO g) := hf.2.2.2.2.2.1
  refine zV.iload_n C dX10_stores_0 rfl ?_
  refine zV.ic (v := nI 1) C dX10_stores_1 (by decide) ?_
  refine zV.bi (v := nI 10) C dX10_stores_2 (by decide) ?_
  refine zV.callS (n := 3) C G dX10_stores_4 (s_min hzs hst h x (nI 1) (nI 10)) rfl ⟨cd_X10_in, lk_X10_61, st_X10_in, in_X10⟩ ⟨⟨by decide, by decide⟩, by decide⟩ rfl rfl rfl (zaf ?_) (zno)
  refine zV.if_ne (tgt := 12) C dX10_stores_7 (by decide) (fun q7 => ?_) (fun q7 => ?_)
  · have e3 : inB x (nI 1) (nI 10) = true := Bool.of_not_eq_false (fun z => q7 (b2n.mpr z))
    obtain ⟨N, rfl, hN1, hN2⟩ := inB_n (by decide) (by decide) e3
    refine zV.aload_n C dX10_stores_12 rfl rfl ?_
    refine zV.gR 416 (k := 0) C dX10_stores_13 zcl_X10 (by decide) rfl lk_X10_9 (hm.1) rfl (hm.2.1) ?_
    refine zV.ic (v := nI 3) C dX10_stores_16 (by decide) ?_
    refine zV.ialdv (j := 3) C dX10_stores_17 (hm.2.2.2.2.2.2.2.2.2.1.1) (rfl) (Nat.lt_of_lt_of_eq (show 3 < 116 by decide) (hm.2.2.2.2.2.2.2.2.2.1.2).symm) (by omega) (v3) ?_
    refine zV.iload_n C dX10_stores_18 rfl ?_
    refine zV.iadd C dX10_stores_19 ?_
    refine zV.bi (v := nI 20) C dX10_stores_20 (by decide) ?_
    refine zV.icmp_le (tgt := 38) C dX10_stores_22 (by decide) (fun q22 => ?_) (fun q22 => ?_)
    · have e4 : nI (gO g) + nI N ≤ nI 20 := q22
      refine zV.aload_n C dX10_stores_38 rfl rfl ?_
      refine zV.gR 416 (k := 0) C dX10_stores_39 zcl_X10 (by decide) rfl lk_X10_9 (hm.1) rfl (hm.2.1) ?_
      refine zV.ic (v := nI 3) C dX10_stores_42 (by decide) ?_
      refine zV.dup2 C dX10_stores_43 rfl rfl ?_
      refine zV.ialdv (j := 3) C dX10_stores_44 (hm.2.2.2.2.2.2.2.2.2.1.1) (rfl) (Nat.lt_of_lt_of_eq (show 3 < 116 by decide) (hm.2.2.2.2.2.2.2.2.2.1.2).symm) (by omega) (v3) ?_
      refine zV.iload_n C dX10_stores_45 rfl ?_
      refine zV.iadd C dX10_stores_46 ?_
      rw [nI_add]
      refine zV.iast (j := 3) C dX10_stores_47 (hm.2.2.2.2.2.2.2.2.2.1.1) (rfl) (Nat.lt_of_lt_of_eq (show 3 < 116 by decide) (hm.2.2.2.2.2.2.2.2.2.1.2).symm) (by omega) ?_
      rw [saI_row]
      refine zV.aload_n C dX10_stores_48 rfl rfl ?_
      refine zV.aload_n C dX10_stores_49 rfl rfl ?_
      refine zV.gR 416 (k := 0) C dX10_stores_50 zcl_X10 (by decide) rfl lk_X10_9 (hm.1) rfl (hm.2.1) ?_
      refine zV.ic (v := nI 3) C dX10_stores_53 (by decide) ?_
      refine zV.ialdv (j := 3) C dX10_stores_54 (hm.2.2.2.2.2.2.2.2.2.1.1) (rfl) (Nat.lt_of_lt_of_eq (show 3 < 116 by decide) (hm.2.2.2.2.2.2.2.2.2.1.2).symm) (by omega) ((show aI (sRow h (r + 1) _) (r + 1) 3 = nI (gO g + N) from by rw [aI_sRow, fup_e])) ?_
      refine zV.callV (n := 1) C G dX10_stores_55 (s_mdoes hzs hst (sRow h (r + 1) (fup (aI h (r + 1)) 3 (nI (gO g + N)))) r hm (nI (gO g + N))) rfl ⟨cd_X10_does, lk_X10_100, im_X10_does, se_X10_X10_does, in_X10⟩ ⟨⟨by decide, by decide⟩, by decide⟩ rfl rfl rfl (hm.1) ⟨rfl, by decide⟩ (zaf ?_) (zno)
      refine zV.iret C F dX10_stores_58 rfl ?_
      exact opQ_0 (jAo_s.trans ((if_pos e3).trans (if_pos e4))) (show nI (gO g + (nI N).toNatClampNeg) = _ from by rw [nI_cl (by omega)]) (show rG _ (gwO g (gO g + (nI N).toNatClampNeg)) from by rw [nI_cl (by omega)]; exact ⟨cs, hp, hsrt, stF_F hf⟩)
    · have e4 : ¬ nI (gO g) + nI N ≤ nI 20 := q22
      refine zV.aload_n C dX10_stores_25 rfl rfl ?_
      refine zV.bi (v := nI 10) C dX10_stores_26 (by decide) ?_
      refine zV.aload_n C dX10_stores_28 rfl rfl ?_
      refine zV.gR 416 (k := 0) C dX10_stores_29 zcl_X10 (by decide) rfl lk_X10_9 (hm.1) rfl (hm.2.1) ?_
      refine zV.ic (v := nI 3) C dX10_stores_32 (by decide) ?_
      refine zV.ialdv (j := 3) C dX10_stores_33 (hm.2.2.2.2.2.2.2.2.2.1.1) (rfl) (Nat.lt_of_lt_of_eq (show 3 < 116 by decide) (hm.2.2.2.2.2.2.2.2.2.1.2).symm) (by omega) (v3) ?_
      refine zV.callV (n := 2) C G dX10_stores_34 (s_mrejects hzs hst h r hm (nI 10) (nI (gO g))) rfl ⟨cd_X10_rejects, lk_X10_97, im_X10_rejects, se_X10_X10_rejects, in_X10⟩ ⟨⟨by decide, by decide⟩, by decide⟩ rfl rfl rfl (hm.1) ⟨rfl, by decide⟩ (zaf ?_) (zno)
      refine zV.iret C F dX10_stores_37 rfl ?_
      exact opQ_3 (jAo_s.trans ((if_pos e3).trans (if_neg e4))) rfl
  · have e3 : ¬ inB x (nI 1) (nI 10) = true := fun z => by rw [b2n.mp q7] at z; cases z
    refine zV.ic (v := nI 2) C dX10_stores_10 (by decide) ?_
    refine zV.iret C F dX10_stores_11 rfl ?_
    exact opQ_2 (jAo_s.trans (if_neg e3))
