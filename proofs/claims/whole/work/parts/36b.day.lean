set_option maxHeartbeats 4000000 in
set_option maxRecDepth 100000 in
theorem L_collapse {X : zX} {l : Launch} {E : zG} {rm : Room} (hzs : zS E) (hst : l.stackTraces = false) (C : zC X cX3_collapse RX3 4) (G : zGX X l E rm) {b : Nat} (hr : rm = ({ frames := 1, cells := 0, slots := 0, locals := 22 } : Room)) : ∀ (R : List zCh) (A B : List zCh) h g, zGx h b g → gC g = A ++ B ++ R → zSz h b (hsz (A ++ R)) → (gC g).length ≤ 12 → (∀ c ∈ gC g, chL c < 6 ∧ chR c ≤ 11) → (∀ h' B', zGx h' b (gwF (gwC g ((A ++ R.filter stay) ++ B')) (gF g + (R.length - (R.filter stay).length))) → (A ++ R.filter stay ++ B').length = (gC g).length → zSz h' b (hsz (A ++ R.filter stay)) → zFr h h' b → zV X 0 0 h' 81 [(0, .ref b), (1, .int (nI (A ++ R.filter stay).length))] []) → zV X 0 0 h 4 [(0, .ref b), (1, .int (nI A.length)), (2, .int (nI (A.length + B.length)))] [] := by
  subst hr
  intro R
  induction R with
  | nil =>
    intro A B h g hg he hz hl hw kx
    have hlen : hI h 196 b = nI (gC g).length := (nGx hg).1
    have e2 : A.length + B.length = (gC g).length := by rw [he]; simp
    refine zV.iload_n C dX3_collapse_4 rfl ?_
    refine zV.aload_n C dX3_collapse_5 rfl rfl ?_
    refine zV.gIv 196 (k := 4) C dX3_collapse_6 zcl_X3 (by decide) rfl lk_X3_50 (hg.1.1) rfl hlen ?_
    refine zV.icmp_ge (tgt := 81) C dX3_collapse_9 (by decide) (fun q9 => ?_) (fun q9 => ?_)
    · have k2 := kx h B (by
        rw [List.filter_nil, List.append_nil]
        show zGx h b (gwF (gwC g (A ++ B)) (gF g + 0))
        rw [← List.append_nil (A ++ B), ← he]
        exact hg) (by rw [List.filter_nil, List.append_nil, he, List.append_nil]) (by rw [List.filter_nil]; exact hz) (zFr.refl h b)
      rw [List.filter_nil, List.append_nil] at k2
      exact zV.sub [0, 1] rfl k2
    · exact absurd (nI_le (Nat.le_of_eq e2.symm) (by omega)) q9
  | cons c R ih =>
    intro A B h g hg he hz hl hw kx
    have hlen : hI h 196 b = nI (gC g).length := (nGx hg).1
    have e2 : A.length + B.length + 1 + R.length = (gC g).length := by rw [he]; simp; omega
    have hc : (gC g)[A.length + B.length]? = some c := by
      rw [he, List.getElem?_append_right (by simp), List.length_append, Nat.sub_self]
      rfl
    have h12 : A.length + B.length < 12 := by omega
    have ca := cGx hg
    obtain ⟨c1, c2, c3, c4, c5⟩ := ca.2.2.1 _ c hc
    obtain ⟨u1, u2⟩ := hw c (List.mem_of_getElem? hc)
    have ck := zCs_k hg.1 ca h12
    refine zV.iload_n C dX3_collapse_4 rfl ?_
    refine zV.aload_n C dX3_collapse_5 rfl rfl ?_
    refine zV.gIv 196 (k := 4) C dX3_collapse_6 zcl_X3 (by decide) rfl lk_X3_50 (hg.1.1) rfl (hlen) ?_
    refine zV.icmp_ge (tgt := 81) C dX3_collapse_9 (by decide) (fun q9 => ?_) (fun q9 => ?_)
    · exact absurd (nle (by omega) (by omega) q9) (by omega)
    · refine zV.aload_n C dX3_collapse_12 rfl rfl ?_
      refine zV.gR 195 (k := 3) C dX3_collapse_13 zcl_X3 (by decide) rfl lk_X3_30 (hg.1.1) rfl (hg.1.2.2.2.2.1) ?_
      refine zV.iload_n C dX3_collapse_16 rfl ?_
      refine zV.aaldC (j := A.length + B.length) C dX3_collapse_17 (hg.1.2.2.2.2.2.2.2.2.1.1) (rfl) (Nat.lt_of_lt_of_eq h12 (hg.1.2.2.2.2.2.2.2.2.1.2).symm) (by omega) (ca.1 _ h12).1 ?_
      refine zV.astore_n (lo' := [(0, _), (1, _), (2, _), (3, _)]) C dX3_collapse_18 rfl (by decide) rfl rfl rfl ?_
      refine zV.aload_n C dX3_collapse_19 rfl rfl ?_
      refine zV.gNIv 130 (k := 2) C dX3_collapse_20 zcl_X0 (by decide) rfl lk_X3_116 ck rfl (c3) ?_
      refine zV.bi (v := nI 9) C dX3_collapse_23 (by decide) ?_
      refine zV.icmp_le (tgt := 53) C dX3_collapse_25 (by decide) (fun q25 => ?_) (fun q25 => ?_)
      · have hst9 : stay c = true := decide_eq_true ((nI_leI (by omega) (by decide)).mp q25)
        refine zV.aload_n C dX3_collapse_53 rfl rfl ?_
        refine zV.gR 195 (k := 3) C dX3_collapse_54 zcl_X3 (by decide) rfl lk_X3_30 (hg.1.1) rfl (hg.1.2.2.2.2.1) ?_
        refine zV.iload_n C dX3_collapse_57 rfl ?_
        refine zV.aload_n C dX3_collapse_58 rfl rfl ?_
        refine zV.gR 195 (k := 3) C dX3_collapse_59 zcl_X3 (by decide) rfl lk_X3_30 (hg.1.1) rfl (hg.1.2.2.2.2.1) ?_
        refine zV.iload_n C dX3_collapse_62 rfl ?_
        refine zV.aaldC (j := A.length) C dX3_collapse_63 (hg.1.2.2.2.2.2.2.2.2.1.1) (rfl) (Nat.lt_of_lt_of_eq (show A.length < 12 by omega) (hg.1.2.2.2.2.2.2.2.2.1.2).symm) (by omega) (ca.1 _ (show A.length < 12 by omega)).1 ?_
        refine zV.aastC (j := A.length + B.length) C dX3_collapse_64 (hg.1.2.2.2.2.2.2.2.2.1.1) (rfl) (Nat.lt_of_lt_of_eq h12 (hg.1.2.2.2.2.2.2.2.2.1.2).symm) (by omega) (zCs_k hg.1 ca (show A.length < 12 by omega)) ?_
        refine zV.aload_n C dX3_collapse_65 rfl rfl ?_
        refine zV.gR 195 (k := 3) C dX3_collapse_66 zcl_X3 (by decide) rfl lk_X3_30 (kR hg.1.1) rfl (hg.1.2.2.2.2.1) ?_
        refine zV.iload_n C dX3_collapse_69 rfl ?_
        refine zV.aload_n C dX3_collapse_70 rfl rfl ?_
        refine zV.aastC (j := A.length) C dX3_collapse_71 (kR hg.1.2.2.2.2.2.2.2.2.1.1) (rfl) (Nat.lt_of_lt_of_eq (show A.length < 12 by omega) (hg.1.2.2.2.2.2.2.2.2.1.2).symm) (by omega) (kR ck) ?_
        obtain ⟨B', eB, hB⟩ := swp_list (A := A) (B := B) (C := R) (c := c)
        have el : (A ++ [c] ++ B' ++ R).length = (gC g).length := by simp; omega
        have x1 := zGx_swp (cs := A ++ [c] ++ B' ++ R) hg h12 (show A.length < 12 by omega) el hl (fun j d hd => by rw [he]; exact hB j d hd)
        have z1 : zSz (saR (saR h (b + 8) (A.length + B.length) (some (cA h b A.length))) (b + 8) A.length (some (cA h b (A.length + B.length)))) b (hsz (A ++ [c] ++ R)) := by
          refine zSz_R (zSz_R ?_)
          rw [List.append_assoc]
          exact hz
        have f1 : zFr h (saR (saR h (b + 8) (A.length + B.length) (some (cA h b A.length))) (b + 8) A.length (some (cA h b (A.length + B.length)))) b := ((zFr.refl h b).saR (by omega) (by omega)).saR (by omega) (by omega)
        generalize saR (saR h (b + 8) (A.length + B.length) (some (cA h b A.length))) (b + 8) A.length (some (cA h b (A.length + B.length))) = h1 at *
        refine zV.iinc (lo' := [(0, _), (1, _), (2, _), (3, _)]) C dX3_collapse_72 rfl (by decide) rfl rfl rfl ?_
        refine zV.iinc (lo' := [(0, _), (1, _), (2, _), (3, _)]) C dX3_collapse_75 rfl (by decide) rfl rfl rfl ?_
        refine zV.goto (tgt := 4) C dX3_collapse_78 (by decide) ?_
        simp only [inc1]
        have eA : (c :: R).filter stay = c :: R.filter stay := by rw [List.filter_cons, if_pos hst9]
        have eA2 : A ++ (c :: R).filter stay = A ++ [c] ++ R.filter stay := by rw [eA, List.append_assoc]; rfl
        have eA3 : (c :: R).length - ((c :: R).filter stay).length = R.length - (R.filter stay).length := by rw [eA, List.length_cons, List.length_cons, Nat.succ_sub_succ]
        rw [eA2, eA3] at kx
        have hw2 : ∀ d ∈ A ++ [c] ++ B' ++ R, chL d < 6 ∧ chR d ≤ 11 := fun d hd => by
          obtain ⟨j, hj⟩ := List.mem_iff_getElem?.mp hd
          have := hB j d hj
          rw [← he] at this
          exact hw d (List.mem_of_getElem? this)
        have k2 := ih (A ++ [c]) B' h1 (gwC g (A ++ [c] ++ B' ++ R)) x1 rfl z1 (Nat.le_trans (Nat.le_of_eq el) hl) hw2 (fun h' B2 hx' hl' hz' hf' => kx h' B2 hx' (hl'.trans el) hz' (f1.trans hf'))
        rw [show (A ++ [c]).length = A.length + 1 by simp, eB, show A.length + 1 + B.length = A.length + B.length + 1 by omega] at k2
        exact zV.sub [0, 1, 2] rfl k2
      · have hst9 : ¬ stay c = true := fun z => q25 ((nI_leI (by omega) (by decide)).mpr (of_decide_eq_true z))
        refine zV.aload_n C dX3_collapse_28 rfl rfl ?_
        refine zV.gR 194 (k := 2) C dX3_collapse_29 zcl_X3 (by decide) rfl lk_X3_25 (hg.1.1) rfl (hg.1.2.2.2.1) ?_
        refine zV.aload_n C dX3_collapse_32 rfl rfl ?_
        refine zV.gNIv 129 (k := 1) C dX3_collapse_33 zcl_X0 (by decide) rfl lk_X3_113 ck rfl (c2) ?_
        refine zV.ic (v := (-1)) C dX3_collapse_36 (by decide) ?_
        refine zV.callV (n := 2) C G dX3_collapse_37 (s_LawnRow_grow hzs hst h (b + 6) (chL c) (-1) u1 hg.1.2.2.2.2.2.2.2.1) rfl ⟨cd_X7_grow, lk_X3_126, im_X7_grow, se_X7_X7_grow, in_X7⟩ ⟨⟨by decide, by decide⟩, by decide⟩ rfl rfl rfl (hg.1.2.2.2.2.2.2.2.1.1) ⟨rfl, by decide⟩ (zafv ?_) (zno)
        have x1 : zGx (saI h (b + 6 + 1) (chL c) (aI h (b + 6 + 1) (chL c) + -1)) b g := zGx_size hg
        have z1 : zSz (saI h (b + 6 + 1) (chL c) (aI h (b + 6 + 1) (chL c) + -1)) b (hsz (A ++ R)) := by
          refine zSz_size (n := hsz (A ++ R) (chL c)) hz ?_ rfl (fun i hi => ?_)
          · show aI h (b + 7) (chL c) + -1 = _
            rw [hz _ u1, hsz_app, show hsz (c :: R) (chL c) = hsz ([c] ++ R) (chL c) from rfl, hsz_app, hsz_one, if_pos rfl, hsz_app, show hsz A (chL c) + (1 + hsz R (chL c)) = hsz A (chL c) + hsz R (chL c) + 1 by omega]
            exact pk_m1 _
          · rw [hsz_app, hsz_app, show hsz (c :: R) i = hsz ([c] ++ R) i from rfl, hsz_app, hsz_one, if_neg (fun z => hi z.symm), Nat.zero_add]
        have f1 : zFr h (saI h (b + 6 + 1) (chL c) (aI h (b + 6 + 1) (chL c) + -1)) b := (zFr.refl h b).saI (by omega) (by omega)
        generalize saI h (b + 6 + 1) (chL c) (aI h (b + 6 + 1) (chL c) + -1) = h1 at *
        clear hg
        have hg := x1
        refine zV.aload_n C dX3_collapse_40 rfl rfl ?_
        refine zV.dup C dX3_collapse_41 rfl ?_
        refine zV.gIv 200 (k := 8) C dX3_collapse_42 zcl_X3 (by decide) rfl lk_X3_62 (hg.1.1) rfl ((nGx hg).2.2.2.2.1) ?_
        refine zV.ic (v := nI 1) C dX3_collapse_45 (by decide) ?_
        refine zV.iadd C dX3_collapse_46 ?_
        rw [show nI (gF g) + nI 1 = nI (gF g + 1) from nI_1 _]
        refine zV.pI 200 (k := 8) C dX3_collapse_47 zcl_X3 (by decide) rfl lk_X3_62 rfl (hg.1.1) rfl ⟨rfl, rfl⟩ ?_
        refine zV.goto (tgt := 75) C dX3_collapse_50 (by decide) ?_
        refine zV.iinc (lo' := [(0, _), (1, _), (2, _), (3, _)]) C dX3_collapse_75 rfl (by decide) rfl rfl rfl ?_
        refine zV.goto (tgt := 4) C dX3_collapse_78 (by decide) ?_
        rw [inc1]
        have x2 := zGx_200 (v := gF g + 1) hg hl
        have z2 : zSz (sI h1 200 b (nI (gF g + 1))) b (hsz (A ++ R)) := zSz_I z1
        have f2 : zFr h (sI h1 200 b (nI (gF g + 1))) b := f1.sI (by omega) (by omega)
        generalize sI h1 200 b (nI (gF g + 1)) = h2 at *
        have k2 := ih A (B ++ [c]) h2 _ x2 (by show gC g = _; rw [he]; simp) z2 hl hw (fun h' B2 hx' hl' hz' hf' => by
          have eA : (c :: R).filter stay = R.filter stay := by rw [List.filter_cons, if_neg hst9]
          have e3 : (R.filter stay).length ≤ R.length := List.length_filter_le _ _
          have k3 := kx h' B2 (by
            rw [eA, List.length_cons, show R.length + 1 - (R.filter stay).length = 1 + (R.length - (R.filter stay).length) by omega, ← Nat.add_assoc (gF g)]
            exact hx') (by rw [eA]; exact hl') (by rw [eA]; exact hz') (f2.trans hf')
          rw [eA] at k3
          exact k3)
        rw [show A.length + (B ++ [c]).length = A.length + B.length + 1 by simp; omega] at k2
        exact zV.sub [0, 1, 2] rfl k2
set_option maxHeartbeats 4000000 in
set_option maxRecDepth 100000 in
theorem s_collapse {l : Launch} {E : zG} (hzs : zS E) (hst : l.stackTraces = false) (h : zH) (b : Nat) (g : zGd)  (hg : zGa h b g) (hw : gL g) : zMet l E yX3_collapse cX3_collapse 4 none ({ frames := 1, cells := 0, slots := 0, locals := 22 } : Room) 0 0 [.ref b] h (fun r h' => r = none ∧ zGa h' b (col g) ∧ zFr h h' b) (fun _ _ => False) := by
  refine zM_start hzs hst (by decide) (Nat.le_of_ble_eq_true rfl) (fun X C G F I => ?_)
  show zV X 0 0 _ 0 [(0, _)] []
  refine zV.ic (v := nI 0) C dX3_collapse_0 (by decide) ?_
  refine zV.istore_n (lo' := [(0, _), (1, _)]) C dX3_collapse_1 (by decide) rfl rfl rfl ?_
  refine zV.ic (v := nI 0) C dX3_collapse_2 (by decide) ?_
  refine zV.istore_n (lo' := [(0, _), (1, _), (2, _)]) C dX3_collapse_3 (by decide) rfl rfl rfl ?_
  have k2 := L_collapse hzs hst C G rfl (gC g) [] [] h g (zGa_x hg) rfl (zGa_z hg) hw.2 hw.1 (fun h' B' hx hl' hz hf => by
    have hx : zGx h' b (gwF (gwC g ((gC g).filter stay ++ B')) (gF g + ((gC g).length - ((gC g).filter stay).length))) := hx
    have e3 : ((gC g).filter stay).length ≤ (gC g).length := List.length_filter_le _ _
    have hl2 := hw.2
    have hz : zSz h' b (hsz ((gC g).filter stay)) := hz
    refine zV.aload_n C dX3_collapse_81 rfl rfl ?_
    refine zV.iload_n C dX3_collapse_82 rfl ?_
    refine zV.pI 196 (k := 4) C dX3_collapse_83 zcl_X3 (by decide) rfl lk_X3_50 rfl (hx.1.1) rfl ⟨rfl, rfl⟩ ?_
    refine zV.vret C F dX3_collapse_86 rfl ?_
    have x2 := zGx_196 (cs := (gC g).filter stay) hx (by omega) (zCs_list (cGx hx) (fun i d hd => by
      show ((gC g).filter stay ++ B')[i]? = some d
      rw [List.getElem?_append_left ((List.getElem?_eq_some_iff.mp hd).1)]
      exact hd))
    exact ⟨rfl, zGa_of x2 hz, hf.sI (by omega) (by omega)⟩)
  exact k2
theorem hsz_filter (cs : List zCh) (l : Nat) : hsz (cs.filter stay) l ≤ hsz cs l := (List.filter_sublist).countP_le
-- what a day keeps
theorem grC_all {l w : Nat} (hw : w ≤ 1) : ∀ {t : List zCh} {s : Nat}, (grC l w t s).1.map chI = t.map chI ∧ (grC l w t s).1.map chL = t.map chL ∧ (grC l w t s).1.map chD = t.map chD ∧ (grC l w t s).1.length = t.length ∧ (grC l w t s).2.2 ≤ t.countP (chGr l) ∧ (∀ (i : Nat) (d : zCh), (grC l w t s).1[i]? = some d → ∃ c, t[i]? = some c ∧ chL d = chL c ∧ chI d = chI c ∧ chD d = chD c ∧ (chL c ≠ l → chR d = chR c) ∧ chR d ≤ chR c + 2)
  | [], s => ⟨rfl, rfl, rfl, rfl, Nat.le_refl _, fun i d h => by cases i <;> cases h⟩
  | c :: t, s => by
    obtain ⟨i1, i2, i3, i4, i5, i6⟩ := grC_all (l := l) hw (t := t) (s := (grS l w c s).2.1)
    have e1 : chI (grS l w c s).1 = chI c := by unfold grS; split; (split <;> rfl); rfl
    have e2 : chL (grS l w c s).1 = chL c := grS_chL
    have e3 : chD (grS l w c s).1 = chD c := by unfold grS; split; (split <;> rfl); rfl
    have e4 : chL c ≠ l → chR (grS l w c s).1 = chR c := by
      intro z
      unfold grS
      rw [if_neg (fun y => z (chGr_L y))]
    have e5 : chR (grS l w c s).1 ≤ chR c + 2 := by
      unfold grS
      split
      · split
        · show chR c + w ≤ _; omega
        · show chR c + 1 + w ≤ _; omega
      · show chR c ≤ _; omega
    have e6 : (grS l w c s).2.2 ≤ if chGr l c = true then 1 else 0 := by
      unfold grS
      split
      · split <;> simp
      · simp
    refine ⟨?_, ?_, ?_, ?_, ?_, fun i d h => ?_⟩
    · show chI _ :: _ = _
      rw [i1, e1]; rfl
    · show chL _ :: _ = _
      rw [i2, e2]; rfl
    · show chD _ :: _ = _
      rw [i3, e3]; rfl
    · show _ + 1 = _
      rw [i4]; rfl
    · show (grS l w c s).2.2 + _ ≤ _
      rw [cnt_cons]
      omega
    · cases i with
      | zero =>
        cases h
        exact ⟨c, rfl, e2, e1, e3, e4, e5⟩
      | succ i => exact i6 i d h
theorem hsz_mapL {a b : List zCh} (e : a.map chL = b.map chL) (l : Nat) : hsz a l = hsz b l := by
  have h : ∀ cs : List zCh, hsz cs l = (cs.map chL).countP (fun x => decide (x = l)) := fun cs => by
    unfold hsz
    rw [List.countP_map]
    rfl
  rw [h, h, e]
theorem gD_col (g : zGd) : gD (col g) = gD g := rfl
theorem len_col {g : zGd} (h : (gC g).length ≤ 12) : (gC (col g)).length ≤ 12 := Nat.le_trans (List.length_filter_le _ _) h
/-- in the midst of a day: the chairs of the lawns from k on are not yet grazed -/
def gK (k : Nat) (g : zGd) : Prop := gW0 g ∧ ∀ c ∈ gC g, k ≤ chL c → chR c ≤ 9
theorem gL_of {g : zGd} (w : gW0 g) : gL g := ⟨fun c hc => ⟨(w.1 c hc).2.1, (w.1 c hc).2.2.1⟩, w.2.2.1⟩
theorem gK_grz {k s : Nat} {g : zGd} (w : gK k g) : gK (k + 1) (grz g k s) := by
  obtain ⟨⟨w1, w2, w3, w4, w5, w6⟩, w7⟩ := w
  obtain ⟨i1, i2, i3, i4, i5, i6⟩ := grC_all (l := k) (wOf_le s) (t := gC g) (s := gS g k)
  refine ⟨⟨fun d hd => ?_, ?_, ?_, fun j hj => ?_, w5, w6⟩, fun d hd hk => ?_⟩
  · obtain ⟨i, hi⟩ := List.mem_iff_getElem?.mp (show d ∈ (grC k (wOf s) (gC g) (gS g k)).1 from hd)
    obtain ⟨c, h1, h2, h3, h4, h5, h6⟩ := i6 i d hi
    have q := w1 c (List.mem_of_getElem? h1)
    refine ⟨by rw [h3]; exact q.1, by rw [h2]; exact q.2.1, ?_, by rw [h4]; exact q.2.2.2⟩
    by_cases z : chL c = k
    · have := w7 c (List.mem_of_getElem? h1) (by omega)
      omega
    · rw [h5 z]; exact q.2.2.1
  · show ((grC k (wOf s) (gC g) (gS g k)).1.map chI).Nodup
    rw [i1]; exact w2
  · show (grC k (wOf s) (gC g) (gS g k)).1.length ≤ 12
    rw [i4]; exact w3
  · show upN (gS g) k _ j ≤ 20
    unfold upN
    split
    · exact Nat.min_le_left _ _
    · exact w4 j hj
  · obtain ⟨i, hi⟩ := List.mem_iff_getElem?.mp (show d ∈ (grC k (wOf s) (gC g) (gS g k)).1 from hd)
    obtain ⟨c, h1, h2, h3, h4, h5, h6⟩ := i6 i d hi
    rw [h5 (by omega)]
    exact w7 c (List.mem_of_getElem? h1) (by omega)
theorem gK_grs {s : Nat} {g : zGd} (w : gW0 g) (h9 : g9 g) : ∀ k, gK k (grs g s k)
  | 0 => ⟨w, fun c hc _ => h9 c hc⟩
  | k + 1 => gK_grz (gK_grs w h9 k)
set_option maxHeartbeats 4000000 in
set_option maxRecDepth 100000 in
theorem L_passOneDay {X : zX} {l : Launch} {E : zG} {rm : Room} (hzs : zS E) (hst : l.stackTraces = false) (C : zC X cX3_passOneDay RX3 3) (G : zGX X l E rm) {h0 : zH} {b s9 : Nat} {g0 : zGd} {Qr : Option Value → zH → Prop} {Qx : String → zH → Prop} (hr : rm = ({ frames := 2, cells := 0, slots := 0, locals := 47 } : Room)) (F : zF X none 0 0 Qr Qx) (hs9 : s9 < 4) (hw : gW0 g0) (h9 : g9 g0) (hq : ∀ h', zGa h' b (gwD (col (grs g0 s9 6)) (gD g0 + 1)) → zFr h0 h' b → Qr none h') : ∀ n k h, k ≤ 6 → 7 ≤ k + n → zGa h b (grs g0 s9 k) → gD (grs g0 s9 k) = gD g0 → zFr h0 h b → zV X 0 0 h 7 [(0, .ref b), (1, .int (nI s9)), (2, .int (nI k))] [] := by
  subst hr
  intro n
  induction n with
  | zero => intro k h h1 h2; exact absurd h2 (by omega)
  | succ n ih =>
    intro k h hk hn hg hD f
    have kk := gK_grs (s := s9) hw h9 k
    refine zV.iload_n C dX3_passOneDay_7 rfl ?_
    refine zV.bi (v := nI 6) C dX3_passOneDay_8 (by decide) ?_
    refine zV.icmp_ge (tgt := 25) C dX3_passOneDay_10 (by decide) (fun q10 => ?_) (fun q10 => ?_)
    · have e : k = 6 := by have := nle (by omega) (by decide) q10; omega
      subst e
      refine zV.aload_n C dX3_passOneDay_25 rfl rfl ?_
      refine zV.callV (n := 0) C G dX3_passOneDay_26 (s_collapse hzs hst h b (grs g0 s9 6) hg (gL_of kk.1)) rfl ⟨cd_X3_collapse, lk_X3_174, im_X3_collapse, se_X3_X3_collapse, in_X3⟩ ⟨⟨by decide, by decide⟩, by decide⟩ rfl rfl rfl (hg.1.1) ⟨rfl, by decide⟩ (zafRv (fun h9 ⟨hg, f9⟩ => ?_)) (zno)
      refine zV.aload_n C dX3_passOneDay_29 rfl rfl ?_
      refine zV.dup C dX3_passOneDay_30 rfl ?_
      refine zV.gIv 198 (k := 6) C dX3_passOneDay_31 zcl_X3 (by decide) rfl lk_X3_59 (hg.1.1) rfl (((zGa_n hg).2.2.1.trans (congrArg nI ((gD_col _).trans hD)))) ?_
      refine zV.ic (v := nI 1) C dX3_passOneDay_34 (by decide) ?_
      refine zV.iadd C dX3_passOneDay_35 ?_
      rw [show nI (gD g0) + nI 1 = nI (gD g0 + 1) from nI_1 _]
      refine zV.pI 198 (k := 6) C dX3_passOneDay_36 zcl_X3 (by decide) rfl lk_X3_59 rfl (hg.1.1) rfl ⟨rfl, rfl⟩ ?_
      refine zV.vret C F dX3_passOneDay_39 rfl ?_
      exact hq _ (zGa_of (zGx_198 (zGa_x hg) (len_col kk.1.2.2.1)) (zSz_I (zGa_z (g := col (grs g0 s9 6)) hg))) ((f.trans f9).sI (by omega) (by omega))
    · have hk6 : k < 6 := nlt (by omega) (by decide) q10
      refine zV.aload_n C dX3_passOneDay_13 rfl rfl ?_
      refine zV.iload_n C dX3_passOneDay_14 rfl ?_
      refine zV.iload_n C dX3_passOneDay_15 rfl ?_
      refine zV.callV (n := 2) C G dX3_passOneDay_16 (s_graze hzs hst h b (grs g0 s9 k) k s9 hk6 hs9 hg (gL_of kk.1) (fun c hc hL => kk.2 c hc (by omega)) kk.1.2.2.2.1) rfl ⟨cd_X3_graze, lk_X3_171, im_X3_graze, se_X3_X3_graze, in_X3⟩ ⟨⟨by decide, by decide⟩, by decide⟩ rfl rfl rfl (hg.1.1) ⟨rfl, by decide⟩ (zafRv (fun h9 ⟨hg9, f9⟩ => ?_)) (zno)
      refine zV.iinc (lo' := [(0, _), (1, _), (2, _)]) C dX3_passOneDay_19 rfl (by decide) rfl rfl rfl ?_
      refine zV.goto (tgt := 7) C dX3_passOneDay_22 (by decide) ?_
      rw [inc1]
      exact ih (k + 1) h9 (by omega) (by omega) hg9 hD (f.trans f9)
set_option maxHeartbeats 4000000 in
set_option maxRecDepth 100000 in
theorem s_passOneDay {l : Launch} {E : zG} (hzs : zS E) (hst : l.stackTraces = false) (h : zH) (b : Nat) (g : zGd)  (hg : zGa h b g) (hw : gW g) (h9 : g9 g) : zMet l E yX3_passOneDay cX3_passOneDay 3 none ({ frames := 2, cells := 0, slots := 0, locals := 47 } : Room) 0 0 [.ref b] h (fun r h' => r = none ∧ zGa h' b (dayO g) ∧ zFr h h' b) (fun _ _ => False) := by
  refine zM_start hzs hst (by decide) (Nat.le_of_ble_eq_true rfl) (fun X C G F I => ?_)
  show zV X 0 0 _ 0 [(0, _)] []
  refine zV.aload_n C dX3_passOneDay_0 rfl rfl ?_
  refine zV.callV (n := 0) C G dX3_passOneDay_1 (s_comingSeason hzs hst h b g hg hw) rfl ⟨cd_X3_comingSeason, lk_X3_168, im_X3_comingSeason, se_X3_X3_comingSeason, in_X3⟩ ⟨⟨by decide, by decide⟩, by decide⟩ rfl rfl rfl (hg.1.1) ⟨rfl, by decide⟩ (zaf ?_) (zno)
  refine zV.istore_n (lo' := [(0, _), (1, _)]) C dX3_passOneDay_4 (by decide) rfl rfl rfl ?_
  refine zV.ic (v := nI 0) C dX3_passOneDay_5 (by decide) ?_
  refine zV.istore_n (lo' := [(0, _), (1, _), (2, _)]) C dX3_passOneDay_6 (by decide) rfl rfl rfl ?_
  have e : ∀ h1, zGa h1 b (gwD (col (grs g (gD g / 5 % 4) 6)) (gD g + 1)) → zFr h h1 b → (none : Option Value) = none ∧ zGa h1 b (dayO g) ∧ zFr h h1 b := fun h1 q f => ⟨rfl, q, f⟩
  exact L_passOneDay (h0 := h) (s9 := gD g / 5 % 4) (g0 := g) hzs hst C G rfl F (Nat.mod_lt _ (by decide)) (gW_0 hw) h9 e 7 0 h (by omega) (by omega) (show zGa h b (grs g (gD g / 5 % 4) 0) from hg) (show gD g = gD g from rfl) (zFr.refl h b)
