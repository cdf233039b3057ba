set_option maxHeartbeats 4000000 in
set_option maxRecDepth 100000 in
theorem L_collapse {X : zX} {l : Launch} {E : zG} {rm : Room} (hzs : zS E) (hst : l.stackTraces = false) (C : zC X cX3_collapse RX3 4) (G : zGX X l E rm) {b : Nat} (hr : rm = ({ frames := 1, cells := 0, slots := 0, locals := 22 } : Room)) : ∀ (R : List zCh) (A B : List zCh) h g, zGx h b g → gC g = A ++ B ++ R → zSz h b (hsz (A ++ R)) → (gC g).length ≤ 12 → (∀ c ∈ gC g, chL c < 6 ∧ chR c ≤ 11) → (∀ h' B', zGx h' b (gwF (gwC g ((A ++ R.filter stay) ++ B')) (gF g + (R.length - (R.filter stay).length))) → (A ++ R.filter stay ++ B').length = (gC g).length → zSz h' b (hsz (A ++ R.filter stay)) → zFr h h' b → zV X 0 0 h' 81 [(0, .ref b), (1, .int (nI (A ++ R.filter stay).length))] []) → zV X 0 0 h 4 [(0, .ref b), (1, .int (nI A.length)), (2, .int (nI (A.length + B.length)))] [] := by
  subst hr
  intro R
  induction R with
  | nil =>
    intro A B h g hg he hz hl hw kx
    have hlen : hI h 196 b = nI (gC g).length := (nGx hg).1
    have e2 : A.length + B.length = (gC g).length := by rw [he]; simp
    refine zV.iload_n C dX3_collapse_4 rfl ?_
    refine zV.aload_n C dX3_collapse_5 rfl rfl ?_
    refine zV.gIv 196 (k := 4) C dX3_collapse_6 zcl_X3 (by decide) rfl lk_X3_50 (hg.1.1) rfl hlen ?_
    refine zV.icmp_ge (tgt := 81) C dX3_collapse_9 (by decide) (fun q9 => ?_) (fun q9 => ?_)
    · have k2 := kx h B (by
        rw [List.filter_nil, List.append_nil]
        show zGx h b (gwF (gwC g (A ++ B)) (gF g + 0))
        rw [← List.append_nil (A ++ B), ← he]
        exact hg) (by rw [List.filter_nil, List.append_nil, he, List.append_nil]) (by rw [List.filter_nil]; exact hz) (zFr.refl h b)
      rw [List.filter_nil, List.append_nil] at k2
      exact zV.sub [0, 1] rfl k2
    · exact absurd (nI_le (Nat.le_of_eq e2.symm) (by omega)) q9
  | cons c R ih =>
    intro A B h g hg he hz hl hw kx
    have hlen : hI h 196 b = nI (gC g).length := (nGx hg).1
    have e2 : A.length + B.length + 1 + R.length = (gC g).length := by rw [he]; simp; omega
    have hc : (gC g)[A.length + B.length]? = some c := by
      rw [he, List.getElem?_append_right (by simp), List.length_append, Nat.sub_self]
      rfl
    have h12 : A.length + B.length < 12 := by omega
    have ca := cGx hg
    obtain ⟨c1, c2, c3, c4, c5⟩ := ca.2.2.1 _ c hc
    obtain ⟨u1, u2⟩ := hw c (List.mem_of_getElem? hc)
    have ck := zCs_k hg.1 ca h12
    refine zV.iload_n C dX3_collapse_4 rfl ?_
    refine zV.aload_n C dX3_collapse_5 rfl rfl ?_
    refine zV.gIv 196 (k := 4) C dX3_collapse_6 zcl_X3 (by decide) rfl lk_X3_50 (hg.1.1) rfl (hlen) ?_
    refine zV.icmp_ge (tgt := 81) C dX3_collapse_9 (by decide) (fun q9 => ?_) (fun q9 => ?_)
    · exact absurd (nle (by omega) (by omega) q9) (by omega)
    · refine zV.aload_n C dX3_collapse_12 rfl rfl ?_
      refine zV.gR 195 (k := 3) C dX3_collapse_13 zcl_X3 (by decide) rfl lk_X3_30 (hg.1.1) rfl (hg.1.2.2.2.2.1) ?_
      refine zV.iload_n C dX3_collapse_16 rfl ?_
      refine zV.aaldC (j := A.length + B.length) C dX3_collapse_17 (hg.1.2.2.2.2.2.2.2.2.1.1) (rfl) (Nat.lt_of_lt_of_eq h12 (hg.1.2.2.2.2.2.2.2.2.1.2).symm) (by omega) (ca.1 _ h12).1 ?_
      refine zV.astore_n (lo' := [(0, _), (1, _), (2, _), (3, _)]) C dX3_collapse_18 rfl (by decide) rfl rfl rfl ?_
      refine zV.aload_n C dX3_collapse_19 rfl rfl ?_
      refine zV.gNIv 130 (k := 2) C dX3_collapse_20 zcl_X0 (by decide) rfl lk_X3_116 ck rfl (c3) ?_
      refine zV.bi (v := nI 9) C dX3_collapse_23 (by decide) ?_
      refine zV.icmp_le (tgt := 53) C dX3_collapse_25 (by decide) (fun q25 => ?_) (fun q25 => ?_)
      · have hst9 : stay c = true := decide_eq_true ((nI_leI (by omega) (by decide)).mp q25)
        refine zV.aload_n C dX3_collapse_53 rfl rfl ?_
        refine zV.gR 195 (k := 3) C dX3_collapse_54 zcl_X3 (by decide) rfl lk_X3_30 (hg.1.1) rfl (hg.1.2.2.2.2.1) ?_
        refine zV.iload_n C dX3_collapse_57 rfl ?_
        refine zV.aload_n C dX3_collapse_58 rfl rfl ?_
        refine zV.gR 195 (k := 3) C dX3_collapse_59 zcl_X3 (by decide) rfl lk_X3_30 (hg.1.1) rfl (hg.1.2.2.2.2.1) ?_
        refine zV.iload_n C dX3_collapse_62 rfl ?_
        refine zV.aaldC (j := A.length) C dX3_collapse_63 (hg.1.2.2.2.2.2.2.2.2.1.1) (rfl) (Nat.lt_of_lt_of_eq (show A.length < 12 by omega) (hg.1.2.2.2.2.2.2.2.2.1.2).symm) (by omega) (ca.1 _ (show A.length < 12 by omega)).1 ?_
        refine zV.aastC (j := A.length + B.length) C dX3_collapse_64 (hg.1.2.2.2.2.2.2.2.2.1.1) (rfl) (Nat.lt_of_lt_of_eq h12 (hg.1.2.2.2.2.2.2.2.2.1.2).symm) (by omega) (zCs_k hg.1 ca (show A.length < 12 by omega)) ?_
        refine zV.aload_n C dX3_collapse_65 rfl rfl ?_
        refine zV.gR 195 (k := 3) C dX3_collapse_66 zcl_X3 (by decide) rfl lk_X3_30 (kR hg.1.1) rfl (hg.1.2.2.2.2.1) ?_
        refine zV.iload_n C dX3_collapse_69 rfl ?_
        refine zV.aload_n C dX3_collapse_70 rfl rfl ?_
        refine zV.aastC (j := A.length) C dX3_collapse_71 (kR hg.1.2.2.2.2.2.2.2.2.1.1) (rfl) (Nat.lt_of_lt_of_eq (show A.length < 12 by omega) (hg.1.2.2.2.2.2.2.2.2.1.2).symm) (by omega) (kR ck) ?_
        obtain ⟨B', eB, hB⟩ := swp_list (A := A) (B := B) (C := R) (c := c)
        have el : (A ++ [c] ++ B' ++ R).length = (gC g).length := by simp; omega
        have x1 := zGx_swp (cs := A ++ [c] ++ B' ++ R) hg h12 (show A.length < 12 by omega) el hl (fun j d hd => by rw [he]; exact hB j d hd)
        have z1 : zSz (saR (saR h (b + 8) (A.length + B.length) (some (cA h b A.length))) (b + 8) A.length (some (cA h b (A.length + B.length)))) b (hsz (A ++ [c] ++ R)) := by
          refine zSz_R (zSz_R ?_)
          rw [List.append_assoc]
          exact hz
        have f1 : zFr h (saR (saR h (b + 8) (A.length + B.length) (some (cA h b A.length))) (b + 8) A.length (some (cA h b (A.length + B.length)))) b := ((zFr.refl h b).saR (by omega) (by omega)).saR (by omega) (by omega)
        generalize saR (saR h (b + 8) (A.length + B.length) (some (cA h b A.length))) (b + 8) A.length (some (cA h b (A.length + B.length))) = h1 at *
        refine zV.iinc (lo' := [(0, _), (1, _), (2, _), (3, _)]) C dX3_collapse_72 rfl (by decide) rfl rfl rfl ?_
        refine zV.iinc (lo' := [(0, _), (1, _), (2, _), (3, _)]) C dX3_collapse_75 rfl (by decide) rfl rfl rfl ?_
        refine zV.goto (tgt := 4) C dX3_collapse_78 (by decide) ?_
        simp only [inc1]
        have eA : (c :: R).filter stay = c :: R.filter stay := by rw [List.filter_cons, if_pos hst9]
        have eA2 : A ++ (c :: R).filter stay = A ++ [c] ++ R.filter stay := by rw [eA, List.append_assoc]; rfl
        have eA3 : (c :: R).length - ((c :: R).filter stay).length = R.length - (R.filter stay).length := by rw [eA, List.length_cons, List.length_cons, Nat.succ_sub_succ]
        rw [eA2, eA3] at kx
        have hw2 : ∀ d ∈ A ++ [c] ++ B' ++ R, chL d < 6 ∧ chR d ≤ 11 := fun d hd => by
          obtain ⟨j, hj⟩ := List.mem_iff_getElem?.mp hd
          have := hB j d hj
          rw [← he] at this
          exact hw d (List.mem_of_getElem? this)
        have k2 := ih (A ++ [c]) B' h1 (gwC g (A ++ [c] ++ B' ++ R)) x1 rfl z1 (Nat.le_trans (Nat.le_of_eq el) hl) hw2 (fun h' B2 hx' hl' hz' hf' => kx h' B2 hx' (hl'.trans el) hz' (f1.trans hf'))
        rw [show (A ++ [c]).length = A.length + 1 by simp, eB, show A.length + 1 + B.length = A.length + B.length + 1 by omega] at k2
        exact zV.sub [0, 1, 2] rfl k2
      · have hst9 : ¬ stay c = true := fun z => q25 ((nI_leI (by omega) (by decide)).mpr (of_decide_eq_true z))
        refine zV.aload_n C dX3_collapse_28 rfl rfl ?_
        refine zV.gR 194 (k := 2) C dX3_collapse_29 zcl_X3 (by decide) rfl lk_X3_25 (hg.1.1) rfl (hg.1.2.2.2.1) ?_
        refine zV.aload_n C dX3_collapse_32 rfl rfl ?_
        refine zV.gNIv 129 (k := 1) C dX3_collapse_33 zcl_X0 (by decide) rfl lk_X3_113 ck rfl (c2) ?_
        refine zV.ic (v := (-1)) C dX3_collapse_36 (by decide) ?_
        refine zV.callV (n := 2) C G dX3_collapse_37 (s_LawnRow_grow hzs hst h (b + 6) (chL c) (-1) u1 hg.1.2.2.2.2.2.2.2.1) rfl ⟨cd_X7_grow, lk_X3_126, im_X7_grow, se_X7_X7_grow, in_X7⟩ ⟨⟨by decide, by decide⟩, by decide⟩ rfl rfl rfl (hg.1.2.2.2.2.2.2.2.1.1) ⟨rfl, by decide⟩ (zafv ?_) (zno)
        have x1 : zGx (saI h (b + 6 + 1) (chL c) (aI h (b + 6 + 1) (chL c) + -1)) b g := zGx_size hg
        have z1 : zSz (saI h (b + 6 + 1) (chL c) (aI h (b + 6 + 1) (chL c) + -1)) b (hsz (A ++ R)) := by
          refine zSz_size (n := hsz (A ++ R) (chL c)) hz ?_ rfl (fun i hi => ?_)
          · show aI h (b + 7) (chL c) + -1 = _
            rw [hz _ u1, hsz_app, show hsz (c :: R) (chL c) = hsz ([c] ++ R) (chL c) from rfl, hsz_app, hsz_one, if_pos rfl, hsz_app, show hsz A (chL c) + (1 + hsz R (chL c)) = hsz A (chL c) + hsz R (chL c) + 1 by omega]
            exact pk_m1 _
          · rw [hsz_app, hsz_app, show hsz (c :: R) i = hsz ([c] ++ R) i from rfl, hsz_app, hsz_one, if_neg (fun z => hi z.symm), Nat.zero_add]
        have f1 : zFr h (saI h (b + 6 + 1) (chL c) (aI h (b + 6 + 1) (chL c) + -1)) b := (zFr.refl h b).saI (by omega) (by omega)
        generalize saI h (b + 6 + 1) (chL c) (aI h (b + 6 + 1) (chL c) + -1) = h1 at *
        clear hg
        have hg := x1
        refine zV.aload_n C dX3_collapse_40 rfl rfl ?_
        refine zV.dup C dX3_collapse_41 rfl ?_
        refine zV.gIv 200 (k := 8) C dX3_collapse_42 zcl_X3 (by decide) rfl lk_X3_62 (hg.1.1) rfl ((nGx hg).2.2.2.2.1) ?_
        refine zV.ic (v := nI 1) C dX3_collapse_45 (by decide) ?_
        refine zV.iadd C dX3_collapse_46 ?_
        rw [show nI (gF g) + nI 1 = nI (gF g + 1) from nI_1 _]
        refine zV.pI 200 (k := 8) C dX3_collapse_47 zcl_X3 (by decide) rfl lk_X3_62 rfl (hg.1.1) rfl ⟨rfl, rfl⟩ ?_
        refine zV.goto (tgt := 75) C dX3_collapse_50 (by decide) ?_
        refine zV.iinc (lo' := [(0, _), (1, _), (2, _), (3, _)]) C dX3_collapse_75 rfl (by decide) rfl rfl rfl ?_
        refine zV.goto (tgt := 4) C dX3_collapse_78 (by decide) ?_
        rw [inc1]
        have x2 := zGx_200 (v := gF g + 1) hg hl
        have z2 : zSz (sI h1 200 b (nI (gF g + 1))) b (hsz (A ++ R)) := zSz_I z1
        have f2 : zFr h (sI h1 200 b (nI (gF g + 1))) b := f1.sI (by omega) (by omega)
        generalize sI h1 200 b (nI (gF g + 1)) = h2 at *
        have k2 := ih A (B ++ [c]) h2 _ x2 (by show gC g = _; rw [he]; simp) z2 hl hw (fun h' B2 hx' hl' hz' hf' => by
          have eA : (c :: R).filter stay = R.filter stay := by rw [List.filter_cons, if_neg hst9]
          have e3 : (R.filter stay).length ≤ R.length := List.length_filter_le _ _
          have k3 := kx h' B2 (by
            rw [eA, List.length_cons, show R.length + 1 - (R.filter stay).length = 1 + (R.length - (R.filter stay).length) by omega, ← Nat.add_assoc (gF g)]
            exact hx') (by rw [eA]; exact hl') (by rw [eA]; exact hz') (f2.trans hf')
          rw [eA] at k3
          exact k3)
        rw [show A.length + (B ++ [c]).length = A.length + B.length + 1 by simp; omega] at k2
        exact zV.sub [0, 1, 2] rfl k2
