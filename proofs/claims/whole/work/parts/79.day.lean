/-! the reference: a day goes by -/
theorem rW_of {g : zGd} {cs R : List zCh} (h1 : R.length ≤ 12) (h2 : ∀ c ∈ R, chI c < big ∧ chL c < 6 ∧ chR c ≤ 11 ∧ chD c ≤ gD g) (h3 : ∀ l, l < 6 → hsz R l ≤ 5) (h4 : (R.map chI).Nodup) (hp : cs.Perm R) : rW g cs (hrd R) := by
  refine ⟨by rw [hp.length_eq]; exact h1, fun c hc => h2 c (hp.mem_iff.mp hc), fun l hl => by rw [hrd_len]; exact h3 l hl, fun l hl x hx => ?_, fun c hc => hrd_mem.mpr ⟨c, hp.mem_iff.mp hc, rfl, rfl⟩, fun l hl => List.Nodup.sublist (List.Sublist.map chI List.filter_sublist) h4, (hp.map chI).nodup_iff.mpr h4⟩
  obtain ⟨c, hc, e⟩ := hrd_mem.mp hx
  exact ⟨c, hp.mem_iff.mpr hc, e⟩
theorem rF_e {f : Nat → Int32} {g g' : zGd} {cs : List zCh} {H : Nat → List Nat} (q : rF f g cs H) (e1 : ∀ l, l < 6 → gS g' l = gS g l) (e2 : gN g' = gN g) (n : rNs f g') : rF f g' cs H :=
  ⟨q.1, q.2.1, fun l hl => by rw [e1 l hl, e2]; exact q.2.2.1 l hl, n⟩
theorem flt_mid {U V : List zCh} {d : zCh} {l : Nat} (hd : chL d = l) : flt (U ++ d :: V) l = flt U l ++ d :: flt V l := by
  unfold flt
  rw [List.filter_append, List.filter_cons, if_pos (decide_eq_true hd)]
theorem hrd_mid {U V : List zCh} {d : zCh} {l : Nat} (hd : chL d = l) : (hrd (U ++ d :: V) l)[(flt U l).length]? = some (chI d) := by
  rw [hrd_f, flt_mid hd, List.getElem?_map, List.getElem?_append_right (Nat.le_refl _), Nat.sub_self]; rfl
theorem set_mid {U V : List zCh} {d d' : zCh} : (U ++ d :: V).set U.length d' = U ++ d' :: V := by
  rw [List.set_append_right _ _ (Nat.le_refl _), Nat.sub_self]; rfl
theorem er_mid {U V : List zCh} {d : zCh} : (U ++ d :: V).eraseIdx U.length = U ++ V := by
  rw [List.eraseIdx_append_of_length_le (Nat.le_refl _), Nat.sub_self]; rfl
theorem get_mid {U V : List zCh} {d : zCh} : (U ++ d :: V)[U.length]? = some d := by
  rw [List.getElem?_append_right (Nat.le_refl _), Nat.sub_self]; rfl
set_option maxHeartbeats 4000000 in
set_option maxRecDepth 100000 in
theorem L_mgoesT {X : zX} {l : Launch} {E : zG} {rm : Room} (hzs : zS E) (hst : l.stackTraces = false) (C : zC X cX10_goesBy RX10 8) (G : zGX X l E rm) {h : zH} {r l9 s9 t j9 : Nat} {g : zGd} {U V cs : List zCh} {d : zCh} {f : Nat → Int32} (hm : zMs h r) (hl : l9 < 6) (hd : chL d = l9) (hp : cs.Perm (U ++ d :: V)) (hsrt : (cs.map chI).Pairwise (· < ·)) (hf : rF f g cs (hrd (U ++ d :: V))) (hw : rW g cs (hrd (U ++ d :: V))) {more : Nat} (hmo : more ≤ 2) (ht : t < 100) (h9 : chR d ≤ 9) (hcj : cs[j9]? = some d) (hj12 : j9 < 12) (hr : rm = ({ frames := 3, cells := 0, slots := 0, locals := 68 } : Room)) (n1 : chR d + more < 10 → ∀ f' cs', cs'.Perm (U ++ wR d (chR d + more) :: V) → (cs'.map chI).Pairwise (· < ·) → rF f' g cs' (hrd (U ++ wR d (chR d + more) :: V)) → zV X 0 0 (sRow h (r + 1) f') 33 [(0, .ref r), (1, .int (nI s9)), (2, .int (nI t)), (3, .int (nI l9)), (4, .int (nI (8 + 8 * l9))), (5, .int (nI ((flt U l9).length + 1)))] []) (n2 : 10 ≤ chR d + more → ∀ f' cs', cs'.Perm (U ++ V) → (cs'.map chI).Pairwise (· < ·) → rF f' g cs' (hrd (U ++ V)) → zV X 0 0 (sRow h (r + 1) f') 33 [(0, .ref r), (1, .int (nI s9)), (2, .int (nI (t + 1))), (3, .int (nI l9)), (4, .int (nI (8 + 8 * l9))), (5, .int (nI (flt U l9).length))] []) : zV X 0 0 (sRow h (r + 1) f) 132 [(0, .ref r), (1, .int (nI s9)), (2, .int (nI t)), (3, .int (nI l9)), (4, .int (nI (8 + 8 * l9))), (5, .int (nI ((flt U l9).length + 1))), (6, .int (nI j9)), (7, .int (nI more))] [] := by
  subst hr
  obtain ⟨c1, c2, c3, c4, c5⟩ := hf.1.2 j9 d hcj
  have nd := (hp.map chI).nodup_iff.mp hw.2.2.2.2.2.2
  have hq := hrd_mid (U := U) (V := V) hd
  have F9 : rF (fup f (56 + 5 * j9 + 2) (nI (chR d + more))) g (cs.set j9 (wR d (chR d + more))) (hrd (U ++ d :: V)) := rF_set hf hw.2.2.1 hcj (fun i hi => fup_n (by omega)) ⟨(fup_n (by omega)).trans c1, (fup_n (by omega)).trans c2, fup_e, (fup_n (by omega)).trans c4, (fup_n (by omega)).trans c5⟩
  have W9 := rW_set (c' := wR d (chR d + more)) hw hcj rfl rfl (show chR d + more ≤ 11 by omega) rfl
  have p9 : (cs.set j9 (wR d (chR d + more))).Perm (U ++ wR d (chR d + more) :: V) := by rw [← set_mid (d := d)]; exact perm_st _ hp nd hcj get_mid
  have s9_ : ((cs.set j9 (wR d (chR d + more))).map chI).Pairwise (· < ·) := srt_st hsrt hcj rfl
  have e9 : ∀ i, hrd (U ++ wR d (chR d + more) :: V) i = hrd (U ++ d :: V) i := fun i => by rw [← set_mid (d := d)]; exact hrd_set (c := d) (c' := wR d (chR d + more)) get_mid rfl rfl i
  have hk5 := hw.2.2.1 l9 hl
  have hkl := (List.getElem?_eq_some_iff.mp hq).1
  have hcj9 : (cs.set j9 (wR d (chR d + more)))[j9]? = some (wR d (chR d + more)) := by rw [List.getElem?_set, if_pos rfl, if_pos (List.getElem?_eq_some_iff.mp hcj).1]
  refine zV.aload_n C dX10_goesBy_132 rfl rfl ?_
  refine zV.iload C dX10_goesBy_133 rfl ?_
  refine zV.ic (v := nI 2) C dX10_goesBy_135 (by decide) ?_
  refine zV.aload_n C dX10_goesBy_136 rfl rfl ?_
  refine zV.iload C dX10_goesBy_137 rfl ?_
  refine zV.ic (v := nI 2) C dX10_goesBy_139 (by decide) ?_
  refine zV.callV (n := 2) C G dX10_goesBy_140 (s_mof hzs hst (sRow h (r + 1) f) r hm j9 2 hj12 (by decide)) rfl ⟨cd_X10_of, lk_X10_65, im_X10_of, se_X10_X10_of, in_X10⟩ ⟨⟨by decide, by decide⟩, by decide⟩ rfl rfl rfl (hm.1) ⟨rfl, by decide⟩ (zaf ?_) (zno)
  rw [aI_sRow, c3]
  refine zV.iload C dX10_goesBy_143 rfl ?_
  refine zV.iadd C dX10_goesBy_145 ?_
  rw [nI_add]
  refine zV.callV (n := 3) C G dX10_goesBy_146 (s_msets hzs hst (sRow h (r + 1) f) r hm j9 2 (nI (chR d + more)) hj12 (by decide)) rfl ⟨cd_X10_sets, lk_X10_77, im_X10_sets, se_X10_X10_sets, in_X10⟩ ⟨⟨by decide, by decide⟩, by decide⟩ rfl rfl rfl (hm.1) ⟨rfl, by decide⟩ (zafv ?_) (zno)
  rw [saI_row2]
  refine zV.aload_n C dX10_goesBy_149 rfl rfl ?_
  refine zV.iload C dX10_goesBy_150 rfl ?_
  refine zV.ic (v := nI 2) C dX10_goesBy_152 (by decide) ?_
  refine zV.callV (n := 2) C G dX10_goesBy_153 (s_mof hzs hst (sRow h (r + 1) (fup f (56 + 5 * j9 + 2) (nI (chR d + more)))) r hm j9 2 hj12 (by decide)) rfl ⟨cd_X10_of, lk_X10_65, im_X10_of, se_X10_X10_of, in_X10⟩ ⟨⟨by decide, by decide⟩, by decide⟩ rfl rfl rfl (hm.1) ⟨rfl, by decide⟩ (zaf ?_) (zno)
  rw [show aI (sRow h (r + 1) (fup f (56 + 5 * j9 + 2) (nI (chR d + more)))) (r + 1) (56 + 5 * j9 + 2) = nI (chR d + more) from by rw [aI_sRow]; exact fup_e]
  refine zV.bi (v := nI 10) C dX10_goesBy_156 (by decide) ?_
  refine zV.icmp_ge (tgt := 164) C dX10_goesBy_158 (by decide) (fun q158 => ?_) (fun q158 => ?_)
  · have h10 : 10 ≤ chR d + more := nle (by omega) (by decide) q158
    refine zV.aload_n C dX10_goesBy_164 rfl rfl ?_
    refine zV.iload C dX10_goesBy_165 rfl ?_
    refine zV.callV (n := 1) C G dX10_goesBy_167 (s_mremoves hzs hst (sRow h (r + 1) (fup f (56 + 5 * j9 + 2) (nI (chR d + more)))) r g (cs.set j9 (wR d (chR d + more))) (hrd (U ++ d :: V)) hm (by rw [aI_sRow]; exact F9) W9 j9 (wR d (chR d + more)) hcj9 (flt U l9).length (by show (hrd (U ++ d :: V) (chL d))[_]? = some (chI d); rw [hd]; exact hq)) rfl ⟨cd_X10_removes, lk_X10_132, im_X10_removes, se_X10_X10_removes, in_X10⟩ ⟨⟨by decide, by decide⟩, by decide⟩ rfl rfl rfl (hm.1) ⟨rfl, by decide⟩ (zafv ?_) (zno)
    rw [sRow_row, aI_sRow]
    refine zV.iinc (lo' := [(0, _), (1, _), (2, _), (3, _), (4, _), (5, _), (6, _), (7, _)]) C dX10_goesBy_170 rfl (by decide) rfl rfl rfl ?_
    refine zV.iinc (lo' := [(0, _), (1, _), (2, _), (3, _), (4, _), (5, _), (6, _), (7, _)]) C dX10_goesBy_173 rfl (by decide) rfl rfl rfl ?_
    refine zV.goto (tgt := 33) C dX10_goesBy_176 (by decide) ?_
    first
      | exact zV.sub [0, 1, 2, 3, 4, 5] rfl (n1 h10 _ _ p9 s9_ (rF_H F9 (fun i hi => e9 i)))
      | (rw [inc1, dcr1 (by omega), Nat.add_sub_cancel]
         refine zV.sub [0, 1, 2, 3, 4, 5] rfl (n2 h10 _ _ ?_ (srt_er s9_) (rF_H (sc_F (k := 0) W9 F9 hcj9 (by show (hrd (U ++ d :: V) (chL d))[_]? = some (chI d); rw [hd]; exact hq)) (fun i hi => ?_)))
         · rw [← er_mid (d := wR d (chR d + more))]
           exact perm_er p9 ((p9.map chI).nodup_iff.mp W9.2.2.2.2.2.2) hcj9 get_mid
         · rw [← er_mid (d := wR d (chR d + more)), hrd_er (q := (flt U l9).length) ((p9.map chI).nodup_iff.mp W9.2.2.2.2.2.2) get_mid (by show (hrd (U ++ wR d (chR d + more) :: V) (chL d))[_]? = some (chI d); rw [e9, hd]; exact hq) (by show (hrd (U ++ wR d (chR d + more) :: V) (chL d)).Nodup; rw [e9, hd]; exact hw.2.2.2.2.2.1 l9 hl)]
           unfold upH
           rw [e9, e9])
  · have h10 : chR d + more < 10 := nlt (by omega) (by decide) q158
    refine zV.goto (tgt := 33) C dX10_goesBy_161 (by decide) ?_
    first
      | exact zV.sub [0, 1, 2, 3, 4, 5] rfl (n1 h10 _ _ p9 s9_ (rF_H F9 (fun i hi => e9 i)))
      | (rw [inc1, dcr1 (by omega), Nat.add_sub_cancel]
         refine zV.sub [0, 1, 2, 3, 4, 5] rfl (n2 h10 _ _ ?_ (srt_er s9_) (rF_H (sc_F (k := 0) W9 F9 hcj9 (by show (hrd (U ++ d :: V) (chL d))[_]? = some (chI d); rw [hd]; exact hq)) (fun i hi => ?_)))
         · rw [← er_mid (d := wR d (chR d + more))]
           exact perm_er p9 ((p9.map chI).nodup_iff.mp W9.2.2.2.2.2.2) hcj9 get_mid
         · rw [← er_mid (d := wR d (chR d + more)), hrd_er (q := (flt U l9).length) ((p9.map chI).nodup_iff.mp W9.2.2.2.2.2.2) get_mid (by show (hrd (U ++ wR d (chR d + more) :: V) (chL d))[_]? = some (chI d); rw [e9, hd]; exact hq) (by show (hrd (U ++ wR d (chR d + more) :: V) (chL d)).Nodup; rw [e9, hd]; exact hw.2.2.2.2.2.1 l9 hl)]
           unfold upH
           rw [e9, e9])
theorem gr_F {f : Nat → Int32} {g : zGd} {cs : List zCh} {H : Nat → List Nat} {l9 : Nat} (q : rF f g cs H) (h5 : ∀ l, l < 6 → (H l).length ≤ 5) (hl : l9 < 6) : rF (fup (fup f (8 + 8 * l9) (nI (gS g l9 - 1))) 7 (nI (gZ g + 1))) (gwZ (gwS g (upN (gS g) l9 (gS g l9 - 1))) (gZ g + 1)) cs H := by
  have F1 : rF (fup f (8 + 8 * l9) (nI (gS g l9 - 1))) (opSh g l9 (gS g l9 - 1)) cs H := shF_F q h5 hl
  obtain ⟨q1, q2, q3, q4, q5, q6, q7⟩ := F1.2.2.2
  exact rF_g F1 _ rfl rfl ⟨(fup_n (by decide)).trans q1, (fup_n (by decide)).trans q2, (fup_n (by decide)).trans q3, (fup_n (by decide)).trans q4, (fup_n (by decide)).trans q5, (fup_n (by decide)).trans q6, fup_e⟩ (fun i hi => fup_n (by omega))
theorem wOf_3 {s : Nat} (h : s = 3) : wOf s = 1 := by unfold wOf; exact if_pos h
theorem wOf_n {s : Nat} (h : ¬ s = 3) : wOf s = 0 := by unfold wOf; exact if_neg h
set_option maxHeartbeats 4000000 in
set_option maxRecDepth 100000 in
theorem L_mgoesS {X : zX} {l : Launch} {E : zG} {rm : Room} (hzs : zS E) (hst : l.stackTraces = false) (C : zC X cX10_goesBy RX10 8) (G : zGX X l E rm) {h : zH} {r l9 s9 t : Nat} {g : zGd} {U V cs : List zCh} {d : zCh} {f : Nat → Int32} (hm : zMs h r) (hl : l9 < 6) (hd : chL d = l9) (hp : cs.Perm (U ++ d :: V)) (hsrt : (cs.map chI).Pairwise (· < ·)) (hf : rF f g cs (hrd (U ++ d :: V))) (hw : rW g cs (hrd (U ++ d :: V))) (hs9 : s9 < 4) (ht : t < 100) (h9 : chR d ≤ 9) (hS : gS g l9 ≤ 20) (hZ : gZ g < big) (hr : rm = ({ frames := 3, cells := 0, slots := 0, locals := 68 } : Room)) (n0 : chF d = true → zV X 0 0 (sRow h (r + 1) f) 33 [(0, .ref r), (1, .int (nI s9)), (2, .int (nI t)), (3, .int (nI l9)), (4, .int (nI (8 + 8 * l9))), (5, .int (nI ((flt U l9).length + 1)))] []) (n1 : chF d = false → 0 < gS g l9 → (chR d + wOf s9 < 10 → ∀ f' cs', cs'.Perm (U ++ wR d (chR d + wOf s9) :: V) → (cs'.map chI).Pairwise (· < ·) → rF f' (gwZ (gwS g (upN (gS g) l9 (gS g l9 - 1))) (gZ g + 1)) cs' (hrd (U ++ wR d (chR d + wOf s9) :: V)) → zV X 0 0 (sRow h (r + 1) f') 33 [(0, .ref r), (1, .int (nI s9)), (2, .int (nI t)), (3, .int (nI l9)), (4, .int (nI (8 + 8 * l9))), (5, .int (nI ((flt U l9).length + 1)))] []) ∧ (10 ≤ chR d + wOf s9 → ∀ f' cs', cs'.Perm (U ++ V) → (cs'.map chI).Pairwise (· < ·) → rF f' (gwZ (gwS g (upN (gS g) l9 (gS g l9 - 1))) (gZ g + 1)) cs' (hrd (U ++ V)) → zV X 0 0 (sRow h (r + 1) f') 33 [(0, .ref r), (1, .int (nI s9)), (2, .int (nI (t + 1))), (3, .int (nI l9)), (4, .int (nI (8 + 8 * l9))), (5, .int (nI (flt U l9).length))] [])) (n2 : chF d = false → gS g l9 = 0 → (chR d + (wOf s9 + 1) < 10 → ∀ f' cs', cs'.Perm (U ++ wR d (chR d + (wOf s9 + 1)) :: V) → (cs'.map chI).Pairwise (· < ·) → rF f' g cs' (hrd (U ++ wR d (chR d + (wOf s9 + 1)) :: V)) → zV X 0 0 (sRow h (r + 1) f') 33 [(0, .ref r), (1, .int (nI s9)), (2, .int (nI t)), (3, .int (nI l9)), (4, .int (nI (8 + 8 * l9))), (5, .int (nI ((flt U l9).length + 1)))] []) ∧ (10 ≤ chR d + (wOf s9 + 1) → ∀ f' cs', cs'.Perm (U ++ V) → (cs'.map chI).Pairwise (· < ·) → rF f' g cs' (hrd (U ++ V)) → zV X 0 0 (sRow h (r + 1) f') 33 [(0, .ref r), (1, .int (nI s9)), (2, .int (nI (t + 1))), (3, .int (nI l9)), (4, .int (nI (8 + 8 * l9))), (5, .int (nI (flt U l9).length))] [])) : zV X 0 0 (sRow h (r + 1) f) 33 [(0, .ref r), (1, .int (nI s9)), (2, .int (nI t)), (3, .int (nI l9)), (4, .int (nI (8 + 8 * l9))), (5, .int (nI (flt U l9).length))] [] := by
  subst hr
  have hq := hrd_mid (U := U) (V := V) hd
  have hk5 := hw.2.2.1 l9 hl
  have hkl := (List.getElem?_eq_some_iff.mp hq).1
  obtain ⟨j9, hj9, hcj, hjl⟩ := pl_of hw (hp.mem_iff.mpr (List.mem_of_getElem? (get_mid (U := U) (V := V) (d := d))))
  have hl12 := hw.1
  have hj12 : j9 < 12 := by omega
  obtain ⟨c1, c2, c3, c4, c5⟩ := hf.1.2 j9 d hcj
  have hb9 : (big : Nat) = 1000000000 := rfl
  refine zV.iload C dX10_goesBy_33 rfl ?_
  refine zV.aload_n C dX10_goesBy_35 rfl rfl ?_
  refine zV.gR 416 (k := 0) C dX10_goesBy_36 zcl_X10 (by decide) rfl lk_X10_9 (hm.1) rfl (hm.2.1) ?_
  refine zV.iload C dX10_goesBy_39 rfl ?_
  refine zV.ic (v := nI 2) C dX10_goesBy_41 (by decide) ?_
  refine zV.iadd C dX10_goesBy_42 ?_
  refine zV.ialdv (j := 8 + 8 * l9 + 2) C dX10_goesBy_43 (hm.2.2.2.2.2.2.2.2.2.1.1) (by rw [nI_add]) (Nat.lt_of_lt_of_eq (show 8 + 8 * l9 + 2 < 116 by omega) (hm.2.2.2.2.2.2.2.2.2.1.2).symm) (by omega) ((show aI (sRow h (r + 1) f) (r + 1) (8 + 8 * l9 + 2) = nI (hrd (U ++ d :: V) l9).length from by rw [aI_sRow]; exact (hf.2.1 l9 hl).1)) ?_
  refine zV.icmp_ge (tgt := 179) C dX10_goesBy_44 (by decide) (fun q44 => ?_) (fun q44 => ?_)
  · exact absurd (nle (by omega) (by omega) q44) (by omega)
  · refine zV.aload_n C dX10_goesBy_47 rfl rfl ?_
    refine zV.aload_n C dX10_goesBy_48 rfl rfl ?_
    refine zV.gR 416 (k := 0) C dX10_goesBy_49 zcl_X10 (by decide) rfl lk_X10_9 (hm.1) rfl (hm.2.1) ?_
    refine zV.iload C dX10_goesBy_52 rfl ?_
    refine zV.ic (v := nI 3) C dX10_goesBy_54 (by decide) ?_
    refine zV.iadd C dX10_goesBy_55 ?_
    refine zV.iload C dX10_goesBy_56 rfl ?_
    refine zV.iadd C dX10_goesBy_58 ?_
    refine zV.ialdv (j := 8 + 8 * l9 + 3 + (flt U l9).length) C dX10_goesBy_59 (hm.2.2.2.2.2.2.2.2.2.1.1) (by rw [nI_add, nI_add]) (Nat.lt_of_lt_of_eq (show 8 + 8 * l9 + 3 + (flt U l9).length < 116 by omega) (hm.2.2.2.2.2.2.2.2.2.1.2).symm) (by omega) ((show aI (sRow h (r + 1) f) (r + 1) (8 + 8 * l9 + 3 + (flt U l9).length) = nI (chI d) from by rw [aI_sRow]; exact (hf.2.1 l9 hl).2 _ _ hq)) ?_
    refine zV.callV (n := 1) C G dX10_goesBy_60 (s_mplace hzs hst (sRow h (r + 1) f) r g cs (hrd (U ++ d :: V)) hm (by rw [aI_sRow]; exact hf) hw (nI (chI d))) rfl ⟨cd_X10_place, lk_X10_129, im_X10_place, se_X10_X10_place, in_X10⟩ ⟨⟨by decide, by decide⟩, by decide⟩ rfl rfl rfl (hm.1) ⟨rfl, by decide⟩ (zaf ?_) (zno)
    rw [hj9]
    show zV X _ _ _ 63 _ (.int (nI j9) :: _)
    refine zV.istore (lo' := [(0, _), (1, _), (2, _), (3, _), (4, _), (5, _), (6, _)]) C dX10_goesBy_63 (by decide) rfl rfl rfl ?_
    refine zV.iinc (lo' := [(0, _), (1, _), (2, _), (3, _), (4, _), (5, _), (6, _)]) C dX10_goesBy_65 rfl (by decide) rfl rfl rfl ?_
    rw [inc1]
    refine zV.aload_n C dX10_goesBy_68 rfl rfl ?_
    refine zV.iload C dX10_goesBy_69 rfl ?_
    refine zV.ic (v := nI 3) C dX10_goesBy_71 (by decide) ?_
    refine zV.callV (n := 2) C G dX10_goesBy_72 (s_mof hzs hst (sRow h (r + 1) f) r hm j9 3 hj12 (by decide)) rfl ⟨cd_X10_of, lk_X10_65, im_X10_of, se_X10_X10_of, in_X10⟩ ⟨⟨by decide, by decide⟩, by decide⟩ rfl rfl rfl (hm.1) ⟨rfl, by decide⟩ (zaf ?_) (zno)
    rw [aI_sRow, c4]
    refine zV.ic (v := nI 1) C dX10_goesBy_75 (by decide) ?_
    refine zV.icmp_ne (tgt := 82) C dX10_goesBy_76 (by decide) (fun q76 => ?_) (fun q76 => ?_)
    · have e3 : chF d = false := by
        rcases hx : chF d with _ | _
        · rfl
        · rw [hx] at q76; exact absurd rfl q76
      refine zV.iload_n C dX10_goesBy_82 rfl ?_
      refine zV.ic (v := nI 3) C dX10_goesBy_83 (by decide) ?_
      refine zV.icmp_ne (tgt := 91) C dX10_goesBy_84 (by decide) (fun q84 => ?_) (fun q84 => ?_)
      · have ew := wOf_n (fun z => q84 (congrArg nI z))
        refine zV.ic (v := nI 0) C dX10_goesBy_91 (by decide) ?_
        refine zV.istore (lo' := [(0, _), (1, _), (2, _), (3, _), (4, _), (5, _), (6, _), (7, _)]) C dX10_goesBy_92 (by decide) rfl rfl rfl ?_
        refine zV.aload_n C dX10_goesBy_94 rfl rfl ?_
        refine zV.gR 416 (k := 0) C dX10_goesBy_95 zcl_X10 (by decide) rfl lk_X10_9 (hm.1) rfl (hm.2.1) ?_
        refine zV.iload C dX10_goesBy_98 rfl ?_
        refine zV.ialdv (j := 8 + 8 * l9) C dX10_goesBy_100 (hm.2.2.2.2.2.2.2.2.2.1.1) (rfl) (Nat.lt_of_lt_of_eq (show 8 + 8 * l9 < 116 by omega) (hm.2.2.2.2.2.2.2.2.2.1.2).symm) (by omega) ((show aI (sRow h (r + 1) f) (r + 1) (8 + 8 * l9) = nI (gS g l9) from by rw [aI_sRow]; exact (hf.2.2.1 l9 hl).1)) ?_
        refine zV.if_le (tgt := 129) C dX10_goesBy_101 (by decide) (fun q101 => ?_) (fun q101 => ?_)
        · have es : gS g l9 = 0 := by have := nle (a := 0) (b := gS g l9) (by decide) (by omega) q101; omega
          refine zV.iinc (lo' := [(0, _), (1, _), (2, _), (3, _), (4, _), (5, _), (6, _), (7, _)]) C dX10_goesBy_129 rfl (by decide) rfl rfl rfl ?_
          first
            | (rw [inc1]
               have z := L_mgoesT (more := wOf s9 + 1) hzs hst C G hm hl hd hp hsrt hf hw (by have := wOf_le s9; omega) ht h9 hcj hj12 rfl (n2 e3 es).1 (n2 e3 es).2
               rw [ew] at z
               exact z)
            | (have z := L_mgoesT (more := wOf s9) (g := (gwZ (gwS g (upN (gS g) l9 (gS g l9 - 1))) (gZ g + 1))) hzs hst C G hm hl hd hp hsrt (gr_F hf hw.2.2.1 hl) hw (by have := wOf_le s9; omega) ht h9 hcj hj12 rfl (n1 e3 es).1 (n1 e3 es).2
               rw [ew] at z
               exact z)
        · have es : 0 < gS g l9 := nlt (a := 0) (b := gS g l9) (by decide) (by omega) q101
          refine zV.aload_n C dX10_goesBy_104 rfl rfl ?_
          refine zV.gR 416 (k := 0) C dX10_goesBy_105 zcl_X10 (by decide) rfl lk_X10_9 (hm.1) rfl (hm.2.1) ?_
          refine zV.iload C dX10_goesBy_108 rfl ?_
          refine zV.dup2 C dX10_goesBy_110 rfl rfl ?_
          refine zV.ialdv (j := 8 + 8 * l9) C dX10_goesBy_111 (hm.2.2.2.2.2.2.2.2.2.1.1) (rfl) (Nat.lt_of_lt_of_eq (show 8 + 8 * l9 < 116 by omega) (hm.2.2.2.2.2.2.2.2.2.1.2).symm) (by omega) ((show aI (sRow h (r + 1) f) (r + 1) (8 + 8 * l9) = nI (gS g l9) from by rw [aI_sRow]; exact (hf.2.2.1 l9 hl).1)) ?_
          refine zV.ic (v := nI 1) C dX10_goesBy_112 (by decide) ?_
          refine zV.isub C dX10_goesBy_113 ?_
          rw [show nI (gS g l9) - nI 1 = nI (gS g l9 - 1) from pk_sub es]
          refine zV.iast (j := 8 + 8 * l9) C dX10_goesBy_114 (hm.2.2.2.2.2.2.2.2.2.1.1) (rfl) (Nat.lt_of_lt_of_eq (show 8 + 8 * l9 < 116 by omega) (hm.2.2.2.2.2.2.2.2.2.1.2).symm) (by omega) ?_
          rw [saI_row2]
          refine zV.aload_n C dX10_goesBy_115 rfl rfl ?_
          refine zV.gR 416 (k := 0) C dX10_goesBy_116 zcl_X10 (by decide) rfl lk_X10_9 (hm.1) rfl (hm.2.1) ?_
          refine zV.bi (v := nI 7) C dX10_goesBy_119 (by decide) ?_
          refine zV.dup2 C dX10_goesBy_121 rfl rfl ?_
          refine zV.ialdv (j := 7) C dX10_goesBy_122 (hm.2.2.2.2.2.2.2.2.2.1.1) (rfl) (Nat.lt_of_lt_of_eq (show 7 < 116 by decide) (hm.2.2.2.2.2.2.2.2.2.1.2).symm) (by omega) ((show aI (sRow h (r + 1) _) (r + 1) 7 = nI (gZ g) from by rw [aI_sRow, fup_n (by omega)]; exact hf.2.2.2.2.2.2.2.2.2)) ?_
          refine zV.ic (v := nI 1) C dX10_goesBy_123 (by decide) ?_
          refine zV.iadd C dX10_goesBy_124 ?_
          rw [nI_add]
          refine zV.iast (j := 7) C dX10_goesBy_125 (hm.2.2.2.2.2.2.2.2.2.1.1) (rfl) (Nat.lt_of_lt_of_eq (show 7 < 116 by decide) (hm.2.2.2.2.2.2.2.2.2.1.2).symm) (by omega) ?_
          rw [saI_row2]
          refine zV.goto (tgt := 132) C dX10_goesBy_126 (by decide) ?_
          first
            | (rw [inc1]
               have z := L_mgoesT (more := wOf s9 + 1) hzs hst C G hm hl hd hp hsrt hf hw (by have := wOf_le s9; omega) ht h9 hcj hj12 rfl (n2 e3 es).1 (n2 e3 es).2
               rw [ew] at z
               exact z)
            | (have z := L_mgoesT (more := wOf s9) (g := (gwZ (gwS g (upN (gS g) l9 (gS g l9 - 1))) (gZ g + 1))) hzs hst C G hm hl hd hp hsrt (gr_F hf hw.2.2.1 hl) hw (by have := wOf_le s9; omega) ht h9 hcj hj12 rfl (n1 e3 es).1 (n1 e3 es).2
               rw [ew] at z
               exact z)
      · have ew := wOf_3 (neq (by omega) (by decide) q84)
        refine zV.ic (v := nI 1) C dX10_goesBy_87 (by decide) ?_
        refine zV.goto (tgt := 92) C dX10_goesBy_88 (by decide) ?_
        refine zV.istore (lo' := [(0, _), (1, _), (2, _), (3, _), (4, _), (5, _), (6, _), (7, _)]) C dX10_goesBy_92 (by decide) rfl rfl rfl ?_
        refine zV.aload_n C dX10_goesBy_94 rfl rfl ?_
        refine zV.gR 416 (k := 0) C dX10_goesBy_95 zcl_X10 (by decide) rfl lk_X10_9 (hm.1) rfl (hm.2.1) ?_
        refine zV.iload C dX10_goesBy_98 rfl ?_
        refine zV.ialdv (j := 8 + 8 * l9) C dX10_goesBy_100 (hm.2.2.2.2.2.2.2.2.2.1.1) (rfl) (Nat.lt_of_lt_of_eq (show 8 + 8 * l9 < 116 by omega) (hm.2.2.2.2.2.2.2.2.2.1.2).symm) (by omega) ((show aI (sRow h (r + 1) f) (r + 1) (8 + 8 * l9) = nI (gS g l9) from by rw [aI_sRow]; exact (hf.2.2.1 l9 hl).1)) ?_
        refine zV.if_le (tgt := 129) C dX10_goesBy_101 (by decide) (fun q101 => ?_) (fun q101 => ?_)
        · have es : gS g l9 = 0 := by have := nle (a := 0) (b := gS g l9) (by decide) (by omega) q101; omega
          refine zV.iinc (lo' := [(0, _), (1, _), (2, _), (3, _), (4, _), (5, _), (6, _), (7, _)]) C dX10_goesBy_129 rfl (by decide) rfl rfl rfl ?_
          first
            | (rw [inc1]
               have z := L_mgoesT (more := wOf s9 + 1) hzs hst C G hm hl hd hp hsrt hf hw (by have := wOf_le s9; omega) ht h9 hcj hj12 rfl (n2 e3 es).1 (n2 e3 es).2
               rw [ew] at z
               exact z)
            | (have z := L_mgoesT (more := wOf s9) (g := (gwZ (gwS g (upN (gS g) l9 (gS g l9 - 1))) (gZ g + 1))) hzs hst C G hm hl hd hp hsrt (gr_F hf hw.2.2.1 hl) hw (by have := wOf_le s9; omega) ht h9 hcj hj12 rfl (n1 e3 es).1 (n1 e3 es).2
               rw [ew] at z
               exact z)
        · have es : 0 < gS g l9 := nlt (a := 0) (b := gS g l9) (by decide) (by omega) q101
          refine zV.aload_n C dX10_goesBy_104 rfl rfl ?_
          refine zV.gR 416 (k := 0) C dX10_goesBy_105 zcl_X10 (by decide) rfl lk_X10_9 (hm.1) rfl (hm.2.1) ?_
          refine zV.iload C dX10_goesBy_108 rfl ?_
          refine zV.dup2 C dX10_goesBy_110 rfl rfl ?_
          refine zV.ialdv (j := 8 + 8 * l9) C dX10_goesBy_111 (hm.2.2.2.2.2.2.2.2.2.1.1) (rfl) (Nat.lt_of_lt_of_eq (show 8 + 8 * l9 < 116 by omega) (hm.2.2.2.2.2.2.2.2.2.1.2).symm) (by omega) ((show aI (sRow h (r + 1) f) (r + 1) (8 + 8 * l9) = nI (gS g l9) from by rw [aI_sRow]; exact (hf.2.2.1 l9 hl).1)) ?_
          refine zV.ic (v := nI 1) C dX10_goesBy_112 (by decide) ?_
          refine zV.isub C dX10_goesBy_113 ?_
          rw [show nI (gS g l9) - nI 1 = nI (gS g l9 - 1) from pk_sub es]
          refine zV.iast (j := 8 + 8 * l9) C dX10_goesBy_114 (hm.2.2.2.2.2.2.2.2.2.1.1) (rfl) (Nat.lt_of_lt_of_eq (show 8 + 8 * l9 < 116 by omega) (hm.2.2.2.2.2.2.2.2.2.1.2).symm) (by omega) ?_
          rw [saI_row2]
          refine zV.aload_n C dX10_goesBy_115 rfl rfl ?_
          refine zV.gR 416 (k := 0) C dX10_goesBy_116 zcl_X10 (by decide) rfl lk_X10_9 (hm.1) rfl (hm.2.1) ?_
          refine zV.bi (v := nI 7) C dX10_goesBy_119 (by decide) ?_
          refine zV.dup2 C dX10_goesBy_121 rfl rfl ?_
          refine zV.ialdv (j := 7) C dX10_goesBy_122 (hm.2.2.2.2.2.2.2.2.2.1.1) (rfl) (Nat.lt_of_lt_of_eq (show 7 < 116 by decide) (hm.2.2.2.2.2.2.2.2.2.1.2).symm) (by omega) ((show aI (sRow h (r + 1) _) (r + 1) 7 = nI (gZ g) from by rw [aI_sRow, fup_n (by omega)]; exact hf.2.2.2.2.2.2.2.2.2)) ?_
          refine zV.ic (v := nI 1) C dX10_goesBy_123 (by decide) ?_
          refine zV.iadd C dX10_goesBy_124 ?_
          rw [nI_add]
          refine zV.iast (j := 7) C dX10_goesBy_125 (hm.2.2.2.2.2.2.2.2.2.1.1) (rfl) (Nat.lt_of_lt_of_eq (show 7 < 116 by decide) (hm.2.2.2.2.2.2.2.2.2.1.2).symm) (by omega) ?_
          rw [saI_row2]
          refine zV.goto (tgt := 132) C dX10_goesBy_126 (by decide) ?_
          first
            | (rw [inc1]
               have z := L_mgoesT (more := wOf s9 + 1) hzs hst C G hm hl hd hp hsrt hf hw (by have := wOf_le s9; omega) ht h9 hcj hj12 rfl (n2 e3 es).1 (n2 e3 es).2
               rw [ew] at z
               exact z)
            | (have z := L_mgoesT (more := wOf s9) (g := (gwZ (gwS g (upN (gS g) l9 (gS g l9 - 1))) (gZ g + 1))) hzs hst C G hm hl hd hp hsrt (gr_F hf hw.2.2.1 hl) hw (by have := wOf_le s9; omega) ht h9 hcj hj12 rfl (n1 e3 es).1 (n1 e3 es).2
               rw [ew] at z
               exact z)
    · have e3 : chF d = true := by
        rcases hx : chF d with _ | _
        · rw [hx] at q76; exact absurd q76 (by decide)
        · rfl
      refine zV.goto (tgt := 33) C dX10_goesBy_79 (by decide) ?_
      exact zV.sub [0, 1, 2, 3, 4, 5] rfl (n0 e3)
