/-! Garden: move, moveHerd, graze -/
set_option maxHeartbeats 4000000 in
set_option maxRecDepth 100000 in
theorem s_move {l : Launch} {E : zG} (hzs : zS E) (hst : l.stackTraces = false) (h : zH) (b : Nat) (g : zGd) (x : Int32) (l9 : Nat) (hl9 : l9 < 6) (k : Nat) (c : zCh) (hix : ixF x (gC g) 0 = some k) (hc : (gC g)[k]? = some c) (hg : zGa h b g) (hw : gW g) : zMet l E yX3_move cX3_move 5 (some .int) ({ frames := 2, cells := 0, slots := 0, locals := 46 } : Room) 0 0 [.ref b, .int x, .int (nI l9)] h (fun r h' => r = some (.int (nI (chL c))) ∧ zGa h' b (opMv g k c l9) ∧ zFr h h' b) (fun _ _ => False) := by
  refine zM_start hzs hst (by decide) (Nat.le_of_ble_eq_true rfl) (fun X C G F I => ?_)
  show zV X 0 0 _ 0 [(0, _), (1, _), (2, _)] []
  refine zV.aload_n C dX3_move_0 rfl rfl ?_
  have hkl := (List.getElem?_eq_some_iff.mp hc).1
  have hl := gW_len hw
  have h12 : k < 12 := by omega
  obtain ⟨c1, c2, c3, c4, c5⟩ := zGa_c hg hc
  obtain ⟨u1, u2, u3, u4⟩ := gW_cb hw hc
  have ck := zGa_k hg h12
  refine zV.iload_n C dX3_move_1 rfl ?_
  refine zV.callV (n := 1) C G dX3_move_2 (s_indexOf hzs hst h b g x hg hw) rfl ⟨cd_X3_indexOf, lk_X3_129, im_X3_indexOf, se_X3_X3_indexOf, in_X3⟩ ⟨⟨by decide, by decide⟩, by decide⟩ rfl rfl rfl (hg.1.1) ⟨rfl, by decide⟩ (zafe (congrArg (fun o => Value.int (oI o)) hix) ?_) (zno)
  show zV X 0 0 h 5 _ (.int (nI k) :: _)
  refine zV.istore_n (lo' := [(0, _), (1, _), (2, _), (3, _)]) C dX3_move_5 (by decide) rfl rfl rfl ?_
  refine zV.iload_n C dX3_move_6 rfl ?_
  refine zV.ic (v := (-1)) C dX3_move_7 (by decide) ?_
  refine zV.icmp_ne (tgt := 13) C dX3_move_8 (by decide) (fun q8 => ?_) (fun q8 => ?_)
  · refine zV.aload_n C dX3_move_13 rfl rfl ?_
    refine zV.gR 195 (k := 3) C dX3_move_14 zcl_X3 (by decide) rfl lk_X3_30 (hg.1.1) rfl (hg.1.2.2.2.2.1) ?_
    refine zV.iload_n C dX3_move_17 rfl ?_
    refine zV.aaldC (j := k) C dX3_move_18 (hg.1.2.2.2.2.2.2.2.2.1.1) (rfl) (Nat.lt_of_lt_of_eq h12 (hg.1.2.2.2.2.2.2.2.2.1.2).symm) (by omega) (zGa_a hg h12) ?_
    refine zV.gNIv 129 (k := 1) C dX3_move_19 zcl_X0 (by decide) rfl lk_X3_113 ck rfl (c2) ?_
    refine zV.istore (lo' := [(0, _), (1, _), (2, _), (3, _), (4, _)]) C dX3_move_22 (by decide) rfl rfl rfl ?_
    refine zV.aload_n C dX3_move_24 rfl rfl ?_
    refine zV.iload_n C dX3_move_25 rfl ?_
    refine zV.iload_n C dX3_move_26 rfl ?_
    refine zV.callV (n := 2) C G dX3_move_27 (s_moveAt hzs hst h b g k l9 c hc hl9 hg hw) rfl ⟨cd_X3_moveAt, lk_X3_149, im_X3_moveAt, se_X3_X3_moveAt, in_X3⟩ ⟨⟨by decide, by decide⟩, by decide⟩ rfl rfl rfl (hg.1.1) ⟨rfl, by decide⟩ (zafRv (fun h9 ⟨hg9, f9⟩ => ?_)) (zno)
    refine zV.iload C dX3_move_30 rfl ?_
    refine zV.iret C F dX3_move_32 rfl ?_
    exact ⟨rfl, hg9, f9⟩
  · exact absurd q8 (nI_m1 (by omega))
theorem opMk_of {g : zGd} {k l : Nat} {c : zCh} (hc : (gC g)[k]? = some c) : opMk g k l = opMv g k c l := by unfold opMk; rw [hc]
theorem fg_some {l : Nat} {cs : List zCh} {j : Nat} (h : fgF l cs 0 = some j) : ∃ c, cs[j]? = some c ∧ chGr l c = true ∧ j < cs.length := by
  obtain ⟨i, c, h1, h2, h3⟩ := fgF_some h
  have e : j = i := by omega
  subst e
  exact ⟨c, h1, h3, (List.getElem?_eq_some_iff.mp h1).1⟩
theorem gW_mv {g : zGd} {k l : Nat} {c : zCh} (w : gW g) (hM : gM g < big) (hc : (gC g)[k]? = some c) (hl : l < 6) : gW (opMv g k c l) := by
  obtain ⟨v1, v2, v3, v4, v5, v6⟩ := gV_big w
  exact gW_of (m := big) (gW0_mv (gW_0 w) hc hl) ⟨v1, v2, v3, v4, hM, v6⟩ (Nat.le_refl _)
theorem cnt_mv {g : zGd} {k i l : Nat} {c : zCh} (hc : (gC g)[k]? = some c) (hgr : chGr i c = true) (hil : i ≠ l) : (gC (opMv g k c l)).countP (chGr i) + 1 = (gC g).countP (chGr i) := by
  have h1 := (rot_perm hc).countP_eq (chGr i)
  rw [List.countP_append] at h1
  show ((gC g).eraseIdx k ++ [wL c l]).countP (chGr i) + 1 = _
  rw [← h1, List.countP_append, cnt_cons, cnt_cons, if_pos hgr, if_neg]
  · rfl
  · unfold chGr
    intro z
    have : chL (wL c l) = i := by
      have z := Bool.and_eq_true_iff.mp z
      exact of_decide_eq_true z.1
    exact hil this.symm
theorem min2 {a z : Nat} (ha : a ≤ 12) (hz : z ≤ 5) : (if nI 5 - nI z < nI a then nI 5 - nI z else nI a) = nI (min a (5 - z)) := by
  rw [show nI 5 - nI z = nI (5 - z) from pk_sub hz]
  by_cases q : 5 - z < a
  · rw [if_pos (nI_lt q (by omega)), Nat.min_eq_right (by omega)]
  · rw [if_neg (fun w => q ((nI_ltI (by omega) (by omega)).mp w)), Nat.min_eq_left (by omega)]
set_option maxHeartbeats 4000000 in
set_option maxRecDepth 100000 in
theorem L_moveHerd {X : zX} {l : Launch} {E : zG} {rm : Room} (hzs : zS E) (hst : l.stackTraces = false) (C : zC X cX3_moveHerd RX3 5) (G : zGX X l E rm) {h0 : zH} {b i j N : Nat} {Qr : Option Value → zH → Prop} {Qx : String → zH → Prop} (hi : i < 6) (hj : j < 6) (hij : i ≠ j) (hN : N ≤ 12) (hr : rm = ({ frames := 2, cells := 0, slots := 0, locals := 46 } : Room)) (F : zF X (some .int) 0 0 Qr Qx) : ∀ n m h g, m + n = N → zGa h b g → gW g → n ≤ (gC g).countP (chGr i) → gM g + n ≤ big → zFr h0 h b → (∀ h', zGa h' b (opHd i j n g) → zFr h0 h' b → Qr (some (.int (nI N))) h') → zV X 0 0 h 22 [(0, .ref b), (1, .int (nI i)), (2, .int (nI j)), (3, .int (nI N)), (4, .int (nI m))] [] := by
  subst hr
  intro n
  induction n with
  | zero =>
    intro m h g e hg hw hct hM hf hq
    have e : m = N := by omega
    subst e
    refine zV.iload C dX3_moveHerd_22 rfl ?_
    refine zV.iload_n C dX3_moveHerd_24 rfl ?_
    refine zV.icmp_ge (tgt := 44) C dX3_moveHerd_25 (by decide) (fun q25 => ?_) (fun q25 => ?_)
    · refine zV.iload_n C dX3_moveHerd_44 rfl ?_
      refine zV.iret C F dX3_moveHerd_45 rfl ?_
      exact hq h hg hf
    · exact absurd (nI_le (Nat.le_refl _) (by omega)) q25
  | succ n ih =>
    intro m h g e hg hw hct hM hf hq
    have hl := gW_len hw
    refine zV.iload C dX3_moveHerd_22 rfl ?_
    refine zV.iload_n C dX3_moveHerd_24 rfl ?_
    refine zV.icmp_ge (tgt := 44) C dX3_moveHerd_25 (by decide) (fun q25 => ?_) (fun q25 => ?_)
    · exact absurd (nle (by omega) (by omega) q25) (by omega)
    · rcases hfg : fgF i (gC g) 0 with _ | k
      · exact absurd (fgF_none hfg) (by omega)
      obtain ⟨c, hc, hgr, hkl⟩ := fg_some hfg
      rw [opHd, hfg] at hq
      simp only [opMk_of hc] at hq
      refine zV.aload_n C dX3_moveHerd_28 rfl rfl ?_
      refine zV.aload_n C dX3_moveHerd_29 rfl rfl ?_
      refine zV.iload_n C dX3_moveHerd_30 rfl ?_
      refine zV.callV (n := 1) C G dX3_moveHerd_31 (s_firstGrazingOn hzs hst h b g i hi hg hw) rfl ⟨cd_X3_firstGrazingOn, lk_X3_158, im_X3_firstGrazingOn, se_X3_X3_firstGrazingOn, in_X3⟩ ⟨⟨by decide, by decide⟩, by decide⟩ rfl rfl rfl (hg.1.1) ⟨rfl, by decide⟩ (zafe (congrArg (fun o => Value.int (oI o)) hfg) ?_) (zno)
      show zV X 0 0 h 34 _ (.int (nI k) :: _)
      refine zV.iload_n C dX3_moveHerd_34 rfl ?_
      refine zV.callV (n := 2) C G dX3_moveHerd_35 (s_moveAt hzs hst h b g k j c hc hj hg hw) rfl ⟨cd_X3_moveAt, lk_X3_149, im_X3_moveAt, se_X3_X3_moveAt, in_X3⟩ ⟨⟨by decide, by decide⟩, by decide⟩ rfl rfl rfl (hg.1.1) ⟨rfl, by decide⟩ (zafRv (fun h9 ⟨hg9, f9⟩ => ?_)) (zno)
      refine zV.iinc (lo' := [(0, _), (1, _), (2, _), (3, _), (4, _)]) C dX3_moveHerd_38 rfl (by decide) rfl rfl rfl ?_
      refine zV.goto (tgt := 22) C dX3_moveHerd_41 (by decide) ?_
      rw [inc1]
      have ct := cnt_mv (l := j) hc hgr hij
      exact ih (m + 1) h9 _ (by omega) hg9 (gW_mv hw (by omega) hc hj) (by omega) (by show gM g + 1 + n ≤ big; omega) (hf.trans f9) hq
set_option maxHeartbeats 4000000 in
set_option maxRecDepth 100000 in
theorem s_moveHerd {l : Launch} {E : zG} (hzs : zS E) (hst : l.stackTraces = false) (h : zH) (b : Nat) (g : zGd) (i j : Nat) (hi : i < 6) (hj : j < 6) (hij : i ≠ j) (hz : hsz (gC g) j ≤ 5) (hM : gM g + 12 ≤ big) (hg : zGa h b g) (hw : gW g) : zMet l E yX3_moveHerd cX3_moveHerd 5 (some .int) ({ frames := 2, cells := 0, slots := 0, locals := 46 } : Room) 0 0 [.ref b, .int (nI i), .int (nI j)] h (fun r h' => r = some (.int (nI (min ((gC g).countP (chGr i)) (5 - hsz (gC g) j)))) ∧ zGa h' b (opHd i j (min ((gC g).countP (chGr i)) (5 - hsz (gC g) j)) g) ∧ zFr h h' b) (fun _ _ => False) := by
  refine zM_start hzs hst (by decide) (Nat.le_of_ble_eq_true rfl) (fun X C G F I => ?_)
  show zV X 0 0 _ 0 [(0, _), (1, _), (2, _)] []
  refine zV.aload_n C dX3_moveHerd_0 rfl rfl ?_
  have hl := gW_len hw
  have hct : (gC g).countP (chGr i) ≤ (gC g).length := List.countP_le_length
  refine zV.iload_n C dX3_moveHerd_1 rfl ?_
  refine zV.callV (n := 1) C G dX3_moveHerd_2 (s_countGrazingOn hzs hst h b g i hi hg hw) rfl ⟨cd_X3_countGrazingOn, lk_X3_152, im_X3_countGrazingOn, se_X3_X3_countGrazingOn, in_X3⟩ ⟨⟨by decide, by decide⟩, by decide⟩ rfl rfl rfl (hg.1.1) ⟨rfl, by decide⟩ (zaf ?_) (zno)
  refine zV.ic (v := nI 5) C dX3_moveHerd_5 (by decide) ?_
  refine zV.aload_n C dX3_moveHerd_6 rfl rfl ?_
  refine zV.gR 194 (k := 2) C dX3_moveHerd_7 zcl_X3 (by decide) rfl lk_X3_25 (hg.1.1) rfl (hg.1.2.2.2.1) ?_
  refine zV.iload_n C dX3_moveHerd_10 rfl ?_
  refine zV.callV (n := 1) C G dX3_moveHerd_11 (s_LawnRow_at hzs hst h (b + 6) j hj hg.1.2.2.2.2.2.2.2.1) rfl ⟨cd_X7_at, lk_X3_107, im_X7_at, se_X7_X7_at, in_X7⟩ ⟨⟨by decide, by decide⟩, by decide⟩ rfl rfl rfl (hg.1.2.2.2.2.2.2.2.1.1) ⟨rfl, by decide⟩ (zaf ?_) (zno)
  rw [zGa_h hg j hj]
  refine zV.isub C dX3_moveHerd_14 ?_
  refine zV.mmin C G dX3_moveHerd_15 ⟨lk_X3_155, st_J9_min_7cf53, in_J9, cd_J9_min_7cf53⟩ rfl ?_
  rw [min2 (by omega) hz]
  refine zV.istore_n (lo' := [(0, _), (1, _), (2, _), (3, _)]) C dX3_moveHerd_18 (by decide) rfl rfl rfl ?_
  refine zV.ic (v := nI 0) C dX3_moveHerd_19 (by decide) ?_
  refine zV.istore (lo' := [(0, _), (1, _), (2, _), (3, _), (4, _)]) C dX3_moveHerd_20 (by decide) rfl rfl rfl ?_
  exact L_moveHerd hzs hst C G hi hj hij (by omega) rfl F _ 0 h g (by omega) hg hw (by omega) (by omega) (zFr.refl h b) (fun h9 g9 f9 => ⟨rfl, g9, f9⟩)
/-- what the walk over the chairs asks of a garden -/
def gL (g : zGd) : Prop := (∀ c ∈ gC g, chL c < 6 ∧ chR c ≤ 11) ∧ (gC g).length ≤ 12
theorem zGa_ru {h : zH} {b k v : Nat} {g : zGd} {c : zCh} (hg : zGa h b g) (hl : (gC g).length ≤ 12) (hc : (gC g)[k]? = some c) : zGa (sI h 130 (cA h b k) (nI v)) b (gwC g ((gC g).set k (wR c v))) := by
  obtain ⟨c1, c2, c3, c4, c5⟩ := zGa_c hg hc
  refine zGa_of (zGx_ch (zGa_x hg) hl hc ⟨(hI_sI_f (by decide)).trans c1, (hI_sI_f (by decide)).trans c2, hI_sI, (hI_sI_f (by decide)).trans c4, (hI_sI_f (by decide)).trans c5⟩) (fun i hi => ?_)
  show aI h (b + 7) i = nI (hsz ((gC g).set k (wR c v)) i)
  rw [hsz_set hc (show chL (wR c v) = chL c from rfl)]
  exact zGa_h hg i hi
theorem zGa_203 {h : zH} {b v : Nat} {g : zGd} (hg : zGa h b g) (hl : (gC g).length ≤ 12) : zGa (sI h 203 b (nI v)) b (gwZ g v) := zGa_of (zGx_203 (zGa_x hg) hl) (zSz_I (zGa_z (g := g) hg))
theorem gL_set {g : zGd} {k v : Nat} {c : zCh} (w : gL g) (hc : (gC g)[k]? = some c) (hv : v ≤ 11) : gL (gwC g ((gC g).set k (wR c v))) := by
  refine ⟨fun d hd => ?_, by show ((gC g).set k (wR c v)).length ≤ 12; rw [List.length_set]; exact w.2⟩
  rcases mem_set_or (show d ∈ (gC g).set k (wR c v) from hd) with rfl | hd
  · exact ⟨(w.1 c (List.mem_of_getElem? hc)).1, hv⟩
  · exact w.1 d hd
theorem set_same {α : Type} {cs : List α} {k : Nat} {c : α} (h : cs[k]? = some c) : cs.set k c = cs := by
  apply List.ext_getElem?
  intro i
  rw [List.getElem?_set]
  by_cases q : k = i
  · subst q
    rw [if_pos rfl, if_pos (List.getElem?_eq_some_iff.mp h).1, h]
  · rw [if_neg q]
theorem wR_self (c : zCh) : wR c (chR c) = c := rfl
theorem take_set1 {α : Type} {cs : List α} {k : Nat} {c : α} (h : k < cs.length) : (cs.set k c).take (k + 1) = cs.take k ++ [c] := by
  rw [List.take_add_one, List.getElem?_set_self h]
  rw [show (cs.set k c).take k = cs.take k from List.take_set_of_le (Nat.le_refl _)]
  rfl
theorem drop_set1 {α : Type} {cs : List α} {k : Nat} {c : α} : (cs.set k c).drop (k + 1) = cs.drop (k + 1) := List.drop_set_of_lt (by omega)
theorem grS_chL {l w : Nat} {c : zCh} {s : Nat} : chL (grS l w c s).1 = chL c := by
  unfold grS
  split
  · split <;> rfl
  · rfl
set_option maxHeartbeats 4000000 in
set_option maxRecDepth 100000 in
theorem L_graze_w {X : zX} {l : Launch} {E : zG} {rm : Room} (hzs : zS E) (hst : l.stackTraces = false) (C : zC X cX3_graze RX3 6) (G : zGX X l E rm) {h h0 : zH} {b l9 s9 s k : Nat} {g : zGd} {c : zCh} (hr : rm = ({ frames := 1, cells := 0, slots := 0, locals := 22 } : Room)) (hl9 : l9 < 6) (hs9 : s9 < 4) (hg : zGa h b g) (hl : (gC g).length ≤ 12) (hc : (gC g)[k]? = some c) (hcr : chR c ≤ 10) (ce : cA h0 b k = cA h b k) (kx : ∀ h', zGa h' b (gwC g ((gC g).set k (wR c (chR c + wOf s9)))) → zFr h h' b → zV X 0 0 h' 86 [(0, .ref b), (1, .int (nI l9)), (2, .int (nI s9)), (3, .int (nI s)), (4, .int (nI k))] []) : zV X 0 0 h 70 [(0, .ref b), (1, .int (nI l9)), (2, .int (nI s9)), (3, .int (nI s)), (4, .int (nI k)), (5, .ref (cA h0 b k))] [] := by
  subst hr
  have hkl := (List.getElem?_eq_some_iff.mp hc).1
  have h12 : k < 12 := by omega
  have cb := cA_lt hg h12
  have c3 := (zGa_c hg hc).2.2.1
  rw [ce]
  have ck := zGa_k hg h12
  refine zV.iload_n C dX3_graze_70 rfl ?_
  refine zV.ic (v := nI 3) C dX3_graze_71 (by decide) ?_
  refine zV.icmp_ne (tgt := 86) C dX3_graze_72 (by decide) (fun q72 => ?_) (fun q72 => ?_)
  · have e : s9 ≠ 3 := fun z => q72 (congrArg nI z)
    rw [show wOf s9 = 0 from if_neg e, Nat.add_zero, wR_self, set_same hc] at kx
    exact zV.sub [0, 1, 2, 3, 4] rfl (kx h hg (zFr.refl h b))
  · have e : s9 = 3 := (neqn (by omega) (by decide)).mp q72
    rw [show wOf s9 = 1 from if_pos e] at kx
    refine zV.aload C dX3_graze_75 rfl rfl ?_
    refine zV.dup C dX3_graze_77 rfl ?_
    refine zV.gNIv 130 (k := 2) C dX3_graze_78 zcl_X0 (by decide) rfl lk_X3_116 ck rfl (c3) ?_
    refine zV.ic (v := nI 1) C dX3_graze_81 (by decide) ?_
    refine zV.iadd C dX3_graze_82 ?_
    rw [show nI (chR c) + nI 1 = nI (chR c + 1) from nI_1 _]
    refine zV.pNI 130 (k := 2) C dX3_graze_83 zcl_X0 (by decide) rfl lk_X3_116 rfl ck rfl ⟨rfl, rfl⟩ ?_
    exact zV.sub [0, 1, 2, 3, 4] rfl (kx _ (zGa_ru hg hl hc) ((zFr.refl h b).sI cb.1 cb.2))
theorem grz_step {g : zGd} {k l w s : Nat} {c : zCh} (hc : (gC g)[k]? = some c) : gwZ (gwC (gwZ (gwC g ((gC g).set k (grS l w c s).1)) (gZ g + (grS l w c s).2.2)) (((gC g).set k (grS l w c s).1).take (k + 1) ++ (grC l w (((gC g).set k (grS l w c s).1).drop (k + 1)) (grS l w c s).2.1).1)) (gZ g + (grS l w c s).2.2 + (grC l w (((gC g).set k (grS l w c s).1).drop (k + 1)) (grS l w c s).2.1).2.2) = gwZ (gwC g ((gC g).take k ++ (grC l w ((gC g).drop k) s).1)) (gZ g + (grC l w ((gC g).drop k) s).2.2) ∧ (grC l w (((gC g).set k (grS l w c s).1).drop (k + 1)) (grS l w c s).2.1).2.1 = (grC l w ((gC g).drop k) s).2.1 := by
  have hk := (List.getElem?_eq_some_iff.mp hc).1
  obtain ⟨d, hd, he⟩ := drop_cons hk
  rw [hc] at hd
  cases hd
  rw [take_set1 hk, drop_set1, he]
  show gwZ (gwC _ _) _ = gwZ (gwC g ((gC g).take k ++ ((grS l w c s).1 :: (grC l w ((gC g).drop (k + 1)) (grS l w c s).2.1).1))) (gZ g + ((grS l w c s).2.2 + (grC l w ((gC g).drop (k + 1)) (grS l w c s).2.1).2.2)) ∧ _
  rw [List.append_assoc, ← Nat.add_assoc (gZ g)]
  exact ⟨rfl, rfl⟩
theorem wOf_le (s : Nat) : wOf s ≤ 1 := by unfold wOf; split <;> omega
theorem grS_R {l w s : Nat} {c : zCh} (hw : w ≤ 1) (h1 : chGr l c = true → chR c ≤ 9) (h2 : chR c ≤ 11) : chR (grS l w c s).1 ≤ 11 := by
  unfold grS
  split
  · have := h1 (by assumption)
    split
    · show chR c + w ≤ 11; omega
    · show chR c + 1 + w ≤ 11; omega
  · exact h2
theorem grS_s {l w s : Nat} {c : zCh} : (grS l w c s).2.1 ≤ s := by
  unfold grS
  split
  · split
    · exact Nat.sub_le _ _
    · exact Nat.le_refl _
  · exact Nat.le_refl _
theorem chGr_L {l : Nat} {c : zCh} (h : chGr l c = true) : chL c = l := of_decide_eq_true (Bool.and_eq_true_iff.mp h).1
set_option maxHeartbeats 4000000 in
set_option maxRecDepth 100000 in
theorem L_graze {X : zX} {l : Launch} {E : zG} {rm : Room} (hzs : zS E) (hst : l.stackTraces = false) (C : zC X cX3_graze RX3 6) (G : zGX X l E rm) {b l9 s9 : Nat} (hr : rm = ({ frames := 1, cells := 0, slots := 0, locals := 22 } : Room)) (hl9 : l9 < 6) (hs9 : s9 < 4) : ∀ n k h g s, zGa h b g → gL g → k ≤ (gC g).length → (gC g).length + 1 ≤ k + n → s ≤ 20 → (∀ j c, k ≤ j → (gC g)[j]? = some c → chL c = l9 → chR c ≤ 9) → (∀ h', zGa h' b (gwZ (gwC g ((gC g).take k ++ (grC l9 (wOf s9) ((gC g).drop k) s).1)) (gZ g + (grC l9 (wOf s9) ((gC g).drop k) s).2.2)) → zFr h h' b → zV X 0 0 h' 92 [(0, .ref b), (1, .int (nI l9)), (2, .int (nI s9)), (3, .int (nI (grC l9 (wOf s9) ((gC g).drop k) s).2.1))] []) → zV X 0 0 h 12 [(0, .ref b), (1, .int (nI l9)), (2, .int (nI s9)), (3, .int (nI s)), (4, .int (nI k))] [] := by
  subst hr
  intro n
  induction n with
  | zero => intro k h g s _ _ h1 h2; exact absurd h2 (by omega)
  | succ n ih =>
    intro k h g s hg hw hk hn hs h9 kx
    have hl := hw.2
    refine zV.iload C dX3_graze_12 rfl ?_
    refine zV.aload_n C dX3_graze_14 rfl rfl ?_
    refine zV.gIv 196 (k := 4) C dX3_graze_15 zcl_X3 (by decide) rfl lk_X3_50 (hg.1.1) rfl ((zGa_len hg)) ?_
    refine zV.icmp_ge (tgt := 92) C dX3_graze_18 (by decide) (fun q18 => ?_) (fun q18 => ?_)
    · have e : k = (gC g).length := by have := nle (by omega) (by omega) q18; omega
      subst e
      rw [List.drop_length, List.take_length] at kx
      exact zV.sub [0, 1, 2, 3] rfl (kx h (by show zGa h b (gwZ (gwC g (gC g ++ [])) (gZ g + 0)); rw [List.append_nil]; exact hg) (zFr.refl h b))
    · have hkl : k < (gC g).length := nlt (by omega) (by omega) q18
      obtain ⟨c, hc, hd⟩ := drop_cons hkl
      have h12 : k < 12 := by omega
      obtain ⟨c1, c2, c3, c4, c5⟩ := zGa_c hg hc
      have cb := cA_lt hg h12
      have hLc := hw.1 c (List.mem_of_getElem? hc)
      have go : ∀ h1, zGa h1 b (gwZ (gwC g ((gC g).set k (grS l9 (wOf s9) c s).1)) (gZ g + (grS l9 (wOf s9) c s).2.2)) → zFr h h1 b → zV X 0 0 h1 86 [(0, .ref b), (1, .int (nI l9)), (2, .int (nI s9)), (3, .int (nI (grS l9 (wOf s9) c s).2.1)), (4, .int (nI k))] [] := by
        intro h1 hg1 f1
        refine zV.iinc (lo' := [(0, _), (1, _), (2, _), (3, _), (4, _)]) C dX3_graze_86 rfl (by decide) rfl rfl rfl ?_
        refine zV.goto (tgt := 12) C dX3_graze_89 (by decide) ?_
        rw [inc1]
        refine ih (k + 1) h1 _ _ hg1 ⟨fun d hd => ?_, ?_⟩ ?_ ?_ (Nat.le_trans grS_s hs) (fun j d hj hd2 hL => ?_) (fun h' hg' f' => ?_)
        · rcases mem_set_or (show d ∈ (gC g).set k (grS l9 (wOf s9) c s).1 from hd) with rfl | hd
          · exact ⟨by rw [grS_chL]; exact hLc.1, grS_R (wOf_le _) (fun z => h9 k c (Nat.le_refl _) hc (chGr_L z)) hLc.2⟩
          · exact hw.1 d hd
        · show ((gC g).set k (grS l9 (wOf s9) c s).1).length ≤ 12
          rw [List.length_set]; exact hw.2
        · show k + 1 ≤ ((gC g).set k (grS l9 (wOf s9) c s).1).length
          rw [List.length_set]; omega
        · show ((gC g).set k (grS l9 (wOf s9) c s).1).length + 1 ≤ k + 1 + n
          rw [List.length_set]; omega
        · have hd2 : ((gC g).set k (grS l9 (wOf s9) c s).1)[j]? = some d := hd2
          rw [List.getElem?_set_ne (by omega)] at hd2
          exact h9 j d (by omega) hd2 hL
        · have e := grz_step (l := l9) (w := wOf s9) (s := s) hc
          have hg' : zGa h' b (gwZ (gwC (gwZ (gwC g ((gC g).set k (grS l9 (wOf s9) c s).1)) (gZ g + (grS l9 (wOf s9) c s).2.2)) (((gC g).set k (grS l9 (wOf s9) c s).1).take (k + 1) ++ (grC l9 (wOf s9) (((gC g).set k (grS l9 (wOf s9) c s).1).drop (k + 1)) (grS l9 (wOf s9) c s).2.1).1)) (gZ g + (grS l9 (wOf s9) c s).2.2 + (grC l9 (wOf s9) (((gC g).set k (grS l9 (wOf s9) c s).1).drop (k + 1)) (grS l9 (wOf s9) c s).2.1).2.2)) := hg'
          rw [e.1] at hg'
          show zV X 0 0 h' 92 [(0, .ref b), (1, .int (nI l9)), (2, .int (nI s9)), (3, .int (nI (grC l9 (wOf s9) (((gC g).set k (grS l9 (wOf s9) c s).1).drop (k + 1)) (grS l9 (wOf s9) c s).2.1).2.1))] []
          rw [e.2]
          exact kx h' hg' (f1.trans f')
      refine zV.aload_n C dX3_graze_21 rfl rfl ?_
      refine zV.gR 195 (k := 3) C dX3_graze_22 zcl_X3 (by decide) rfl lk_X3_30 (hg.1.1) rfl (hg.1.2.2.2.2.1) ?_
      refine zV.iload C dX3_graze_25 rfl ?_
      refine zV.aaldC (j := k) C dX3_graze_27 (hg.1.2.2.2.2.2.2.2.2.1.1) (rfl) (Nat.lt_of_lt_of_eq h12 (hg.1.2.2.2.2.2.2.2.2.1.2).symm) (by omega) (zGa_a hg h12) ?_
      refine zV.astore (lo' := [(0, _), (1, _), (2, _), (3, _), (4, _), (5, _)]) C dX3_graze_28 rfl (by decide) rfl rfl rfl ?_
      refine zV.aload C dX3_graze_30 rfl rfl ?_
      refine zV.iload_n C dX3_graze_32 rfl ?_
      refine zV.callV (n := 1) C G dX3_graze_33 (s_Chair_grazesOn hzs hst h (cA h b k) (nI l9) (zGa_k hg h12)) rfl ⟨cd_X0_grazesOn, lk_X3_161, im_X0_grazesOn, se_X0_X0_grazesOn, in_X0⟩ ⟨⟨by decide, by decide⟩, by decide⟩ rfl rfl rfl (zGa_k hg h12) ⟨rfl, by decide⟩ (zafe (chGr_v (zGa_c hg hc) hl9 hLc.1) ?_) (zno)
      refine zV.if_eq (tgt := 86) C dX3_graze_36 (by decide) (fun q36 => ?_) (fun q36 => ?_)
      · have e : grS l9 (wOf s9) c s = (c, s, 0) := by unfold grS; rw [if_neg (fun z => by rw [b2n.mp q36] at z; cases z)]
        rw [e] at go
        simp only [set_same hc] at go
        exact zV.sub [0, 1, 2, 3, 4] rfl (go h hg (zFr.refl h b))
      · have hgr : chGr l9 c = true := Bool.of_not_eq_false (fun z => q36 (b2n.mpr z))
        have hr9 := h9 k c (Nat.le_refl _) hc (chGr_L hgr)
        refine zV.iload_n C dX3_graze_39 rfl ?_
        refine zV.if_le (tgt := 59) C dX3_graze_40 (by decide) (fun q40 => ?_) (fun q40 => ?_)
        · have e0 : ¬ 0 < s := fun z => nI_nle z (by omega) q40
          have e : grS l9 (wOf s9) c s = (wR c (chR c + 1 + wOf s9), s, 0) := by unfold grS; rw [if_pos hgr, if_neg e0]
          rw [e] at go
          refine zV.aload C dX3_graze_59 rfl rfl ?_
          refine zV.dup C dX3_graze_61 rfl ?_
          refine zV.gNIv 130 (k := 2) C dX3_graze_62 zcl_X0 (by decide) rfl lk_X3_116 (zGa_k hg h12) rfl (c3) ?_
          refine zV.ic (v := nI 1) C dX3_graze_65 (by decide) ?_
          refine zV.iadd C dX3_graze_66 ?_
          rw [show nI (chR c) + nI 1 = nI (chR c + 1) from nI_1 _]
          refine zV.pNI 130 (k := 2) C dX3_graze_67 zcl_X0 (by decide) rfl lk_X3_116 rfl (zGa_k hg h12) rfl ⟨rfl, rfl⟩ ?_
          first
            | exact L_graze_w hzs hst C G rfl hl9 hs9 (zGa_203 hg hl) hl hc (by omega) rfl (fun h' hg' f' => go h' hg' (((zFr.refl h b).sI (by omega) (by omega)).trans f'))
            | exact L_graze_w (c := wR c (chR c + 1)) hzs hst C G rfl hl9 hs9 (zGa_ru hg hl hc) (by show ((gC g).set k _).length ≤ 12; rw [List.length_set]; exact hl) (List.getElem?_set_self hkl) (by show chR c + 1 ≤ 10; omega) rfl (fun h' hg' f' => go h' (by
                have hg' : zGa h' b (gwC g (((gC g).set k (wR c (chR c + 1))).set k (wR c (chR c + 1 + wOf s9)))) := hg'
                rw [List.set_set] at hg'
                exact hg') (((zFr.refl h b).sI cb.1 cb.2).trans f'))
        · have e0 : 0 < s := Nat.pos_of_ne_zero (fun z => q40 (by subst z; decide))
          have e : grS l9 (wOf s9) c s = (wR c (chR c + wOf s9), s - 1, 1) := by unfold grS; rw [if_pos hgr, if_pos e0]
          rw [e] at go
          refine zV.iinc (lo' := [(0, _), (1, _), (2, _), (3, _), (4, _), (5, _)]) C dX3_graze_43 rfl (by decide) rfl rfl rfl ?_
          rw [show nI s + Int32.ofInt (-1) = nI (s - 1) by rw [show s = s - 1 + 1 by omega]; exact pk_m1 _]
          refine zV.aload_n C dX3_graze_46 rfl rfl ?_
          refine zV.dup C dX3_graze_47 rfl ?_
          refine zV.gIv 203 (k := 11) C dX3_graze_48 zcl_X3 (by decide) rfl lk_X3_71 (hg.1.1) rfl ((zGa_n hg).2.2.2.2.2.2.2) ?_
          refine zV.ic (v := nI 1) C dX3_graze_51 (by decide) ?_
          refine zV.iadd C dX3_graze_52 ?_
          rw [show nI (gZ g) + nI 1 = nI (gZ g + 1) from nI_1 _]
          refine zV.pI 203 (k := 11) C dX3_graze_53 zcl_X3 (by decide) rfl lk_X3_71 rfl (hg.1.1) rfl ⟨rfl, rfl⟩ ?_
          refine zV.goto (tgt := 70) C dX3_graze_56 (by decide) ?_
          first
            | exact L_graze_w hzs hst C G rfl hl9 hs9 (zGa_203 hg hl) hl hc (by omega) rfl (fun h' hg' f' => go h' hg' (((zFr.refl h b).sI (by omega) (by omega)).trans f'))
            | exact L_graze_w (c := wR c (chR c + 1)) hzs hst C G rfl hl9 hs9 (zGa_ru hg hl hc) (by show ((gC g).set k _).length ≤ 12; rw [List.length_set]; exact hl) (List.getElem?_set_self hkl) (by show chR c + 1 ≤ 10; omega) rfl (fun h' hg' f' => go h' (by
                have hg' : zGa h' b (gwC g (((gC g).set k (wR c (chR c + 1))).set k (wR c (chR c + 1 + wOf s9)))) := hg'
                rw [List.set_set] at hg'
                exact hg') (((zFr.refl h b).sI cb.1 cb.2).trans f'))
theorem sub3 {s t : Nat} (h : t < 4) : nI s + nI 3 - nI t = nI (s + 3 - t) := by rw [nI_add]; exact pk_sub (by omega)
theorem min20 {x : Nat} (h : x < 1000) : (if nI x < nI 20 then nI x else nI 20) = nI (min 20 x) := by
  by_cases q : x < 20
  · rw [if_pos (nI_lt q (by omega)), Nat.min_eq_right (by omega)]
  · rw [if_neg (fun w => q ((nI_ltI (by omega) (by omega)).mp w)), Nat.min_eq_left (by omega)]
theorem grC_s {l w : Nat} : ∀ {t : List zCh} {s : Nat}, (grC l w t s).2.1 ≤ s
  | [], _ => Nat.le_refl _
  | c :: t, s => Nat.le_trans (grC_s (t := t)) grS_s
set_option maxHeartbeats 4000000 in
set_option maxRecDepth 100000 in
theorem s_graze {l : Launch} {E : zG} (hzs : zS E) (hst : l.stackTraces = false) (h : zH) (b : Nat) (g : zGd) (l9 s9 : Nat) (hl9 : l9 < 6) (hs9 : s9 < 4) (hg : zGa h b g) (hw : gL g) (h9 : ∀ c ∈ gC g, chL c = l9 → chR c ≤ 9) (hS : ∀ j, j < 6 → gS g j ≤ 20) : zMet l E yX3_graze cX3_graze 6 none ({ frames := 1, cells := 0, slots := 0, locals := 22 } : Room) 0 0 [.ref b, .int (nI l9), .int (nI s9)] h (fun r h' => r = none ∧ zGa h' b (grz g l9 s9) ∧ zFr h h' b) (fun _ _ => False) := by
  refine zM_start hzs hst (by decide) (Nat.le_of_ble_eq_true rfl) (fun X C G F I => ?_)
  show zV X 0 0 _ 0 [(0, _), (1, _), (2, _)] []
  refine zV.aload_n C dX3_graze_0 rfl rfl ?_
  refine zV.gR 193 (k := 1) C dX3_graze_1 zcl_X3 (by decide) rfl lk_X3_21 (hg.1.1) rfl (hg.1.2.2.1) ?_
  refine zV.iload_n C dX3_graze_4 rfl ?_
  refine zV.callV (n := 1) C G dX3_graze_5 (s_LawnRow_at hzs hst h (b + 4) l9 hl9 hg.1.2.2.2.2.2.2.1) rfl ⟨cd_X7_at, lk_X3_107, im_X7_at, se_X7_X7_at, in_X7⟩ ⟨⟨by decide, by decide⟩, by decide⟩ rfl rfl rfl (hg.1.2.2.2.2.2.2.1.1) ⟨rfl, by decide⟩ (zaf ?_) (zno)
  rw [zGa_s hg l9 hl9]
  refine zV.istore_n (lo' := [(0, _), (1, _), (2, _), (3, _)]) C dX3_graze_8 (by decide) rfl rfl rfl ?_
  refine zV.ic (v := nI 0) C dX3_graze_9 (by decide) ?_
  refine zV.istore (lo' := [(0, _), (1, _), (2, _), (3, _), (4, _)]) C dX3_graze_10 (by decide) rfl rfl rfl ?_
  refine L_graze hzs hst C G rfl hl9 hs9 ((gC g).length + 1) 0 h g (gS g l9) hg hw (by omega) (by omega) (hS l9 hl9) (fun j c _ hc hL => h9 c (List.mem_of_getElem? hc) hL) (fun h' hg' f' => ?_)
  rw [List.drop_zero]
  have hg' : zGa h' b (gwZ (gwC g (grC l9 (wOf s9) (gC g) (gS g l9)).1) (gZ g + (grC l9 (wOf s9) (gC g) (gS g l9)).2.2)) := hg'
  have hs := grC_s (l := l9) (w := wOf s9) (t := gC g) (s := gS g l9)
  have hs2 := hS l9 hl9
  clear hg
  have hg := hg'
  refine zV.aload_n C dX3_graze_92 rfl rfl ?_
  refine zV.gR 193 (k := 1) C dX3_graze_93 zcl_X3 (by decide) rfl lk_X3_21 (hg.1.1) rfl (hg.1.2.2.1) ?_
  refine zV.iload_n C dX3_graze_96 rfl ?_
  refine zV.bi (v := nI 20) C dX3_graze_97 (by decide) ?_
  refine zV.iload_n C dX3_graze_99 rfl ?_
  refine zV.ic (v := nI 3) C dX3_graze_100 (by decide) ?_
  refine zV.iadd C dX3_graze_101 ?_
  refine zV.iload_n C dX3_graze_102 rfl ?_
  refine zV.isub C dX3_graze_103 ?_
  rw [sub3 hs9]
  refine zV.mmin C G dX3_graze_104 ⟨lk_X3_155, st_J9_min_7cf53, in_J9, cd_J9_min_7cf53⟩ rfl ?_
  rw [min20 (by omega)]
  refine zV.callV (n := 2) C G dX3_graze_107 (s_LawnRow_set hzs hst h' (b + 4) l9 _ hl9 hg.1.2.2.2.2.2.2.1) rfl ⟨cd_X7_set, lk_X3_38, im_X7_set, se_X7_X7_set, in_X7⟩ ⟨⟨by decide, by decide⟩, by decide⟩ rfl rfl rfl (hg.1.2.2.2.2.2.2.1.1) ⟨rfl, by decide⟩ (zafv ?_) (zno)
  refine zV.vret C F dX3_graze_110 rfl ?_
  exact ⟨rfl, zGa_of (zGx_shade (zGa_x hg)) (zSz_shade (zGa_z (g := gwZ (gwC g (grC l9 (wOf s9) (gC g) (gS g l9)).1) (gZ g + (grC l9 (wOf s9) (gC g) (gS g l9)).2.2)) hg)), f'.saI (by omega) (by omega)⟩
