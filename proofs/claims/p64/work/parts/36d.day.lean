theorem hsz_filter (cs : List zCh) (l : Nat) : hsz (cs.filter stay) l ≤ hsz cs l := (List.filter_sublist).countP_le
-- what a day keeps
theorem grC_all {l w : Nat} (hw : w ≤ 1) : ∀ {t : List zCh} {s : Nat}, (grC l w t s).1.map chI = t.map chI ∧ (grC l w t s).1.map chL = t.map chL ∧ (grC l w t s).1.map chD = t.map chD ∧ (grC l w t s).1.length = t.length ∧ (grC l w t s).2.2 ≤ t.countP (chGr l) ∧ (∀ (i : Nat) (d : zCh), (grC l w t s).1[i]? = some d → ∃ c, t[i]? = some c ∧ chL d = chL c ∧ chI d = chI c ∧ chD d = chD c ∧ (chL c ≠ l → chR d = chR c) ∧ chR d ≤ chR c + 2)
  | [], s => ⟨rfl, rfl, rfl, rfl, Nat.le_refl _, fun i d h => by cases i <;> cases h⟩
  | c :: t, s => by
    obtain ⟨i1, i2, i3, i4, i5, i6⟩ := grC_all (l := l) hw (t := t) (s := (grS l w c s).2.1)
    have e1 : chI (grS l w c s).1 = chI c := by unfold grS; split; (split <;> rfl); rfl
    have e2 : chL (grS l w c s).1 = chL c := grS_chL
    have e3 : chD (grS l w c s).1 = chD c := by unfold grS; split; (split <;> rfl); rfl
    have e4 : chL c ≠ l → chR (grS l w c s).1 = chR c := by
      intro z
      unfold grS
      rw [if_neg (fun y => z (chGr_L y))]
    have e5 : chR (grS l w c s).1 ≤ chR c + 2 := by
      unfold grS
      split
      · split
        · show chR c + w ≤ _; omega
        · show chR c + 1 + w ≤ _; omega
      · show chR c ≤ _; omega
    have e6 : (grS l w c s).2.2 ≤ if chGr l c = true then 1 else 0 := by
      unfold grS
      split
      · split <;> simp
      · simp
    refine ⟨?_, ?_, ?_, ?_, ?_, fun i d h => ?_⟩
    · show chI _ :: _ = _
      rw [i1, e1]; rfl
    · show chL _ :: _ = _
      rw [i2, e2]; rfl
    · show chD _ :: _ = _
      rw [i3, e3]; rfl
    · show _ + 1 = _
      rw [i4]; rfl
    · show (grS l w c s).2.2 + _ ≤ _
      rw [cnt_cons]
      omega
    · cases i with
      | zero =>
        cases h
        exact ⟨c, rfl, e2, e1, e3, e4, e5⟩
      | succ i => exact i6 i d h
theorem hsz_mapL {a b : List zCh} (e : a.map chL = b.map chL) (l : Nat) : hsz a l = hsz b l := by
  have h : ∀ cs : List zCh, hsz cs l = (cs.map chL).countP (fun x => decide (x = l)) := fun cs => by
    unfold hsz
    rw [List.countP_map]
    rfl
  rw [h, h, e]
theorem gC_gwD {g : zGd} {v : Nat} : gC (gwD g v) = gC g := rfl
theorem gD_col (g : zGd) : gD (col g) = gD g := rfl
theorem len_col {g : zGd} (h : (gC g).length ≤ 12) : (gC (col g)).length ≤ 12 := Nat.le_trans (List.length_filter_le _ _) h
/-- in the midst of a day: the chairs of the lawns from k on are not yet grazed -/
def gK (k : Nat) (g : zGd) : Prop := gW0 g ∧ ∀ c ∈ gC g, k ≤ chL c → chR c ≤ 9
theorem gL_of {g : zGd} (w : gW0 g) : gL g := ⟨fun c hc => ⟨(w.1 c hc).2.1, (w.1 c hc).2.2.1⟩, w.2.2.1⟩
theorem gK_grz {k s : Nat} {g : zGd} (w : gK k g) : gK (k + 1) (grz g k s) := by
  obtain ⟨⟨w1, w2, w3, w4, w5, w6⟩, w7⟩ := w
  obtain ⟨i1, i2, i3, i4, i5, i6⟩ := grC_all (l := k) (wOf_le s) (t := gC g) (s := gS g k)
  refine ⟨⟨fun d hd => ?_, ?_, ?_, fun j hj => ?_, w5, w6⟩, fun d hd hk => ?_⟩
  · obtain ⟨i, hi⟩ := List.mem_iff_getElem?.mp (show d ∈ (grC k (wOf s) (gC g) (gS g k)).1 from hd)
    obtain ⟨c, h1, h2, h3, h4, h5, h6⟩ := i6 i d hi
    have q := w1 c (List.mem_of_getElem? h1)
    refine ⟨by rw [h3]; exact q.1, by rw [h2]; exact q.2.1, ?_, by rw [h4]; exact q.2.2.2⟩
    by_cases z : chL c = k
    · have := w7 c (List.mem_of_getElem? h1) (by omega)
      omega
    · rw [h5 z]; exact q.2.2.1
  · show ((grC k (wOf s) (gC g) (gS g k)).1.map chI).Nodup
    rw [i1]; exact w2
  · show (grC k (wOf s) (gC g) (gS g k)).1.length ≤ 12
    rw [i4]; exact w3
  · show upN (gS g) k _ j ≤ 20
    unfold upN
    split
    · exact Nat.min_le_left _ _
    · exact w4 j hj
  · obtain ⟨i, hi⟩ := List.mem_iff_getElem?.mp (show d ∈ (grC k (wOf s) (gC g) (gS g k)).1 from hd)
    obtain ⟨c, h1, h2, h3, h4, h5, h6⟩ := i6 i d hi
    rw [h5 (by omega)]
    exact w7 c (List.mem_of_getElem? h1) (by omega)
theorem gK_grs {s : Nat} {g : zGd} (w : gW0 g) (h9 : g9 g) : ∀ k, gK k (grs g s k)
  | 0 => ⟨w, fun c hc _ => h9 c hc⟩
  | k + 1 => gK_grz (gK_grs w h9 k)
set_option maxHeartbeats 4000000 in
set_option maxRecDepth 100000 in
theorem L_passOneDay {X : zX} {l : Launch} {E : zG} {rm : Room} (hzs : zS E) (hst : l.stackTraces = false) (C : zC X cX3_passOneDay RX3 3) (G : zGX X l E rm) {h0 : zH} {b s9 : Nat} {g0 : zGd} {Qr : Option Value → zH → Prop} {Qx : String → zH → Prop} (hr : rm = ({ frames := 2, cells := 0, slots := 0, locals := 47 } : Room)) (F : zF X none 0 0 Qr Qx) (hs9 : s9 < 4) (hw : gW0 g0) (h9 : g9 g0) (hq : ∀ h', zGa h' b (gwD (col (grs g0 s9 6)) (gD g0 + 1)) → zFr h0 h' b → Qr none h') : ∀ n k h, k ≤ 6 → 7 ≤ k + n → zGa h b (grs g0 s9 k) → gD (grs g0 s9 k) = gD g0 → zFr h0 h b → zV X 0 0 h 7 [(0, .ref b), (1, .int (nI s9)), (2, .int (nI k))] [] := by
  subst hr
  intro n
  induction n with
  | zero => intro k h h1 h2; exact absurd h2 (by omega)
  | succ n ih =>
    intro k h hk hn hg hD f
    have kk := gK_grs (s := s9) hw h9 k
    refine zV.iload_n C dX3_passOneDay_7 rfl ?_
    refine zV.bi (v := nI 6) C dX3_passOneDay_8 (by decide) ?_
    refine zV.icmp_ge (tgt := 25) C dX3_passOneDay_10 (by decide) (fun q10 => ?_) (fun q10 => ?_)
    · have e : k = 6 := by have := nle (by omega) (by decide) q10; omega
      subst e
      generalize grs g0 s9 6 = g6 at hq hg hD kk
      refine zV.aload_n C dX3_passOneDay_25 rfl rfl ?_
      refine zV.callV (n := 0) C G dX3_passOneDay_26 (s_collapse hzs hst h b g6 hg (gL_of kk.1)) rfl ⟨cd_X3_collapse, lk_X3_174, im_X3_collapse, se_X3_X3_collapse, in_X3⟩ ⟨⟨by decide, by decide⟩, by decide⟩ rfl rfl rfl (hg.1.1) ⟨rfl, by decide⟩ (zafRv (fun h9 ⟨hg, f9⟩ => ?_)) (zno)
      refine zV.aload_n C dX3_passOneDay_29 rfl rfl ?_
      refine zV.dup C dX3_passOneDay_30 rfl ?_
      refine zV.gIv 198 (k := 6) C dX3_passOneDay_31 zcl_X3 (by decide) rfl lk_X3_59 (hg.1.1) rfl (((zGa_n hg).2.2.1.trans (congrArg nI ((gD_col _).trans hD)))) ?_
      refine zV.ic (v := nI 1) C dX3_passOneDay_34 (by decide) ?_
      refine zV.iadd C dX3_passOneDay_35 ?_
      rw [show nI (gD g0) + nI 1 = nI (gD g0 + 1) from nI_1 _]
      refine zV.pI 198 (k := 6) C dX3_passOneDay_36 zcl_X3 (by decide) rfl lk_X3_59 rfl (hg.1.1) rfl ⟨rfl, rfl⟩ ?_
      refine zV.vret C F dX3_passOneDay_39 rfl ?_
      have x2 : zGx (sI h9 198 b (nI (gD g0 + 1))) b (gwD (col g6) (gD g0 + 1)) := zGx_198 (v := gD g0 + 1) (g := col g6) (zGa_x hg) (len_col kk.1.2.2.1)
      have z2 : zSz (sI h9 198 b (nI (gD g0 + 1))) b (hsz (gC (col g6))) := zSz_I (zGa_z hg)
      have z3 : zSz (sI h9 198 b (nI (gD g0 + 1))) b (hsz (gC (gwD (col g6) (gD g0 + 1)))) := by rw [gC_gwD]; exact z2
      exact hq _ (zGa_of x2 z3) ((f.trans f9).sI (by omega) (by omega))
    · have hk6 : k < 6 := nlt (by omega) (by decide) q10
      refine zV.aload_n C dX3_passOneDay_13 rfl rfl ?_
      refine zV.iload_n C dX3_passOneDay_14 rfl ?_
      refine zV.iload_n C dX3_passOneDay_15 rfl ?_
      refine zV.callV (n := 2) C G dX3_passOneDay_16 (s_graze hzs hst h b (grs g0 s9 k) k s9 hk6 hs9 hg (gL_of kk.1) (fun c hc hL => kk.2 c hc (by omega)) kk.1.2.2.2.1) rfl ⟨cd_X3_graze, lk_X3_171, im_X3_graze, se_X3_X3_graze, in_X3⟩ ⟨⟨by decide, by decide⟩, by decide⟩ rfl rfl rfl (hg.1.1) ⟨rfl, by decide⟩ (zafRv (fun h9 ⟨hg9, f9⟩ => ?_)) (zno)
      refine zV.iinc (lo' := [(0, _), (1, _), (2, _)]) C dX3_passOneDay_19 rfl (by decide) rfl rfl rfl ?_
      refine zV.goto (tgt := 7) C dX3_passOneDay_22 (by decide) ?_
      rw [inc1]
      exact ih (k + 1) h9 (by omega) (by omega) hg9 hD (f.trans f9)
set_option maxHeartbeats 4000000 in
set_option maxRecDepth 100000 in
theorem s_passOneDay {l : Launch} {E : zG} (hzs : zS E) (hst : l.stackTraces = false) (h : zH) (b : Nat) (g : zGd)  (hg : zGa h b g) (hw : gW g) (h9 : g9 g) : zMet l E yX3_passOneDay cX3_passOneDay 3 none ({ frames := 2, cells := 0, slots := 0, locals := 47 } : Room) 0 0 [.ref b] h (fun r h' => r = none ∧ zGa h' b (dayO g) ∧ zFr h h' b) (fun _ _ => False) := by
  refine zM_start hzs hst (by decide) (Nat.le_of_ble_eq_true rfl) (fun X C G F I => ?_)
  show zV X 0 0 _ 0 [(0, _)] []
  refine zV.aload_n C dX3_passOneDay_0 rfl rfl ?_
  refine zV.callV (n := 0) C G dX3_passOneDay_1 (s_comingSeason hzs hst h b g hg hw) rfl ⟨cd_X3_comingSeason, lk_X3_168, im_X3_comingSeason, se_X3_X3_comingSeason, in_X3⟩ ⟨⟨by decide, by decide⟩, by decide⟩ rfl rfl rfl (hg.1.1) ⟨rfl, by decide⟩ (zaf ?_) (zno)
  refine zV.istore_n (lo' := [(0, _), (1, _)]) C dX3_passOneDay_4 (by decide) rfl rfl rfl ?_
  refine zV.ic (v := nI 0) C dX3_passOneDay_5 (by decide) ?_
  refine zV.istore_n (lo' := [(0, _), (1, _), (2, _)]) C dX3_passOneDay_6 (by decide) rfl rfl rfl ?_
  have e : ∀ h1, zGa h1 b (gwD (col (grs g (gD g / 5 % 4) 6)) (gD g + 1)) → zFr h h1 b → (none : Option Value) = none ∧ zGa h1 b (dayO g) ∧ zFr h h1 b := fun h1 q f => ⟨rfl, q, f⟩
  exact L_passOneDay (h0 := h) (s9 := gD g / 5 % 4) (g0 := g) hzs hst C G rfl F (Nat.mod_lt _ (by decide)) (gW_0 hw) h9 e 7 0 h (by omega) (by omega) (show zGa h b (grs g (gD g / 5 % 4) 0) from hg) (show gD g = gD g from rfl) (zFr.refl h b)
