/-! the reference: a lawn written -/
theorem rOt_put {h : zH} {r c : Nat} {o : List Nat} (q : rOt h r o) (hl : o.length < 60) (hc : c < 128) : rE h (saI (sI h 424 r (nI (o.length + 1))) (r + 6) o.length (nI c)) r [424] [6] ∧ rOt (saI (sI h 424 r (nI (o.length + 1))) (r + 6) o.length (nI c)) r (o ++ [c]) := by
  rw [saI_row]
  refine ⟨(rE.i.trans rE.a).mono (by simp) (by simp), hI_sI.trans (congrArg nI (by rw [List.length_append]; rfl)), by rw [List.length_append]; exact hl, fun i d hd => ?_⟩
  rw [aI_sRow]
  by_cases z : i = o.length
  · subst z
    rw [List.getElem?_append_right (Nat.le_refl _), Nat.sub_self] at hd
    cases hd
    exact ⟨if_pos rfl, hc⟩
  · have hl2 := (List.getElem?_eq_some_iff.mp hd).1
    rw [List.length_append] at hl2
    rw [List.getElem?_append_left (by have : [c].length = 1 := rfl; omega)] at hd
    exact ⟨(if_neg z).trans (q.2.2 i d hd).1, (q.2.2 i d hd).2⟩
def wrQ (h : zH) (r : Nat) (o : List Nat) : Option Value → zH → Prop := fun v h' => v = none ∧ (rE h h' r [424] [6] ∧ rOt h' r o)
theorem dcs_at {n : Nat} {o : List Nat} : (if n ≤ 9 then o else o ++ dcs (n / 10)) ++ [48 + n % 10] = o ++ dcs n := by
  by_cases e : n ≤ 9
  · rw [if_pos e, dcs_s (by omega), Nat.mod_eq_of_lt (by omega)]
  · rw [if_neg e, dcs_b (n := n) (by omega), List.append_assoc]
theorem dcs_l {n : Nat} (e : ¬ n ≤ 9) : (dcs n).length = (dcs (n / 10)).length + 1 := by
  rw [dcs_b (n := n) (by omega), List.length_append]; rfl
def wlD : List zCh → List Nat
  | [] => []
  | c :: cs => wlc c ++ wlD cs
theorem wlC_D {l : Nat} : ∀ cs : List zCh, wlC l cs = wlD (flt cs l)
  | [] => rfl
  | c :: cs => by
    have ih := wlC_D (l := l) cs
    show (if chL c = l then wlc c else []) ++ wlC l cs = _
    unfold flt at ih ⊢
    rw [List.filter_cons]
    by_cases e : chL c = l
    · rw [if_pos e, if_pos (decide_eq_true e), ih]; rfl
    · rw [if_neg e, if_neg (by simp [e]), ih]; rfl
theorem wlD_le : ∀ cs : List zCh, (∀ c ∈ cs, chI c < 100000 ∧ chR c ≤ 11) → (wlD cs).length ≤ 10 * cs.length
  | [], _ => Nat.le_refl _
  | c :: cs, h => by
    have ih := wlD_le cs (fun d hd => h d (List.mem_cons_of_mem _ hd))
    obtain ⟨h1, h2⟩ := h c (List.mem_cons_self ..)
    have a1 := dcs_le 4 (chI c) (by omega)
    have a2 := dcs_le 1 (chR c) (by omega)
    show (wlc c ++ wlD cs).length ≤ _
    unfold wlc
    split <;> simp only [List.length_append, List.length_cons, List.length_nil] <;> omega
theorem wl_60 {g : zGd} {l : Nat} (hw : gW g) (hX : gX g ≤ 100000) (h5 : hsz (gC g) l ≤ 5) (hl : l < 6) : (wl g l).length ≤ 60 := by
  have e1 := dcs_le 0 l (by omega)
  have e2 := dcs_le 1 (gS g l) (by have := hw.2.2.2.1 l hl; omega)
  have e3 := wlD_le (flt (gC g) l) (fun c hc => by have := hw.1 c (List.mem_filter.mp hc).1; omega)
  have e4 : (flt (gC g) l).length = hsz (gC g) l := by rw [← hrd_len, hrd_f, List.length_map]
  unfold wl
  rw [wlC_D]
  simp only [List.length_append, List.length_cons, List.length_nil]
  omega
theorem dcs_pos (n : Nat) : 0 < (dcs n).length := by
  by_cases e : n < 10
  · rw [dcs_s e]; exact Nat.zero_lt_one
  · rw [dcs_b e, List.length_append]; exact Nat.lt_of_lt_of_le Nat.zero_lt_one (Nat.le_add_left _ _)
set_option maxHeartbeats 4000000 in
set_option maxRecDepth 100000 in
theorem s_wsigns {l : Launch} {E : zG} (hzs : zS E) (hst : l.stackTraces = false) (h : zH) (r : Nat) (hm : zMs h r) (o : List Nat) (ho : rOt h r o) (c : Nat) (hc : c < 128) (hl : o.length < 60) : zMet l E yX10_signs cX10_signs 2 none ({ frames := 0, cells := 0, slots := 0, locals := 0 } : Room) 0 0 [.ref r, .int (nI c)] h (wrQ h r (o ++ [c])) (fun _ _ => False) := by
  refine zM_start hzs hst (by decide) (Nat.le_of_ble_eq_true rfl) (fun X C G F I => ?_)
  show zV X 0 0 _ 0 [(0, _), (1, _)] []
  refine zV.aload_n C dX10_signs_0 rfl rfl ?_
  refine zV.gR 423 (k := 7) C dX10_signs_1 zcl_X10 (by decide) rfl lk_X10_25 (hm.1) rfl (hm.2.2.2.2.2.2.1) ?_
  refine zV.aload_n C dX10_signs_4 rfl rfl ?_
  refine zV.dup C dX10_signs_5 rfl ?_
  refine zV.gIv 424 (k := 8) C dX10_signs_6 zcl_X10 (by decide) rfl lk_X10_203 hm.1 rfl (ho.1) ?_
  refine zV.dup_x1 C dX10_signs_9 rfl rfl ?_
  refine zV.ic (v := nI 1) C dX10_signs_10 (by decide) ?_
  refine zV.iadd C dX10_signs_11 ?_
  rw [nI_add]
  refine zV.pI 424 (k := 8) C dX10_signs_12 zcl_X10 (by decide) rfl lk_X10_203 rfl hm.1 rfl ⟨rfl, rfl⟩ ?_
  refine zV.iload_n C dX10_signs_15 rfl ?_
  refine zV.cast (j := o.length) C dX10_signs_16 (hm.2.2.2.2.2.2.2.2.2.2.2.2.2.2.1.1) (rfl) (Nat.lt_of_lt_of_eq (show o.length < 60 from hl) (hm.2.2.2.2.2.2.2.2.2.2.2.2.2.2.1.2).symm) (by omega) (nar_c c hc).2 ?_
  refine zV.vret C F dX10_signs_17 rfl ?_
  exact ⟨rfl, rOt_put ho hl hc⟩
set_option maxHeartbeats 4000000 in
set_option maxRecDepth 100000 in
theorem s_w14_0 {X : zX} {l : Launch} {E : zG} {rm : Room} (hzs : zS E) (hst : l.stackTraces = false) (C : zC X cX10_writes RX10 2) (G : zGX X l E rm) {h h1 : zH} {r n : Nat} {o p : List Nat} {Qx : String → zH → Prop} (hr : rm = ({ frames := 1, cells := 0, slots := 0, locals := 21 } : Room)) (F : zF X none 0 0 (wrQ h r (o ++ dcs n)) Qx) (E1 : rE h h1 r [424] [6]) (m1 : zMs h1 r) (o1 : rOt h1 r p) (hp : p ++ [48 + n % 10] = o ++ dcs n) (hl : p.length < 60) (hn : n < 2 ^ 31) : zV X 0 0 h1 14 [(0, .ref r), (1, .int (nI n))] [] := by
  subst hr
  refine zV.aload_n C dX10_writes_14 rfl rfl ?_
  refine zV.bi (v := nI 48) C dX10_writes_15 (by decide) ?_
  refine zV.iload_n C dX10_writes_17 rfl ?_
  refine zV.bi (v := nI 10) C dX10_writes_18 (by decide) ?_
  refine zV.irem C dX10_writes_20 (by decide) ?_
  refine zV.iadd C dX10_writes_21 ?_
  rw [pk_rem hn (show 0 < 10 by decide) (by decide), nI_add]
  refine zV.i2c C dX10_writes_22 ?_
  rw [i2c_c _ (by omega)]
  refine zV.callV (n := 1) C G dX10_writes_23 (s_wsigns hzs hst h1 r m1 p o1 (48 + n % 10) (by omega) hl) rfl ⟨cd_X10_signs, lk_X10_209, im_X10_signs, se_X10_X10_signs, in_X10⟩ ⟨⟨by decide, by decide⟩, by decide⟩ rfl rfl rfl m1.1 ⟨rfl, by decide⟩ (zafRv (fun h2 ⟨E2, o2⟩ => ?_)) (zno)
  refine zV.vret C F dX10_writes_26 rfl ?_
  exact ⟨rfl, (E1.trans E2).mono (by simp) (by simp), by rw [← hp]; exact o2⟩
set_option maxHeartbeats 4000000 in
set_option maxRecDepth 100000 in
theorem s_w0 {l : Launch} {E : zG} (hzs : zS E) (hst : l.stackTraces = false) (h : zH) (r : Nat) (hm : zMs h r) (o : List Nat) (ho : rOt h r o) (n : Nat) (hn : n < 10 ^ 1) (hl : o.length + (dcs n).length ≤ 60) : zMet l E yX10_writes cX10_writes 2 none ({ frames := 1, cells := 0, slots := 0, locals := 21 } : Room) 0 0 [.ref r, .int (nI n)] h (wrQ h r (o ++ dcs n)) (fun _ _ => False) := by
  refine zM_start hzs hst (by decide) (Nat.le_of_ble_eq_true rfl) (fun X C G F I => ?_)
  show zV X 0 0 _ 0 [(0, _), (1, _)] []
  refine zV.iload_n C dX10_writes_0 rfl ?_
  refine zV.bi (v := nI 9) C dX10_writes_1 (by decide) ?_
  refine zV.icmp_le (tgt := 14) C dX10_writes_3 (by decide) (fun q3 => ?_) (fun q3 => ?_)
  · have e3 : n ≤ 9 := nle (by decide) (by omega) q3
    exact s_w14_0 hzs hst C G rfl F (rE.refl h r |>.mono (by simp) (by simp)) hm ho (by have z := dcs_at (n := n) (o := o); rw [if_pos e3] at z; exact z) (by have := dcs_pos n; omega) (by omega)
  · exact absurd (nI_le (show n ≤ 9 by omega) (by decide)) q3
set_option maxHeartbeats 4000000 in
set_option maxRecDepth 100000 in
theorem s_w14_1 {X : zX} {l : Launch} {E : zG} {rm : Room} (hzs : zS E) (hst : l.stackTraces = false) (C : zC X cX10_writes RX10 2) (G : zGX X l E rm) {h h1 : zH} {r n : Nat} {o p : List Nat} {Qx : String → zH → Prop} (hr : rm = ({ frames := 2, cells := 0, slots := 0, locals := 42 } : Room)) (F : zF X none 0 0 (wrQ h r (o ++ dcs n)) Qx) (E1 : rE h h1 r [424] [6]) (m1 : zMs h1 r) (o1 : rOt h1 r p) (hp : p ++ [48 + n % 10] = o ++ dcs n) (hl : p.length < 60) (hn : n < 2 ^ 31) : zV X 0 0 h1 14 [(0, .ref r), (1, .int (nI n))] [] := by
  subst hr
  refine zV.aload_n C dX10_writes_14 rfl rfl ?_
  refine zV.bi (v := nI 48) C dX10_writes_15 (by decide) ?_
  refine zV.iload_n C dX10_writes_17 rfl ?_
  refine zV.bi (v := nI 10) C dX10_writes_18 (by decide) ?_
  refine zV.irem C dX10_writes_20 (by decide) ?_
  refine zV.iadd C dX10_writes_21 ?_
  rw [pk_rem hn (show 0 < 10 by decide) (by decide), nI_add]
  refine zV.i2c C dX10_writes_22 ?_
  rw [i2c_c _ (by omega)]
  refine zV.callV (n := 1) C G dX10_writes_23 (s_wsigns hzs hst h1 r m1 p o1 (48 + n % 10) (by omega) hl) rfl ⟨cd_X10_signs, lk_X10_209, im_X10_signs, se_X10_X10_signs, in_X10⟩ ⟨⟨by decide, by decide⟩, by decide⟩ rfl rfl rfl m1.1 ⟨rfl, by decide⟩ (zafRv (fun h2 ⟨E2, o2⟩ => ?_)) (zno)
  refine zV.vret C F dX10_writes_26 rfl ?_
  exact ⟨rfl, (E1.trans E2).mono (by simp) (by simp), by rw [← hp]; exact o2⟩
set_option maxHeartbeats 4000000 in
set_option maxRecDepth 100000 in
theorem s_w1 {l : Launch} {E : zG} (hzs : zS E) (hst : l.stackTraces = false) (h : zH) (r : Nat) (hm : zMs h r) (o : List Nat) (ho : rOt h r o) (n : Nat) (hn : n < 10 ^ 2) (hl : o.length + (dcs n).length ≤ 60) : zMet l E yX10_writes cX10_writes 2 none ({ frames := 2, cells := 0, slots := 0, locals := 42 } : Room) 0 0 [.ref r, .int (nI n)] h (wrQ h r (o ++ dcs n)) (fun _ _ => False) := by
  refine zM_start hzs hst (by decide) (Nat.le_of_ble_eq_true rfl) (fun X C G F I => ?_)
  show zV X 0 0 _ 0 [(0, _), (1, _)] []
  refine zV.iload_n C dX10_writes_0 rfl ?_
  refine zV.bi (v := nI 9) C dX10_writes_1 (by decide) ?_
  refine zV.icmp_le (tgt := 14) C dX10_writes_3 (by decide) (fun q3 => ?_) (fun q3 => ?_)
  · have e3 : n ≤ 9 := nle (by decide) (by omega) q3
    exact s_w14_1 hzs hst C G rfl F (rE.refl h r |>.mono (by simp) (by simp)) hm ho (by have z := dcs_at (n := n) (o := o); rw [if_pos e3] at z; exact z) (by have := dcs_pos n; omega) (by omega)
  · have e3 : ¬ n ≤ 9 := fun z => q3 (nI_le z (by decide))
    refine zV.aload_n C dX10_writes_6 rfl rfl ?_
    refine zV.iload_n C dX10_writes_7 rfl ?_
    refine zV.bi (v := nI 10) C dX10_writes_8 (by decide) ?_
    refine zV.idiv C dX10_writes_10 (by decide) ?_
    rw [pk_div (show n < 2 ^ 31 by omega) (by decide) (by decide)]
    refine zV.callV (n := 1) C G dX10_writes_11 (s_w0 hzs hst h r hm o ho (n / 10) (by omega) (by have := dcs_l e3; omega)) rfl ⟨cd_X10_writes, lk_X10_206, im_X10_writes, se_X10_X10_writes, in_X10⟩ ⟨⟨by decide, by decide⟩, by decide⟩ rfl rfl rfl (hm.1) ⟨rfl, by decide⟩ (zafRv (fun h1 ⟨E1, o1⟩ => ?_)) (zno)
    exact s_w14_1 hzs hst C G rfl F E1 (E1.m hm) o1 (by have z := dcs_at (n := n) (o := o); rw [if_neg e3] at z; exact z) (by have := dcs_l e3; rw [List.length_append]; omega) (by omega)
set_option maxHeartbeats 4000000 in
set_option maxRecDepth 100000 in
theorem s_w14_2 {X : zX} {l : Launch} {E : zG} {rm : Room} (hzs : zS E) (hst : l.stackTraces = false) (C : zC X cX10_writes RX10 2) (G : zGX X l E rm) {h h1 : zH} {r n : Nat} {o p : List Nat} {Qx : String → zH → Prop} (hr : rm = ({ frames := 3, cells := 0, slots := 0, locals := 63 } : Room)) (F : zF X none 0 0 (wrQ h r (o ++ dcs n)) Qx) (E1 : rE h h1 r [424] [6]) (m1 : zMs h1 r) (o1 : rOt h1 r p) (hp : p ++ [48 + n % 10] = o ++ dcs n) (hl : p.length < 60) (hn : n < 2 ^ 31) : zV X 0 0 h1 14 [(0, .ref r), (1, .int (nI n))] [] := by
  subst hr
  refine zV.aload_n C dX10_writes_14 rfl rfl ?_
  refine zV.bi (v := nI 48) C dX10_writes_15 (by decide) ?_
  refine zV.iload_n C dX10_writes_17 rfl ?_
  refine zV.bi (v := nI 10) C dX10_writes_18 (by decide) ?_
  refine zV.irem C dX10_writes_20 (by decide) ?_
  refine zV.iadd C dX10_writes_21 ?_
  rw [pk_rem hn (show 0 < 10 by decide) (by decide), nI_add]
  refine zV.i2c C dX10_writes_22 ?_
  rw [i2c_c _ (by omega)]
  refine zV.callV (n := 1) C G dX10_writes_23 (s_wsigns hzs hst h1 r m1 p o1 (48 + n % 10) (by omega) hl) rfl ⟨cd_X10_signs, lk_X10_209, im_X10_signs, se_X10_X10_signs, in_X10⟩ ⟨⟨by decide, by decide⟩, by decide⟩ rfl rfl rfl m1.1 ⟨rfl, by decide⟩ (zafRv (fun h2 ⟨E2, o2⟩ => ?_)) (zno)
  refine zV.vret C F dX10_writes_26 rfl ?_
  exact ⟨rfl, (E1.trans E2).mono (by simp) (by simp), by rw [← hp]; exact o2⟩
set_option maxHeartbeats 4000000 in
set_option maxRecDepth 100000 in
theorem s_w2 {l : Launch} {E : zG} (hzs : zS E) (hst : l.stackTraces = false) (h : zH) (r : Nat) (hm : zMs h r) (o : List Nat) (ho : rOt h r o) (n : Nat) (hn : n < 10 ^ 3) (hl : o.length + (dcs n).length ≤ 60) : zMet l E yX10_writes cX10_writes 2 none ({ frames := 3, cells := 0, slots := 0, locals := 63 } : Room) 0 0 [.ref r, .int (nI n)] h (wrQ h r (o ++ dcs n)) (fun _ _ => False) := by
  refine zM_start hzs hst (by decide) (Nat.le_of_ble_eq_true rfl) (fun X C G F I => ?_)
  show zV X 0 0 _ 0 [(0, _), (1, _)] []
  refine zV.iload_n C dX10_writes_0 rfl ?_
  refine zV.bi (v := nI 9) C dX10_writes_1 (by decide) ?_
  refine zV.icmp_le (tgt := 14) C dX10_writes_3 (by decide) (fun q3 => ?_) (fun q3 => ?_)
  · have e3 : n ≤ 9 := nle (by decide) (by omega) q3
    exact s_w14_2 hzs hst C G rfl F (rE.refl h r |>.mono (by simp) (by simp)) hm ho (by have z := dcs_at (n := n) (o := o); rw [if_pos e3] at z; exact z) (by have := dcs_pos n; omega) (by omega)
  · have e3 : ¬ n ≤ 9 := fun z => q3 (nI_le z (by decide))
    refine zV.aload_n C dX10_writes_6 rfl rfl ?_
    refine zV.iload_n C dX10_writes_7 rfl ?_
    refine zV.bi (v := nI 10) C dX10_writes_8 (by decide) ?_
    refine zV.idiv C dX10_writes_10 (by decide) ?_
    rw [pk_div (show n < 2 ^ 31 by omega) (by decide) (by decide)]
    refine zV.callV (n := 1) C G dX10_writes_11 (s_w1 hzs hst h r hm o ho (n / 10) (by omega) (by have := dcs_l e3; omega)) rfl ⟨cd_X10_writes, lk_X10_206, im_X10_writes, se_X10_X10_writes, in_X10⟩ ⟨⟨by decide, by decide⟩, by decide⟩ rfl rfl rfl (hm.1) ⟨rfl, by decide⟩ (zafRv (fun h1 ⟨E1, o1⟩ => ?_)) (zno)
    exact s_w14_2 hzs hst C G rfl F E1 (E1.m hm) o1 (by have z := dcs_at (n := n) (o := o); rw [if_neg e3] at z; exact z) (by have := dcs_l e3; rw [List.length_append]; omega) (by omega)
set_option maxHeartbeats 4000000 in
set_option maxRecDepth 100000 in
theorem s_w14_3 {X : zX} {l : Launch} {E : zG} {rm : Room} (hzs : zS E) (hst : l.stackTraces = false) (C : zC X cX10_writes RX10 2) (G : zGX X l E rm) {h h1 : zH} {r n : Nat} {o p : List Nat} {Qx : String → zH → Prop} (hr : rm = ({ frames := 4, cells := 0, slots := 0, locals := 84 } : Room)) (F : zF X none 0 0 (wrQ h r (o ++ dcs n)) Qx) (E1 : rE h h1 r [424] [6]) (m1 : zMs h1 r) (o1 : rOt h1 r p) (hp : p ++ [48 + n % 10] = o ++ dcs n) (hl : p.length < 60) (hn : n < 2 ^ 31) : zV X 0 0 h1 14 [(0, .ref r), (1, .int (nI n))] [] := by
  subst hr
  refine zV.aload_n C dX10_writes_14 rfl rfl ?_
  refine zV.bi (v := nI 48) C dX10_writes_15 (by decide) ?_
  refine zV.iload_n C dX10_writes_17 rfl ?_
  refine zV.bi (v := nI 10) C dX10_writes_18 (by decide) ?_
  refine zV.irem C dX10_writes_20 (by decide) ?_
  refine zV.iadd C dX10_writes_21 ?_
  rw [pk_rem hn (show 0 < 10 by decide) (by decide), nI_add]
  refine zV.i2c C dX10_writes_22 ?_
  rw [i2c_c _ (by omega)]
  refine zV.callV (n := 1) C G dX10_writes_23 (s_wsigns hzs hst h1 r m1 p o1 (48 + n % 10) (by omega) hl) rfl ⟨cd_X10_signs, lk_X10_209, im_X10_signs, se_X10_X10_signs, in_X10⟩ ⟨⟨by decide, by decide⟩, by decide⟩ rfl rfl rfl m1.1 ⟨rfl, by decide⟩ (zafRv (fun h2 ⟨E2, o2⟩ => ?_)) (zno)
  refine zV.vret C F dX10_writes_26 rfl ?_
  exact ⟨rfl, (E1.trans E2).mono (by simp) (by simp), by rw [← hp]; exact o2⟩
set_option maxHeartbeats 4000000 in
set_option maxRecDepth 100000 in
theorem s_w3 {l : Launch} {E : zG} (hzs : zS E) (hst : l.stackTraces = false) (h : zH) (r : Nat) (hm : zMs h r) (o : List Nat) (ho : rOt h r o) (n : Nat) (hn : n < 10 ^ 4) (hl : o.length + (dcs n).length ≤ 60) : zMet l E yX10_writes cX10_writes 2 none ({ frames := 4, cells := 0, slots := 0, locals := 84 } : Room) 0 0 [.ref r, .int (nI n)] h (wrQ h r (o ++ dcs n)) (fun _ _ => False) := by
  refine zM_start hzs hst (by decide) (Nat.le_of_ble_eq_true rfl) (fun X C G F I => ?_)
  show zV X 0 0 _ 0 [(0, _), (1, _)] []
  refine zV.iload_n C dX10_writes_0 rfl ?_
  refine zV.bi (v := nI 9) C dX10_writes_1 (by decide) ?_
  refine zV.icmp_le (tgt := 14) C dX10_writes_3 (by decide) (fun q3 => ?_) (fun q3 => ?_)
  · have e3 : n ≤ 9 := nle (by decide) (by omega) q3
    exact s_w14_3 hzs hst C G rfl F (rE.refl h r |>.mono (by simp) (by simp)) hm ho (by have z := dcs_at (n := n) (o := o); rw [if_pos e3] at z; exact z) (by have := dcs_pos n; omega) (by omega)
  · have e3 : ¬ n ≤ 9 := fun z => q3 (nI_le z (by decide))
    refine zV.aload_n C dX10_writes_6 rfl rfl ?_
    refine zV.iload_n C dX10_writes_7 rfl ?_
    refine zV.bi (v := nI 10) C dX10_writes_8 (by decide) ?_
    refine zV.idiv C dX10_writes_10 (by decide) ?_
    rw [pk_div (show n < 2 ^ 31 by omega) (by decide) (by decide)]
    refine zV.callV (n := 1) C G dX10_writes_11 (s_w2 hzs hst h r hm o ho (n / 10) (by omega) (by have := dcs_l e3; omega)) rfl ⟨cd_X10_writes, lk_X10_206, im_X10_writes, se_X10_X10_writes, in_X10⟩ ⟨⟨by decide, by decide⟩, by decide⟩ rfl rfl rfl (hm.1) ⟨rfl, by decide⟩ (zafRv (fun h1 ⟨E1, o1⟩ => ?_)) (zno)
    exact s_w14_3 hzs hst C G rfl F E1 (E1.m hm) o1 (by have z := dcs_at (n := n) (o := o); rw [if_neg e3] at z; exact z) (by have := dcs_l e3; rw [List.length_append]; omega) (by omega)
set_option maxHeartbeats 4000000 in
set_option maxRecDepth 100000 in
theorem s_w14_4 {X : zX} {l : Launch} {E : zG} {rm : Room} (hzs : zS E) (hst : l.stackTraces = false) (C : zC X cX10_writes RX10 2) (G : zGX X l E rm) {h h1 : zH} {r n : Nat} {o p : List Nat} {Qx : String → zH → Prop} (hr : rm = ({ frames := 5, cells := 0, slots := 0, locals := 105 } : Room)) (F : zF X none 0 0 (wrQ h r (o ++ dcs n)) Qx) (E1 : rE h h1 r [424] [6]) (m1 : zMs h1 r) (o1 : rOt h1 r p) (hp : p ++ [48 + n % 10] = o ++ dcs n) (hl : p.length < 60) (hn : n < 2 ^ 31) : zV X 0 0 h1 14 [(0, .ref r), (1, .int (nI n))] [] := by
  subst hr
  refine zV.aload_n C dX10_writes_14 rfl rfl ?_
  refine zV.bi (v := nI 48) C dX10_writes_15 (by decide) ?_
  refine zV.iload_n C dX10_writes_17 rfl ?_
  refine zV.bi (v := nI 10) C dX10_writes_18 (by decide) ?_
  refine zV.irem C dX10_writes_20 (by decide) ?_
  refine zV.iadd C dX10_writes_21 ?_
  rw [pk_rem hn (show 0 < 10 by decide) (by decide), nI_add]
  refine zV.i2c C dX10_writes_22 ?_
  rw [i2c_c _ (by omega)]
  refine zV.callV (n := 1) C G dX10_writes_23 (s_wsigns hzs hst h1 r m1 p o1 (48 + n % 10) (by omega) hl) rfl ⟨cd_X10_signs, lk_X10_209, im_X10_signs, se_X10_X10_signs, in_X10⟩ ⟨⟨by decide, by decide⟩, by decide⟩ rfl rfl rfl m1.1 ⟨rfl, by decide⟩ (zafRv (fun h2 ⟨E2, o2⟩ => ?_)) (zno)
  refine zV.vret C F dX10_writes_26 rfl ?_
  exact ⟨rfl, (E1.trans E2).mono (by simp) (by simp), by rw [← hp]; exact o2⟩
set_option maxHeartbeats 4000000 in
set_option maxRecDepth 100000 in
theorem s_w4 {l : Launch} {E : zG} (hzs : zS E) (hst : l.stackTraces = false) (h : zH) (r : Nat) (hm : zMs h r) (o : List Nat) (ho : rOt h r o) (n : Nat) (hn : n < 10 ^ 5) (hl : o.length + (dcs n).length ≤ 60) : zMet l E yX10_writes cX10_writes 2 none ({ frames := 5, cells := 0, slots := 0, locals := 105 } : Room) 0 0 [.ref r, .int (nI n)] h (wrQ h r (o ++ dcs n)) (fun _ _ => False) := by
  refine zM_start hzs hst (by decide) (Nat.le_of_ble_eq_true rfl) (fun X C G F I => ?_)
  show zV X 0 0 _ 0 [(0, _), (1, _)] []
  refine zV.iload_n C dX10_writes_0 rfl ?_
  refine zV.bi (v := nI 9) C dX10_writes_1 (by decide) ?_
  refine zV.icmp_le (tgt := 14) C dX10_writes_3 (by decide) (fun q3 => ?_) (fun q3 => ?_)
  · have e3 : n ≤ 9 := nle (by decide) (by omega) q3
    exact s_w14_4 hzs hst C G rfl F (rE.refl h r |>.mono (by simp) (by simp)) hm ho (by have z := dcs_at (n := n) (o := o); rw [if_pos e3] at z; exact z) (by have := dcs_pos n; omega) (by omega)
  · have e3 : ¬ n ≤ 9 := fun z => q3 (nI_le z (by decide))
    refine zV.aload_n C dX10_writes_6 rfl rfl ?_
    refine zV.iload_n C dX10_writes_7 rfl ?_
    refine zV.bi (v := nI 10) C dX10_writes_8 (by decide) ?_
    refine zV.idiv C dX10_writes_10 (by decide) ?_
    rw [pk_div (show n < 2 ^ 31 by omega) (by decide) (by decide)]
    refine zV.callV (n := 1) C G dX10_writes_11 (s_w3 hzs hst h r hm o ho (n / 10) (by omega) (by have := dcs_l e3; omega)) rfl ⟨cd_X10_writes, lk_X10_206, im_X10_writes, se_X10_X10_writes, in_X10⟩ ⟨⟨by decide, by decide⟩, by decide⟩ rfl rfl rfl (hm.1) ⟨rfl, by decide⟩ (zafRv (fun h1 ⟨E1, o1⟩ => ?_)) (zno)
    exact s_w14_4 hzs hst C G rfl F E1 (E1.m hm) o1 (by have z := dcs_at (n := n) (o := o); rw [if_neg e3] at z; exact z) (by have := dcs_l e3; rw [List.length_append]; omega) (by omega)
set_option maxHeartbeats 4000000 in
set_option maxRecDepth 100000 in
theorem s_wlE {X : zX} {l : Launch} {E : zG} {rm : Room} (hzs : zS E) (hst : l.stackTraces = false) (C : zC X cX10_writeLawn RX10 4) (G : zGX X l E rm) {H : zH} {r i n v : Nat} {B : Option Value → zH → Prop} {Qx : String → zH → Prop} (hr : rm = ({ frames := 6, cells := 0, slots := 0, locals := 126 } : Room)) (F : zF X (some .int) 0 0 B Qx) (hm : zMs H r) (hi : i < 6) (hv : aI H (r + 1) (8 + 8 * i + 2) = nI n) (hn : n < 100) (ho : hI H 424 r = nI v) (hB : B (some (.int (nI v))) H) : zV X 0 0 H 53 [(0, .ref r), (1, .int (nI i)), (2, .int (nI n))] [] := by
  subst hr
  refine zV.iload_n C dX10_writeLawn_53 rfl ?_
  refine zV.aload_n C dX10_writeLawn_54 rfl rfl ?_
  refine zV.iload_n C dX10_writeLawn_55 rfl ?_
  refine zV.ic (v := nI 2) C dX10_writeLawn_56 (by decide) ?_
  refine zV.callV (n := 2) C G dX10_writeLawn_57 (s_mlawn hzs hst H r hm i 2 hi (by decide)) rfl ⟨cd_X10_lawn, lk_X10_69, im_X10_lawn, se_X10_X10_lawn, in_X10⟩ ⟨⟨by decide, by decide⟩, by decide⟩ rfl rfl rfl hm.1 ⟨rfl, by decide⟩ (zaf ?_) (zno)
  rw [hv]
  refine zV.icmp_ge (tgt := 128) C dX10_writeLawn_60 (by decide) (fun q60 => ?_) (fun q60 => ?_)
  · refine zV.aload_n C dX10_writeLawn_128 rfl rfl ?_
    refine zV.gIv 424 (k := 8) C dX10_writeLawn_129 zcl_X10 (by decide) rfl lk_X10_203 hm.1 rfl (ho) ?_
    refine zV.iret C F dX10_writeLawn_132 rfl ?_
    exact hB
  · exact absurd (nI_le (Nat.le_refl n) (by omega)) q60
set_option maxHeartbeats 4000000 in
set_option maxRecDepth 100000 in
theorem L_wl {X : zX} {l : Launch} {E : zG} {rm : Room} (hzs : zS E) (hst : l.stackTraces = false) (C : zC X cX10_writeLawn RX10 4) (G : zGX X l E rm) {h : zH} {r i : Nat} {g : zGd} {cs9 : List zCh} {B : Option Value → zH → Prop} {Qx : String → zH → Prop} (hr : rm = ({ frames := 6, cells := 0, slots := 0, locals := 126 } : Room)) (F : zF X (some .int) 0 0 B Qx) (hi : i < 6) (hw : rW g cs9 (hrd (gC g))) (hp : cs9.Perm (gC g)) (hf : rF (aI h (r + 1)) g cs9 (hrd (gC g))) (hX : ∀ c ∈ gC g, chI c < 100000) (hW : (wl g i).length ≤ 60) (hB : ∀ H, rE h H r [435, 424] [6] → hI H 435 r = 0 → rOt H r (wl g i) → B (some (.int (nI (wl g i).length))) H) : ∀ n k H o, k + n = (flt (gC g) i).length → zMs H r → rE h H r [435, 424] [6] → hI H 435 r = 0 → rOt H r o → o ++ wlD ((flt (gC g) i).drop k) = wl g i → zV X 0 0 H 53 [(0, .ref r), (1, .int (nI i)), (2, .int (nI k))] [] := by
  subst hr
  intro n
  induction n with
  | zero =>
    intro k H o hk hm HE ht ho hs
    obtain rfl : k = (flt (gC g) i).length := by omega
    rw [List.drop_length] at hs
    have hs : o = wl g i := by rw [← hs]; exact (List.append_nil o).symm
    subst hs
    have hn5 : (flt (gC g) i).length ≤ 5 := by have := hw.2.2.1 i hi; rw [hrd_f, List.length_map] at this; exact this
    have hA : aI H (r + 1) = aI h (r + 1) := HE.r (by decide)
    exact s_wlE hzs hst C G rfl F hm hi (by rw [hA, (hf.2.1 i hi).1, hrd_f, List.length_map]) (by omega) ho.1 (hB H HE ht ho)
  | succ n ih =>
    intro k H o hk hm HE ht ho hs
    have hn5 : (flt (gC g) i).length ≤ 5 := by have := hw.2.2.1 i hi; rw [hrd_f, List.length_map] at this; exact this
    have hn5' : (hrd (gC g) i).length = (flt (gC g) i).length := by rw [hrd_f, List.length_map]
    have hA : aI H (r + 1) = aI h (r + 1) := HE.r (by decide)
    obtain ⟨c, hc, hdd⟩ := drop_cons (show k < (flt (gC g) i).length by omega)
    have hcm := List.mem_filter.mp (List.mem_of_getElem? hc)
    have hx : (hrd (gC g) i)[k]? = some (chI c) := by rw [hrd_f, List.getElem?_map, hc]; rfl
    have hc9 : c ∈ cs9 := hp.mem_iff.mpr hcm.1
    obtain ⟨j, ej, hj, hjl⟩ := pl_of hw hc9
    have hl12 := hw.1
    have hXc : chI c < 10 ^ 5 := hX c hcm.1
    have hRc : chR c < 10 ^ 5 := by have := (hw.2.1 c hc9).2.2.1; omega
    rw [hdd] at hs
    have hlen := congrArg List.length hs
    simp only [wlD, wlc, List.length_append, List.length_singleton] at hlen
    have hlf : chF c = true → (if chF c = true then [102] else ([] : List Nat)).length = 1 := fun z => by rw [if_pos z]; rfl
    refine zV.iload_n C dX10_writeLawn_53 rfl ?_
    refine zV.aload_n C dX10_writeLawn_54 rfl rfl ?_
    refine zV.iload_n C dX10_writeLawn_55 rfl ?_
    refine zV.ic (v := nI 2) C dX10_writeLawn_56 (by decide) ?_
    refine zV.callV (n := 2) C G dX10_writeLawn_57 (s_mlawn hzs hst H r hm i 2 hi (by decide)) rfl ⟨cd_X10_lawn, lk_X10_69, im_X10_lawn, se_X10_X10_lawn, in_X10⟩ ⟨⟨by decide, by decide⟩, by decide⟩ rfl rfl rfl hm.1 ⟨rfl, by decide⟩ (zaf ?_) (zno)
    rw [hA, (hf.2.1 i hi).1]
    refine zV.icmp_ge (tgt := 128) C dX10_writeLawn_60 (by decide) (fun q60 => ?_) (fun q60 => ?_)
    · exact absurd (nle (by omega) (by omega) q60) (by omega)
    · refine zV.aload_n C dX10_writeLawn_63 rfl rfl ?_
      refine zV.aload_n C dX10_writeLawn_64 rfl rfl ?_
      refine zV.iload_n C dX10_writeLawn_65 rfl ?_
      refine zV.iload_n C dX10_writeLawn_66 rfl ?_
      refine zV.callV (n := 2) C G dX10_writeLawn_67 (s_mherd hzs hst H r hm i k hi (by omega)) rfl ⟨cd_X10_herd, lk_X10_147, im_X10_herd, se_X10_X10_herd, in_X10⟩ ⟨⟨by decide, by decide⟩, by decide⟩ rfl rfl rfl hm.1 ⟨rfl, by decide⟩ (zaf ?_) (zno)
      rw [hA, (hf.2.1 i hi).2 k (chI c) hx]
      refine zV.callV (n := 1) C G dX10_writeLawn_70 (s_mplace hzs hst H r g cs9 (hrd (gC g)) hm (by rw [hA]; exact hf) hw (nI (chI c))) rfl ⟨cd_X10_place, lk_X10_129, im_X10_place, se_X10_X10_place, in_X10⟩ ⟨⟨by decide, by decide⟩, by decide⟩ rfl rfl rfl hm.1 ⟨rfl, by decide⟩ (zaf ?_) (zno)
      rw [ej]
      show zV X _ _ _ 73 _ (.int (nI j) :: _)
      refine zV.istore_n (lo' := [(0, _), (1, _), (2, _), (3, _)]) C dX10_writeLawn_73 (by decide) rfl rfl rfl ?_
      refine zV.aload_n C dX10_writeLawn_74 rfl rfl ?_
      refine zV.bi (v := nI 32) C dX10_writeLawn_75 (by decide) ?_
      refine zV.callV (n := 1) C G dX10_writeLawn_77 (s_wsigns hzs hst H r hm (o) ho 32 (by decide) (by (try simp only [List.length_append, List.length_singleton, List.length_nil]); omega)) rfl ⟨cd_X10_signs, lk_X10_209, im_X10_signs, se_X10_X10_signs, in_X10⟩ ⟨⟨by decide, by decide⟩, by decide⟩ rfl rfl rfl hm.1 ⟨rfl, by decide⟩ (zafRv (fun h1 ⟨E1, o1⟩ => ?_)) (zno)
      have G1 : rE h h1 r [435, 424] [6] := (HE.trans E1).mono (by simp) (by simp)
      have m1 := E1.m hm
      have t1 : hI h1 435 r = 0 := (E1.f (by decide)).trans ht
      have A1 : aI h1 (r + 1) = aI h (r + 1) := G1.r (by decide)
      refine zV.aload_n C dX10_writeLawn_80 rfl rfl ?_
      refine zV.aload_n C dX10_writeLawn_81 rfl rfl ?_
      refine zV.iload_n C dX10_writeLawn_82 rfl ?_
      refine zV.ic (v := nI 0) C dX10_writeLawn_83 (by decide) ?_
      refine zV.callV (n := 2) C G dX10_writeLawn_84 (s_mof hzs hst h1 r m1 j 0 (by omega) (by decide)) rfl ⟨cd_X10_of, lk_X10_65, im_X10_of, se_X10_X10_of, in_X10⟩ ⟨⟨by decide, by decide⟩, by decide⟩ rfl rfl rfl m1.1 ⟨rfl, by decide⟩ (zaf ?_) (zno)
      rw [A1, show 56 + 5 * j + 0 = 56 + 5 * j from rfl, (hf.1.2 j c hj).1]
      refine zV.callV (n := 1) C G dX10_writeLawn_87 (s_w4 hzs hst h1 r m1 (o ++ [32]) o1 (chI c) (hXc) (by (try simp only [List.length_append, List.length_singleton, List.length_nil]); omega)) rfl ⟨cd_X10_writes, lk_X10_206, im_X10_writes, se_X10_X10_writes, in_X10⟩ ⟨⟨by decide, by decide⟩, by decide⟩ rfl rfl rfl m1.1 ⟨rfl, by decide⟩ (zafRv (fun h2 ⟨E2, o2⟩ => ?_)) (zno)
      have G2 : rE h h2 r [435, 424] [6] := (G1.trans E2).mono (by simp) (by simp)
      have m2 := E2.m m1
      have t2 : hI h2 435 r = 0 := (E2.f (by decide)).trans t1
      refine zV.aload_n C dX10_writeLawn_90 rfl rfl ?_
      refine zV.bi (v := nI 114) C dX10_writeLawn_91 (by decide) ?_
      refine zV.callV (n := 1) C G dX10_writeLawn_93 (s_wsigns hzs hst h2 r m2 (o ++ [32] ++ dcs (chI c)) o2 114 (by decide) (by (try simp only [List.length_append, List.length_singleton, List.length_nil]); omega)) rfl ⟨cd_X10_signs, lk_X10_209, im_X10_signs, se_X10_X10_signs, in_X10⟩ ⟨⟨by decide, by decide⟩, by decide⟩ rfl rfl rfl m2.1 ⟨rfl, by decide⟩ (zafRv (fun h3 ⟨E3, o3⟩ => ?_)) (zno)
      have G3 : rE h h3 r [435, 424] [6] := (G2.trans E3).mono (by simp) (by simp)
      have m3 := E3.m m2
      have t3 : hI h3 435 r = 0 := (E3.f (by decide)).trans t2
      have A3 : aI h3 (r + 1) = aI h (r + 1) := G3.r (by decide)
      refine zV.aload_n C dX10_writeLawn_96 rfl rfl ?_
      refine zV.aload_n C dX10_writeLawn_97 rfl rfl ?_
      refine zV.iload_n C dX10_writeLawn_98 rfl ?_
      refine zV.ic (v := nI 2) C dX10_writeLawn_99 (by decide) ?_
      refine zV.callV (n := 2) C G dX10_writeLawn_100 (s_mof hzs hst h3 r m3 j 2 (by omega) (by decide)) rfl ⟨cd_X10_of, lk_X10_65, im_X10_of, se_X10_X10_of, in_X10⟩ ⟨⟨by decide, by decide⟩, by decide⟩ rfl rfl rfl m3.1 ⟨rfl, by decide⟩ (zaf ?_) (zno)
      rw [A3, (hf.1.2 j c hj).2.2.1]
      refine zV.callV (n := 1) C G dX10_writeLawn_103 (s_w4 hzs hst h3 r m3 (o ++ [32] ++ dcs (chI c) ++ [114]) o3 (chR c) (hRc) (by (try simp only [List.length_append, List.length_singleton, List.length_nil]); omega)) rfl ⟨cd_X10_writes, lk_X10_206, im_X10_writes, se_X10_X10_writes, in_X10⟩ ⟨⟨by decide, by decide⟩, by decide⟩ rfl rfl rfl m3.1 ⟨rfl, by decide⟩ (zafRv (fun h4 ⟨E4, o4⟩ => ?_)) (zno)
      have G4 : rE h h4 r [435, 424] [6] := (G3.trans E4).mono (by simp) (by simp)
      have m4 := E4.m m3
      have t4 : hI h4 435 r = 0 := (E4.f (by decide)).trans t3
      have A4 : aI h4 (r + 1) = aI h (r + 1) := G4.r (by decide)
      refine zV.aload_n C dX10_writeLawn_106 rfl rfl ?_
      refine zV.iload_n C dX10_writeLawn_107 rfl ?_
      refine zV.ic (v := nI 3) C dX10_writeLawn_108 (by decide) ?_
      refine zV.callV (n := 2) C G dX10_writeLawn_109 (s_mof hzs hst h4 r m4 j 3 (by omega) (by decide)) rfl ⟨cd_X10_of, lk_X10_65, im_X10_of, se_X10_X10_of, in_X10⟩ ⟨⟨by decide, by decide⟩, by decide⟩ rfl rfl rfl m4.1 ⟨rfl, by decide⟩ (zaf ?_) (zno)
      rw [A4, (hf.1.2 j c hj).2.2.2.1]
      refine zV.ic (v := nI 1) C dX10_writeLawn_112 (by decide) ?_
      refine zV.icmp_ne (tgt := 122) C dX10_writeLawn_113 (by decide) (fun q113 => ?_) (fun q113 => ?_)
      · have eF : ¬ chF c = true := fun z => q113 (by rw [z]; rfl)
        refine zV.iinc (lo' := [(0, _), (1, _), (2, _), (3, _)]) C dX10_writeLawn_122 rfl (by decide) rfl rfl rfl ?_
        refine zV.goto (tgt := 53) C dX10_writeLawn_125 (by decide) ?_
        rw [inc1]
        first
          | (exact zV.sub [0, 1, 2] rfl (ih (k + 1) h5 (o ++ [32] ++ dcs (chI c) ++ [114] ++ dcs (chR c) ++ [102]) (by omega) (E5.m m4) ((G4.trans E5).mono (by simp) (by simp)) ((E5.f (by decide)).trans t4) o5 (by rw [← hs]; simp only [List.append_assoc, wlD, wlc]; rw [if_pos eF])))
          | exact zV.sub [0, 1, 2] rfl (ih (k + 1) h4 (o ++ [32] ++ dcs (chI c) ++ [114] ++ dcs (chR c)) (by omega) m4 G4 t4 o4 (by rw [← hs]; simp only [List.append_assoc, wlD, wlc]; rw [if_neg eF]; rfl))
      · have eF : chF c = true := by
          rcases z : chF c
          · rw [z] at q113; exact absurd q113 (by decide)
          · rfl
        have e9 := hlf eF
        refine zV.aload_n C dX10_writeLawn_116 rfl rfl ?_
        refine zV.bi (v := nI 102) C dX10_writeLawn_117 (by decide) ?_
        refine zV.callV (n := 1) C G dX10_writeLawn_119 (s_wsigns hzs hst h4 r m4 (o ++ [32] ++ dcs (chI c) ++ [114] ++ dcs (chR c)) o4 102 (by decide) (by (try simp only [List.length_append, List.length_singleton, List.length_nil]); omega)) rfl ⟨cd_X10_signs, lk_X10_209, im_X10_signs, se_X10_X10_signs, in_X10⟩ ⟨⟨by decide, by decide⟩, by decide⟩ rfl rfl rfl m4.1 ⟨rfl, by decide⟩ (zafRv (fun h5 ⟨E5, o5⟩ => ?_)) (zno)
        refine zV.iinc (lo' := [(0, _), (1, _), (2, _), (3, _)]) C dX10_writeLawn_122 rfl (by decide) rfl rfl rfl ?_
        refine zV.goto (tgt := 53) C dX10_writeLawn_125 (by decide) ?_
        rw [inc1]
        first
          | (exact zV.sub [0, 1, 2] rfl (ih (k + 1) h5 (o ++ [32] ++ dcs (chI c) ++ [114] ++ dcs (chR c) ++ [102]) (by omega) (E5.m m4) ((G4.trans E5).mono (by simp) (by simp)) ((E5.f (by decide)).trans t4) o5 (by rw [← hs]; simp only [List.append_assoc, wlD, wlc]; rw [if_pos eF])))
          | exact zV.sub [0, 1, 2] rfl (ih (k + 1) h4 (o ++ [32] ++ dcs (chI c) ++ [114] ++ dcs (chR c)) (by omega) m4 G4 t4 o4 (by rw [← hs]; simp only [List.append_assoc, wlD, wlc]; rw [if_neg eF]; rfl))
set_option maxHeartbeats 4000000 in
set_option maxRecDepth 100000 in
theorem s_qwriteLawn {l : Launch} {E : zG} (hzs : zS E) (hst : l.stackTraces = false) (h : zH) (r m : Nat) (g : zGd) (us : List zGd) (sn : Option zGd) (off rs dt cs : Int32) (t o : List Nat) (q : rSt h r g us sn off rs dt cs t o) (hR : gR m g) (hb : m + 3000 ≤ big) (hX : gX g ≤ 100000) (x : Int32) : zMet l E yX10_writeLawn cX10_writeLawn 4 (some .int) ({ frames := 6, cells := 0, slots := 0, locals := 126 } : Room) 0 0 [.ref r, .int x] h (msP h r (wlA g x) c1 (fun h' => rSt h' r g us sn off rs dt cs t (wlO g x o))) (fun _ _ => False) := by
  refine zM_start hzs hst (by decide) (Nat.le_of_ble_eq_true rfl) (fun X C G F I => ?_)
  show zV X 0 0 _ 0 [(0, _), (1, _)] []
  have hm := q.1
  rcases e1 : ln x with _ | i
  · refine zV.aload_n C dX10_writeLawn_0 rfl rfl ?_
    refine zV.iload_n C dX10_writeLawn_1 rfl ?_
    refine zV.callS (n := 1) C G dX10_writeLawn_2 (s_misLawn hzs hst h x) rfl ⟨cd_X10_isLawn, lk_X10_85, st_X10_isLawn, in_X10⟩ ⟨⟨by decide, by decide⟩, by decide⟩ rfl rfl rfl (zaf ?_) (zno)
    rw [e1]
    show zV X _ _ h 5 _ (.int (nI 0) :: _)
    refine zV.if_eq (tgt := 12) C dX10_writeLawn_5 (by decide) (fun q5 => ?_) (fun q5 => ?_)
    · refine zV.ic (v := nI 1) C dX10_writeLawn_12 (by decide) ?_
      refine zV.pI 435 (k := 19) C dX10_writeLawn_13 zcl_X10 (by decide) rfl lk_X10_39 rfl q.1.1 rfl ⟨rfl, rfl⟩ ?_
      refine zV.aload_n C dX10_writeLawn_16 rfl rfl ?_
      refine zV.gIv 435 (k := 19) C dX10_writeLawn_17 zcl_X10 (by decide) rfl lk_X10_39 q.1.1 rfl (hI_sI) ?_
      refine zV.if_le (tgt := 25) C dX10_writeLawn_20 (by decide) (fun q20 => ?_) (fun q20 => ?_)
      · exact absurd q20 (by decide)
      · refine zV.ic (v := nI 0) C dX10_writeLawn_23 (by decide) ?_
        refine zV.iret C F dX10_writeLawn_24 rfl ?_
        exact msP_x (lawA_n e1) rfl hI_sI rE.i (by decide) (by decide) (by rw [show wlO g x o = o from by unfold wlO; rw [e1]]; exact rSt_x q rE.i (by decide) (by decide))
    · exact absurd rfl q5
  · obtain ⟨hi, rfl⟩ := ln_some e1
    obtain ⟨cs9, hp, hsrt, hf⟩ := id q.2.1
    have hw := rG_W hR (by omega) hp
    have h5 : hsz (gC g) i ≤ 5 := by have := hw.2.2.1 i hi; rw [hrd_len] at this; exact this
    have hW := wl_60 (gQ_W hR.1 (by omega)) hX h5 hi
    have hgS : gS g i < 10 ^ 5 := by have := hR.1.1.2.2.2.1 i hi; omega
    have hd1 := dcs_le 0 i (by omega)
    have hd2 := dcs_le 1 (gS g i) (by have := hR.1.1.2.2.2.1 i hi; omega)
    refine zV.aload_n C dX10_writeLawn_0 rfl rfl ?_
    refine zV.iload_n C dX10_writeLawn_1 rfl ?_
    refine zV.callS (n := 1) C G dX10_writeLawn_2 (s_misLawn hzs hst h (nI i)) rfl ⟨cd_X10_isLawn, lk_X10_85, st_X10_isLawn, in_X10⟩ ⟨⟨by decide, by decide⟩, by decide⟩ rfl rfl rfl (zaf ?_) (zno)
    rw [e1]
    show zV X _ _ h 5 _ (.int (nI 1) :: _)
    refine zV.if_eq (tgt := 12) C dX10_writeLawn_5 (by decide) (fun q5 => ?_) (fun q5 => ?_)
    · exact absurd q5 (by decide)
    · refine zV.ic (v := nI 0) C dX10_writeLawn_8 (by decide) ?_
      refine zV.goto (tgt := 13) C dX10_writeLawn_9 (by decide) ?_
      refine zV.pI 435 (k := 19) C dX10_writeLawn_13 zcl_X10 (by decide) rfl lk_X10_39 rfl q.1.1 rfl ⟨rfl, rfl⟩ ?_
      refine zV.aload_n C dX10_writeLawn_16 rfl rfl ?_
      refine zV.gIv 435 (k := 19) C dX10_writeLawn_17 zcl_X10 (by decide) rfl lk_X10_39 q.1.1 rfl (hI_sI) ?_
      refine zV.if_le (tgt := 25) C dX10_writeLawn_20 (by decide) (fun q20 => ?_) (fun q20 => ?_)
      · refine zV.aload_n C dX10_writeLawn_25 rfl rfl ?_
        refine zV.ic (v := nI 0) C dX10_writeLawn_26 (by decide) ?_
        refine zV.pI 424 (k := 8) C dX10_writeLawn_27 zcl_X10 (by decide) rfl lk_X10_203 rfl q.1.1 rfl ⟨rfl, rfl⟩ ?_
        have G0 : rE h (sI (sI h 435 r (nI 0)) 424 r (nI 0)) r [435, 424] [6] := (rE.i.trans rE.i).mono (by simp) (by simp)
        have m0 := G0.m q.1
        have o0 : rOt (sI (sI h 435 r (nI 0)) 424 r (nI 0)) r [] := ⟨hI_sI, Nat.zero_le _, fun i c hc => by cases hc⟩
        have t0 : hI (sI (sI h 435 r (nI 0)) 424 r (nI 0)) 435 r = 0 := hI2 (by decide)
        refine zV.aload_n C dX10_writeLawn_30 rfl rfl ?_
        refine zV.iload_n C dX10_writeLawn_31 rfl ?_
        refine zV.callV (n := 1) C G dX10_writeLawn_32 (s_w4 hzs hst (sI (sI h 435 r (nI 0)) 424 r (nI 0)) r m0 ([]) o0 (i) ((by omega)) (by (try simp only [List.length_append, List.length_singleton, List.length_nil]); omega)) rfl ⟨cd_X10_writes, lk_X10_206, im_X10_writes, se_X10_X10_writes, in_X10⟩ ⟨⟨by decide, by decide⟩, by decide⟩ rfl rfl rfl m0.1 ⟨rfl, by decide⟩ (zafRv (fun h1 ⟨E1, o1⟩ => ?_)) (zno)
        have G1 : rE h h1 r [435, 424] [6] := (G0.trans E1).mono (by simp) (by simp)
        have m1 := E1.m m0
        have t1 : hI h1 435 r = 0 := (E1.f (by decide)).trans t0
        refine zV.aload_n C dX10_writeLawn_35 rfl rfl ?_
        refine zV.bi (v := nI 58) C dX10_writeLawn_36 (by decide) ?_
        refine zV.callV (n := 1) C G dX10_writeLawn_38 (s_wsigns hzs hst h1 r m1 ([] ++ dcs i) o1 58 (by decide) (by (try simp only [List.length_append, List.length_singleton, List.length_nil]); omega)) rfl ⟨cd_X10_signs, lk_X10_209, im_X10_signs, se_X10_X10_signs, in_X10⟩ ⟨⟨by decide, by decide⟩, by decide⟩ rfl rfl rfl m1.1 ⟨rfl, by decide⟩ (zafRv (fun h2 ⟨E2, o2⟩ => ?_)) (zno)
        have G2 : rE h h2 r [435, 424] [6] := (G1.trans E2).mono (by simp) (by simp)
        have m2 := E2.m m1
        have t2 : hI h2 435 r = 0 := (E2.f (by decide)).trans t1
        have A2 : aI h2 (r + 1) = aI h (r + 1) := G2.r (by decide)
        refine zV.aload_n C dX10_writeLawn_41 rfl rfl ?_
        refine zV.aload_n C dX10_writeLawn_42 rfl rfl ?_
        refine zV.iload_n C dX10_writeLawn_43 rfl ?_
        refine zV.ic (v := nI 0) C dX10_writeLawn_44 (by decide) ?_
        refine zV.callV (n := 2) C G dX10_writeLawn_45 (s_mlawn hzs hst h2 r m2 i 0 hi (by decide)) rfl ⟨cd_X10_lawn, lk_X10_69, im_X10_lawn, se_X10_X10_lawn, in_X10⟩ ⟨⟨by decide, by decide⟩, by decide⟩ rfl rfl rfl m2.1 ⟨rfl, by decide⟩ (zaf ?_) (zno)
        rw [A2, show 8 + 8 * i + 0 = 8 + 8 * i from rfl, (hf.2.2.1 i hi).1]
        refine zV.callV (n := 1) C G dX10_writeLawn_48 (s_w4 hzs hst h2 r m2 ([] ++ dcs i ++ [58]) o2 (gS g i) (hgS) (by (try simp only [List.length_append, List.length_singleton, List.length_nil]); omega)) rfl ⟨cd_X10_writes, lk_X10_206, im_X10_writes, se_X10_X10_writes, in_X10⟩ ⟨⟨by decide, by decide⟩, by decide⟩ rfl rfl rfl m2.1 ⟨rfl, by decide⟩ (zafRv (fun h3 ⟨E3, o3⟩ => ?_)) (zno)
        have G3 : rE h h3 r [435, 424] [6] := (G2.trans E3).mono (by simp) (by simp)
        have m3 := E3.m m2
        have t3 : hI h3 435 r = 0 := (E3.f (by decide)).trans t2
        refine zV.ic (v := nI 0) C dX10_writeLawn_51 (by decide) ?_
        refine zV.istore_n (lo' := [(0, _), (1, _), (2, _)]) C dX10_writeLawn_52 (by decide) rfl rfl rfl ?_
        refine L_wl hzs hst C G rfl F hi hw hp hf (fun c hc => by have := (hR.1.1.1 c hc).1; omega) hW (fun H HE ht9 ho9 => ?_) _ 0 h3 _ (Nat.zero_add _) m3 G3 t3 o3 (by unfold wl; rw [wlC_D, List.drop_zero]; simp only [List.append_assoc, List.nil_append])
        refine msP_r (lawA_s e1) ht9 HE (by decide) (by decide) ?_
        rw [show wlO g (nI i) o = wl g i from by unfold wlO; rw [e1]]
        obtain ⟨q1, q2, q3, q4, q5, q6, q7⟩ := q
        exact ⟨HE.m q1, by rw [HE.r (by decide)]; exact q2, rKp_e q3 HE (by decide) (by decide), rSv_e q4 HE (by decide) (by decide), rNm_e q5 HE (by decide), rTx_e q6 HE (by decide) (by decide), ho9⟩
      · exact absurd (by decide) q20
