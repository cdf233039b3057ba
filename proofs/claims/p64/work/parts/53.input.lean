/-! CommandInput: its reading -/
theorem sI_id {h : zH} {f a : Nat} {v : Int32} (e : hI h f a = v) : sI h f a v = h := by
  obtain ⟨n, k, l, i, r, ai, ar, aj, ad⟩ := h
  have e1 : up2 i f a v = i := by
    funext x y
    unfold up2
    split
    · rename_i z; rw [z.1, z.2]; exact e.symm
    · rfl
  show (n, k, l, up2 i f a v, r, ai, ar, aj, ad) = _
  rw [e1]
theorem sI_sI {h : zH} {f a : Nat} {v w : Int32} : sI (sI h f a v) f a w = sI h f a w := by
  obtain ⟨n, k, l, i, r, ai, ar, aj, ad⟩ := h
  have e1 : up2 (up2 i f a v) f a w = up2 i f a w := by
    funext x y
    unfold up2
    split <;> rfl
  show (n, k, l, up2 (up2 i f a v) f a w, r, ai, ar, aj, ad) = (n, k, l, up2 i f a w, r, ai, ar, aj, ad)
  rw [e1]
theorem nar_c : ∀ c, c < 128 → narrow .char (.int (nI c)) = .int (nI c) ∧ vp_nar .char (nI c) = nI c := by decide +kernel
theorem nn0 {n : Nat} (h : n < 2 ^ 31) : ¬ nI n < nI 0 := Int32.not_lt.mpr (nI_le (Nat.zero_le n) h)
/-- the character at p, or 0 -/
def nx (t : List Nat) (p : Nat) : Nat := t.getD p 0
theorem nx_lt {h : zH} {a : Nat} {t : List Nat} (q : zIn h a t) (p : Nat) : nx t p < 128 := by
  unfold nx
  rw [List.getD_eq_getElem?_getD]
  rcases e : t[p]? with _ | c
  · exact Nat.zero_lt_succ _
  · have := (q.2.2.2 p c e).2.2
    show c < 128
    omega
theorem nx_at {t : List Nat} {p c : Nat} (e : t[p]? = some c) : nx t p = c := by unfold nx; rw [List.getD_eq_getElem?_getD, e]; rfl
theorem nx_hi {t : List Nat} {p : Nat} (e : t.length ≤ p) : nx t p = 0 := by unfold nx; rw [List.getD_eq_getElem?_getD, List.getElem?_eq_none e]; rfl
/-- the input while it is read: at p, n commands read -/
def zIp (h : zH) (a : Nat) (t : List Nat) (p n : Nat) : Prop := zIn h a t ∧ hI h 165 a = nI p ∧ hI h 166 a = nI n
def dg (c : Nat) : Bool := decide (48 ≤ c) && decide (c ≤ 57)
/-- a number of at most n digits from p on, v read so far -/
def rdN (t : List Nat) : Nat → Nat → Option Nat → Option Nat × Nat
  | 0, p, v => (v, p)
  | n + 1, p, v => if dg (nx t p) = true then rdN t n (p + 1) (some (v.getD 0 * 10 + nx t p - 48)) else (v, p)
def psH (h : zH) (a p : Nat) : zH := sI h 165 a (nI p)
theorem psH_i {h : zH} {a p p' n : Nat} {t : List Nat} (q : zIp h a t p n) : zIp (psH h a p') a t p' n := by
  obtain ⟨⟨q1, q2, q3, q4⟩, q5, q6⟩ := q
  exact ⟨⟨q1, (hI_sI_f (by decide)).trans q2, q3, q4⟩, hI_sI, (hI_sI_f (by decide)).trans q6⟩
theorem psH_id {h : zH} {a p n : Nat} {t : List Nat} (q : zIp h a t p n) : psH h a p = h := sI_id q.2.1
theorem psH_2 {h : zH} {a p p' : Nat} : psH (psH h a p) a p' = psH h a p' := sI_sI
set_option maxHeartbeats 4000000 in
set_option maxRecDepth 100000 in
theorem s_inFull {l : Launch} {E : zG} (hzs : zS E) (hst : l.stackTraces = false) (h : zH) (a : Nat) (t : List Nat) (hi : zIn h a t) : zMet l E yX1_isFull cX1_isFull 1 (some .boolean) ({ frames := 0, cells := 0, slots := 0, locals := 0 } : Room) 0 0 [.ref a] h (fun r h' => r = some (.int (nI (if t.length < 60 then 0 else 1))) ∧ h' = h) (fun _ _ => False) := by
  refine zM_start hzs hst (by decide) (Nat.le_of_ble_eq_true rfl) (fun X C G F I => ?_)
  show zV X 0 0 _ 0 [(0, _)] []
  refine zV.aload_n C dX1_isFull_0 rfl rfl ?_
  refine zV.gIv 164 (k := 4) C dX1_isFull_1 zcl_X1 (by decide) rfl lk_X1_25 (hi.1.1) rfl (hi.2.1) ?_
  refine zV.bi (v := nI 60) C dX1_isFull_4 (by decide) ?_
  refine zV.icmp_lt (tgt := 13) C dX1_isFull_6 (by decide) (fun q6 => ?_) (fun q6 => ?_)
  · have e : t.length < 60 := by
      rcases Nat.lt_or_ge t.length 60 with z | z
      · exact z
      · exact absurd q6 (Int32.not_lt.mpr (nI_le z (by have := hi.2.2.1; omega)))
    refine zV.ic (v := nI 0) C dX1_isFull_13 (by decide) ?_
    refine zV.zret C F dX1_isFull_14 rfl rfl ?_
    exact ⟨by first | rw [if_pos e] | rw [if_neg e], rfl⟩
  · have e : ¬ t.length < 60 := fun z => q6 (nI_lt z (by decide))
    refine zV.ic (v := nI 1) C dX1_isFull_9 (by decide) ?_
    refine zV.goto (tgt := 14) C dX1_isFull_10 (by decide) ?_
    refine zV.zret C F dX1_isFull_14 rfl rfl ?_
    exact ⟨by first | rw [if_pos e] | rw [if_neg e], rfl⟩
theorem tk_i {h : zH} {a c : Nat} {t : List Nat} (q : zIn h a t) (hl : t.length < 60) (h1 : 32 ≤ c) (h2 : c ≤ 126) : zIn (sI (saI h (a + 1) t.length (nI c)) 164 a (nI (t.length + 1))) a (t ++ [c]) := by
  obtain ⟨q1, q2, q3, q4⟩ := q
  refine ⟨q1, by rw [List.length_append]; exact hI_sI, by rw [List.length_append]; exact hl, fun i d hd => ?_⟩
  rcases Nat.lt_trichotomy i t.length with z | z | z
  · rw [List.getElem?_append_left z] at hd
    exact ⟨(aI_saI_i (Nat.ne_of_lt z)).trans (q4 i d hd).1, (q4 i d hd).2⟩
  · subst z
    rw [List.getElem?_concat_length] at hd
    cases hd
    exact ⟨aI_saI, h1, h2⟩
  · rw [List.getElem?_eq_none (by rw [List.length_append]; exact z)] at hd
    cases hd
set_option maxHeartbeats 4000000 in
set_option maxRecDepth 100000 in
theorem s_take {l : Launch} {E : zG} (hzs : zS E) (hst : l.stackTraces = false) (h : zH) (a : Nat) (t : List Nat) (c : Nat) (hi : zIn h a t) (hl : t.length < 60) (h1 : 32 ≤ c) (h2 : c ≤ 126) : zMet l E yX1_take cX1_take 2 (some .int) ({ frames := 1, cells := 0, slots := 0, locals := 20 } : Room) 0 0 [.ref a, .int (nI c)] h (fun r h' => r = some (.int (nI (t.length + 1))) ∧ zIn h' a (t ++ [c]) ∧ zFq h h' a (a + 5)) (fun _ _ => False) := by
  refine zM_start hzs hst (by decide) (Nat.le_of_ble_eq_true rfl) (fun X C G F I => ?_)
  show zV X 0 0 _ 0 [(0, _), (1, _)] []
  refine zV.aload_n C dX1_take_0 rfl rfl ?_
  refine zV.callV (n := 0) C G dX1_take_1 (s_inFull hzs hst h a t hi) rfl ⟨cd_X1_isFull, lk_X1_29, im_X1_isFull, se_X1_X1_isFull, in_X1⟩ ⟨⟨by decide, by decide⟩, by decide⟩ rfl rfl rfl hi.1.1 ⟨rfl, by decide⟩ (zafe (by rw [if_pos hl]) ?_) (zno)
  refine zV.if_ne (tgt := 27) C dX1_take_4 (by decide) (fun q4 => ?_) (fun q4 => ?_)
  · exact absurd rfl q4
  · refine zV.aload_n C dX1_take_7 rfl rfl ?_
    refine zV.gR 160 (k := 0) C dX1_take_8 zcl_X1 (by decide) rfl lk_X1_9 (hi.1.1) rfl (hi.1.2.1) ?_
    refine zV.aload_n C dX1_take_11 rfl rfl ?_
    refine zV.gIv 164 (k := 4) C dX1_take_12 zcl_X1 (by decide) rfl lk_X1_25 (hi.1.1) rfl (hi.2.1) ?_
    refine zV.iload_n C dX1_take_15 rfl ?_
    refine zV.cast (j := t.length) C dX1_take_16 hi.1.2.2.2.2.2.1.1 (rfl) (by rw [hi.1.2.2.2.2.2.1.2]; omega) (by omega) (nar_c c (by omega)).2 ?_
    refine zV.aload_n C dX1_take_17 rfl rfl ?_
    refine zV.dup C dX1_take_18 rfl ?_
    refine zV.gIv 164 (k := 4) C dX1_take_19 zcl_X1 (by decide) rfl lk_X1_25 hi.1.1 rfl (hi.2.1) ?_
    refine zV.ic (v := nI 1) C dX1_take_22 (by decide) ?_
    refine zV.iadd C dX1_take_23 ?_
    rw [show nI t.length + nI 1 = nI (t.length + 1) from nI_add _ _]
    refine zV.pI 164 (k := 4) C dX1_take_24 zcl_X1 (by decide) rfl lk_X1_25 rfl hi.1.1 rfl ⟨rfl, rfl⟩ ?_
    refine zV.aload_n C dX1_take_27 rfl rfl ?_
    refine zV.gIv 164 (k := 4) C dX1_take_28 zcl_X1 (by decide) rfl lk_X1_25 hi.1.1 rfl (hI_sI) ?_
    refine zV.iret C F dX1_take_31 rfl ?_
    exact ⟨rfl, tk_i hi hl h1 h2, ((zFq.refl h _ _).saI (by omega) (by omega)).sI (Nat.le_refl _) (by omega)⟩
set_option maxHeartbeats 4000000 in
set_option maxRecDepth 100000 in
theorem s_inEmpty {l : Launch} {E : zG} (hzs : zS E) (hst : l.stackTraces = false) (h : zH) (a : Nat) (t : List Nat) (hi : zIn h a t) : zMet l E yX1_empty cX1_empty 1 none ({ frames := 0, cells := 0, slots := 0, locals := 0 } : Room) 0 0 [.ref a] h (fun r h' => r = none ∧ h' = sI h 164 a (nI 0)) (fun _ _ => False) := by
  refine zM_start hzs hst (by decide) (Nat.le_of_ble_eq_true rfl) (fun X C G F I => ?_)
  show zV X 0 0 _ 0 [(0, _)] []
  refine zV.aload_n C dX1_empty_0 rfl rfl ?_
  refine zV.ic (v := nI 0) C dX1_empty_1 (by decide) ?_
  refine zV.pI 164 (k := 4) C dX1_empty_2 zcl_X1 (by decide) rfl lk_X1_25 rfl hi.1.1 rfl ⟨rfl, rfl⟩ ?_
  refine zV.vret C F dX1_empty_5 rfl ?_
  exact ⟨rfl, rfl⟩
set_option maxHeartbeats 4000000 in
set_option maxRecDepth 100000 in
theorem s_isCommand {l : Launch} {E : zG} (hzs : zS E) (hst : l.stackTraces = false) (h : zH) (a : Nat) (t : List Nat) (p n i : Nat) (q : zIp h a t p n) (hin : i < n) (hn : n ≤ 60) : zMet l E yX1_isCommand cX1_isCommand 2 (some .boolean) ({ frames := 0, cells := 0, slots := 0, locals := 0 } : Room) 0 0 [.ref a, .int (nI i)] h (fun r h' => r = some (.int (nI 1)) ∧ h' = h) (fun _ _ => False) := by
  refine zM_start hzs hst (by decide) (Nat.le_of_ble_eq_true rfl) (fun X C G F I => ?_)
  show zV X 0 0 _ 0 [(0, _), (1, _)] []
  have hi := q.1
  refine zV.iload_n C dX1_isCommand_0 rfl ?_
  refine zV.if_lt (tgt := 16) C dX1_isCommand_1 (by decide) (fun q1 => ?_) (fun q1 => ?_)
  · exact absurd q1 (nn0 (by omega))
  · refine zV.iload_n C dX1_isCommand_4 rfl ?_
    refine zV.aload_n C dX1_isCommand_5 rfl rfl ?_
    refine zV.gIv 166 (k := 6) C dX1_isCommand_6 zcl_X1 (by decide) rfl lk_X1_40 (hi.1.1) rfl (q.2.2) ?_
    refine zV.icmp_ge (tgt := 16) C dX1_isCommand_9 (by decide) (fun q9 => ?_) (fun q9 => ?_)
    · exact absurd (nle (by omega) (by omega) q9) (by omega)
    · refine zV.ic (v := nI 1) C dX1_isCommand_12 (by decide) ?_
      refine zV.goto (tgt := 17) C dX1_isCommand_13 (by decide) ?_
      refine zV.zret C F dX1_isCommand_17 rfl rfl ?_
      exact ⟨rfl, rfl⟩
/-- the commands read -/
def zCm (h : zH) (a : Nat) (cs : List (Nat × Nat × Nat)) : Prop := ∀ (i : Nat) (c : Nat × Nat × Nat), cs[i]? = some c → aI h (a + 2) i = nI c.1 ∧ aI h (a + 3) i = nI c.2.1 ∧ aI h (a + 4) i = nI c.2.2 ∧ c.1 < 128
set_option maxHeartbeats 4000000 in
set_option maxRecDepth 100000 in
theorem s_deedOf {l : Launch} {E : zG} (hzs : zS E) (hst : l.stackTraces = false) (h : zH) (a : Nat) (t : List Nat) (p i : Nat) (cs : List (Nat × Nat × Nat)) (c : Nat × Nat × Nat) (q : zIp h a t p cs.length) (hn : cs.length ≤ 60) (hm : zCm h a cs) (hc : cs[i]? = some c) : zMet l E yX1_deedOf cX1_deedOf 2 (some .char) ({ frames := 1, cells := 0, slots := 0, locals := 21 } : Room) 0 0 [.ref a, .int (nI i)] h (fun r h' => r = some (.int (nI c.1)) ∧ h' = h) (fun _ _ => False) := by
  refine zM_start hzs hst (by decide) (Nat.le_of_ble_eq_true rfl) (fun X C G F I => ?_)
  show zV X 0 0 _ 0 [(0, _), (1, _)] []
  have hi := q.1
  have hil : i < cs.length := (List.getElem?_eq_some_iff.mp hc).1
  refine zV.aload_n C dX1_deedOf_0 rfl rfl ?_
  refine zV.iload_n C dX1_deedOf_1 rfl ?_
  refine zV.callV (n := 1) C G dX1_deedOf_2 (s_isCommand hzs hst h a t p cs.length i q hil hn) rfl ⟨cd_X1_isCommand, lk_X1_33, im_X1_isCommand, se_X1_X1_isCommand, in_X1⟩ ⟨⟨by decide, by decide⟩, by decide⟩ rfl rfl rfl hi.1.1 ⟨rfl, by decide⟩ (zaf ?_) (zno)
  refine zV.if_eq (tgt := 17) C dX1_deedOf_5 (by decide) (fun q5 => ?_) (fun q5 => ?_)
  · exact absurd q5 (by decide)
  · refine zV.aload_n C dX1_deedOf_8 rfl rfl ?_
    refine zV.gR 161 (k := 1) C dX1_deedOf_9 zcl_X1 (by decide) rfl lk_X1_15 (hi.1.1) rfl (hi.1.2.2.1) ?_
    refine zV.iload_n C dX1_deedOf_12 rfl ?_
    refine zV.caldv (j := i) C dX1_deedOf_13 hi.1.2.2.2.2.2.2.1.1 (rfl) (by rw [hi.1.2.2.2.2.2.2.1.2]; omega) (by omega) ((hm i c hc).1) ?_
    refine zV.goto (tgt := 18) C dX1_deedOf_14 (by decide) ?_
    refine zV.zret C F dX1_deedOf_18 (nar_c _ (hm i c hc).2.2.2).1 rfl ?_
    exact ⟨rfl, rfl⟩
set_option maxHeartbeats 4000000 in
set_option maxRecDepth 100000 in
theorem s_firstOf {l : Launch} {E : zG} (hzs : zS E) (hst : l.stackTraces = false) (h : zH) (a : Nat) (t : List Nat) (p i : Nat) (cs : List (Nat × Nat × Nat)) (c : Nat × Nat × Nat) (q : zIp h a t p cs.length) (hn : cs.length ≤ 60) (hm : zCm h a cs) (hc : cs[i]? = some c) : zMet l E yX1_firstOf cX1_firstOf 2 (some .int) ({ frames := 1, cells := 0, slots := 0, locals := 21 } : Room) 0 0 [.ref a, .int (nI i)] h (fun r h' => r = some (.int (nI c.2.1)) ∧ h' = h) (fun _ _ => False) := by
  refine zM_start hzs hst (by decide) (Nat.le_of_ble_eq_true rfl) (fun X C G F I => ?_)
  show zV X 0 0 _ 0 [(0, _), (1, _)] []
  have hi := q.1
  have hil : i < cs.length := (List.getElem?_eq_some_iff.mp hc).1
  refine zV.aload_n C dX1_firstOf_0 rfl rfl ?_
  refine zV.iload_n C dX1_firstOf_1 rfl ?_
  refine zV.callV (n := 1) C G dX1_firstOf_2 (s_isCommand hzs hst h a t p cs.length i q hil hn) rfl ⟨cd_X1_isCommand, lk_X1_33, im_X1_isCommand, se_X1_X1_isCommand, in_X1⟩ ⟨⟨by decide, by decide⟩, by decide⟩ rfl rfl rfl hi.1.1 ⟨rfl, by decide⟩ (zaf ?_) (zno)
  refine zV.if_eq (tgt := 17) C dX1_firstOf_5 (by decide) (fun q5 => ?_) (fun q5 => ?_)
  · exact absurd q5 (by decide)
  · refine zV.aload_n C dX1_firstOf_8 rfl rfl ?_
    refine zV.gR 162 (k := 2) C dX1_firstOf_9 zcl_X1 (by decide) rfl lk_X1_18 (hi.1.1) rfl (hi.1.2.2.2.1) ?_
    refine zV.iload_n C dX1_firstOf_12 rfl ?_
    refine zV.ialdv (j := i) C dX1_firstOf_13 hi.1.2.2.2.2.2.2.2.1.1 (rfl) (by rw [hi.1.2.2.2.2.2.2.2.1.2]; omega) (by omega) ((hm i c hc).2.1) ?_
    refine zV.goto (tgt := 18) C dX1_firstOf_14 (by decide) ?_
    refine zV.iret C F dX1_firstOf_18 rfl ?_
    exact ⟨rfl, rfl⟩
set_option maxHeartbeats 4000000 in
set_option maxRecDepth 100000 in
theorem s_secondOf {l : Launch} {E : zG} (hzs : zS E) (hst : l.stackTraces = false) (h : zH) (a : Nat) (t : List Nat) (p i : Nat) (cs : List (Nat × Nat × Nat)) (c : Nat × Nat × Nat) (q : zIp h a t p cs.length) (hn : cs.length ≤ 60) (hm : zCm h a cs) (hc : cs[i]? = some c) : zMet l E yX1_secondOf cX1_secondOf 2 (some .int) ({ frames := 1, cells := 0, slots := 0, locals := 21 } : Room) 0 0 [.ref a, .int (nI i)] h (fun r h' => r = some (.int (nI c.2.2)) ∧ h' = h) (fun _ _ => False) := by
  refine zM_start hzs hst (by decide) (Nat.le_of_ble_eq_true rfl) (fun X C G F I => ?_)
  show zV X 0 0 _ 0 [(0, _), (1, _)] []
  have hi := q.1
  have hil : i < cs.length := (List.getElem?_eq_some_iff.mp hc).1
  refine zV.aload_n C dX1_secondOf_0 rfl rfl ?_
  refine zV.iload_n C dX1_secondOf_1 rfl ?_
  refine zV.callV (n := 1) C G dX1_secondOf_2 (s_isCommand hzs hst h a t p cs.length i q hil hn) rfl ⟨cd_X1_isCommand, lk_X1_33, im_X1_isCommand, se_X1_X1_isCommand, in_X1⟩ ⟨⟨by decide, by decide⟩, by decide⟩ rfl rfl rfl hi.1.1 ⟨rfl, by decide⟩ (zaf ?_) (zno)
  refine zV.if_eq (tgt := 17) C dX1_secondOf_5 (by decide) (fun q5 => ?_) (fun q5 => ?_)
  · exact absurd q5 (by decide)
  · refine zV.aload_n C dX1_secondOf_8 rfl rfl ?_
    refine zV.gR 163 (k := 3) C dX1_secondOf_9 zcl_X1 (by decide) rfl lk_X1_22 (hi.1.1) rfl (hi.1.2.2.2.2.1) ?_
    refine zV.iload_n C dX1_secondOf_12 rfl ?_
    refine zV.ialdv (j := i) C dX1_secondOf_13 hi.1.2.2.2.2.2.2.2.2.1 (rfl) (by rw [hi.1.2.2.2.2.2.2.2.2.2]; omega) (by omega) ((hm i c hc).2.2.1) ?_
    refine zV.goto (tgt := 18) C dX1_secondOf_14 (by decide) ?_
    refine zV.iret C F dX1_secondOf_18 rfl ?_
    exact ⟨rfl, rfl⟩
set_option maxHeartbeats 4000000 in
set_option maxRecDepth 100000 in
theorem s_next {l : Launch} {E : zG} (hzs : zS E) (hst : l.stackTraces = false) (h : zH) (a : Nat) (t : List Nat) (p n : Nat) (q : zIp h a t p n) (hp : p < 1000) : zMet l E yX1_next cX1_next 1 (some .char) ({ frames := 0, cells := 0, slots := 0, locals := 0 } : Room) 0 0 [.ref a] h (fun r h' => r = some (.int (nI (nx t p))) ∧ h' = h) (fun _ _ => False) := by
  refine zM_start hzs hst (by decide) (Nat.le_of_ble_eq_true rfl) (fun X C G F I => ?_)
  show zV X 0 0 _ 0 [(0, _)] []
  have hi := q.1
  have hl := hi.2.2.1
  refine zV.aload_n C dX1_next_0 rfl rfl ?_
  refine zV.gIv 165 (k := 5) C dX1_next_1 zcl_X1 (by decide) rfl lk_X1_37 (hi.1.1) rfl (q.2.1) ?_
  refine zV.if_lt (tgt := 30) C dX1_next_4 (by decide) (fun q4 => ?_) (fun q4 => ?_)
  · exact absurd q4 (nn0 (by omega))
  · refine zV.aload_n C dX1_next_7 rfl rfl ?_
    refine zV.gIv 165 (k := 5) C dX1_next_8 zcl_X1 (by decide) rfl lk_X1_37 (hi.1.1) rfl (q.2.1) ?_
    refine zV.aload_n C dX1_next_11 rfl rfl ?_
    refine zV.gIv 164 (k := 4) C dX1_next_12 zcl_X1 (by decide) rfl lk_X1_25 (hi.1.1) rfl (hi.2.1) ?_
    refine zV.icmp_ge (tgt := 30) C dX1_next_15 (by decide) (fun q15 => ?_) (fun q15 => ?_)
    · have e := nx_hi (nle (by omega) (by omega) q15)
      refine zV.ic (v := nI 0) C dX1_next_30 (by decide) ?_
      refine zV.zret C F dX1_next_31 (by first | rfl | exact (nar_c _ (by rw [← e2]; exact nx_lt hi p)).1) rfl ?_
      exact ⟨by first | rw [e] | rw [e2], rfl⟩
    · have e : p < t.length := nlt (by omega) (by omega) q15
      have e1 := List.getElem?_eq_getElem e
      have e2 := nx_at e1
      refine zV.aload_n C dX1_next_18 rfl rfl ?_
      refine zV.gR 160 (k := 0) C dX1_next_19 zcl_X1 (by decide) rfl lk_X1_9 (hi.1.1) rfl (hi.1.2.1) ?_
      refine zV.aload_n C dX1_next_22 rfl rfl ?_
      refine zV.gIv 165 (k := 5) C dX1_next_23 zcl_X1 (by decide) rfl lk_X1_37 (hi.1.1) rfl (q.2.1) ?_
      refine zV.caldv (j := p) C dX1_next_26 hi.1.2.2.2.2.2.1.1 (rfl) (by rw [hi.1.2.2.2.2.2.1.2]; omega) (by omega) ((hi.2.2.2 p _ e1).1) ?_
      refine zV.goto (tgt := 31) C dX1_next_27 (by decide) ?_
      refine zV.zret C F dX1_next_31 (by first | rfl | exact (nar_c _ (by rw [← e2]; exact nx_lt hi p)).1) rfl ?_
      exact ⟨by first | rw [e] | rw [e2], rfl⟩
set_option maxHeartbeats 4000000 in
set_option maxRecDepth 100000 in
theorem s_isDigit {l : Launch} {E : zG} (hzs : zS E) (hst : l.stackTraces = false) (h : zH) (c : Nat) (hc : c < 128) : zMet l E yX1_isDigit cX1_isDigit 1 (some .boolean) ({ frames := 0, cells := 0, slots := 0, locals := 0 } : Room) 0 0 [.int (nI c)] h (fun r h' => r = some (.int (nI (b2 (dg c)))) ∧ h' = h) (fun _ _ => False) := by
  refine zM_start hzs hst (by decide) (Nat.le_of_ble_eq_true rfl) (fun X C G F I => ?_)
  show zV X 0 0 _ 0 [(0, _)] []
  refine zV.iload_n C dX1_isDigit_0 rfl ?_
  refine zV.bi (v := nI 48) C dX1_isDigit_1 (by decide) ?_
  refine zV.icmp_lt (tgt := 16) C dX1_isDigit_3 (by decide) (fun q3 => ?_) (fun q3 => ?_)
  · have e : dg c = false := by unfold dg; rw [decide_eq_false (fun z => Int32.not_lt.mpr (nI_le z (by omega)) q3)]; rfl
    refine zV.ic (v := nI 0) C dX1_isDigit_16 (by decide) ?_
    refine zV.zret C F dX1_isDigit_17 rfl rfl ?_
    exact ⟨by rw [e]; rfl, rfl⟩
  · have e3 : 48 ≤ c := nle (by omega) (by decide) (Int32.not_lt.mp q3)
    refine zV.iload_n C dX1_isDigit_6 rfl ?_
    refine zV.bi (v := nI 57) C dX1_isDigit_7 (by decide) ?_
    refine zV.icmp_gt (tgt := 16) C dX1_isDigit_9 (by decide) (fun q9 => ?_) (fun q9 => ?_)
    · have e : dg c = false := by unfold dg; rw [decide_eq_false (fun z => Int32.not_lt.mpr (nI_le z (by decide)) q9), Bool.and_false]
      refine zV.ic (v := nI 0) C dX1_isDigit_16 (by decide) ?_
      refine zV.zret C F dX1_isDigit_17 rfl rfl ?_
      exact ⟨by rw [e]; rfl, rfl⟩
    · have e : dg c = true := by unfold dg; rw [decide_eq_true e3, decide_eq_true (nle (by decide) (by omega) (Int32.not_lt.mp q9))]; rfl
      refine zV.ic (v := nI 1) C dX1_isDigit_12 (by decide) ?_
      refine zV.goto (tgt := 17) C dX1_isDigit_13 (by decide) ?_
      refine zV.zret C F dX1_isDigit_17 rfl rfl ?_
      exact ⟨by rw [e]; rfl, rfl⟩
set_option maxHeartbeats 4000000 in
set_option maxRecDepth 100000 in
theorem s_readSign {l : Launch} {E : zG} (hzs : zS E) (hst : l.stackTraces = false) (h : zH) (a : Nat) (t : List Nat) (s : Nat) (p n : Nat) (q : zIp h a t p n) (hp : p < 1000) (hs : s < 128) : zMet l E yX1_readSign cX1_readSign 2 (some .boolean) ({ frames := 1, cells := 0, slots := 0, locals := 20 } : Room) 0 0 [.ref a, .int (nI s)] h (fun r h' => r = some (.int (nI (if nx t p = s then 1 else 0))) ∧ h' = psH h a (if nx t p = s then p + 1 else p)) (fun _ _ => False) := by
  refine zM_start hzs hst (by decide) (Nat.le_of_ble_eq_true rfl) (fun X C G F I => ?_)
  show zV X 0 0 _ 0 [(0, _), (1, _)] []
  have hi := q.1
  have hx := nx_lt hi p
  refine zV.aload_n C dX1_readSign_0 rfl rfl ?_
  refine zV.callV (n := 0) C G dX1_readSign_1 (s_next hzs hst h a t p n q hp) rfl ⟨cd_X1_next, lk_X1_46, im_X1_next, se_X1_X1_next, in_X1⟩ ⟨⟨by decide, by decide⟩, by decide⟩ rfl rfl rfl hi.1.1 ⟨rfl, by decide⟩ (zaf ?_) (zno)
  refine zV.iload_n C dX1_readSign_4 rfl ?_
  refine zV.icmp_eq (tgt := 10) C dX1_readSign_5 (by decide) (fun q5 => ?_) (fun q5 => ?_)
  · have e : nx t p = s := (neqn (by omega) (by omega)).mp q5
    refine zV.aload_n C dX1_readSign_10 rfl rfl ?_
    refine zV.dup C dX1_readSign_11 rfl ?_
    refine zV.gIv 165 (k := 5) C dX1_readSign_12 zcl_X1 (by decide) rfl lk_X1_37 hi.1.1 rfl (q.2.1) ?_
    refine zV.ic (v := nI 1) C dX1_readSign_15 (by decide) ?_
    refine zV.iadd C dX1_readSign_16 ?_
    rw [show nI p + nI 1 = nI (p + 1) from nI_add _ _]
    refine zV.pI 165 (k := 5) C dX1_readSign_17 zcl_X1 (by decide) rfl lk_X1_37 rfl hi.1.1 rfl ⟨rfl, rfl⟩ ?_
    refine zV.ic (v := nI 1) C dX1_readSign_20 (by decide) ?_
    refine zV.zret C F dX1_readSign_21 rfl rfl ?_
    exact ⟨by rw [if_pos e], by rw [if_pos e]; rfl⟩
  · have e : nx t p ≠ s := fun z => q5 (by rw [z])
    refine zV.ic (v := nI 0) C dX1_readSign_8 (by decide) ?_
    refine zV.zret C F dX1_readSign_9 rfl rfl ?_
    exact ⟨by rw [if_neg e], by rw [if_neg e]; exact (psH_id q).symm⟩
