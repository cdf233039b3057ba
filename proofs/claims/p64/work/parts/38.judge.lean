/-! Judge -/
/-- the lawn that a number is -/
def ln (x : Int32) : Option Nat := (List.range 6).find? (fun j => decide (x = nI j))
theorem ln_n : ∀ j, j < 6 → ln (nI j) = some j := by decide
theorem ln_some {x : Int32} {j : Nat} (h : ln x = some j) : j < 6 ∧ x = nI j := ⟨List.mem_range.mp (List.mem_of_find?_eq_some h), of_decide_eq_true (List.find?_some (p := fun j => decide (x = nI j)) h)⟩
theorem ln_none {x : Int32} (h : ln x = none) : x < 0 ∨ nI 6 ≤ x := by
  rcases Decidable.em (x < 0) with q | q
  · exact Or.inl q
  · rcases Decidable.em (nI 6 ≤ x) with q2 | q2
    · exact Or.inr q2
    · obtain ⟨j, hj, rfl⟩ := ge6 q q2
      rw [ln_n j hj] at h
      cases h
/-- the place of the chair with the id x, and the chair -/
def kc (g : zGd) (x : Int32) : Option (Nat × zCh) := match ixF x (gC g) 0 with
  | none => none
  | some k => match (gC g)[k]? with
    | none => none
    | some c => some (k, c)
theorem kc_some {g : zGd} {x : Int32} {k : Nat} {c : zCh} (h : kc g x = some (k, c)) : ixF x (gC g) 0 = some k ∧ (gC g)[k]? = some c ∧ nI (chI c) = x ∧ k < (gC g).length := by
  unfold kc at h
  rcases hx : ixF x (gC g) 0 with _ | j
  · rw [hx] at h; cases h
  · obtain ⟨d, h1, h2, h3⟩ := ix_some hx
    rw [hx] at h
    simp only [h1] at h
    cases h
    exact ⟨rfl, h1, h2, h3⟩
theorem kc_none {g : zGd} {x : Int32} (h : kc g x = none) : ixF x (gC g) 0 = none := by
  unfold kc at h
  rcases hx : ixF x (gC g) 0 with _ | j
  · rfl
  · obtain ⟨d, h1, h2, h3⟩ := ix_some hx
    rw [hx] at h
    simp only [h1] at h
    cases h
-- verdicts: 0 allowed, 1 unknown, 2 unfit, 3 rejected with a reason and a detail
abbrev zJ : Type := Nat × Nat × Int32
def jPv (g : zGd) (x y : Int32) : zJ := match ln x with
  | none => (1, 0, 0)
  | some i => match ln y with
    | none => (1, 0, 0)
    | some j => if i = j then (2, 0, 0) else if (gN g i).testBit j = true then (3, 1, nI (gP g)) else (0, 0, 0)
def jDg (g : zGd) (x y : Int32) : zJ := match ln x with
  | none => (1, 0, 0)
  | some i => match ln y with
    | none => (1, 0, 0)
    | some j => if i = j then (2, 0, 0) else if (gN g i).testBit j = true then (0, 0, 0) else (3, 2, oI (far (gN g) i j))
def jSh (x y : Int32) : zJ := match ln x with
  | some _ => if y < 0 then (2, 0, 0) else if y ≤ nI 20 then (0, 0, 0) else (2, 0, 0)
  | none => (1, 0, 0)
def jCm (g : zGd) (x y : Int32) : zJ := match ln x with
  | some i => if y < 0 then (2, 0, 0) else if y ≤ nI 9 then (if 12 ≤ (gC g).length then (3, 3, nI 12) else if 5 ≤ hsz (gC g) i then (3, 4, x) else (0, 0, 0)) else (2, 0, 0)
  | none => (1, 0, 0)
def jSc (g : zGd) (x : Int32) : zJ := match kc g x with
  | some _ => (0, 0, 0)
  | none => (1, 0, 0)
def jFo (g : zGd) (x : Int32) : zJ := match kc g x with
  | some (_, c) => if chF c = true then (3, 5, x) else (0, 0, 0)
  | none => (1, 0, 0)
def jUn (g : zGd) (x : Int32) : zJ := match kc g x with
  | some (_, c) => if chF c = true then (0, 0, 0) else (3, 6, x)
  | none => (1, 0, 0)
def jOi (g : zGd) (x : Int32) : zJ := match kc g x with
  | some (_, c) => if chR c = 0 then (3, 8, nI (gO g)) else if gO g = 0 then (3, 9, nI (chR c)) else (0, 0, 0)
  | none => (1, 0, 0)
def jMv (g : zGd) (x y : Int32) : zJ := match kc g x with
  | none => (1, 0, 0)
  | some (_, c) => match ln y with
    | none => (1, 0, 0)
    | some j => if chF c = true then (3, 5, x) else if (gN g (chL c)).testBit j = true then (if 5 ≤ hsz (gC g) j then (3, 4, y) else (0, 0, 0)) else (3, 2, oI (far (gN g) (chL c) j))
def jMg (g : zGd) (x y : Int32) : zJ := match ln x with
  | none => (1, 0, 0)
  | some i => match ln y with
    | none => (1, 0, 0)
    | some j => if (gN g i).testBit j = true then (if (gC g).countP (chGr i) = 0 then (3, 7, nI (hsz (gC g) i)) else if 5 ≤ hsz (gC g) j then (3, 4, y) else (0, 0, 0)) else (3, 2, oI (far (gN g) i j))
def jAo (g : zGd) (x : Int32) : zJ := if x < nI 1 then (2, 0, 0) else if x ≤ nI 10 then (if nI (gO g) + x ≤ nI 20 then (0, 0, 0) else (3, 10, nI (gO g))) else (2, 0, 0)
def dyB (x : Int32) : Bool := !decide (x < nI 1) && decide (x ≤ nI 20)
def jDy (x : Int32) : zJ := if dyB x = true then (0, 0, 0) else (2, 0, 0)
def jd (g : zGd) (d : Nat) (x y : Int32) : zJ :=
  if d = 112 then jPv g x y else if d = 113 then jDg g x y else if d = 104 then jSh x y else if d = 99 then jCm g x y else if d = 115 then jSc g x else if d = 102 then jFo g x else if d = 117 then jUn g x else if d = 111 then jOi g x else if d = 109 then jMv g x y else if d = 103 then jMg g x y else if d = 97 then jAo g x else jDy x
/-- nothing outside the cells from a up to e is another -/
def zFq (h h' : zH) (a e : Nat) : Prop :=
  hN h' = hN h ∧ hK h' = hK h ∧ hL h' = hL h ∧ hR h' = hR h ∧ aJ h' = aJ h ∧ aD h' = aD h ∧ (∀ f c, (c < a ∨ e ≤ c) → hI h' f c = hI h f c) ∧ (∀ c i, (c < a ∨ e ≤ c) → aI h' c i = aI h c i ∧ aR h' c i = aR h c i)
theorem zFr.q {h h' : zH} {b : Nat} (f : zFr h h' b) : zFq h h' b (b + 21) := f
theorem zFq.refl (h : zH) (a e : Nat) : zFq h h a e := ⟨rfl, rfl, rfl, rfl, rfl, rfl, fun _ _ _ => rfl, fun _ _ _ => ⟨rfl, rfl⟩⟩
theorem zFq.trans {h h1 h2 : zH} {a e : Nat} (p : zFq h h1 a e) (q : zFq h1 h2 a e) : zFq h h2 a e := by
  obtain ⟨p1, p2, p3, p4, p5, p6, p7, p8⟩ := p
  obtain ⟨q1, q2, q3, q4, q5, q6, q7, q8⟩ := q
  exact ⟨q1.trans p1, q2.trans p2, q3.trans p3, q4.trans p4, q5.trans p5, q6.trans p6, fun f c z => (q7 f c z).trans (p7 f c z), fun c i z => ⟨(q8 c i z).1.trans (p8 c i z).1, (q8 c i z).2.trans (p8 c i z).2⟩⟩
theorem zFq.mono {h h' : zH} {a e a' e' : Nat} (p : zFq h h' a e) (h1 : a' ≤ a) (h2 : e ≤ e') : zFq h h' a' e' := by
  obtain ⟨p1, p2, p3, p4, p5, p6, p7, p8⟩ := p
  exact ⟨p1, p2, p3, p4, p5, p6, fun f c z => p7 f c (by omega), fun c i z => p8 c i (by omega)⟩
theorem zFq.sI {h h1 : zH} {a e f c : Nat} {v : Int32} (p : zFq h h1 a e) (h2 : a ≤ c) (h3 : c < e) : zFq h (sI h1 f c v) a e :=
  p.trans ⟨rfl, rfl, rfl, rfl, rfl, rfl, fun g c z => up2_ne (fun q => by omega), fun _ _ _ => ⟨rfl, rfl⟩⟩
theorem zFq.saI {h h1 : zH} {a e c i : Nat} {v : Int32} (p : zFq h h1 a e) (h2 : a ≤ c) (h3 : c < e) : zFq h (saI h1 c i v) a e :=
  p.trans ⟨rfl, rfl, rfl, rfl, rfl, rfl, fun _ _ _ => rfl, fun c j z => ⟨up2_ne (fun q => by omega), rfl⟩⟩
theorem zFq.saR {h h1 : zH} {a e c i : Nat} {v : Option Nat} (p : zFq h h1 a e) (h2 : a ≤ c) (h3 : c < e) : zFq h (saR h1 c i v) a e :=
  p.trans ⟨rfl, rfl, rfl, rfl, rfl, rfl, fun _ _ _ => rfl, fun c j z => ⟨rfl, up2_ne (fun q => by omega)⟩⟩
theorem zGa_q {h h' : zH} {a e d : Nat} {g : zGd} (q : zGa h d g) (hl : (gC g).length ≤ 12) (f : zFq h h' a e) (hd : d + 21 ≤ a ∨ e ≤ d) : zGa h' d g := by
  obtain ⟨f1, f2, f3, f4, f5, f6, f7, f8⟩ := f
  have cb := (zGa_cs q).1
  refine ⟨zGs_same q.1 f2 f3 f4, zPa_same (zGa_pa q) f2 f3 f4 (fun j => (f8 _ j (by omega)).1), (f7 _ _ (by omega)).trans (zGa_p q), fun j hj => ((f8 _ j (by omega)).1).trans (zGa_s q j hj), fun j hj => ((f8 _ j (by omega)).1).trans (zGa_h q j hj), zCs_same (zGa_cs q) (fun k => (f8 _ k (by omega)).2) (fun f k hk => f7 _ _ (by have := cb k hk; omega)) (fun _ _ => trivial) hl, zNs_same (zGa_n q) (fun f => f7 _ _ (by omega))⟩
theorem zGt_q {h h' : zH} {a e d : Nat} (q : zGt h d) (f : zFq h h' a e) (hd : d + 21 ≤ a ∨ e ≤ d) : zGt h' d := by
  obtain ⟨f1, f2, f3, f4, f5, f6, f7, f8⟩ := f
  exact ⟨zGs_same q.1 f2 f3 f4, zCs_same q.2 (fun k => (f8 _ k (by omega)).2) (fun f k hk => f7 _ _ (by have := q.2.1 k hk; omega)) (fun _ _ => trivial) (Nat.zero_le _)⟩
/-- the judge at a has said j -/
def zJp (h h' : zH) (a : Nat) (j : zJ) : Prop := hI h' 288 a = nI j.1 ∧ (j.1 = 3 → hI h' 289 a = nI j.2.1 ∧ hI h' 290 a = j.2.2) ∧ zFq h h' a (a + 1)
def jRj (h : zH) (a : Nat) (x y : Int32) : zH := sI (sI (sI h 288 a (nI 3)) 289 a x) 290 a y
theorem zJp_rej {h : zH} {a r : Nat} {y : Int32} : zJp h (jRj h a (nI r) y) a (3, r, y) :=
  ⟨(hI_sI_f (by decide)).trans ((hI_sI_f (by decide)).trans hI_sI), fun _ => ⟨(hI_sI_f (by decide)).trans hI_sI, hI_sI⟩, (((zFq.refl h a (a + 1)).sI (Nat.le_refl _) (Nat.lt_succ_self _)).sI (Nat.le_refl _) (Nat.lt_succ_self _)).sI (Nat.le_refl _) (Nat.lt_succ_self _)⟩
theorem zJp_1 {h : zH} {a : Nat} : zJp h (sI h 288 a (nI 1)) a (1, 0, 0) := ⟨hI_sI, fun z => absurd z (by decide), (zFq.refl h a (a + 1)).sI (Nat.le_refl _) (Nat.lt_succ_self _)⟩
theorem zJp_2 {h : zH} {a : Nat} : zJp h (sI h 288 a (nI 2)) a (2, 0, 0) := ⟨hI_sI, fun z => absurd z (by decide), (zFq.refl h a (a + 1)).sI (Nat.le_refl _) (Nat.lt_succ_self _)⟩
theorem zJp_0 {h : zH} {a : Nat} (h0 : hI h 288 a = nI 0) : zJp h h a (0, 0, 0) := ⟨h0, fun z => absurd z (by decide), zFq.refl h a (a + 1)⟩
set_option maxHeartbeats 4000000 in
set_option maxRecDepth 100000 in
theorem s_isLawn {l : Launch} {E : zG} (hzs : zS E) (hst : l.stackTraces = false) (h : zH) (x : Int32) : zMet l E yX9_isLawn cX9_isLawn 1 (some .boolean) ({ frames := 0, cells := 0, slots := 0, locals := 0 } : Room) 0 0 [.int x] h (fun r h' => r = some (.int (nI (b2 (ln x).isSome))) ∧ h' = h) (fun _ _ => False) := by
  refine zM_start hzs hst (by decide) (Nat.le_of_ble_eq_true rfl) (fun X C G F I => ?_)
  show zV X 0 0 _ 0 [(0, _)] []
  refine zV.iload_n C dX9_isLawn_0 rfl ?_
  refine zV.if_lt (tgt := 14) C dX9_isLawn_1 (by decide) (fun q1 => ?_) (fun q1 => ?_)
  · have e : (ln x).isSome = false := by
      rcases hx : ln x with _ | j
      · rfl
      · obtain ⟨h1, rfl⟩ := ln_some hx
        exact absurd q1 (nI_pos (by omega))
    refine zV.ic (v := nI 0) C dX9_isLawn_14 (by decide) ?_
    refine zV.zret C F dX9_isLawn_15 rfl rfl ?_
    exact ⟨by rw [e]; rfl, rfl⟩
  · refine zV.iload_n C dX9_isLawn_4 rfl ?_
    refine zV.bi (v := nI 6) C dX9_isLawn_5 (by decide) ?_
    refine zV.icmp_ge (tgt := 14) C dX9_isLawn_7 (by decide) (fun q7 => ?_) (fun q7 => ?_)
    · have e : (ln x).isSome = false := by
        rcases hx : ln x with _ | j
        · rfl
        · obtain ⟨h1, rfl⟩ := ln_some hx
          exact absurd (nle (by omega) (by decide) q7) (by omega)
      refine zV.ic (v := nI 0) C dX9_isLawn_14 (by decide) ?_
      refine zV.zret C F dX9_isLawn_15 rfl rfl ?_
      exact ⟨by rw [e]; rfl, rfl⟩
    · have e : (ln x).isSome = true := by
        rcases hx : ln x with _ | j
        · exact ((ln_none hx).elim q1 q7).elim
        · rfl
      refine zV.ic (v := nI 1) C dX9_isLawn_10 (by decide) ?_
      refine zV.goto (tgt := 15) C dX9_isLawn_11 (by decide) ?_
      refine zV.zret C F dX9_isLawn_15 rfl rfl ?_
      exact ⟨by rw [e]; rfl, rfl⟩
set_option maxHeartbeats 4000000 in
set_option maxRecDepth 100000 in
theorem s_areDays {l : Launch} {E : zG} (hzs : zS E) (hst : l.stackTraces = false) (h : zH) (x : Int32) : zMet l E yX9_areDays cX9_areDays 1 (some .boolean) ({ frames := 0, cells := 0, slots := 0, locals := 0 } : Room) 0 0 [.int x] h (fun r h' => r = some (.int (nI (b2 (dyB x)))) ∧ h' = h) (fun _ _ => False) := by
  refine zM_start hzs hst (by decide) (Nat.le_of_ble_eq_true rfl) (fun X C G F I => ?_)
  show zV X 0 0 _ 0 [(0, _)] []
  refine zV.iload_n C dX9_areDays_0 rfl ?_
  refine zV.ic (v := nI 1) C dX9_areDays_1 (by decide) ?_
  refine zV.icmp_lt (tgt := 15) C dX9_areDays_2 (by decide) (fun q2 => ?_) (fun q2 => ?_)
  · have e : dyB x = false := by unfold dyB; rw [decide_eq_true q2]; rfl
    refine zV.ic (v := nI 0) C dX9_areDays_15 (by decide) ?_
    refine zV.zret C F dX9_areDays_16 rfl rfl ?_
    exact ⟨by rw [e]; rfl, rfl⟩
  · refine zV.iload_n C dX9_areDays_5 rfl ?_
    refine zV.bi (v := nI 20) C dX9_areDays_6 (by decide) ?_
    refine zV.icmp_gt (tgt := 15) C dX9_areDays_8 (by decide) (fun q8 => ?_) (fun q8 => ?_)
    · have e : dyB x = false := by unfold dyB; rw [decide_eq_false (Int32.not_le.mpr q8), Bool.and_false]
      refine zV.ic (v := nI 0) C dX9_areDays_15 (by decide) ?_
      refine zV.zret C F dX9_areDays_16 rfl rfl ?_
      exact ⟨by rw [e]; rfl, rfl⟩
    · have e : dyB x = true := by unfold dyB; rw [decide_eq_false q2, decide_eq_true (Int32.not_lt.mp q8)]; rfl
      refine zV.ic (v := nI 1) C dX9_areDays_11 (by decide) ?_
      refine zV.goto (tgt := 16) C dX9_areDays_12 (by decide) ?_
      refine zV.zret C F dX9_areDays_16 rfl rfl ?_
      exact ⟨by rw [e]; rfl, rfl⟩
set_option maxHeartbeats 4000000 in
set_option maxRecDepth 100000 in
theorem s_reject {l : Launch} {E : zG} (hzs : zS E) (hst : l.stackTraces = false) (h : zH) (a : Nat) (x y : Int32) (hk : hK h a = 10) : zMet l E yX6_reject cX6_reject 3 none ({ frames := 0, cells := 0, slots := 0, locals := 0 } : Room) 0 0 [.ref a, .int x, .int y] h (fun r h' => r = none ∧ h' = jRj h a x y) (fun _ _ => False) := by
  refine zM_start hzs hst (by decide) (Nat.le_of_ble_eq_true rfl) (fun X C G F I => ?_)
  show zV X 0 0 _ 0 [(0, _), (1, _), (2, _)] []
  refine zV.aload_n C dX6_reject_0 rfl rfl ?_
  refine zV.ic (v := nI 3) C dX6_reject_1 (by decide) ?_
  refine zV.pI 288 (k := 0) C dX6_reject_2 zcl_X6 (by decide) rfl lk_X6_11 rfl hk rfl ⟨rfl, rfl⟩ ?_
  refine zV.aload_n C dX6_reject_5 rfl rfl ?_
  refine zV.iload_n C dX6_reject_6 rfl ?_
  refine zV.pI 289 (k := 1) C dX6_reject_7 zcl_X6 (by decide) rfl lk_X6_55 rfl hk rfl ⟨rfl, rfl⟩ ?_
  refine zV.aload_n C dX6_reject_10 rfl rfl ?_
  refine zV.iload_n C dX6_reject_11 rfl ?_
  refine zV.pI 290 (k := 2) C dX6_reject_12 zcl_X6 (by decide) rfl lk_X6_58 rfl hk rfl ⟨rfl, rfl⟩ ?_
  refine zV.vret C F dX6_reject_15 rfl ?_
  exact ⟨rfl, rfl⟩
set_option maxHeartbeats 4000000 in
set_option maxRecDepth 100000 in
theorem s_isFull {l : Launch} {E : zG} (hzs : zS E) (hst : l.stackTraces = false) (h : zH) (b : Nat) (g : zGd) (j : Nat) (hj : j < 6) (hg : zGa h b g) (hw : gW g) : zMet l E yX6_isFull cX6_isFull 2 (some .boolean) ({ frames := 1, cells := 0, slots := 0, locals := 21 } : Room) 0 0 [.ref b, .int (nI j)] h (fun r h' => r = some (.int (nI (b2 (decide (5 ≤ hsz (gC g) j))))) ∧ h' = h) (fun _ _ => False) := by
  refine zM_start hzs hst (by decide) (Nat.le_of_ble_eq_true rfl) (fun X C G F I => ?_)
  show zV X 0 0 _ 0 [(0, _), (1, _)] []
  have hl := gW_len hw
  have hz : hsz (gC g) j ≤ (gC g).length := List.countP_le_length
  refine zV.aload_n C dX6_isFull_0 rfl rfl ?_
  refine zV.gNR 194 (k := 2) C dX6_isFull_1 zcl_X3 (by decide) rfl lk_X6_61 (hg.1.1) rfl (hg.1.2.2.2.1) ?_
  refine zV.iload_n C dX6_isFull_4 rfl ?_
  refine zV.callV (n := 1) C G dX6_isFull_5 (s_LawnRow_at hzs hst h (b + 6) j hj hg.1.2.2.2.2.2.2.2.1) rfl ⟨cd_X7_at, lk_X6_67, im_X7_at, se_X7_X7_at, in_X7⟩ ⟨⟨by decide, by decide⟩, by decide⟩ rfl rfl rfl (hg.1.2.2.2.2.2.2.2.1.1) ⟨rfl, by decide⟩ (zaf ?_) (zno)
  rw [zGa_h hg j hj]
  refine zV.ic (v := nI 5) C dX6_isFull_8 (by decide) ?_
  refine zV.icmp_lt (tgt := 16) C dX6_isFull_9 (by decide) (fun q9 => ?_) (fun q9 => ?_)
  · have e : decide (5 ≤ hsz (gC g) j) = false := decide_eq_false (by have := (nI_ltI (by omega) (by decide)).mp q9; omega)
    refine zV.ic (v := nI 0) C dX6_isFull_16 (by decide) ?_
    refine zV.zret C F dX6_isFull_17 rfl rfl ?_
    exact ⟨by rw [e]; rfl, rfl⟩
  · have e : decide (5 ≤ hsz (gC g) j) = true := decide_eq_true (by
      rcases Nat.lt_or_ge (hsz (gC g) j) 5 with z | z
      · exact absurd (nI_lt z (by omega)) q9
      · exact z)
    refine zV.ic (v := nI 1) C dX6_isFull_12 (by decide) ?_
    refine zV.goto (tgt := 17) C dX6_isFull_13 (by decide) ?_
    refine zV.zret C F dX6_isFull_17 rfl rfl ?_
    exact ⟨by rw [e]; rfl, rfl⟩
set_option maxHeartbeats 4000000 in
set_option maxRecDepth 100000 in
theorem s_examineNewPath {l : Launch} {E : zG} (hzs : zS E) (hst : l.stackTraces = false) (h : zH) (a b : Nat) (g : zGd) (x y : Int32) (hg : zGa h b g) (hw : gW g) (hk : hK h a = 10) (h0 : hI h 288 a = nI 0) : zMet l E yX6_examineNewPath cX6_examineNewPath 4 none ({ frames := 2, cells := 0, slots := 0, locals := 43 } : Room) 0 0 [.ref a, .ref b, .int x, .int y] h (fun r h' => r = none ∧ zJp h h' a (jPv g x y)) (fun _ _ => False) := by
  refine zM_start hzs hst (by decide) (Nat.le_of_ble_eq_true rfl) (fun X C G F I => ?_)
  show zV X 0 0 _ 0 [(0, _), (1, _), (2, _), (3, _)] []
  rcases hx : ln x with _ | i
  · refine zV.iload_n C dX6_examineNewPath_0 rfl ?_
    refine zV.callSN (n := 1) C G dX6_examineNewPath_1 (s_isLawn hzs hst h (x)) rfl ⟨cd_X9_isLawn, lk_X6_73, st_X9_isLawn, in_X9⟩ ⟨⟨by decide, by decide⟩, by decide⟩ rfl rfl rfl (zafe (show Value.int (nI (b2 (ln (x)).isSome)) = .int (nI 0) from by rw [hx]; rfl) ?_) (zno)
    refine zV.if_eq (tgt := 14) C dX6_examineNewPath_4 (by decide) (fun q4 => ?_) (fun q4 => ?_)
    · refine zV.aload_n C dX6_examineNewPath_14 rfl rfl ?_
      refine zV.ic (v := nI 1) C dX6_examineNewPath_15 (by decide) ?_
      refine zV.pI 288 (k := 0) C dX6_examineNewPath_16 zcl_X6 (by decide) rfl lk_X6_11 rfl hk rfl ⟨rfl, rfl⟩ ?_
      refine zV.goto (tgt := 59) C dX6_examineNewPath_19 (by decide) ?_
      refine zV.vret C F dX6_examineNewPath_59 rfl ?_
      refine ⟨rfl, ?_⟩
      simp only [jPv, hx]
      first
        | exact zJp_1
    · exact absurd rfl q4
  · obtain ⟨hi, rfl⟩ := ln_some hx
    rcases hy : ln y with _ | j
    · refine zV.iload_n C dX6_examineNewPath_0 rfl ?_
      refine zV.callSN (n := 1) C G dX6_examineNewPath_1 (s_isLawn hzs hst h (nI i)) rfl ⟨cd_X9_isLawn, lk_X6_73, st_X9_isLawn, in_X9⟩ ⟨⟨by decide, by decide⟩, by decide⟩ rfl rfl rfl (zafe (show Value.int (nI (b2 (ln (nI i)).isSome)) = .int (nI 1) from by rw [hx]; rfl) ?_) (zno)
      refine zV.if_eq (tgt := 14) C dX6_examineNewPath_4 (by decide) (fun q4 => ?_) (fun q4 => ?_)
      · exact absurd (show nI 1 = 0 from q4) (by decide)
      · refine zV.iload_n C dX6_examineNewPath_7 rfl ?_
        refine zV.callSN (n := 1) C G dX6_examineNewPath_8 (s_isLawn hzs hst h (y)) rfl ⟨cd_X9_isLawn, lk_X6_73, st_X9_isLawn, in_X9⟩ ⟨⟨by decide, by decide⟩, by decide⟩ rfl rfl rfl (zafe (show Value.int (nI (b2 (ln (y)).isSome)) = .int (nI 0) from by rw [hy]; rfl) ?_) (zno)
        refine zV.if_ne (tgt := 22) C dX6_examineNewPath_11 (by decide) (fun q11 => ?_) (fun q11 => ?_)
        · exact absurd rfl q11
        · refine zV.aload_n C dX6_examineNewPath_14 rfl rfl ?_
          refine zV.ic (v := nI 1) C dX6_examineNewPath_15 (by decide) ?_
          refine zV.pI 288 (k := 0) C dX6_examineNewPath_16 zcl_X6 (by decide) rfl lk_X6_11 rfl hk rfl ⟨rfl, rfl⟩ ?_
          refine zV.goto (tgt := 59) C dX6_examineNewPath_19 (by decide) ?_
          refine zV.vret C F dX6_examineNewPath_59 rfl ?_
          refine ⟨rfl, ?_⟩
          simp only [jPv, hx, hy]
          first
            | exact zJp_1
    · obtain ⟨hj, rfl⟩ := ln_some hy
      refine zV.iload_n C dX6_examineNewPath_0 rfl ?_
      refine zV.callSN (n := 1) C G dX6_examineNewPath_1 (s_isLawn hzs hst h (nI i)) rfl ⟨cd_X9_isLawn, lk_X6_73, st_X9_isLawn, in_X9⟩ ⟨⟨by decide, by decide⟩, by decide⟩ rfl rfl rfl (zafe (show Value.int (nI (b2 (ln (nI i)).isSome)) = .int (nI 1) from by rw [hx]; rfl) ?_) (zno)
      refine zV.if_eq (tgt := 14) C dX6_examineNewPath_4 (by decide) (fun q4 => ?_) (fun q4 => ?_)
      · exact absurd (show nI 1 = 0 from q4) (by decide)
      · refine zV.iload_n C dX6_examineNewPath_7 rfl ?_
        refine zV.callSN (n := 1) C G dX6_examineNewPath_8 (s_isLawn hzs hst h (nI j)) rfl ⟨cd_X9_isLawn, lk_X6_73, st_X9_isLawn, in_X9⟩ ⟨⟨by decide, by decide⟩, by decide⟩ rfl rfl rfl (zafe (show Value.int (nI (b2 (ln (nI j)).isSome)) = .int (nI 1) from by rw [hy]; rfl) ?_) (zno)
        refine zV.if_ne (tgt := 22) C dX6_examineNewPath_11 (by decide) (fun q11 => ?_) (fun q11 => ?_)
        · refine zV.iload_n C dX6_examineNewPath_22 rfl ?_
          refine zV.iload_n C dX6_examineNewPath_23 rfl ?_
          refine zV.icmp_ne (tgt := 35) C dX6_examineNewPath_24 (by decide) (fun q24 => ?_) (fun q24 => ?_)
          · have hij : i ≠ j := fun z => q24 (congrArg nI z)
            refine zV.aload_n C dX6_examineNewPath_35 rfl rfl ?_
            refine zV.gNR 192 (k := 0) C dX6_examineNewPath_36 zcl_X3 (by decide) rfl lk_X6_77 (hg.1.1) rfl (hg.1.2.1) ?_
            refine zV.iload_n C dX6_examineNewPath_39 rfl ?_
            refine zV.iload_n C dX6_examineNewPath_40 rfl ?_
            refine zV.callV (n := 2) C G dX6_examineNewPath_41 (s_Paths_areNeighbours hzs hst h (b + 1) (i) j (gN g) hi hj (zGa_pa hg)) rfl ⟨cd_X8_areNeighbours, lk_X6_81, im_X8_areNeighbours, se_X8_X8_areNeighbours, in_X8⟩ ⟨⟨by decide, by decide⟩, by decide⟩ rfl rfl rfl (hg.1.2.2.2.2.2.1.1) ⟨rfl, by decide⟩ (zaf ?_) (zno)
            refine zV.if_eq (tgt := 59) C dX6_examineNewPath_44 (by decide) (fun q44 => ?_) (fun q44 => ?_)
            · have hb := b01.mp q44
              refine zV.vret C F dX6_examineNewPath_59 rfl ?_
              refine ⟨rfl, ?_⟩
              simp only [jPv, hx, hy]
              first
                | (rw [if_pos hij]; exact zJp_2)
                | (rw [if_neg hij, if_pos hb]; exact zJp_rej)
                | (rw [if_neg hij, if_neg hb]; exact zJp_0 h0)
            · have hb := Decidable.of_not_not (fun z => q44 (b01.mpr z))
              refine zV.aload_n C dX6_examineNewPath_47 rfl rfl ?_
              refine zV.ic (v := nI 1) C dX6_examineNewPath_48 (by decide) ?_
              refine zV.aload_n C dX6_examineNewPath_49 rfl rfl ?_
              refine zV.gNR 192 (k := 0) C dX6_examineNewPath_50 zcl_X3 (by decide) rfl lk_X6_77 (hg.1.1) rfl (hg.1.2.1) ?_
              refine zV.gNIv 353 (k := 1) C dX6_examineNewPath_53 zcl_X8 (by decide) rfl lk_X6_87 (hg.1.2.2.2.2.2.1.1) rfl ((zGa_p hg)) ?_
              refine zV.callV (n := 2) C G dX6_examineNewPath_56 (s_reject hzs hst h a (nI 1) (nI (gP g)) hk) rfl ⟨cd_X6_reject, lk_X6_90, im_X6_reject, se_X6_X6_reject, in_X6⟩ ⟨⟨by decide, by decide⟩, by decide⟩ rfl rfl rfl hk ⟨rfl, by decide⟩ (zafv ?_) (zno)
              refine zV.vret C F dX6_examineNewPath_59 rfl ?_
              refine ⟨rfl, ?_⟩
              simp only [jPv, hx, hy]
              first
                | (rw [if_pos hij]; exact zJp_2)
                | (rw [if_neg hij, if_pos hb]; exact zJp_rej)
                | (rw [if_neg hij, if_neg hb]; exact zJp_0 h0)
          · have hij : i = j := (neqn (by omega) (by omega)).mp q24
            refine zV.aload_n C dX6_examineNewPath_27 rfl rfl ?_
            refine zV.ic (v := nI 2) C dX6_examineNewPath_28 (by decide) ?_
            refine zV.pI 288 (k := 0) C dX6_examineNewPath_29 zcl_X6 (by decide) rfl lk_X6_11 rfl hk rfl ⟨rfl, rfl⟩ ?_
            refine zV.goto (tgt := 59) C dX6_examineNewPath_32 (by decide) ?_
            refine zV.vret C F dX6_examineNewPath_59 rfl ?_
            refine ⟨rfl, ?_⟩
            simp only [jPv, hx, hy]
            first
              | (rw [if_pos hij]; exact zJp_2)
              | (rw [if_neg hij, if_pos hb]; exact zJp_rej)
              | (rw [if_neg hij, if_neg hb]; exact zJp_0 h0)
        · exact absurd (show nI 1 = 0 from q11) (by decide)
set_option maxHeartbeats 4000000 in
set_option maxRecDepth 100000 in
theorem s_examineOldPath {l : Launch} {E : zG} (hzs : zS E) (hst : l.stackTraces = false) (h : zH) (a b : Nat) (g : zGd) (x y : Int32) (hg : zGa h b g) (hw : gW g) (hk : hK h a = 10) (h0 : hI h 288 a = nI 0) : zMet l E yX6_examineOldPath cX6_examineOldPath 4 none ({ frames := 3, cells := 0, slots := 0, locals := 68 } : Room) 0 0 [.ref a, .ref b, .int x, .int y] h (fun r h' => r = none ∧ zJp h h' a (jDg g x y)) (fun _ _ => False) := by
  refine zM_start hzs hst (by decide) (Nat.le_of_ble_eq_true rfl) (fun X C G F I => ?_)
  show zV X 0 0 _ 0 [(0, _), (1, _), (2, _), (3, _)] []
  rcases hx : ln x with _ | i
  · refine zV.iload_n C dX6_examineOldPath_0 rfl ?_
    refine zV.callSN (n := 1) C G dX6_examineOldPath_1 (s_isLawn hzs hst h (x)) rfl ⟨cd_X9_isLawn, lk_X6_73, st_X9_isLawn, in_X9⟩ ⟨⟨by decide, by decide⟩, by decide⟩ rfl rfl rfl (zafe (show Value.int (nI (b2 (ln (x)).isSome)) = .int (nI 0) from by rw [hx]; rfl) ?_) (zno)
    refine zV.if_eq (tgt := 14) C dX6_examineOldPath_4 (by decide) (fun q4 => ?_) (fun q4 => ?_)
    · refine zV.aload_n C dX6_examineOldPath_14 rfl rfl ?_
      refine zV.ic (v := nI 1) C dX6_examineOldPath_15 (by decide) ?_
      refine zV.pI 288 (k := 0) C dX6_examineOldPath_16 zcl_X6 (by decide) rfl lk_X6_11 rfl hk rfl ⟨rfl, rfl⟩ ?_
      refine zV.goto (tgt := 61) C dX6_examineOldPath_19 (by decide) ?_
      refine zV.vret C F dX6_examineOldPath_61 rfl ?_
      refine ⟨rfl, ?_⟩
      simp only [jDg, hx]
      first
        | exact zJp_1
    · exact absurd rfl q4
  · obtain ⟨hi, rfl⟩ := ln_some hx
    rcases hy : ln y with _ | j
    · refine zV.iload_n C dX6_examineOldPath_0 rfl ?_
      refine zV.callSN (n := 1) C G dX6_examineOldPath_1 (s_isLawn hzs hst h (nI i)) rfl ⟨cd_X9_isLawn, lk_X6_73, st_X9_isLawn, in_X9⟩ ⟨⟨by decide, by decide⟩, by decide⟩ rfl rfl rfl (zafe (show Value.int (nI (b2 (ln (nI i)).isSome)) = .int (nI 1) from by rw [hx]; rfl) ?_) (zno)
      refine zV.if_eq (tgt := 14) C dX6_examineOldPath_4 (by decide) (fun q4 => ?_) (fun q4 => ?_)
      · exact absurd (show nI 1 = 0 from q4) (by decide)
      · refine zV.iload_n C dX6_examineOldPath_7 rfl ?_
        refine zV.callSN (n := 1) C G dX6_examineOldPath_8 (s_isLawn hzs hst h (y)) rfl ⟨cd_X9_isLawn, lk_X6_73, st_X9_isLawn, in_X9⟩ ⟨⟨by decide, by decide⟩, by decide⟩ rfl rfl rfl (zafe (show Value.int (nI (b2 (ln (y)).isSome)) = .int (nI 0) from by rw [hy]; rfl) ?_) (zno)
        refine zV.if_ne (tgt := 22) C dX6_examineOldPath_11 (by decide) (fun q11 => ?_) (fun q11 => ?_)
        · exact absurd rfl q11
        · refine zV.aload_n C dX6_examineOldPath_14 rfl rfl ?_
          refine zV.ic (v := nI 1) C dX6_examineOldPath_15 (by decide) ?_
          refine zV.pI 288 (k := 0) C dX6_examineOldPath_16 zcl_X6 (by decide) rfl lk_X6_11 rfl hk rfl ⟨rfl, rfl⟩ ?_
          refine zV.goto (tgt := 61) C dX6_examineOldPath_19 (by decide) ?_
          refine zV.vret C F dX6_examineOldPath_61 rfl ?_
          refine ⟨rfl, ?_⟩
          simp only [jDg, hx, hy]
          first
            | exact zJp_1
    · obtain ⟨hj, rfl⟩ := ln_some hy
      refine zV.iload_n C dX6_examineOldPath_0 rfl ?_
      refine zV.callSN (n := 1) C G dX6_examineOldPath_1 (s_isLawn hzs hst h (nI i)) rfl ⟨cd_X9_isLawn, lk_X6_73, st_X9_isLawn, in_X9⟩ ⟨⟨by decide, by decide⟩, by decide⟩ rfl rfl rfl (zafe (show Value.int (nI (b2 (ln (nI i)).isSome)) = .int (nI 1) from by rw [hx]; rfl) ?_) (zno)
      refine zV.if_eq (tgt := 14) C dX6_examineOldPath_4 (by decide) (fun q4 => ?_) (fun q4 => ?_)
      · exact absurd (show nI 1 = 0 from q4) (by decide)
      · refine zV.iload_n C dX6_examineOldPath_7 rfl ?_
        refine zV.callSN (n := 1) C G dX6_examineOldPath_8 (s_isLawn hzs hst h (nI j)) rfl ⟨cd_X9_isLawn, lk_X6_73, st_X9_isLawn, in_X9⟩ ⟨⟨by decide, by decide⟩, by decide⟩ rfl rfl rfl (zafe (show Value.int (nI (b2 (ln (nI j)).isSome)) = .int (nI 1) from by rw [hy]; rfl) ?_) (zno)
        refine zV.if_ne (tgt := 22) C dX6_examineOldPath_11 (by decide) (fun q11 => ?_) (fun q11 => ?_)
        · refine zV.iload_n C dX6_examineOldPath_22 rfl ?_
          refine zV.iload_n C dX6_examineOldPath_23 rfl ?_
          refine zV.icmp_ne (tgt := 35) C dX6_examineOldPath_24 (by decide) (fun q24 => ?_) (fun q24 => ?_)
          · have hij : i ≠ j := fun z => q24 (congrArg nI z)
            refine zV.aload_n C dX6_examineOldPath_35 rfl rfl ?_
            refine zV.gNR 192 (k := 0) C dX6_examineOldPath_36 zcl_X3 (by decide) rfl lk_X6_77 (hg.1.1) rfl (hg.1.2.1) ?_
            refine zV.iload_n C dX6_examineOldPath_39 rfl ?_
            refine zV.iload_n C dX6_examineOldPath_40 rfl ?_
            refine zV.callV (n := 2) C G dX6_examineOldPath_41 (s_Paths_areNeighbours hzs hst h (b + 1) (i) j (gN g) hi hj (zGa_pa hg)) rfl ⟨cd_X8_areNeighbours, lk_X6_81, im_X8_areNeighbours, se_X8_X8_areNeighbours, in_X8⟩ ⟨⟨by decide, by decide⟩, by decide⟩ rfl rfl rfl (hg.1.2.2.2.2.2.1.1) ⟨rfl, by decide⟩ (zaf ?_) (zno)
            refine zV.if_ne (tgt := 61) C dX6_examineOldPath_44 (by decide) (fun q44 => ?_) (fun q44 => ?_)
            · have hb := Decidable.of_not_not (fun z => q44 (b01.mpr z))
              refine zV.vret C F dX6_examineOldPath_61 rfl ?_
              refine ⟨rfl, ?_⟩
              simp only [jDg, hx, hy]
              first
                | (rw [if_pos hij]; exact zJp_2)
                | (rw [if_neg hij, if_neg hb]; exact zJp_rej)
                | (rw [if_neg hij, if_pos hb]; exact zJp_0 h0)
            · have hb := b01.mp q44
              refine zV.aload_n C dX6_examineOldPath_47 rfl rfl ?_
              refine zV.ic (v := nI 2) C dX6_examineOldPath_48 (by decide) ?_
              refine zV.aload_n C dX6_examineOldPath_49 rfl rfl ?_
              refine zV.gNR 192 (k := 0) C dX6_examineOldPath_50 zcl_X3 (by decide) rfl lk_X6_77 (hg.1.1) rfl (hg.1.2.1) ?_
              refine zV.iload_n C dX6_examineOldPath_53 rfl ?_
              refine zV.iload_n C dX6_examineOldPath_54 rfl ?_
              refine zV.callV (n := 2) C G dX6_examineOldPath_55 (s_Paths_stepsBetween hzs hst h (b + 1) (i) j (gN g) hi hj (zGa_pa hg)) rfl ⟨cd_X8_stepsBetween, lk_X6_93, im_X8_stepsBetween, se_X8_X8_stepsBetween, in_X8⟩ ⟨⟨by decide, by decide⟩, by decide⟩ rfl rfl rfl (hg.1.2.2.2.2.2.1.1) ⟨rfl, by decide⟩ (zaf ?_) (zno)
              refine zV.callV (n := 2) C G dX6_examineOldPath_58 (s_reject hzs hst h a (nI 2) (oI (far (gN g) i j)) hk) rfl ⟨cd_X6_reject, lk_X6_90, im_X6_reject, se_X6_X6_reject, in_X6⟩ ⟨⟨by decide, by decide⟩, by decide⟩ rfl rfl rfl hk ⟨rfl, by decide⟩ (zafv ?_) (zno)
              refine zV.vret C F dX6_examineOldPath_61 rfl ?_
              refine ⟨rfl, ?_⟩
              simp only [jDg, hx, hy]
              first
                | (rw [if_pos hij]; exact zJp_2)
                | (rw [if_neg hij, if_neg hb]; exact zJp_rej)
                | (rw [if_neg hij, if_pos hb]; exact zJp_0 h0)
          · have hij : i = j := (neqn (by omega) (by omega)).mp q24
            refine zV.aload_n C dX6_examineOldPath_27 rfl rfl ?_
            refine zV.ic (v := nI 2) C dX6_examineOldPath_28 (by decide) ?_
            refine zV.pI 288 (k := 0) C dX6_examineOldPath_29 zcl_X6 (by decide) rfl lk_X6_11 rfl hk rfl ⟨rfl, rfl⟩ ?_
            refine zV.goto (tgt := 61) C dX6_examineOldPath_32 (by decide) ?_
            refine zV.vret C F dX6_examineOldPath_61 rfl ?_
            refine ⟨rfl, ?_⟩
            simp only [jDg, hx, hy]
            first
              | (rw [if_pos hij]; exact zJp_2)
              | (rw [if_neg hij, if_neg hb]; exact zJp_rej)
              | (rw [if_neg hij, if_pos hb]; exact zJp_0 h0)
        · exact absurd (show nI 1 = 0 from q11) (by decide)
set_option maxHeartbeats 4000000 in
set_option maxRecDepth 100000 in
theorem s_examineShade {l : Launch} {E : zG} (hzs : zS E) (hst : l.stackTraces = false) (h : zH) (a : Nat) (x y : Int32) (hk : hK h a = 10) (h0 : hI h 288 a = nI 0) : zMet l E yX6_examineShade cX6_examineShade 3 none ({ frames := 1, cells := 0, slots := 0, locals := 20 } : Room) 0 0 [.ref a, .int x, .int y] h (fun r h' => r = none ∧ zJp h h' a (jSh x y)) (fun _ _ => False) := by
  refine zM_start hzs hst (by decide) (Nat.le_of_ble_eq_true rfl) (fun X C G F I => ?_)
  show zV X 0 0 _ 0 [(0, _), (1, _), (2, _)] []
  rcases hx : ln x with _ | i
  · refine zV.iload_n C dX6_examineShade_0 rfl ?_
    refine zV.callSN (n := 1) C G dX6_examineShade_1 (s_isLawn hzs hst h (x)) rfl ⟨cd_X9_isLawn, lk_X6_73, st_X9_isLawn, in_X9⟩ ⟨⟨by decide, by decide⟩, by decide⟩ rfl rfl rfl (zafe (show Value.int (nI (b2 (ln (x)).isSome)) = .int (nI 0) from by rw [hx]; rfl) ?_) (zno)
    refine zV.if_ne (tgt := 15) C dX6_examineShade_4 (by decide) (fun q4 => ?_) (fun q4 => ?_)
    · exact absurd rfl q4
    · refine zV.aload_n C dX6_examineShade_7 rfl rfl ?_
      refine zV.ic (v := nI 1) C dX6_examineShade_8 (by decide) ?_
      refine zV.pI 288 (k := 0) C dX6_examineShade_9 zcl_X6 (by decide) rfl lk_X6_11 rfl hk rfl ⟨rfl, rfl⟩ ?_
      refine zV.goto (tgt := 30) C dX6_examineShade_12 (by decide) ?_
      refine zV.vret C F dX6_examineShade_30 rfl ?_
      refine ⟨rfl, ?_⟩
      simp only [jSh, hx]
      first
        | exact zJp_1
  · refine zV.iload_n C dX6_examineShade_0 rfl ?_
    refine zV.callSN (n := 1) C G dX6_examineShade_1 (s_isLawn hzs hst h (x)) rfl ⟨cd_X9_isLawn, lk_X6_73, st_X9_isLawn, in_X9⟩ ⟨⟨by decide, by decide⟩, by decide⟩ rfl rfl rfl (zafe (show Value.int (nI (b2 (ln (x)).isSome)) = .int (nI 1) from by rw [hx]; rfl) ?_) (zno)
    refine zV.if_ne (tgt := 15) C dX6_examineShade_4 (by decide) (fun q4 => ?_) (fun q4 => ?_)
    · refine zV.iload_n C dX6_examineShade_15 rfl ?_
      refine zV.if_lt (tgt := 25) C dX6_examineShade_16 (by decide) (fun q16 => ?_) (fun q16 => ?_)
      · refine zV.aload_n C dX6_examineShade_25 rfl rfl ?_
        refine zV.ic (v := nI 2) C dX6_examineShade_26 (by decide) ?_
        refine zV.pI 288 (k := 0) C dX6_examineShade_27 zcl_X6 (by decide) rfl lk_X6_11 rfl hk rfl ⟨rfl, rfl⟩ ?_
        refine zV.vret C F dX6_examineShade_30 rfl ?_
        refine ⟨rfl, ?_⟩
        simp only [jSh, hx]
        first
          | (rw [if_pos q16]; exact zJp_2)
          | (rw [if_neg q16, if_pos q22]; exact zJp_0 h0)
          | (rw [if_neg q16, if_neg q22]; exact zJp_2)
      · refine zV.iload_n C dX6_examineShade_19 rfl ?_
        refine zV.bi (v := nI 20) C dX6_examineShade_20 (by decide) ?_
        refine zV.icmp_le (tgt := 30) C dX6_examineShade_22 (by decide) (fun q22 => ?_) (fun q22 => ?_)
        · refine zV.vret C F dX6_examineShade_30 rfl ?_
          refine ⟨rfl, ?_⟩
          simp only [jSh, hx]
          first
            | (rw [if_pos q16]; exact zJp_2)
            | (rw [if_neg q16, if_pos q22]; exact zJp_0 h0)
            | (rw [if_neg q16, if_neg q22]; exact zJp_2)
        · refine zV.aload_n C dX6_examineShade_25 rfl rfl ?_
          refine zV.ic (v := nI 2) C dX6_examineShade_26 (by decide) ?_
          refine zV.pI 288 (k := 0) C dX6_examineShade_27 zcl_X6 (by decide) rfl lk_X6_11 rfl hk rfl ⟨rfl, rfl⟩ ?_
          refine zV.vret C F dX6_examineShade_30 rfl ?_
          refine ⟨rfl, ?_⟩
          simp only [jSh, hx]
          first
            | (rw [if_pos q16]; exact zJp_2)
            | (rw [if_neg q16, if_pos q22]; exact zJp_0 h0)
            | (rw [if_neg q16, if_neg q22]; exact zJp_2)
    · exact absurd (show nI 1 = 0 from q4) (by decide)
set_option maxHeartbeats 4000000 in
set_option maxRecDepth 100000 in
theorem s_examineNewChair {l : Launch} {E : zG} (hzs : zS E) (hst : l.stackTraces = false) (h : zH) (a b : Nat) (g : zGd) (x y : Int32) (hg : zGa h b g) (hw : gW g) (hk : hK h a = 10) (h0 : hI h 288 a = nI 0) : zMet l E yX6_examineNewChair cX6_examineNewChair 4 none ({ frames := 2, cells := 0, slots := 0, locals := 42 } : Room) 0 0 [.ref a, .ref b, .int x, .int y] h (fun r h' => r = none ∧ zJp h h' a (jCm g x y)) (fun _ _ => False) := by
  refine zM_start hzs hst (by decide) (Nat.le_of_ble_eq_true rfl) (fun X C G F I => ?_)
  show zV X 0 0 _ 0 [(0, _), (1, _), (2, _), (3, _)] []
  rcases hx : ln x with _ | i
  · refine zV.iload_n C dX6_examineNewChair_0 rfl ?_
    refine zV.callSN (n := 1) C G dX6_examineNewChair_1 (s_isLawn hzs hst h (x)) rfl ⟨cd_X9_isLawn, lk_X6_73, st_X9_isLawn, in_X9⟩ ⟨⟨by decide, by decide⟩, by decide⟩ rfl rfl rfl (zafe (show Value.int (nI (b2 (ln (x)).isSome)) = .int (nI 0) from by rw [hx]; rfl) ?_) (zno)
    refine zV.if_ne (tgt := 15) C dX6_examineNewChair_4 (by decide) (fun q4 => ?_) (fun q4 => ?_)
    · exact absurd rfl q4
    · refine zV.aload_n C dX6_examineNewChair_7 rfl rfl ?_
      refine zV.ic (v := nI 1) C dX6_examineNewChair_8 (by decide) ?_
      refine zV.pI 288 (k := 0) C dX6_examineNewChair_9 zcl_X6 (by decide) rfl lk_X6_11 rfl hk rfl ⟨rfl, rfl⟩ ?_
      refine zV.goto (tgt := 66) C dX6_examineNewChair_12 (by decide) ?_
      refine zV.vret C F dX6_examineNewChair_66 rfl ?_
      refine ⟨rfl, ?_⟩
      simp only [jCm, hx]
      first
        | exact zJp_1
  · obtain ⟨hi, rfl⟩ := ln_some hx
    have hl := gW_len hw
    refine zV.iload_n C dX6_examineNewChair_0 rfl ?_
    refine zV.callSN (n := 1) C G dX6_examineNewChair_1 (s_isLawn hzs hst h (nI i)) rfl ⟨cd_X9_isLawn, lk_X6_73, st_X9_isLawn, in_X9⟩ ⟨⟨by decide, by decide⟩, by decide⟩ rfl rfl rfl (zafe (show Value.int (nI (b2 (ln (nI i)).isSome)) = .int (nI 1) from by rw [hx]; rfl) ?_) (zno)
    refine zV.if_ne (tgt := 15) C dX6_examineNewChair_4 (by decide) (fun q4 => ?_) (fun q4 => ?_)
    · refine zV.iload_n C dX6_examineNewChair_15 rfl ?_
      refine zV.if_lt (tgt := 25) C dX6_examineNewChair_16 (by decide) (fun q16 => ?_) (fun q16 => ?_)
      · refine zV.aload_n C dX6_examineNewChair_25 rfl rfl ?_
        refine zV.ic (v := nI 2) C dX6_examineNewChair_26 (by decide) ?_
        refine zV.pI 288 (k := 0) C dX6_examineNewChair_27 zcl_X6 (by decide) rfl lk_X6_11 rfl hk rfl ⟨rfl, rfl⟩ ?_
        refine zV.goto (tgt := 66) C dX6_examineNewChair_30 (by decide) ?_
        refine zV.vret C F dX6_examineNewChair_66 rfl ?_
        refine ⟨rfl, ?_⟩
        simp only [jCm, hx]
        first
          | (rw [if_pos q16]; exact zJp_2)
          | (rw [if_neg q16, if_neg q22]; exact zJp_2)
          | (rw [if_neg q16, if_pos q22, if_pos hc]; exact zJp_rej)
          | (rw [if_neg q16, if_pos q22, if_neg hc, if_pos hf]; exact zJp_rej)
          | (rw [if_neg q16, if_pos q22, if_neg hc, if_neg hf]; exact zJp_0 h0)
      · refine zV.iload_n C dX6_examineNewChair_19 rfl ?_
        refine zV.bi (v := nI 9) C dX6_examineNewChair_20 (by decide) ?_
        refine zV.icmp_le (tgt := 33) C dX6_examineNewChair_22 (by decide) (fun q22 => ?_) (fun q22 => ?_)
        · refine zV.aload_n C dX6_examineNewChair_33 rfl rfl ?_
          refine zV.gNIv 196 (k := 4) C dX6_examineNewChair_34 zcl_X3 (by decide) rfl lk_X6_97 (hg.1.1) rfl ((zGa_len hg)) ?_
          refine zV.bi (v := nI 12) C dX6_examineNewChair_37 (by decide) ?_
          refine zV.icmp_lt (tgt := 52) C dX6_examineNewChair_39 (by decide) (fun q39 => ?_) (fun q39 => ?_)
          · have hc : ¬ 12 ≤ (gC g).length := by have := (nI_ltI (by omega) (by decide)).mp q39; omega
            refine zV.aload_n C dX6_examineNewChair_52 rfl rfl ?_
            refine zV.iload_n C dX6_examineNewChair_53 rfl ?_
            refine zV.callS (n := 2) C G dX6_examineNewChair_54 (s_isFull hzs hst h b g i hi hg hw) rfl ⟨cd_X6_isFull, lk_X6_100, st_X6_isFull, in_X6⟩ ⟨⟨by decide, by decide⟩, by decide⟩ rfl rfl rfl (zaf ?_) (zno)
            refine zV.if_eq (tgt := 66) C dX6_examineNewChair_57 (by decide) (fun q57 => ?_) (fun q57 => ?_)
            · have hf : ¬ 5 ≤ hsz (gC g) i := of_decide_eq_false (b2n.mp q57)
              refine zV.vret C F dX6_examineNewChair_66 rfl ?_
              refine ⟨rfl, ?_⟩
              simp only [jCm, hx]
              first
                | (rw [if_pos q16]; exact zJp_2)
                | (rw [if_neg q16, if_neg q22]; exact zJp_2)
                | (rw [if_neg q16, if_pos q22, if_pos hc]; exact zJp_rej)
                | (rw [if_neg q16, if_pos q22, if_neg hc, if_pos hf]; exact zJp_rej)
                | (rw [if_neg q16, if_pos q22, if_neg hc, if_neg hf]; exact zJp_0 h0)
            · have hf : 5 ≤ hsz (gC g) i := of_decide_eq_true (Bool.of_not_eq_false (fun z => q57 (b2n.mpr z)))
              refine zV.aload_n C dX6_examineNewChair_60 rfl rfl ?_
              refine zV.ic (v := nI 4) C dX6_examineNewChair_61 (by decide) ?_
              refine zV.iload_n C dX6_examineNewChair_62 rfl ?_
              refine zV.callV (n := 2) C G dX6_examineNewChair_63 (s_reject hzs hst h a (nI 4) (nI i) hk) rfl ⟨cd_X6_reject, lk_X6_90, im_X6_reject, se_X6_X6_reject, in_X6⟩ ⟨⟨by decide, by decide⟩, by decide⟩ rfl rfl rfl hk ⟨rfl, by decide⟩ (zafv ?_) (zno)
              refine zV.vret C F dX6_examineNewChair_66 rfl ?_
              refine ⟨rfl, ?_⟩
              simp only [jCm, hx]
              first
                | (rw [if_pos q16]; exact zJp_2)
                | (rw [if_neg q16, if_neg q22]; exact zJp_2)
                | (rw [if_neg q16, if_pos q22, if_pos hc]; exact zJp_rej)
                | (rw [if_neg q16, if_pos q22, if_neg hc, if_pos hf]; exact zJp_rej)
                | (rw [if_neg q16, if_pos q22, if_neg hc, if_neg hf]; exact zJp_0 h0)
          · have hc : 12 ≤ (gC g).length := by
              rcases Nat.lt_or_ge (gC g).length 12 with z | z
              · exact absurd (nI_lt z (by decide)) q39
              · exact z
            refine zV.aload_n C dX6_examineNewChair_42 rfl rfl ?_
            refine zV.ic (v := nI 3) C dX6_examineNewChair_43 (by decide) ?_
            refine zV.bi (v := nI 12) C dX6_examineNewChair_44 (by decide) ?_
            refine zV.callV (n := 2) C G dX6_examineNewChair_46 (s_reject hzs hst h a (nI 3) (nI 12) hk) rfl ⟨cd_X6_reject, lk_X6_90, im_X6_reject, se_X6_X6_reject, in_X6⟩ ⟨⟨by decide, by decide⟩, by decide⟩ rfl rfl rfl hk ⟨rfl, by decide⟩ (zafv ?_) (zno)
            refine zV.goto (tgt := 66) C dX6_examineNewChair_49 (by decide) ?_
            refine zV.vret C F dX6_examineNewChair_66 rfl ?_
            refine ⟨rfl, ?_⟩
            simp only [jCm, hx]
            first
              | (rw [if_pos q16]; exact zJp_2)
              | (rw [if_neg q16, if_neg q22]; exact zJp_2)
              | (rw [if_neg q16, if_pos q22, if_pos hc]; exact zJp_rej)
              | (rw [if_neg q16, if_pos q22, if_neg hc, if_pos hf]; exact zJp_rej)
              | (rw [if_neg q16, if_pos q22, if_neg hc, if_neg hf]; exact zJp_0 h0)
        · refine zV.aload_n C dX6_examineNewChair_25 rfl rfl ?_
          refine zV.ic (v := nI 2) C dX6_examineNewChair_26 (by decide) ?_
          refine zV.pI 288 (k := 0) C dX6_examineNewChair_27 zcl_X6 (by decide) rfl lk_X6_11 rfl hk rfl ⟨rfl, rfl⟩ ?_
          refine zV.goto (tgt := 66) C dX6_examineNewChair_30 (by decide) ?_
          refine zV.vret C F dX6_examineNewChair_66 rfl ?_
          refine ⟨rfl, ?_⟩
          simp only [jCm, hx]
          first
            | (rw [if_pos q16]; exact zJp_2)
            | (rw [if_neg q16, if_neg q22]; exact zJp_2)
            | (rw [if_neg q16, if_pos q22, if_pos hc]; exact zJp_rej)
            | (rw [if_neg q16, if_pos q22, if_neg hc, if_pos hf]; exact zJp_rej)
            | (rw [if_neg q16, if_pos q22, if_neg hc, if_neg hf]; exact zJp_0 h0)
    · exact absurd (show nI 1 = 0 from q4) (by decide)
set_option maxHeartbeats 4000000 in
set_option maxRecDepth 100000 in
theorem s_examineScrapping {l : Launch} {E : zG} (hzs : zS E) (hst : l.stackTraces = false) (h : zH) (a b : Nat) (g : zGd) (x : Int32) (hg : zGa h b g) (hw : gW g) (hk : hK h a = 10) (h0 : hI h 288 a = nI 0) : zMet l E yX6_examineScrapping cX6_examineScrapping 3 none ({ frames := 2, cells := 0, slots := 0, locals := 44 } : Room) 0 0 [.ref a, .ref b, .int x] h (fun r h' => r = none ∧ zJp h h' a (jSc g x)) (fun _ _ => False) := by
  refine zM_start hzs hst (by decide) (Nat.le_of_ble_eq_true rfl) (fun X C G F I => ?_)
  show zV X 0 0 _ 0 [(0, _), (1, _), (2, _)] []
  rcases hq : kc g x with _ | ⟨k, c⟩
  · have hix := kc_none hq
    refine zV.aload_n C dX6_examineScrapping_0 rfl rfl ?_
    refine zV.iload_n C dX6_examineScrapping_1 rfl ?_
    refine zV.callV (n := 1) C G dX6_examineScrapping_2 (s_find hzs hst h b g x hg hw) rfl ⟨cd_X3_find, lk_X6_104, im_X3_find, se_X3_X3_find, in_X3⟩ ⟨⟨by decide, by decide⟩, by decide⟩ rfl rfl rfl (hg.1.1) ⟨rfl, by decide⟩ (zafe (congrArg (zfo h b) hix) ?_) (zno)
    refine zV.ifnonnull (tgt := 13) C dX6_examineScrapping_5 (by decide) rfl (fun q5 => ?_) (fun q5 => ?_)
    · exact absurd rfl q5
    · refine zV.aload_n C dX6_examineScrapping_8 rfl rfl ?_
      refine zV.ic (v := nI 1) C dX6_examineScrapping_9 (by decide) ?_
      refine zV.pI 288 (k := 0) C dX6_examineScrapping_10 zcl_X6 (by decide) rfl lk_X6_11 rfl hk rfl ⟨rfl, rfl⟩ ?_
      refine zV.vret C F dX6_examineScrapping_13 rfl ?_
      refine ⟨rfl, ?_⟩
      simp only [jSc, hq]
      first
        | exact zJp_1
  · obtain ⟨hix, hc, hid, hkl⟩ := kc_some hq
    have hl := gW_len hw
    have h12 : k < 12 := by omega
    obtain ⟨c1, c2, c3, c4, c5⟩ := zGa_c hg hc
    obtain ⟨u1, u2, u3, u4⟩ := gW_cb hw hc
    refine zV.aload_n C dX6_examineScrapping_0 rfl rfl ?_
    refine zV.iload_n C dX6_examineScrapping_1 rfl ?_
    refine zV.callV (n := 1) C G dX6_examineScrapping_2 (s_find hzs hst h b g x hg hw) rfl ⟨cd_X3_find, lk_X6_104, im_X3_find, se_X3_X3_find, in_X3⟩ ⟨⟨by decide, by decide⟩, by decide⟩ rfl rfl rfl (hg.1.1) ⟨rfl, by decide⟩ (zafe (congrArg (zfo h b) hix) ?_) (zno)
    show zV X 0 0 h 5 _ (.ref (cA h b k) :: _)
    refine zV.ifnonnull (tgt := 13) C dX6_examineScrapping_5 (by decide) rfl (fun q5 => ?_) (fun q5 => ?_)
    · refine zV.vret C F dX6_examineScrapping_13 rfl ?_
      refine ⟨rfl, ?_⟩
      simp only [jSc, hq]
      first
        | exact zJp_0 h0
    · exact absurd q5 (by intro z; cases z)
set_option maxHeartbeats 4000000 in
set_option maxRecDepth 100000 in
theorem s_examineFolding {l : Launch} {E : zG} (hzs : zS E) (hst : l.stackTraces = false) (h : zH) (a b : Nat) (g : zGd) (x : Int32) (hg : zGa h b g) (hw : gW g) (hk : hK h a = 10) (h0 : hI h 288 a = nI 0) : zMet l E yX6_examineFolding cX6_examineFolding 4 none ({ frames := 2, cells := 0, slots := 0, locals := 44 } : Room) 0 0 [.ref a, .ref b, .int x] h (fun r h' => r = none ∧ zJp h h' a (jFo g x)) (fun _ _ => False) := by
  refine zM_start hzs hst (by decide) (Nat.le_of_ble_eq_true rfl) (fun X C G F I => ?_)
  show zV X 0 0 _ 0 [(0, _), (1, _), (2, _)] []
  rcases hq : kc g x with _ | ⟨k, c⟩
  · have hix := kc_none hq
    refine zV.aload_n C dX6_examineFolding_0 rfl rfl ?_
    refine zV.iload_n C dX6_examineFolding_1 rfl ?_
    refine zV.callV (n := 1) C G dX6_examineFolding_2 (s_find hzs hst h b g x hg hw) rfl ⟨cd_X3_find, lk_X6_104, im_X3_find, se_X3_X3_find, in_X3⟩ ⟨⟨by decide, by decide⟩, by decide⟩ rfl rfl rfl (hg.1.1) ⟨rfl, by decide⟩ (zafe (congrArg (zfo h b) hix) ?_) (zno)
    refine zV.astore_n (lo' := [(0, _), (1, _), (2, _), (3, _)]) C dX6_examineFolding_5 rfl (by decide) rfl rfl rfl ?_
    refine zV.aload_n C dX6_examineFolding_6 rfl rfl ?_
    refine zV.ifnonnull (tgt := 18) C dX6_examineFolding_7 (by decide) rfl (fun q7 => ?_) (fun q7 => ?_)
    · exact absurd rfl q7
    · refine zV.aload_n C dX6_examineFolding_10 rfl rfl ?_
      refine zV.ic (v := nI 1) C dX6_examineFolding_11 (by decide) ?_
      refine zV.pI 288 (k := 0) C dX6_examineFolding_12 zcl_X6 (by decide) rfl lk_X6_11 rfl hk rfl ⟨rfl, rfl⟩ ?_
      refine zV.goto (tgt := 31) C dX6_examineFolding_15 (by decide) ?_
      refine zV.vret C F dX6_examineFolding_31 rfl ?_
      refine ⟨rfl, ?_⟩
      simp only [jFo, hq]
      first
        | exact zJp_1
  · obtain ⟨hix, hc, hid, hkl⟩ := kc_some hq
    have hl := gW_len hw
    have h12 : k < 12 := by omega
    obtain ⟨c1, c2, c3, c4, c5⟩ := zGa_c hg hc
    obtain ⟨u1, u2, u3, u4⟩ := gW_cb hw hc
    refine zV.aload_n C dX6_examineFolding_0 rfl rfl ?_
    refine zV.iload_n C dX6_examineFolding_1 rfl ?_
    refine zV.callV (n := 1) C G dX6_examineFolding_2 (s_find hzs hst h b g x hg hw) rfl ⟨cd_X3_find, lk_X6_104, im_X3_find, se_X3_X3_find, in_X3⟩ ⟨⟨by decide, by decide⟩, by decide⟩ rfl rfl rfl (hg.1.1) ⟨rfl, by decide⟩ (zafe (congrArg (zfo h b) hix) ?_) (zno)
    show zV X 0 0 h 5 _ (.ref (cA h b k) :: _)
    refine zV.astore_n (lo' := [(0, _), (1, _), (2, _), (3, _)]) C dX6_examineFolding_5 rfl (by decide) rfl rfl rfl ?_
    refine zV.aload_n C dX6_examineFolding_6 rfl rfl ?_
    refine zV.ifnonnull (tgt := 18) C dX6_examineFolding_7 (by decide) rfl (fun q7 => ?_) (fun q7 => ?_)
    · refine zV.aload_n C dX6_examineFolding_18 rfl rfl ?_
      refine zV.gNIv 132 (k := 4) C dX6_examineFolding_19 zcl_X0 (by decide) rfl lk_X6_108 (zGa_k hg h12) rfl (c5) ?_
      refine zV.if_eq (tgt := 31) C dX6_examineFolding_22 (by decide) (fun q22 => ?_) (fun q22 => ?_)
      · have hf : ¬ chF c = true := fun z => by rw [b2n.mp q22] at z; cases z
        refine zV.vret C F dX6_examineFolding_31 rfl ?_
        refine ⟨rfl, ?_⟩
        simp only [jFo, hq]
        first
          | (rw [if_pos hf]; exact zJp_rej)
          | (rw [if_neg hf]; exact zJp_0 h0)
      · have hf : chF c = true := Bool.of_not_eq_false (fun z => q22 (b2n.mpr z))
        refine zV.aload_n C dX6_examineFolding_25 rfl rfl ?_
        refine zV.ic (v := nI 5) C dX6_examineFolding_26 (by decide) ?_
        refine zV.iload_n C dX6_examineFolding_27 rfl ?_
        refine zV.callV (n := 2) C G dX6_examineFolding_28 (s_reject hzs hst h a (nI 5) (x) hk) rfl ⟨cd_X6_reject, lk_X6_90, im_X6_reject, se_X6_X6_reject, in_X6⟩ ⟨⟨by decide, by decide⟩, by decide⟩ rfl rfl rfl hk ⟨rfl, by decide⟩ (zafv ?_) (zno)
        refine zV.vret C F dX6_examineFolding_31 rfl ?_
        refine ⟨rfl, ?_⟩
        simp only [jFo, hq]
        first
          | (rw [if_pos hf]; exact zJp_rej)
          | (rw [if_neg hf]; exact zJp_0 h0)
    · exact absurd q7 (by intro z; cases z)
set_option maxHeartbeats 4000000 in
set_option maxRecDepth 100000 in
theorem s_examineUnfolding {l : Launch} {E : zG} (hzs : zS E) (hst : l.stackTraces = false) (h : zH) (a b : Nat) (g : zGd) (x : Int32) (hg : zGa h b g) (hw : gW g) (hk : hK h a = 10) (h0 : hI h 288 a = nI 0) : zMet l E yX6_examineUnfolding cX6_examineUnfolding 4 none ({ frames := 2, cells := 0, slots := 0, locals := 44 } : Room) 0 0 [.ref a, .ref b, .int x] h (fun r h' => r = none ∧ zJp h h' a (jUn g x)) (fun _ _ => False) := by
  refine zM_start hzs hst (by decide) (Nat.le_of_ble_eq_true rfl) (fun X C G F I => ?_)
  show zV X 0 0 _ 0 [(0, _), (1, _), (2, _)] []
  rcases hq : kc g x with _ | ⟨k, c⟩
  · have hix := kc_none hq
    refine zV.aload_n C dX6_examineUnfolding_0 rfl rfl ?_
    refine zV.iload_n C dX6_examineUnfolding_1 rfl ?_
    refine zV.callV (n := 1) C G dX6_examineUnfolding_2 (s_find hzs hst h b g x hg hw) rfl ⟨cd_X3_find, lk_X6_104, im_X3_find, se_X3_X3_find, in_X3⟩ ⟨⟨by decide, by decide⟩, by decide⟩ rfl rfl rfl (hg.1.1) ⟨rfl, by decide⟩ (zafe (congrArg (zfo h b) hix) ?_) (zno)
    refine zV.astore_n (lo' := [(0, _), (1, _), (2, _), (3, _)]) C dX6_examineUnfolding_5 rfl (by decide) rfl rfl rfl ?_
    refine zV.aload_n C dX6_examineUnfolding_6 rfl rfl ?_
    refine zV.ifnonnull (tgt := 18) C dX6_examineUnfolding_7 (by decide) rfl (fun q7 => ?_) (fun q7 => ?_)
    · exact absurd rfl q7
    · refine zV.aload_n C dX6_examineUnfolding_10 rfl rfl ?_
      refine zV.ic (v := nI 1) C dX6_examineUnfolding_11 (by decide) ?_
      refine zV.pI 288 (k := 0) C dX6_examineUnfolding_12 zcl_X6 (by decide) rfl lk_X6_11 rfl hk rfl ⟨rfl, rfl⟩ ?_
      refine zV.goto (tgt := 32) C dX6_examineUnfolding_15 (by decide) ?_
      refine zV.vret C F dX6_examineUnfolding_32 rfl ?_
      refine ⟨rfl, ?_⟩
      simp only [jUn, hq]
      first
        | exact zJp_1
  · obtain ⟨hix, hc, hid, hkl⟩ := kc_some hq
    have hl := gW_len hw
    have h12 : k < 12 := by omega
    obtain ⟨c1, c2, c3, c4, c5⟩ := zGa_c hg hc
    obtain ⟨u1, u2, u3, u4⟩ := gW_cb hw hc
    refine zV.aload_n C dX6_examineUnfolding_0 rfl rfl ?_
    refine zV.iload_n C dX6_examineUnfolding_1 rfl ?_
    refine zV.callV (n := 1) C G dX6_examineUnfolding_2 (s_find hzs hst h b g x hg hw) rfl ⟨cd_X3_find, lk_X6_104, im_X3_find, se_X3_X3_find, in_X3⟩ ⟨⟨by decide, by decide⟩, by decide⟩ rfl rfl rfl (hg.1.1) ⟨rfl, by decide⟩ (zafe (congrArg (zfo h b) hix) ?_) (zno)
    show zV X 0 0 h 5 _ (.ref (cA h b k) :: _)
    refine zV.astore_n (lo' := [(0, _), (1, _), (2, _), (3, _)]) C dX6_examineUnfolding_5 rfl (by decide) rfl rfl rfl ?_
    refine zV.aload_n C dX6_examineUnfolding_6 rfl rfl ?_
    refine zV.ifnonnull (tgt := 18) C dX6_examineUnfolding_7 (by decide) rfl (fun q7 => ?_) (fun q7 => ?_)
    · refine zV.aload_n C dX6_examineUnfolding_18 rfl rfl ?_
      refine zV.gNIv 132 (k := 4) C dX6_examineUnfolding_19 zcl_X0 (by decide) rfl lk_X6_108 (zGa_k hg h12) rfl (c5) ?_
      refine zV.if_ne (tgt := 32) C dX6_examineUnfolding_22 (by decide) (fun q22 => ?_) (fun q22 => ?_)
      · have hf : chF c = true := Bool.of_not_eq_false (fun z => q22 (b2n.mpr z))
        refine zV.vret C F dX6_examineUnfolding_32 rfl ?_
        refine ⟨rfl, ?_⟩
        simp only [jUn, hq]
        first
          | (rw [if_neg hf]; exact zJp_rej)
          | (rw [if_pos hf]; exact zJp_0 h0)
      · have hf : ¬ chF c = true := fun z => by rw [b2n.mp q22] at z; cases z
        refine zV.aload_n C dX6_examineUnfolding_25 rfl rfl ?_
        refine zV.bi (v := nI 6) C dX6_examineUnfolding_26 (by decide) ?_
        refine zV.iload_n C dX6_examineUnfolding_28 rfl ?_
        refine zV.callV (n := 2) C G dX6_examineUnfolding_29 (s_reject hzs hst h a (nI 6) (x) hk) rfl ⟨cd_X6_reject, lk_X6_90, im_X6_reject, se_X6_X6_reject, in_X6⟩ ⟨⟨by decide, by decide⟩, by decide⟩ rfl rfl rfl hk ⟨rfl, by decide⟩ (zafv ?_) (zno)
        refine zV.vret C F dX6_examineUnfolding_32 rfl ?_
        refine ⟨rfl, ?_⟩
        simp only [jUn, hq]
        first
          | (rw [if_neg hf]; exact zJp_rej)
          | (rw [if_pos hf]; exact zJp_0 h0)
    · exact absurd q7 (by intro z; cases z)
theorem n0 {k : Nat} (hk : k < 2 ^ 31) : nI k = 0 ↔ k = 0 := neqn hk (by decide)
set_option maxHeartbeats 4000000 in
set_option maxRecDepth 100000 in
theorem s_examineOiling {l : Launch} {E : zG} (hzs : zS E) (hst : l.stackTraces = false) (h : zH) (a b : Nat) (g : zGd) (x : Int32) (hg : zGa h b g) (hw : gW g) (hk : hK h a = 10) (h0 : hI h 288 a = nI 0) : zMet l E yX6_examineOiling cX6_examineOiling 4 none ({ frames := 2, cells := 0, slots := 0, locals := 44 } : Room) 0 0 [.ref a, .ref b, .int x] h (fun r h' => r = none ∧ zJp h h' a (jOi g x)) (fun _ _ => False) := by
  refine zM_start hzs hst (by decide) (Nat.le_of_ble_eq_true rfl) (fun X C G F I => ?_)
  show zV X 0 0 _ 0 [(0, _), (1, _), (2, _)] []
  rcases hq : kc g x with _ | ⟨k, c⟩
  · have hix := kc_none hq
    refine zV.aload_n C dX6_examineOiling_0 rfl rfl ?_
    refine zV.iload_n C dX6_examineOiling_1 rfl ?_
    refine zV.callV (n := 1) C G dX6_examineOiling_2 (s_find hzs hst h b g x hg hw) rfl ⟨cd_X3_find, lk_X6_104, im_X3_find, se_X3_X3_find, in_X3⟩ ⟨⟨by decide, by decide⟩, by decide⟩ rfl rfl rfl (hg.1.1) ⟨rfl, by decide⟩ (zafe (congrArg (zfo h b) hix) ?_) (zno)
    refine zV.astore_n (lo' := [(0, _), (1, _), (2, _), (3, _)]) C dX6_examineOiling_5 rfl (by decide) rfl rfl rfl ?_
    refine zV.aload_n C dX6_examineOiling_6 rfl rfl ?_
    refine zV.ifnonnull (tgt := 18) C dX6_examineOiling_7 (by decide) rfl (fun q7 => ?_) (fun q7 => ?_)
    · exact absurd rfl q7
    · refine zV.aload_n C dX6_examineOiling_10 rfl rfl ?_
      refine zV.ic (v := nI 1) C dX6_examineOiling_11 (by decide) ?_
      refine zV.pI 288 (k := 0) C dX6_examineOiling_12 zcl_X6 (by decide) rfl lk_X6_11 rfl hk rfl ⟨rfl, rfl⟩ ?_
      refine zV.goto (tgt := 55) C dX6_examineOiling_15 (by decide) ?_
      refine zV.vret C F dX6_examineOiling_55 rfl ?_
      refine ⟨rfl, ?_⟩
      simp only [jOi, hq]
      first
        | exact zJp_1
  · obtain ⟨hix, hc, hid, hkl⟩ := kc_some hq
    have hl := gW_len hw
    have h12 : k < 12 := by omega
    obtain ⟨c1, c2, c3, c4, c5⟩ := zGa_c hg hc
    obtain ⟨u1, u2, u3, u4⟩ := gW_cb hw hc
    refine zV.aload_n C dX6_examineOiling_0 rfl rfl ?_
    refine zV.iload_n C dX6_examineOiling_1 rfl ?_
    refine zV.callV (n := 1) C G dX6_examineOiling_2 (s_find hzs hst h b g x hg hw) rfl ⟨cd_X3_find, lk_X6_104, im_X3_find, se_X3_X3_find, in_X3⟩ ⟨⟨by decide, by decide⟩, by decide⟩ rfl rfl rfl (hg.1.1) ⟨rfl, by decide⟩ (zafe (congrArg (zfo h b) hix) ?_) (zno)
    show zV X 0 0 h 5 _ (.ref (cA h b k) :: _)
    refine zV.astore_n (lo' := [(0, _), (1, _), (2, _), (3, _)]) C dX6_examineOiling_5 rfl (by decide) rfl rfl rfl ?_
    refine zV.aload_n C dX6_examineOiling_6 rfl rfl ?_
    refine zV.ifnonnull (tgt := 18) C dX6_examineOiling_7 (by decide) rfl (fun q7 => ?_) (fun q7 => ?_)
    · refine zV.aload_n C dX6_examineOiling_18 rfl rfl ?_
      refine zV.gNIv 130 (k := 2) C dX6_examineOiling_19 zcl_X0 (by decide) rfl lk_X6_114 (zGa_k hg h12) rfl (c3) ?_
      refine zV.if_ne (tgt := 38) C dX6_examineOiling_22 (by decide) (fun q22 => ?_) (fun q22 => ?_)
      · have hr : ¬ chR c = 0 := fun z => q22 ((n0 (by omega)).mpr z)
        refine zV.aload_n C dX6_examineOiling_38 rfl rfl ?_
        refine zV.gNIv 199 (k := 7) C dX6_examineOiling_39 zcl_X3 (by decide) rfl lk_X6_117 (hg.1.1) rfl ((zGa_n hg).2.2.2.1) ?_
        refine zV.if_ne (tgt := 55) C dX6_examineOiling_42 (by decide) (fun q42 => ?_) (fun q42 => ?_)
        · have ho : ¬ gO g = 0 := fun z => q42 ((n0 (by have := hw.2.2.2.2.1; omega)).mpr z)
          refine zV.vret C F dX6_examineOiling_55 rfl ?_
          refine ⟨rfl, ?_⟩
          simp only [jOi, hq]
          first
            | (rw [if_pos hr]; exact zJp_rej)
            | (rw [if_neg hr, if_pos ho]; exact zJp_rej)
            | (rw [if_neg hr, if_neg ho]; exact zJp_0 h0)
        · have ho : gO g = 0 := (n0 (by have := hw.2.2.2.2.1; omega)).mp q42
          refine zV.aload_n C dX6_examineOiling_45 rfl rfl ?_
          refine zV.bi (v := nI 9) C dX6_examineOiling_46 (by decide) ?_
          refine zV.aload_n C dX6_examineOiling_48 rfl rfl ?_
          refine zV.gNIv 130 (k := 2) C dX6_examineOiling_49 zcl_X0 (by decide) rfl lk_X6_114 (zGa_k hg h12) rfl (c3) ?_
          refine zV.callV (n := 2) C G dX6_examineOiling_52 (s_reject hzs hst h a (nI 9) (nI (chR c)) hk) rfl ⟨cd_X6_reject, lk_X6_90, im_X6_reject, se_X6_X6_reject, in_X6⟩ ⟨⟨by decide, by decide⟩, by decide⟩ rfl rfl rfl hk ⟨rfl, by decide⟩ (zafv ?_) (zno)
          refine zV.vret C F dX6_examineOiling_55 rfl ?_
          refine ⟨rfl, ?_⟩
          simp only [jOi, hq]
          first
            | (rw [if_pos hr]; exact zJp_rej)
            | (rw [if_neg hr, if_pos ho]; exact zJp_rej)
            | (rw [if_neg hr, if_neg ho]; exact zJp_0 h0)
      · have hr : chR c = 0 := (n0 (by omega)).mp q22
        refine zV.aload_n C dX6_examineOiling_25 rfl rfl ?_
        refine zV.bi (v := nI 8) C dX6_examineOiling_26 (by decide) ?_
        refine zV.aload_n C dX6_examineOiling_28 rfl rfl ?_
        refine zV.gNIv 199 (k := 7) C dX6_examineOiling_29 zcl_X3 (by decide) rfl lk_X6_117 (hg.1.1) rfl ((zGa_n hg).2.2.2.1) ?_
        refine zV.callV (n := 2) C G dX6_examineOiling_32 (s_reject hzs hst h a (nI 8) (nI (gO g)) hk) rfl ⟨cd_X6_reject, lk_X6_90, im_X6_reject, se_X6_X6_reject, in_X6⟩ ⟨⟨by decide, by decide⟩, by decide⟩ rfl rfl rfl hk ⟨rfl, by decide⟩ (zafv ?_) (zno)
        refine zV.goto (tgt := 55) C dX6_examineOiling_35 (by decide) ?_
        refine zV.vret C F dX6_examineOiling_55 rfl ?_
        refine ⟨rfl, ?_⟩
        simp only [jOi, hq]
        first
          | (rw [if_pos hr]; exact zJp_rej)
          | (rw [if_neg hr, if_pos ho]; exact zJp_rej)
          | (rw [if_neg hr, if_neg ho]; exact zJp_0 h0)
    · exact absurd q7 (by intro z; cases z)
set_option maxHeartbeats 4000000 in
set_option maxRecDepth 100000 in
theorem s_examineMove {l : Launch} {E : zG} (hzs : zS E) (hst : l.stackTraces = false) (h : zH) (a b : Nat) (g : zGd) (x y : Int32) (hg : zGa h b g) (hw : gW g) (hk : hK h a = 10) (h0 : hI h 288 a = nI 0) : zMet l E yX6_examineMove cX6_examineMove 5 none ({ frames := 3, cells := 0, slots := 0, locals := 68 } : Room) 0 0 [.ref a, .ref b, .int x, .int y] h (fun r h' => r = none ∧ zJp h h' a (jMv g x y)) (fun _ _ => False) := by
  refine zM_start hzs hst (by decide) (Nat.le_of_ble_eq_true rfl) (fun X C G F I => ?_)
  show zV X 0 0 _ 0 [(0, _), (1, _), (2, _), (3, _)] []
  rcases hq : kc g x with _ | ⟨k, c⟩
  · have hix := kc_none hq
    refine zV.aload_n C dX6_examineMove_0 rfl rfl ?_
    refine zV.iload_n C dX6_examineMove_1 rfl ?_
    refine zV.callV (n := 1) C G dX6_examineMove_2 (s_find hzs hst h b g x hg hw) rfl ⟨cd_X3_find, lk_X6_104, im_X3_find, se_X3_X3_find, in_X3⟩ ⟨⟨by decide, by decide⟩, by decide⟩ rfl rfl rfl (hg.1.1) ⟨rfl, by decide⟩ (zafe (congrArg (zfo h b) hix) ?_) (zno)
    refine zV.astore (lo' := [(0, _), (1, _), (2, _), (3, _), (4, _)]) C dX6_examineMove_5 rfl (by decide) rfl rfl rfl ?_
    refine zV.aload C dX6_examineMove_7 rfl rfl ?_
    refine zV.ifnull (tgt := 19) C dX6_examineMove_9 (by decide) rfl (fun q9 => ?_) (fun q9 => ?_)
    · refine zV.aload_n C dX6_examineMove_19 rfl rfl ?_
      refine zV.ic (v := nI 1) C dX6_examineMove_20 (by decide) ?_
      refine zV.pI 288 (k := 0) C dX6_examineMove_21 zcl_X6 (by decide) rfl lk_X6_11 rfl hk rfl ⟨rfl, rfl⟩ ?_
      refine zV.goto (tgt := 95) C dX6_examineMove_24 (by decide) ?_
      refine zV.vret C F dX6_examineMove_95 rfl ?_
      refine ⟨rfl, ?_⟩
      simp only [jMv, hq]
      first
        | exact zJp_1
    · exact absurd rfl q9
  · obtain ⟨hix, hc, hid, hkl⟩ := kc_some hq
    have hl := gW_len hw
    have h12 : k < 12 := by omega
    obtain ⟨c1, c2, c3, c4, c5⟩ := zGa_c hg hc
    obtain ⟨u1, u2, u3, u4⟩ := gW_cb hw hc
    rcases hy : ln y with _ | j
    · refine zV.aload_n C dX6_examineMove_0 rfl rfl ?_
      refine zV.iload_n C dX6_examineMove_1 rfl ?_
      refine zV.callV (n := 1) C G dX6_examineMove_2 (s_find hzs hst h b g x hg hw) rfl ⟨cd_X3_find, lk_X6_104, im_X3_find, se_X3_X3_find, in_X3⟩ ⟨⟨by decide, by decide⟩, by decide⟩ rfl rfl rfl (hg.1.1) ⟨rfl, by decide⟩ (zafe (congrArg (zfo h b) hix) ?_) (zno)
      show zV X 0 0 h 5 _ (.ref (cA h b k) :: _)
      refine zV.astore (lo' := [(0, _), (1, _), (2, _), (3, _), (4, _)]) C dX6_examineMove_5 rfl (by decide) rfl rfl rfl ?_
      refine zV.aload C dX6_examineMove_7 rfl rfl ?_
      refine zV.ifnull (tgt := 19) C dX6_examineMove_9 (by decide) rfl (fun q9 => ?_) (fun q9 => ?_)
      · exact absurd q9 (by intro z; cases z)
      · refine zV.iload_n C dX6_examineMove_12 rfl ?_
        refine zV.callSN (n := 1) C G dX6_examineMove_13 (s_isLawn hzs hst h (y)) rfl ⟨cd_X9_isLawn, lk_X6_73, st_X9_isLawn, in_X9⟩ ⟨⟨by decide, by decide⟩, by decide⟩ rfl rfl rfl (zafe (show Value.int (nI (b2 (ln (y)).isSome)) = .int (nI 0) from by rw [hy]; rfl) ?_) (zno)
        refine zV.if_ne (tgt := 27) C dX6_examineMove_16 (by decide) (fun q16 => ?_) (fun q16 => ?_)
        · exact absurd rfl q16
        · refine zV.aload_n C dX6_examineMove_19 rfl rfl ?_
          refine zV.ic (v := nI 1) C dX6_examineMove_20 (by decide) ?_
          refine zV.pI 288 (k := 0) C dX6_examineMove_21 zcl_X6 (by decide) rfl lk_X6_11 rfl hk rfl ⟨rfl, rfl⟩ ?_
          refine zV.goto (tgt := 95) C dX6_examineMove_24 (by decide) ?_
          refine zV.vret C F dX6_examineMove_95 rfl ?_
          refine ⟨rfl, ?_⟩
          simp only [jMv, hq, hy]
          first
            | exact zJp_1
    · obtain ⟨hj, rfl⟩ := ln_some hy
      refine zV.aload_n C dX6_examineMove_0 rfl rfl ?_
      refine zV.iload_n C dX6_examineMove_1 rfl ?_
      refine zV.callV (n := 1) C G dX6_examineMove_2 (s_find hzs hst h b g x hg hw) rfl ⟨cd_X3_find, lk_X6_104, im_X3_find, se_X3_X3_find, in_X3⟩ ⟨⟨by decide, by decide⟩, by decide⟩ rfl rfl rfl (hg.1.1) ⟨rfl, by decide⟩ (zafe (congrArg (zfo h b) hix) ?_) (zno)
      show zV X 0 0 h 5 _ (.ref (cA h b k) :: _)
      refine zV.astore (lo' := [(0, _), (1, _), (2, _), (3, _), (4, _)]) C dX6_examineMove_5 rfl (by decide) rfl rfl rfl ?_
      refine zV.aload C dX6_examineMove_7 rfl rfl ?_
      refine zV.ifnull (tgt := 19) C dX6_examineMove_9 (by decide) rfl (fun q9 => ?_) (fun q9 => ?_)
      · exact absurd q9 (by intro z; cases z)
      · refine zV.iload_n C dX6_examineMove_12 rfl ?_
        refine zV.callSN (n := 1) C G dX6_examineMove_13 (s_isLawn hzs hst h (nI j)) rfl ⟨cd_X9_isLawn, lk_X6_73, st_X9_isLawn, in_X9⟩ ⟨⟨by decide, by decide⟩, by decide⟩ rfl rfl rfl (zafe (show Value.int (nI (b2 (ln (nI j)).isSome)) = .int (nI 1) from by rw [hy]; rfl) ?_) (zno)
        refine zV.if_ne (tgt := 27) C dX6_examineMove_16 (by decide) (fun q16 => ?_) (fun q16 => ?_)
        · refine zV.aload C dX6_examineMove_27 rfl rfl ?_
          refine zV.gNIv 132 (k := 4) C dX6_examineMove_29 zcl_X0 (by decide) rfl lk_X6_108 (zGa_k hg h12) rfl (c5) ?_
          refine zV.if_eq (tgt := 44) C dX6_examineMove_32 (by decide) (fun q32 => ?_) (fun q32 => ?_)
          · have hf1 : ¬ chF c = true := fun z => by rw [b2n.mp q32] at z; cases z
            refine zV.aload_n C dX6_examineMove_44 rfl rfl ?_
            refine zV.gNR 192 (k := 0) C dX6_examineMove_45 zcl_X3 (by decide) rfl lk_X6_77 (hg.1.1) rfl (hg.1.2.1) ?_
            refine zV.aload C dX6_examineMove_48 rfl rfl ?_
            refine zV.gNIv 129 (k := 1) C dX6_examineMove_50 zcl_X0 (by decide) rfl lk_X6_120 (zGa_k hg h12) rfl (c2) ?_
            refine zV.iload_n C dX6_examineMove_53 rfl ?_
            refine zV.callV (n := 2) C G dX6_examineMove_54 (s_Paths_areNeighbours hzs hst h (b + 1) (chL c) j (gN g) u2 hj (zGa_pa hg)) rfl ⟨cd_X8_areNeighbours, lk_X6_81, im_X8_areNeighbours, se_X8_X8_areNeighbours, in_X8⟩ ⟨⟨by decide, by decide⟩, by decide⟩ rfl rfl rfl (hg.1.2.2.2.2.2.1.1) ⟨rfl, by decide⟩ (zaf ?_) (zno)
            refine zV.if_ne (tgt := 81) C dX6_examineMove_57 (by decide) (fun q57 => ?_) (fun q57 => ?_)
            · have hb := Decidable.of_not_not (fun z => q57 (b01.mpr z))
              refine zV.aload_n C dX6_examineMove_81 rfl rfl ?_
              refine zV.iload_n C dX6_examineMove_82 rfl ?_
              refine zV.callS (n := 2) C G dX6_examineMove_83 (s_isFull hzs hst h b g j hj hg hw) rfl ⟨cd_X6_isFull, lk_X6_100, st_X6_isFull, in_X6⟩ ⟨⟨by decide, by decide⟩, by decide⟩ rfl rfl rfl (zaf ?_) (zno)
              refine zV.if_eq (tgt := 95) C dX6_examineMove_86 (by decide) (fun q86 => ?_) (fun q86 => ?_)
              · have hf : ¬ 5 ≤ hsz (gC g) j := of_decide_eq_false (b2n.mp q86)
                refine zV.vret C F dX6_examineMove_95 rfl ?_
                refine ⟨rfl, ?_⟩
                simp only [jMv, hq, hy]
                first
                  | (rw [if_pos hf1]; exact zJp_rej)
                  | (rw [if_neg hf1, if_neg hb]; exact zJp_rej)
                  | (rw [if_neg hf1, if_pos hb, if_pos hf]; exact zJp_rej)
                  | (rw [if_neg hf1, if_pos hb, if_neg hf]; exact zJp_0 h0)
              · have hf : 5 ≤ hsz (gC g) j := of_decide_eq_true (Bool.of_not_eq_false (fun z => q86 (b2n.mpr z)))
                refine zV.aload_n C dX6_examineMove_89 rfl rfl ?_
                refine zV.ic (v := nI 4) C dX6_examineMove_90 (by decide) ?_
                refine zV.iload_n C dX6_examineMove_91 rfl ?_
                refine zV.callV (n := 2) C G dX6_examineMove_92 (s_reject hzs hst h a (nI 4) (nI j) hk) rfl ⟨cd_X6_reject, lk_X6_90, im_X6_reject, se_X6_X6_reject, in_X6⟩ ⟨⟨by decide, by decide⟩, by decide⟩ rfl rfl rfl hk ⟨rfl, by decide⟩ (zafv ?_) (zno)
                refine zV.vret C F dX6_examineMove_95 rfl ?_
                refine ⟨rfl, ?_⟩
                simp only [jMv, hq, hy]
                first
                  | (rw [if_pos hf1]; exact zJp_rej)
                  | (rw [if_neg hf1, if_neg hb]; exact zJp_rej)
                  | (rw [if_neg hf1, if_pos hb, if_pos hf]; exact zJp_rej)
                  | (rw [if_neg hf1, if_pos hb, if_neg hf]; exact zJp_0 h0)
            · have hb := b01.mp q57
              refine zV.aload_n C dX6_examineMove_60 rfl rfl ?_
              refine zV.ic (v := nI 2) C dX6_examineMove_61 (by decide) ?_
              refine zV.aload_n C dX6_examineMove_62 rfl rfl ?_
              refine zV.gNR 192 (k := 0) C dX6_examineMove_63 zcl_X3 (by decide) rfl lk_X6_77 (hg.1.1) rfl (hg.1.2.1) ?_
              refine zV.aload C dX6_examineMove_66 rfl rfl ?_
              refine zV.gNIv 129 (k := 1) C dX6_examineMove_68 zcl_X0 (by decide) rfl lk_X6_120 (zGa_k hg h12) rfl (c2) ?_
              refine zV.iload_n C dX6_examineMove_71 rfl ?_
              refine zV.callV (n := 2) C G dX6_examineMove_72 (s_Paths_stepsBetween hzs hst h (b + 1) (chL c) j (gN g) u2 hj (zGa_pa hg)) rfl ⟨cd_X8_stepsBetween, lk_X6_93, im_X8_stepsBetween, se_X8_X8_stepsBetween, in_X8⟩ ⟨⟨by decide, by decide⟩, by decide⟩ rfl rfl rfl (hg.1.2.2.2.2.2.1.1) ⟨rfl, by decide⟩ (zaf ?_) (zno)
              refine zV.callV (n := 2) C G dX6_examineMove_75 (s_reject hzs hst h a (nI 2) (oI (far (gN g) (chL c) j)) hk) rfl ⟨cd_X6_reject, lk_X6_90, im_X6_reject, se_X6_X6_reject, in_X6⟩ ⟨⟨by decide, by decide⟩, by decide⟩ rfl rfl rfl hk ⟨rfl, by decide⟩ (zafv ?_) (zno)
              refine zV.goto (tgt := 95) C dX6_examineMove_78 (by decide) ?_
              refine zV.vret C F dX6_examineMove_95 rfl ?_
              refine ⟨rfl, ?_⟩
              simp only [jMv, hq, hy]
              first
                | (rw [if_pos hf1]; exact zJp_rej)
                | (rw [if_neg hf1, if_neg hb]; exact zJp_rej)
                | (rw [if_neg hf1, if_pos hb, if_pos hf]; exact zJp_rej)
                | (rw [if_neg hf1, if_pos hb, if_neg hf]; exact zJp_0 h0)
          · have hf1 : chF c = true := Bool.of_not_eq_false (fun z => q32 (b2n.mpr z))
            refine zV.aload_n C dX6_examineMove_35 rfl rfl ?_
            refine zV.ic (v := nI 5) C dX6_examineMove_36 (by decide) ?_
            refine zV.iload_n C dX6_examineMove_37 rfl ?_
            refine zV.callV (n := 2) C G dX6_examineMove_38 (s_reject hzs hst h a (nI 5) (x) hk) rfl ⟨cd_X6_reject, lk_X6_90, im_X6_reject, se_X6_X6_reject, in_X6⟩ ⟨⟨by decide, by decide⟩, by decide⟩ rfl rfl rfl hk ⟨rfl, by decide⟩ (zafv ?_) (zno)
            refine zV.goto (tgt := 95) C dX6_examineMove_41 (by decide) ?_
            refine zV.vret C F dX6_examineMove_95 rfl ?_
            refine ⟨rfl, ?_⟩
            simp only [jMv, hq, hy]
            first
              | (rw [if_pos hf1]; exact zJp_rej)
              | (rw [if_neg hf1, if_neg hb]; exact zJp_rej)
              | (rw [if_neg hf1, if_pos hb, if_pos hf]; exact zJp_rej)
              | (rw [if_neg hf1, if_pos hb, if_neg hf]; exact zJp_0 h0)
        · exact absurd (show nI 1 = 0 from q16) (by decide)
set_option maxHeartbeats 4000000 in
set_option maxRecDepth 100000 in
theorem s_examineMigration {l : Launch} {E : zG} (hzs : zS E) (hst : l.stackTraces = false) (h : zH) (a b : Nat) (g : zGd) (x y : Int32) (hg : zGa h b g) (hw : gW g) (hk : hK h a = 10) (h0 : hI h 288 a = nI 0) : zMet l E yX6_examineMigration cX6_examineMigration 4 none ({ frames := 3, cells := 0, slots := 0, locals := 68 } : Room) 0 0 [.ref a, .ref b, .int x, .int y] h (fun r h' => r = none ∧ zJp h h' a (jMg g x y)) (fun _ _ => False) := by
  refine zM_start hzs hst (by decide) (Nat.le_of_ble_eq_true rfl) (fun X C G F I => ?_)
  show zV X 0 0 _ 0 [(0, _), (1, _), (2, _), (3, _)] []
  rcases hx : ln x with _ | i
  · refine zV.iload_n C dX6_examineMigration_0 rfl ?_
    refine zV.callSN (n := 1) C G dX6_examineMigration_1 (s_isLawn hzs hst h (x)) rfl ⟨cd_X9_isLawn, lk_X6_73, st_X9_isLawn, in_X9⟩ ⟨⟨by decide, by decide⟩, by decide⟩ rfl rfl rfl (zafe (show Value.int (nI (b2 (ln (x)).isSome)) = .int (nI 0) from by rw [hx]; rfl) ?_) (zno)
    refine zV.if_eq (tgt := 14) C dX6_examineMigration_4 (by decide) (fun q4 => ?_) (fun q4 => ?_)
    · refine zV.aload_n C dX6_examineMigration_14 rfl rfl ?_
      refine zV.ic (v := nI 1) C dX6_examineMigration_15 (by decide) ?_
      refine zV.pI 288 (k := 0) C dX6_examineMigration_16 zcl_X6 (by decide) rfl lk_X6_11 rfl hk rfl ⟨rfl, rfl⟩ ?_
      refine zV.goto (tgt := 90) C dX6_examineMigration_19 (by decide) ?_
      refine zV.vret C F dX6_examineMigration_90 rfl ?_
      refine ⟨rfl, ?_⟩
      simp only [jMg, hx]
      first
        | exact zJp_1
    · exact absurd rfl q4
  · obtain ⟨hi, rfl⟩ := ln_some hx
    rcases hy : ln y with _ | j
    · refine zV.iload_n C dX6_examineMigration_0 rfl ?_
      refine zV.callSN (n := 1) C G dX6_examineMigration_1 (s_isLawn hzs hst h (nI i)) rfl ⟨cd_X9_isLawn, lk_X6_73, st_X9_isLawn, in_X9⟩ ⟨⟨by decide, by decide⟩, by decide⟩ rfl rfl rfl (zafe (show Value.int (nI (b2 (ln (nI i)).isSome)) = .int (nI 1) from by rw [hx]; rfl) ?_) (zno)
      refine zV.if_eq (tgt := 14) C dX6_examineMigration_4 (by decide) (fun q4 => ?_) (fun q4 => ?_)
      · exact absurd (show nI 1 = 0 from q4) (by decide)
      · refine zV.iload_n C dX6_examineMigration_7 rfl ?_
        refine zV.callSN (n := 1) C G dX6_examineMigration_8 (s_isLawn hzs hst h (y)) rfl ⟨cd_X9_isLawn, lk_X6_73, st_X9_isLawn, in_X9⟩ ⟨⟨by decide, by decide⟩, by decide⟩ rfl rfl rfl (zafe (show Value.int (nI (b2 (ln (y)).isSome)) = .int (nI 0) from by rw [hy]; rfl) ?_) (zno)
        refine zV.if_ne (tgt := 22) C dX6_examineMigration_11 (by decide) (fun q11 => ?_) (fun q11 => ?_)
        · exact absurd rfl q11
        · refine zV.aload_n C dX6_examineMigration_14 rfl rfl ?_
          refine zV.ic (v := nI 1) C dX6_examineMigration_15 (by decide) ?_
          refine zV.pI 288 (k := 0) C dX6_examineMigration_16 zcl_X6 (by decide) rfl lk_X6_11 rfl hk rfl ⟨rfl, rfl⟩ ?_
          refine zV.goto (tgt := 90) C dX6_examineMigration_19 (by decide) ?_
          refine zV.vret C F dX6_examineMigration_90 rfl ?_
          refine ⟨rfl, ?_⟩
          simp only [jMg, hx, hy]
          first
            | exact zJp_1
    · obtain ⟨hj, rfl⟩ := ln_some hy
      refine zV.iload_n C dX6_examineMigration_0 rfl ?_
      refine zV.callSN (n := 1) C G dX6_examineMigration_1 (s_isLawn hzs hst h (nI i)) rfl ⟨cd_X9_isLawn, lk_X6_73, st_X9_isLawn, in_X9⟩ ⟨⟨by decide, by decide⟩, by decide⟩ rfl rfl rfl (zafe (show Value.int (nI (b2 (ln (nI i)).isSome)) = .int (nI 1) from by rw [hx]; rfl) ?_) (zno)
      refine zV.if_eq (tgt := 14) C dX6_examineMigration_4 (by decide) (fun q4 => ?_) (fun q4 => ?_)
      · exact absurd (show nI 1 = 0 from q4) (by decide)
      · refine zV.iload_n C dX6_examineMigration_7 rfl ?_
        refine zV.callSN (n := 1) C G dX6_examineMigration_8 (s_isLawn hzs hst h (nI j)) rfl ⟨cd_X9_isLawn, lk_X6_73, st_X9_isLawn, in_X9⟩ ⟨⟨by decide, by decide⟩, by decide⟩ rfl rfl rfl (zafe (show Value.int (nI (b2 (ln (nI j)).isSome)) = .int (nI 1) from by rw [hy]; rfl) ?_) (zno)
        refine zV.if_ne (tgt := 22) C dX6_examineMigration_11 (by decide) (fun q11 => ?_) (fun q11 => ?_)
        · refine zV.aload_n C dX6_examineMigration_22 rfl rfl ?_
          refine zV.gNR 192 (k := 0) C dX6_examineMigration_23 zcl_X3 (by decide) rfl lk_X6_77 (hg.1.1) rfl (hg.1.2.1) ?_
          refine zV.iload_n C dX6_examineMigration_26 rfl ?_
          refine zV.iload_n C dX6_examineMigration_27 rfl ?_
          refine zV.callV (n := 2) C G dX6_examineMigration_28 (s_Paths_areNeighbours hzs hst h (b + 1) (i) j (gN g) hi hj (zGa_pa hg)) rfl ⟨cd_X8_areNeighbours, lk_X6_81, im_X8_areNeighbours, se_X8_X8_areNeighbours, in_X8⟩ ⟨⟨by decide, by decide⟩, by decide⟩ rfl rfl rfl (hg.1.2.2.2.2.2.1.1) ⟨rfl, by decide⟩ (zaf ?_) (zno)
          refine zV.if_ne (tgt := 51) C dX6_examineMigration_31 (by decide) (fun q31 => ?_) (fun q31 => ?_)
          · have hb := Decidable.of_not_not (fun z => q31 (b01.mpr z))
            refine zV.aload_n C dX6_examineMigration_51 rfl rfl ?_
            refine zV.iload_n C dX6_examineMigration_52 rfl ?_
            refine zV.callV (n := 1) C G dX6_examineMigration_53 (s_countGrazingOn hzs hst h b g i hi hg hw) rfl ⟨cd_X3_countGrazingOn, lk_X6_123, im_X3_countGrazingOn, se_X3_X3_countGrazingOn, in_X3⟩ ⟨⟨by decide, by decide⟩, by decide⟩ rfl rfl rfl (hg.1.1) ⟨rfl, by decide⟩ (zaf ?_) (zno)
            refine zV.if_ne (tgt := 76) C dX6_examineMigration_56 (by decide) (fun q56 => ?_) (fun q56 => ?_)
            · have hc : ¬ (gC g).countP (chGr i) = 0 := fun z => q56 (congrArg nI z)
              refine zV.aload_n C dX6_examineMigration_76 rfl rfl ?_
              refine zV.iload_n C dX6_examineMigration_77 rfl ?_
              refine zV.callS (n := 2) C G dX6_examineMigration_78 (s_isFull hzs hst h b g j hj hg hw) rfl ⟨cd_X6_isFull, lk_X6_100, st_X6_isFull, in_X6⟩ ⟨⟨by decide, by decide⟩, by decide⟩ rfl rfl rfl (zaf ?_) (zno)
              refine zV.if_eq (tgt := 90) C dX6_examineMigration_81 (by decide) (fun q81 => ?_) (fun q81 => ?_)
              · have hf : ¬ 5 ≤ hsz (gC g) j := of_decide_eq_false (b2n.mp q81)
                refine zV.vret C F dX6_examineMigration_90 rfl ?_
                refine ⟨rfl, ?_⟩
                simp only [jMg, hx, hy]
                first
                  | (rw [if_neg hb]; exact zJp_rej)
                  | (rw [if_pos hb, if_pos hc]; exact zJp_rej)
                  | (rw [if_pos hb, if_neg hc, if_pos hf]; exact zJp_rej)
                  | (rw [if_pos hb, if_neg hc, if_neg hf]; exact zJp_0 h0)
              · have hf : 5 ≤ hsz (gC g) j := of_decide_eq_true (Bool.of_not_eq_false (fun z => q81 (b2n.mpr z)))
                refine zV.aload_n C dX6_examineMigration_84 rfl rfl ?_
                refine zV.ic (v := nI 4) C dX6_examineMigration_85 (by decide) ?_
                refine zV.iload_n C dX6_examineMigration_86 rfl ?_
                refine zV.callV (n := 2) C G dX6_examineMigration_87 (s_reject hzs hst h a (nI 4) (nI j) hk) rfl ⟨cd_X6_reject, lk_X6_90, im_X6_reject, se_X6_X6_reject, in_X6⟩ ⟨⟨by decide, by decide⟩, by decide⟩ rfl rfl rfl hk ⟨rfl, by decide⟩ (zafv ?_) (zno)
                refine zV.vret C F dX6_examineMigration_90 rfl ?_
                refine ⟨rfl, ?_⟩
                simp only [jMg, hx, hy]
                first
                  | (rw [if_neg hb]; exact zJp_rej)
                  | (rw [if_pos hb, if_pos hc]; exact zJp_rej)
                  | (rw [if_pos hb, if_neg hc, if_pos hf]; exact zJp_rej)
                  | (rw [if_pos hb, if_neg hc, if_neg hf]; exact zJp_0 h0)
            · have hc : (gC g).countP (chGr i) = 0 := (n0 (by have h1 := gW_len hw; have h2 : (gC g).countP (chGr i) ≤ (gC g).length := List.countP_le_length; omega)).mp q56
              refine zV.aload_n C dX6_examineMigration_59 rfl rfl ?_
              refine zV.bi (v := nI 7) C dX6_examineMigration_60 (by decide) ?_
              refine zV.aload_n C dX6_examineMigration_62 rfl rfl ?_
              refine zV.gNR 194 (k := 2) C dX6_examineMigration_63 zcl_X3 (by decide) rfl lk_X6_61 (hg.1.1) rfl (hg.1.2.2.2.1) ?_
              refine zV.iload_n C dX6_examineMigration_66 rfl ?_
              refine zV.callV (n := 1) C G dX6_examineMigration_67 (s_LawnRow_at hzs hst h (b + 6) i hi hg.1.2.2.2.2.2.2.2.1) rfl ⟨cd_X7_at, lk_X6_67, im_X7_at, se_X7_X7_at, in_X7⟩ ⟨⟨by decide, by decide⟩, by decide⟩ rfl rfl rfl (hg.1.2.2.2.2.2.2.2.1.1) ⟨rfl, by decide⟩ (zaf ?_) (zno)
              rw [zGa_h hg i hi]
              refine zV.callV (n := 2) C G dX6_examineMigration_70 (s_reject hzs hst h a (nI 7) (nI (hsz (gC g) i)) hk) rfl ⟨cd_X6_reject, lk_X6_90, im_X6_reject, se_X6_X6_reject, in_X6⟩ ⟨⟨by decide, by decide⟩, by decide⟩ rfl rfl rfl hk ⟨rfl, by decide⟩ (zafv ?_) (zno)
              refine zV.goto (tgt := 90) C dX6_examineMigration_73 (by decide) ?_
              refine zV.vret C F dX6_examineMigration_90 rfl ?_
              refine ⟨rfl, ?_⟩
              simp only [jMg, hx, hy]
              first
                | (rw [if_neg hb]; exact zJp_rej)
                | (rw [if_pos hb, if_pos hc]; exact zJp_rej)
                | (rw [if_pos hb, if_neg hc, if_pos hf]; exact zJp_rej)
                | (rw [if_pos hb, if_neg hc, if_neg hf]; exact zJp_0 h0)
          · have hb := b01.mp q31
            refine zV.aload_n C dX6_examineMigration_34 rfl rfl ?_
            refine zV.ic (v := nI 2) C dX6_examineMigration_35 (by decide) ?_
            refine zV.aload_n C dX6_examineMigration_36 rfl rfl ?_
            refine zV.gNR 192 (k := 0) C dX6_examineMigration_37 zcl_X3 (by decide) rfl lk_X6_77 (hg.1.1) rfl (hg.1.2.1) ?_
            refine zV.iload_n C dX6_examineMigration_40 rfl ?_
            refine zV.iload_n C dX6_examineMigration_41 rfl ?_
            refine zV.callV (n := 2) C G dX6_examineMigration_42 (s_Paths_stepsBetween hzs hst h (b + 1) (i) j (gN g) hi hj (zGa_pa hg)) rfl ⟨cd_X8_stepsBetween, lk_X6_93, im_X8_stepsBetween, se_X8_X8_stepsBetween, in_X8⟩ ⟨⟨by decide, by decide⟩, by decide⟩ rfl rfl rfl (hg.1.2.2.2.2.2.1.1) ⟨rfl, by decide⟩ (zaf ?_) (zno)
            refine zV.callV (n := 2) C G dX6_examineMigration_45 (s_reject hzs hst h a (nI 2) (oI (far (gN g) i j)) hk) rfl ⟨cd_X6_reject, lk_X6_90, im_X6_reject, se_X6_X6_reject, in_X6⟩ ⟨⟨by decide, by decide⟩, by decide⟩ rfl rfl rfl hk ⟨rfl, by decide⟩ (zafv ?_) (zno)
            refine zV.goto (tgt := 90) C dX6_examineMigration_48 (by decide) ?_
            refine zV.vret C F dX6_examineMigration_90 rfl ?_
            refine ⟨rfl, ?_⟩
            simp only [jMg, hx, hy]
            first
              | (rw [if_neg hb]; exact zJp_rej)
              | (rw [if_pos hb, if_pos hc]; exact zJp_rej)
              | (rw [if_pos hb, if_neg hc, if_pos hf]; exact zJp_rej)
              | (rw [if_pos hb, if_neg hc, if_neg hf]; exact zJp_0 h0)
        · exact absurd (show nI 1 = 0 from q11) (by decide)
set_option maxHeartbeats 4000000 in
set_option maxRecDepth 100000 in
theorem s_examineNewOil {l : Launch} {E : zG} (hzs : zS E) (hst : l.stackTraces = false) (h : zH) (a b : Nat) (g : zGd) (x : Int32) (hg : zGa h b g) (hw : gW g) (hk : hK h a = 10) (h0 : hI h 288 a = nI 0) : zMet l E yX6_examineNewOil cX6_examineNewOil 3 none ({ frames := 1, cells := 0, slots := 0, locals := 22 } : Room) 0 0 [.ref a, .ref b, .int x] h (fun r h' => r = none ∧ zJp h h' a (jAo g x)) (fun _ _ => False) := by
  refine zM_start hzs hst (by decide) (Nat.le_of_ble_eq_true rfl) (fun X C G F I => ?_)
  show zV X 0 0 _ 0 [(0, _), (1, _), (2, _)] []
  refine zV.iload_n C dX6_examineNewOil_0 rfl ?_
  refine zV.ic (v := nI 1) C dX6_examineNewOil_1 (by decide) ?_
  refine zV.icmp_lt (tgt := 11) C dX6_examineNewOil_2 (by decide) (fun q2 => ?_) (fun q2 => ?_)
  · refine zV.aload_n C dX6_examineNewOil_11 rfl rfl ?_
    refine zV.ic (v := nI 2) C dX6_examineNewOil_12 (by decide) ?_
    refine zV.pI 288 (k := 0) C dX6_examineNewOil_13 zcl_X6 (by decide) rfl lk_X6_11 rfl hk rfl ⟨rfl, rfl⟩ ?_
    refine zV.goto (tgt := 40) C dX6_examineNewOil_16 (by decide) ?_
    refine zV.vret C F dX6_examineNewOil_40 rfl ?_
    refine ⟨rfl, ?_⟩
    simp only [jAo]
    first
      | (rw [if_pos q2]; exact zJp_2)
      | (rw [if_neg q2, if_neg q8]; exact zJp_2)
      | (rw [if_neg q2, if_pos q8, if_pos q27]; exact zJp_0 h0)
      | (rw [if_neg q2, if_pos q8, if_neg q27]; exact zJp_rej)
  · refine zV.iload_n C dX6_examineNewOil_5 rfl ?_
    refine zV.bi (v := nI 10) C dX6_examineNewOil_6 (by decide) ?_
    refine zV.icmp_le (tgt := 19) C dX6_examineNewOil_8 (by decide) (fun q8 => ?_) (fun q8 => ?_)
    · refine zV.aload_n C dX6_examineNewOil_19 rfl rfl ?_
      refine zV.gNIv 199 (k := 7) C dX6_examineNewOil_20 zcl_X3 (by decide) rfl lk_X6_117 (hg.1.1) rfl ((zGa_n hg).2.2.2.1) ?_
      refine zV.iload_n C dX6_examineNewOil_23 rfl ?_
      refine zV.iadd C dX6_examineNewOil_24 ?_
      refine zV.bi (v := nI 20) C dX6_examineNewOil_25 (by decide) ?_
      refine zV.icmp_le (tgt := 40) C dX6_examineNewOil_27 (by decide) (fun q27 => ?_) (fun q27 => ?_)
      · refine zV.vret C F dX6_examineNewOil_40 rfl ?_
        refine ⟨rfl, ?_⟩
        simp only [jAo]
        first
          | (rw [if_pos q2]; exact zJp_2)
          | (rw [if_neg q2, if_neg q8]; exact zJp_2)
          | (rw [if_neg q2, if_pos q8, if_pos q27]; exact zJp_0 h0)
          | (rw [if_neg q2, if_pos q8, if_neg q27]; exact zJp_rej)
      · refine zV.aload_n C dX6_examineNewOil_30 rfl rfl ?_
        refine zV.bi (v := nI 10) C dX6_examineNewOil_31 (by decide) ?_
        refine zV.aload_n C dX6_examineNewOil_33 rfl rfl ?_
        refine zV.gNIv 199 (k := 7) C dX6_examineNewOil_34 zcl_X3 (by decide) rfl lk_X6_117 (hg.1.1) rfl ((zGa_n hg).2.2.2.1) ?_
        refine zV.callV (n := 2) C G dX6_examineNewOil_37 (s_reject hzs hst h a (nI 10) (nI (gO g)) hk) rfl ⟨cd_X6_reject, lk_X6_90, im_X6_reject, se_X6_X6_reject, in_X6⟩ ⟨⟨by decide, by decide⟩, by decide⟩ rfl rfl rfl hk ⟨rfl, by decide⟩ (zafv ?_) (zno)
        refine zV.vret C F dX6_examineNewOil_40 rfl ?_
        refine ⟨rfl, ?_⟩
        simp only [jAo]
        first
          | (rw [if_pos q2]; exact zJp_2)
          | (rw [if_neg q2, if_neg q8]; exact zJp_2)
          | (rw [if_neg q2, if_pos q8, if_pos q27]; exact zJp_0 h0)
          | (rw [if_neg q2, if_pos q8, if_neg q27]; exact zJp_rej)
    · refine zV.aload_n C dX6_examineNewOil_11 rfl rfl ?_
      refine zV.ic (v := nI 2) C dX6_examineNewOil_12 (by decide) ?_
      refine zV.pI 288 (k := 0) C dX6_examineNewOil_13 zcl_X6 (by decide) rfl lk_X6_11 rfl hk rfl ⟨rfl, rfl⟩ ?_
      refine zV.goto (tgt := 40) C dX6_examineNewOil_16 (by decide) ?_
      refine zV.vret C F dX6_examineNewOil_40 rfl ?_
      refine ⟨rfl, ?_⟩
      simp only [jAo]
      first
        | (rw [if_pos q2]; exact zJp_2)
        | (rw [if_neg q2, if_neg q8]; exact zJp_2)
        | (rw [if_neg q2, if_pos q8, if_pos q27]; exact zJp_0 h0)
        | (rw [if_neg q2, if_pos q8, if_neg q27]; exact zJp_rej)
set_option maxHeartbeats 4000000 in
set_option maxRecDepth 100000 in
theorem s_examineDays {l : Launch} {E : zG} (hzs : zS E) (hst : l.stackTraces = false) (h : zH) (a : Nat) (x : Int32) (hk : hK h a = 10) (h0 : hI h 288 a = nI 0) : zMet l E yX6_examineDays cX6_examineDays 2 none ({ frames := 1, cells := 0, slots := 0, locals := 20 } : Room) 0 0 [.ref a, .int x] h (fun r h' => r = none ∧ zJp h h' a (jDy x)) (fun _ _ => False) := by
  refine zM_start hzs hst (by decide) (Nat.le_of_ble_eq_true rfl) (fun X C G F I => ?_)
  show zV X 0 0 _ 0 [(0, _), (1, _)] []
  refine zV.iload_n C dX6_examineDays_0 rfl ?_
  refine zV.callSN (n := 1) C G dX6_examineDays_1 (s_areDays hzs hst h x) rfl ⟨cd_X9_areDays, lk_X6_126, st_X9_areDays, in_X9⟩ ⟨⟨by decide, by decide⟩, by decide⟩ rfl rfl rfl (zaf ?_) (zno)
  refine zV.if_ne (tgt := 12) C dX6_examineDays_4 (by decide) (fun q4 => ?_) (fun q4 => ?_)
  · have hf : dyB x = true := Bool.of_not_eq_false (fun z => q4 (b2n.mpr z))
    refine zV.vret C F dX6_examineDays_12 rfl ?_
    refine ⟨rfl, ?_⟩
    simp only [jDy]
    first
      | (rw [if_pos hf]; exact zJp_0 h0)
      | (rw [if_neg hf]; exact zJp_2)
  · have hf : ¬ dyB x = true := fun z => by rw [b2n.mp q4] at z; cases z
    refine zV.aload_n C dX6_examineDays_7 rfl rfl ?_
    refine zV.ic (v := nI 2) C dX6_examineDays_8 (by decide) ?_
    refine zV.pI 288 (k := 0) C dX6_examineDays_9 zcl_X6 (by decide) rfl lk_X6_11 rfl hk rfl ⟨rfl, rfl⟩ ?_
    refine zV.vret C F dX6_examineDays_12 rfl ?_
    refine ⟨rfl, ?_⟩
    simp only [jDy]
    first
      | (rw [if_pos hf]; exact zJp_0 h0)
      | (rw [if_neg hf]; exact zJp_2)
def isD (d : Nat) : Prop := d = 112 ∨ d = 113 ∨ d = 104 ∨ d = 99 ∨ d = 115 ∨ d = 102 ∨ d = 117 ∨ d = 111 ∨ d = 109 ∨ d = 103 ∨ d = 97 ∨ d = 100
set_option maxHeartbeats 4000000 in
set_option maxRecDepth 100000 in
theorem s_examine {l : Launch} {E : zG} (hzs : zS E) (hst : l.stackTraces = false) (h : zH) (a b : Nat) (g : zGd) (d : Nat) (x y : Int32) (hd : isD d) (hg : zGa h b g) (hw : gW g) (hk : hK h a = 10) (hab : b + 21 ≤ a ∨ a + 1 ≤ b) : zMet l E yX6_examine cX6_examine 5 (some .int) ({ frames := 4, cells := 0, slots := 0, locals := 92 } : Room) 0 0 [.ref a, .ref b, .int (nI d), .int x, .int y] h (fun r h' => r = some (.int (nI (jd g d x y).1)) ∧ zJp h h' a (jd g d x y)) (fun _ _ => False) := by
  refine zM_start hzs hst (by decide) (Nat.le_of_ble_eq_true rfl) (fun X C G F I => ?_)
  show zV X 0 0 _ 0 [(0, _), (1, _), (2, _), (3, _), (4, _)] []
  refine zV.aload_n C dX6_examine_0 rfl rfl ?_
  refine zV.ic (v := nI 0) C dX6_examine_1 (by decide) ?_
  refine zV.pI 288 (k := 0) C dX6_examine_2 zcl_X6 (by decide) rfl lk_X6_11 rfl hk rfl ⟨rfl, rfl⟩ ?_
  have f1 : zFq h (sI h 288 a (nI 0)) a (a + 1) := (zFq.refl h a (a + 1)).sI (Nat.le_refl _) (Nat.lt_succ_self _)
  have g1 := zGa_q hg (gW_len hw) f1 (by omega)
  rcases hd with rfl | rfl | rfl | rfl | rfl | rfl | rfl | rfl | rfl | rfl | rfl | rfl
  · refine zV.iload_n C dX6_examine_5 rfl ?_
    refine zV.tIn 104 C dX6_examine_6 (by decide) (by decide) (show _ = some 98 from by rfl) (by decide) ?_
    refine zV.aload_n C dX6_examine_104 rfl rfl ?_
    refine zV.aload_n C dX6_examine_105 rfl rfl ?_
    refine zV.iload_n C dX6_examine_106 rfl ?_
    refine zV.iload C dX6_examine_107 rfl ?_
    refine zV.callV (n := 3) C G dX6_examine_109 (s_examineNewPath hzs hst (sI h 288 a (nI 0)) a b g x y g1 hw hk hI_sI) rfl ⟨cd_X6_examineNewPath, lk_X6_15, im_X6_examineNewPath, se_X6_X6_examineNewPath, in_X6⟩ ⟨⟨by decide, by decide⟩, by decide⟩ rfl rfl rfl hk ⟨rfl, by decide⟩ (zafRv (fun h9 hp => ?_)) (zno)
    refine zV.goto (tgt := 227) C dX6_examine_112 (by decide) ?_
    refine zV.aload_n C dX6_examine_227 rfl rfl ?_
    refine zV.gIv 288 (k := 0) C dX6_examine_228 zcl_X6 (by decide) rfl lk_X6_11 (hp.2.2.2.1 ▸ hk) rfl (hp.1) ?_
    refine zV.iret C F dX6_examine_231 rfl ?_
    exact ⟨rfl, hp.1, hp.2.1, f1.trans hp.2.2⟩
  · refine zV.iload_n C dX6_examine_5 rfl ?_
    refine zV.tIn 115 C dX6_examine_6 (by decide) (by decide) (show _ = some 109 from by rfl) (by decide) ?_
    refine zV.aload_n C dX6_examine_115 rfl rfl ?_
    refine zV.aload_n C dX6_examine_116 rfl rfl ?_
    refine zV.iload_n C dX6_examine_117 rfl ?_
    refine zV.iload C dX6_examine_118 rfl ?_
    refine zV.callV (n := 3) C G dX6_examine_120 (s_examineOldPath hzs hst (sI h 288 a (nI 0)) a b g x y g1 hw hk hI_sI) rfl ⟨cd_X6_examineOldPath, lk_X6_19, im_X6_examineOldPath, se_X6_X6_examineOldPath, in_X6⟩ ⟨⟨by decide, by decide⟩, by decide⟩ rfl rfl rfl hk ⟨rfl, by decide⟩ (zafRv (fun h9 hp => ?_)) (zno)
    refine zV.goto (tgt := 227) C dX6_examine_123 (by decide) ?_
    refine zV.aload_n C dX6_examine_227 rfl rfl ?_
    refine zV.gIv 288 (k := 0) C dX6_examine_228 zcl_X6 (by decide) rfl lk_X6_11 (hp.2.2.2.1 ▸ hk) rfl (hp.1) ?_
    refine zV.iret C F dX6_examine_231 rfl ?_
    exact ⟨rfl, hp.1, hp.2.1, f1.trans hp.2.2⟩
  · refine zV.iload_n C dX6_examine_5 rfl ?_
    refine zV.tIn 126 C dX6_examine_6 (by decide) (by decide) (show _ = some 120 from by rfl) (by decide) ?_
    refine zV.aload_n C dX6_examine_126 rfl rfl ?_
    refine zV.iload_n C dX6_examine_127 rfl ?_
    refine zV.iload C dX6_examine_128 rfl ?_
    refine zV.callV (n := 2) C G dX6_examine_130 (s_examineShade hzs hst (sI h 288 a (nI 0)) a x y hk hI_sI) rfl ⟨cd_X6_examineShade, lk_X6_22, im_X6_examineShade, se_X6_X6_examineShade, in_X6⟩ ⟨⟨by decide, by decide⟩, by decide⟩ rfl rfl rfl hk ⟨rfl, by decide⟩ (zafRv (fun h9 hp => ?_)) (zno)
    refine zV.goto (tgt := 227) C dX6_examine_133 (by decide) ?_
    refine zV.aload_n C dX6_examine_227 rfl rfl ?_
    refine zV.gIv 288 (k := 0) C dX6_examine_228 zcl_X6 (by decide) rfl lk_X6_11 (hp.2.2.2.1 ▸ hk) rfl (hp.1) ?_
    refine zV.iret C F dX6_examine_231 rfl ?_
    exact ⟨rfl, hp.1, hp.2.1, f1.trans hp.2.2⟩
  · refine zV.iload_n C dX6_examine_5 rfl ?_
    refine zV.tIn 136 C dX6_examine_6 (by decide) (by decide) (show _ = some 130 from by rfl) (by decide) ?_
    refine zV.aload_n C dX6_examine_136 rfl rfl ?_
    refine zV.aload_n C dX6_examine_137 rfl rfl ?_
    refine zV.iload_n C dX6_examine_138 rfl ?_
    refine zV.iload C dX6_examine_139 rfl ?_
    refine zV.callV (n := 3) C G dX6_examine_141 (s_examineNewChair hzs hst (sI h 288 a (nI 0)) a b g x y g1 hw hk hI_sI) rfl ⟨cd_X6_examineNewChair, lk_X6_26, im_X6_examineNewChair, se_X6_X6_examineNewChair, in_X6⟩ ⟨⟨by decide, by decide⟩, by decide⟩ rfl rfl rfl hk ⟨rfl, by decide⟩ (zafRv (fun h9 hp => ?_)) (zno)
    refine zV.goto (tgt := 227) C dX6_examine_144 (by decide) ?_
    refine zV.aload_n C dX6_examine_227 rfl rfl ?_
    refine zV.gIv 288 (k := 0) C dX6_examine_228 zcl_X6 (by decide) rfl lk_X6_11 (hp.2.2.2.1 ▸ hk) rfl (hp.1) ?_
    refine zV.iret C F dX6_examine_231 rfl ?_
    exact ⟨rfl, hp.1, hp.2.1, f1.trans hp.2.2⟩
  · refine zV.iload_n C dX6_examine_5 rfl ?_
    refine zV.tIn 147 C dX6_examine_6 (by decide) (by decide) (show _ = some 141 from by rfl) (by decide) ?_
    refine zV.aload_n C dX6_examine_147 rfl rfl ?_
    refine zV.aload_n C dX6_examine_148 rfl rfl ?_
    refine zV.iload_n C dX6_examine_149 rfl ?_
    refine zV.callV (n := 2) C G dX6_examine_150 (s_examineScrapping hzs hst (sI h 288 a (nI 0)) a b g x g1 hw hk hI_sI) rfl ⟨cd_X6_examineScrapping, lk_X6_29, im_X6_examineScrapping, se_X6_X6_examineScrapping, in_X6⟩ ⟨⟨by decide, by decide⟩, by decide⟩ rfl rfl rfl hk ⟨rfl, by decide⟩ (zafRv (fun h9 hp => ?_)) (zno)
    refine zV.goto (tgt := 227) C dX6_examine_153 (by decide) ?_
    refine zV.aload_n C dX6_examine_227 rfl rfl ?_
    refine zV.gIv 288 (k := 0) C dX6_examine_228 zcl_X6 (by decide) rfl lk_X6_11 (hp.2.2.2.1 ▸ hk) rfl (hp.1) ?_
    refine zV.iret C F dX6_examine_231 rfl ?_
    exact ⟨rfl, hp.1, hp.2.1, f1.trans hp.2.2⟩
  · refine zV.iload_n C dX6_examine_5 rfl ?_
    refine zV.tIn 156 C dX6_examine_6 (by decide) (by decide) (show _ = some 150 from by rfl) (by decide) ?_
    refine zV.aload_n C dX6_examine_156 rfl rfl ?_
    refine zV.aload_n C dX6_examine_157 rfl rfl ?_
    refine zV.iload_n C dX6_examine_158 rfl ?_
    refine zV.callV (n := 2) C G dX6_examine_159 (s_examineFolding hzs hst (sI h 288 a (nI 0)) a b g x g1 hw hk hI_sI) rfl ⟨cd_X6_examineFolding, lk_X6_33, im_X6_examineFolding, se_X6_X6_examineFolding, in_X6⟩ ⟨⟨by decide, by decide⟩, by decide⟩ rfl rfl rfl hk ⟨rfl, by decide⟩ (zafRv (fun h9 hp => ?_)) (zno)
    refine zV.goto (tgt := 227) C dX6_examine_162 (by decide) ?_
    refine zV.aload_n C dX6_examine_227 rfl rfl ?_
    refine zV.gIv 288 (k := 0) C dX6_examine_228 zcl_X6 (by decide) rfl lk_X6_11 (hp.2.2.2.1 ▸ hk) rfl (hp.1) ?_
    refine zV.iret C F dX6_examine_231 rfl ?_
    exact ⟨rfl, hp.1, hp.2.1, f1.trans hp.2.2⟩
  · refine zV.iload_n C dX6_examine_5 rfl ?_
    refine zV.tIn 165 C dX6_examine_6 (by decide) (by decide) (show _ = some 159 from by rfl) (by decide) ?_
    refine zV.aload_n C dX6_examine_165 rfl rfl ?_
    refine zV.aload_n C dX6_examine_166 rfl rfl ?_
    refine zV.iload_n C dX6_examine_167 rfl ?_
    refine zV.callV (n := 2) C G dX6_examine_168 (s_examineUnfolding hzs hst (sI h 288 a (nI 0)) a b g x g1 hw hk hI_sI) rfl ⟨cd_X6_examineUnfolding, lk_X6_36, im_X6_examineUnfolding, se_X6_X6_examineUnfolding, in_X6⟩ ⟨⟨by decide, by decide⟩, by decide⟩ rfl rfl rfl hk ⟨rfl, by decide⟩ (zafRv (fun h9 hp => ?_)) (zno)
    refine zV.goto (tgt := 227) C dX6_examine_171 (by decide) ?_
    refine zV.aload_n C dX6_examine_227 rfl rfl ?_
    refine zV.gIv 288 (k := 0) C dX6_examine_228 zcl_X6 (by decide) rfl lk_X6_11 (hp.2.2.2.1 ▸ hk) rfl (hp.1) ?_
    refine zV.iret C F dX6_examine_231 rfl ?_
    exact ⟨rfl, hp.1, hp.2.1, f1.trans hp.2.2⟩
  · refine zV.iload_n C dX6_examine_5 rfl ?_
    refine zV.tIn 174 C dX6_examine_6 (by decide) (by decide) (show _ = some 168 from by rfl) (by decide) ?_
    refine zV.aload_n C dX6_examine_174 rfl rfl ?_
    refine zV.aload_n C dX6_examine_175 rfl rfl ?_
    refine zV.iload_n C dX6_examine_176 rfl ?_
    refine zV.callV (n := 2) C G dX6_examine_177 (s_examineOiling hzs hst (sI h 288 a (nI 0)) a b g x g1 hw hk hI_sI) rfl ⟨cd_X6_examineOiling, lk_X6_39, im_X6_examineOiling, se_X6_X6_examineOiling, in_X6⟩ ⟨⟨by decide, by decide⟩, by decide⟩ rfl rfl rfl hk ⟨rfl, by decide⟩ (zafRv (fun h9 hp => ?_)) (zno)
    refine zV.goto (tgt := 227) C dX6_examine_180 (by decide) ?_
    refine zV.aload_n C dX6_examine_227 rfl rfl ?_
    refine zV.gIv 288 (k := 0) C dX6_examine_228 zcl_X6 (by decide) rfl lk_X6_11 (hp.2.2.2.1 ▸ hk) rfl (hp.1) ?_
    refine zV.iret C F dX6_examine_231 rfl ?_
    exact ⟨rfl, hp.1, hp.2.1, f1.trans hp.2.2⟩
  · refine zV.iload_n C dX6_examine_5 rfl ?_
    refine zV.tIn 183 C dX6_examine_6 (by decide) (by decide) (show _ = some 177 from by rfl) (by decide) ?_
    refine zV.aload_n C dX6_examine_183 rfl rfl ?_
    refine zV.aload_n C dX6_examine_184 rfl rfl ?_
    refine zV.iload_n C dX6_examine_185 rfl ?_
    refine zV.iload C dX6_examine_186 rfl ?_
    refine zV.callV (n := 3) C G dX6_examine_188 (s_examineMove hzs hst (sI h 288 a (nI 0)) a b g x y g1 hw hk hI_sI) rfl ⟨cd_X6_examineMove, lk_X6_42, im_X6_examineMove, se_X6_X6_examineMove, in_X6⟩ ⟨⟨by decide, by decide⟩, by decide⟩ rfl rfl rfl hk ⟨rfl, by decide⟩ (zafRv (fun h9 hp => ?_)) (zno)
    refine zV.goto (tgt := 227) C dX6_examine_191 (by decide) ?_
    refine zV.aload_n C dX6_examine_227 rfl rfl ?_
    refine zV.gIv 288 (k := 0) C dX6_examine_228 zcl_X6 (by decide) rfl lk_X6_11 (hp.2.2.2.1 ▸ hk) rfl (hp.1) ?_
    refine zV.iret C F dX6_examine_231 rfl ?_
    exact ⟨rfl, hp.1, hp.2.1, f1.trans hp.2.2⟩
  · refine zV.iload_n C dX6_examine_5 rfl ?_
    refine zV.tIn 194 C dX6_examine_6 (by decide) (by decide) (show _ = some 188 from by rfl) (by decide) ?_
    refine zV.aload_n C dX6_examine_194 rfl rfl ?_
    refine zV.aload_n C dX6_examine_195 rfl rfl ?_
    refine zV.iload_n C dX6_examine_196 rfl ?_
    refine zV.iload C dX6_examine_197 rfl ?_
    refine zV.callV (n := 3) C G dX6_examine_199 (s_examineMigration hzs hst (sI h 288 a (nI 0)) a b g x y g1 hw hk hI_sI) rfl ⟨cd_X6_examineMigration, lk_X6_45, im_X6_examineMigration, se_X6_X6_examineMigration, in_X6⟩ ⟨⟨by decide, by decide⟩, by decide⟩ rfl rfl rfl hk ⟨rfl, by decide⟩ (zafRv (fun h9 hp => ?_)) (zno)
    refine zV.goto (tgt := 227) C dX6_examine_202 (by decide) ?_
    refine zV.aload_n C dX6_examine_227 rfl rfl ?_
    refine zV.gIv 288 (k := 0) C dX6_examine_228 zcl_X6 (by decide) rfl lk_X6_11 (hp.2.2.2.1 ▸ hk) rfl (hp.1) ?_
    refine zV.iret C F dX6_examine_231 rfl ?_
    exact ⟨rfl, hp.1, hp.2.1, f1.trans hp.2.2⟩
  · refine zV.iload_n C dX6_examine_5 rfl ?_
    refine zV.tIn 205 C dX6_examine_6 (by decide) (by decide) (show _ = some 199 from by rfl) (by decide) ?_
    refine zV.aload_n C dX6_examine_205 rfl rfl ?_
    refine zV.aload_n C dX6_examine_206 rfl rfl ?_
    refine zV.iload_n C dX6_examine_207 rfl ?_
    refine zV.callV (n := 2) C G dX6_examine_208 (s_examineNewOil hzs hst (sI h 288 a (nI 0)) a b g x g1 hw hk hI_sI) rfl ⟨cd_X6_examineNewOil, lk_X6_48, im_X6_examineNewOil, se_X6_X6_examineNewOil, in_X6⟩ ⟨⟨by decide, by decide⟩, by decide⟩ rfl rfl rfl hk ⟨rfl, by decide⟩ (zafRv (fun h9 hp => ?_)) (zno)
    refine zV.goto (tgt := 227) C dX6_examine_211 (by decide) ?_
    refine zV.aload_n C dX6_examine_227 rfl rfl ?_
    refine zV.gIv 288 (k := 0) C dX6_examine_228 zcl_X6 (by decide) rfl lk_X6_11 (hp.2.2.2.1 ▸ hk) rfl (hp.1) ?_
    refine zV.iret C F dX6_examine_231 rfl ?_
    exact ⟨rfl, hp.1, hp.2.1, f1.trans hp.2.2⟩
  · refine zV.iload_n C dX6_examine_5 rfl ?_
    refine zV.tIn 214 C dX6_examine_6 (by decide) (by decide) (show _ = some 208 from by rfl) (by decide) ?_
    refine zV.aload_n C dX6_examine_214 rfl rfl ?_
    refine zV.iload_n C dX6_examine_215 rfl ?_
    refine zV.callV (n := 1) C G dX6_examine_216 (s_examineDays hzs hst (sI h 288 a (nI 0)) a x hk hI_sI) rfl ⟨cd_X6_examineDays, lk_X6_51, im_X6_examineDays, se_X6_X6_examineDays, in_X6⟩ ⟨⟨by decide, by decide⟩, by decide⟩ rfl rfl rfl hk ⟨rfl, by decide⟩ (zafRv (fun h9 hp => ?_)) (zno)
    refine zV.goto (tgt := 227) C dX6_examine_219 (by decide) ?_
    refine zV.aload_n C dX6_examine_227 rfl rfl ?_
    refine zV.gIv 288 (k := 0) C dX6_examine_228 zcl_X6 (by decide) rfl lk_X6_11 (hp.2.2.2.1 ▸ hk) rfl (hp.1) ?_
    refine zV.iret C F dX6_examine_231 rfl ?_
    exact ⟨rfl, hp.1, hp.2.1, f1.trans hp.2.2⟩
