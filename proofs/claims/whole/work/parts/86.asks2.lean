/-! the reference: further questions -/
theorem mqK {X : zX} {kc ks : Nat} {h : zH} {r pc : Nat} {lo : List (Nat × Value)} {n : Nat} {A : zAn} {cf : String → Nat} {cc : ByteArray} {own : String} {nL : Nat} {mc ms : Nat} {Qx : String → zH → Prop} (C : zC X cc own nL) (F : zF X (some .int) mc ms (mqQ h r A cf (.int (nI 0))) Qx) (hA : ∀ w, A = .inr w → ∃ x, w = .int x) (d : decode cc pc = .ok (.ireturn, 1)) (hc : Nat.ble kc mc && Nat.ble ks ms) : ∀ (v : Option Value) (h' : zH), mqQ h r A cf (.int (nI 0)) v h' → n ≤ hN h' → zV X kc ks h' pc lo (v.toList ++ []) := fun v h' q _ => by
  have q0 := q
  obtain ⟨e1, e2⟩ := q
  rcases A with Ex | w
  · subst e1
    exact zV.iret C F d hc q0
  · obtain ⟨x, rfl⟩ := hA w rfl
    subst e1
    exact zV.iret C F d hc q0
theorem isI_law {x : Int32} {f : Nat → zAn} (h : ∀ i w, f i = .inr w → ∃ z, w = .int z) : ∀ w, lawA x f = .inr w → ∃ z, w = .int z := fun w e => by
  unfold lawA at e
  split at e
  · cases e
  · exact h _ _ e
theorem isI_el {v : Int32} : ∀ w, elA v = .inr w → ∃ z, w = .int z := fun w e => by
  unfold elA at e
  split at e
  · cases e
  · cases e; exact ⟨_, rfl⟩
theorem isI_r {v : Int32} : ∀ w, (Sum.inr (Value.int v) : zAn) = .inr w → ∃ z, w = .int z := fun w e => by cases e; exact ⟨_, rfl⟩
theorem hrd_pos {ds : List zCh} {k : Nat} {c : zCh} (h : ds[k]? = some c) : (hrd ds (chL c))[hsz (ds.take k) (chL c)]? = some (chI c) := by
  induction ds generalizing k with
  | nil => cases h
  | cons d t ih =>
    rcases k with _ | k
    · rw [List.getElem?_cons_zero] at h
      cases h
      rw [hrd_f]
      unfold flt
      rw [List.filter_cons, if_pos (decide_eq_true rfl)]; rfl
    · rw [List.getElem?_cons_succ] at h
      have := ih h
      rw [List.take_succ_cons, hsz_cons, hrd_f]
      rw [hrd_f] at this
      unfold flt at this ⊢
      rw [List.filter_cons]
      by_cases e : chL d = chL c
      · rw [if_pos (decide_eq_true e), if_pos e, List.map_cons, List.getElem?_cons_succ]; exact this
      · rw [if_neg (by simp [e]), if_neg e]; exact this
theorem fd_hs {l : Nat} {y : Int32} {id : Nat} : ∀ (t : List zCh) (p k q : Nat), (hrd t l)[q]? = some id → y = nI (p + q) → p + t.length < 1000 → ∃ j c, fdH l y t p k = some (k + j) ∧ t[j]? = some c ∧ chI c = id
  | [], p, k, q, h, _, _ => by cases h
  | d :: t, p, k, q, h, e, hp => by
    rw [List.length_cons] at hp
    rw [hrd_f] at h
    unfold flt at h
    rw [List.filter_cons] at h
    by_cases e1 : chL d = l
    · rw [if_pos (decide_eq_true e1), List.map_cons] at h
      rcases q with _ | q
      · rw [List.getElem?_cons_zero] at h
        exact ⟨0, d, by rw [fdH, if_pos e1, if_pos (show nI p = y from e.symm)]; rfl, rfl, Option.some.inj h⟩
      · rw [List.getElem?_cons_succ] at h
        have hq : q < t.length := Nat.lt_of_lt_of_le (List.getElem?_eq_some_iff.mp h).1 (by rw [List.length_map]; exact List.length_filter_le _ _)
        obtain ⟨j, c, h1, h2, h3⟩ := fd_hs (y := y) t (p + 1) (k + 1) q h (e.trans (congrArg nI (by omega))) (by omega)
        refine ⟨j + 1, c, ?_, by rw [List.getElem?_cons_succ]; exact h2, h3⟩
        rw [fdH, if_pos e1, if_neg (by rw [e]; intro z; have := neq (by omega) (by omega) z; omega), h1]
        exact congrArg some (by omega)
    · rw [if_neg (by simp [e1])] at h
      obtain ⟨j, c, h1, h2, h3⟩ := fd_hs t p (k + 1) q h e (by omega)
      refine ⟨j + 1, c, ?_, by rw [List.getElem?_cons_succ]; exact h2, h3⟩
      rw [fdH, if_neg e1, h1]
      exact congrArg some (by omega)
theorem fd_hn {l : Nat} {y : Int32} : ∀ (t : List zCh) (p k : Nat), (∀ q, q < (hrd t l).length → y ≠ nI (p + q)) → fdH l y t p k = none
  | [], p, k, _ => rfl
  | d :: t, p, k, h => by
    rw [hrd_f] at h
    unfold flt at h
    rw [List.filter_cons] at h
    by_cases e1 : chL d = l
    · rw [if_pos (decide_eq_true e1), List.map_cons, List.length_cons] at h
      rw [fdH, if_pos e1, if_neg (fun z => h 0 (by omega) z.symm)]
      exact fd_hn t (p + 1) (k + 1) (fun q hq => by
        have := h (q + 1) (by rw [hrd_f] at hq; exact Nat.succ_lt_succ hq)
        rw [show p + 1 + q = p + (q + 1) by omega]; exact this)
    · rw [if_neg (by simp [e1])] at h
      rw [fdH, if_neg e1]
      exact fd_hn t p (k + 1) h
theorem ca_s {g : zGd} {i q id : Nat} (h : (hrd (gC g) i)[q]? = some id) (hl : (gC g).length ≤ 12) (hid : id < 2 ^ 31) : elA (idO (gC g) (fdH i (nI q) (gC g) 0 0)) = .inr (.int (nI id)) := by
  obtain ⟨j, c, h1, h2, h3⟩ := fd_hs (gC g) 0 0 q h (by rw [Nat.zero_add]) (by omega)
  rw [h1, Nat.zero_add]
  unfold idO
  simp only [h2]
  rw [h3]
  exact if_neg (nI_m1 hid)
theorem ca_n {g : zGd} {i : Nat} {y : Int32} (h : ∀ q, q < (hrd (gC g) i).length → y ≠ nI q) : elA (idO (gC g) (fdH i y (gC g) 0 0)) = .inl NSE := by
  rw [fd_hn (gC g) 0 0 (fun q hq => by rw [Nat.zero_add]; exact h q hq)]; rfl
theorem inB_len {y : Int32} {n : Nat} (hn : n < 100) : (inB y (nI 0) (nI n - nI 1) = true ∧ ∃ q, q < n ∧ y = nI q) ∨ (inB y (nI 0) (nI n - nI 1) = false ∧ ∀ q, q < n → y ≠ nI q) := by
  rcases n with _ | n
  · refine Or.inr ⟨?_, fun q hq => absurd hq (Nat.not_lt_zero q)⟩
    rw [show nI 0 - nI 1 = (-1 : Int32) by decide]
    unfold inB
    by_cases h : nI 0 ≤ y
    · rw [decide_eq_false (p := y ≤ -1) (fun z => by have := Int32.le_trans h z; exact absurd this (by decide)), Bool.and_false]
    · rw [decide_eq_false h]; rfl
  · rw [show nI (n + 1) - nI 1 = nI n from pk_sub (by omega)]
    rcases h : inB y (nI 0) (nI n) with _ | _
    · refine Or.inr ⟨rfl, fun q hq e => ?_⟩
      rw [e] at h
      unfold inB at h
      rw [decide_eq_true (nI_le (Nat.zero_le q) (by omega)), decide_eq_true (nI_le (show q ≤ n by omega) (by omega))] at h
      cases h
    · obtain ⟨q, e, -, hq⟩ := inB_n (by decide) (by omega) h
      exact Or.inl ⟨rfl, q, by omega, e⟩
set_option maxHeartbeats 4000000 in
set_option maxRecDepth 100000 in
theorem s_qdistanceByImprovement {l : Launch} {E : zG} (hzs : zS E) (hst : l.stackTraces = false) (h : zH) (r m : Nat) (g : zGd) (hm : zMs h r) (hg : rG (aI h (r + 1)) g) (hR : gR m g) (hb : m + 3000 ≤ big) (x y : Int32) : zMet l E yX10_distanceByImprovement cX10_distanceByImprovement 3 (some .int) ({ frames := 3, cells := 0, slots := 0, locals := 71 } : Room) 0 0 [.ref r, .int x, .int y] h (mqQ h r (lawA x (fun i => lawA y (fun j => elA (oI (far (gN g) i j))))) c12 (.int (nI 0))) (fun _ _ => False) := by
  refine zM_start hzs hst (by decide) (Nat.le_of_ble_eq_true rfl) (fun X C G F I => ?_)
  show zV X 0 0 _ 0 [(0, _), (1, _), (2, _)] []
  refine zV.aload_n C dX10_distanceByImprovement_0 rfl rfl ?_
  refine zV.iload_n C dX10_distanceByImprovement_1 rfl ?_
  refine zV.iload_n C dX10_distanceByImprovement_2 rfl ?_
  refine zV.callV (n := 2) C G dX10_distanceByImprovement_3 (s_qdistance hzs hst h r m g hm hg hR hb x y) rfl ⟨cd_X10_distance, lk_X10_176, im_X10_distance, se_X10_X10_distance, in_X10⟩ ⟨⟨by decide, by decide⟩, by decide⟩ rfl rfl rfl hm.1 ⟨rfl, by decide⟩ (mqK C F (isI_law (fun i => isI_law (fun j => isI_el))) dX10_distanceByImprovement_6 rfl) (zno)
set_option maxHeartbeats 4000000 in
set_option maxRecDepth 100000 in
theorem s_qherdSizeByChairs {l : Launch} {E : zG} (hzs : zS E) (hst : l.stackTraces = false) (h : zH) (r m : Nat) (g : zGd) (hm : zMs h r) (hg : rG (aI h (r + 1)) g) (hR : gR m g) (hb : m + 3000 ≤ big) (x : Int32) : zMet l E yX10_herdSizeByChairs cX10_herdSizeByChairs 2 (some .int) ({ frames := 3, cells := 0, slots := 0, locals := 63 } : Room) 0 0 [.ref r, .int x] h (mqQ h r (lawA x (fun i => .inr (.int (nI (hsz (gC g) i))))) c1 (.int (nI 0))) (fun _ _ => False) := by
  refine zM_start hzs hst (by decide) (Nat.le_of_ble_eq_true rfl) (fun X C G F I => ?_)
  show zV X 0 0 _ 0 [(0, _), (1, _)] []
  refine zV.aload_n C dX10_herdSizeByChairs_0 rfl rfl ?_
  refine zV.iload_n C dX10_herdSizeByChairs_1 rfl ?_
  refine zV.callV (n := 1) C G dX10_herdSizeByChairs_2 (s_qherdSize hzs hst h r m g hm hg hR hb x) rfl ⟨cd_X10_herdSize, lk_X10_182, im_X10_herdSize, se_X10_X10_herdSize, in_X10⟩ ⟨⟨by decide, by decide⟩, by decide⟩ rfl rfl rfl hm.1 ⟨rfl, by decide⟩ (mqK C F (isI_law (fun i => isI_r)) dX10_herdSizeByChairs_5 rfl) (zno)
set_option maxHeartbeats 4000000 in
set_option maxRecDepth 100000 in
theorem s_qlawnOf {l : Launch} {E : zG} (hzs : zS E) (hst : l.stackTraces = false) (h : zH) (r m : Nat) (g : zGd) (hm : zMs h r) (hg : rG (aI h (r + 1)) g) (hR : gR m g) (hb : m + 3000 ≤ big) (x : Int32) : zMet l E yX10_lawnOf cX10_lawnOf 2 (some .int) ({ frames := 3, cells := 0, slots := 0, locals := 67 } : Room) 0 0 [.ref r, .int x] h (mqQ h r (chQ g x (fun _ c => .inr (.int (tlV 1 c)))) c1 (.int (nI 0))) (fun _ _ => False) := by
  refine zM_start hzs hst (by decide) (Nat.le_of_ble_eq_true rfl) (fun X C G F I => ?_)
  show zV X 0 0 _ 0 [(0, _), (1, _)] []
  refine zV.aload_n C dX10_lawnOf_0 rfl rfl ?_
  refine zV.iload_n C dX10_lawnOf_1 rfl ?_
  refine zV.ic (v := nI 1) C dX10_lawnOf_2 (by decide) ?_
  refine zV.callV (n := 2) C G dX10_lawnOf_3 (s_qtells hzs hst h r m g hm hg hR hb x 1 (by decide) (by decide)) rfl ⟨cd_X10_tells, lk_X10_179, im_X10_tells, se_X10_X10_tells, in_X10⟩ ⟨⟨by decide, by decide⟩, by decide⟩ rfl rfl rfl hm.1 ⟨rfl, by decide⟩ (mqK C F (by intro w e; revert e; unfold chQ; split <;> intro e <;> cases e <;> exact ⟨_, rfl⟩) dX10_lawnOf_6 rfl) (zno)
set_option maxHeartbeats 4000000 in
set_option maxRecDepth 100000 in
theorem s_qrustOf {l : Launch} {E : zG} (hzs : zS E) (hst : l.stackTraces = false) (h : zH) (r m : Nat) (g : zGd) (hm : zMs h r) (hg : rG (aI h (r + 1)) g) (hR : gR m g) (hb : m + 3000 ≤ big) (x : Int32) : zMet l E yX10_rustOf cX10_rustOf 2 (some .int) ({ frames := 3, cells := 0, slots := 0, locals := 67 } : Room) 0 0 [.ref r, .int x] h (mqQ h r (chQ g x (fun _ c => .inr (.int (tlV 2 c)))) c1 (.int (nI 0))) (fun _ _ => False) := by
  refine zM_start hzs hst (by decide) (Nat.le_of_ble_eq_true rfl) (fun X C G F I => ?_)
  show zV X 0 0 _ 0 [(0, _), (1, _)] []
  refine zV.aload_n C dX10_rustOf_0 rfl rfl ?_
  refine zV.iload_n C dX10_rustOf_1 rfl ?_
  refine zV.ic (v := nI 2) C dX10_rustOf_2 (by decide) ?_
  refine zV.callV (n := 2) C G dX10_rustOf_3 (s_qtells hzs hst h r m g hm hg hR hb x 2 (by decide) (by decide)) rfl ⟨cd_X10_tells, lk_X10_179, im_X10_tells, se_X10_X10_tells, in_X10⟩ ⟨⟨by decide, by decide⟩, by decide⟩ rfl rfl rfl hm.1 ⟨rfl, by decide⟩ (mqK C F (by intro w e; revert e; unfold chQ; split <;> intro e <;> cases e <;> exact ⟨_, rfl⟩) dX10_rustOf_6 rfl) (zno)
set_option maxHeartbeats 4000000 in
set_option maxRecDepth 100000 in
theorem s_qtotalRustByHerds {l : Launch} {E : zG} (hzs : zS E) (hst : l.stackTraces = false) (h : zH) (r m : Nat) (g : zGd) (hm : zMs h r) (hg : rG (aI h (r + 1)) g) (hR : gR m g) (hb : m + 3000 ≤ big) : zMet l E yX10_totalRustByHerds cX10_totalRustByHerds 1 (some .int) ({ frames := 3, cells := 0, slots := 0, locals := 64 } : Room) 0 0 [.ref r] h (fun v h' => v = some (.int (nI (rsum (gC g)))) ∧ h' = sI h 435 r (nI 0)) (fun _ _ => False) := by
  refine zM_start hzs hst (by decide) (Nat.le_of_ble_eq_true rfl) (fun X C G F I => ?_)
  show zV X 0 0 _ 0 [(0, _)] []
  refine zV.aload_n C dX10_totalRustByHerds_0 rfl rfl ?_
  refine zV.callV (n := 0) C G dX10_totalRustByHerds_1 (s_qtotalRust hzs hst h r m g hm hg hR hb) rfl ⟨cd_X10_totalRust, lk_X10_197, im_X10_totalRust, se_X10_X10_totalRust, in_X10⟩ ⟨⟨by decide, by decide⟩, by decide⟩ rfl rfl rfl hm.1 ⟨rfl, by decide⟩ (zaf ?_) (zno)
  refine zV.iret C F dX10_totalRustByHerds_4 rfl ?_
  exact ⟨rfl, rfl⟩
set_option maxHeartbeats 4000000 in
set_option maxRecDepth 100000 in
theorem s_qisConsistent {l : Launch} {E : zG} (hzs : zS E) (hst : l.stackTraces = false) (h : zH) (r : Nat) (hm : zMs h r) : zMet l E yX10_isConsistent cX10_isConsistent 1 (some .boolean) ({ frames := 0, cells := 0, slots := 0, locals := 0 } : Room) 0 0 [.ref r] h (fun v h' => v = some (.int (nI 1)) ∧ h' = sI h 435 r (nI 0)) (fun _ _ => False) := by
  refine zM_start hzs hst (by decide) (Nat.le_of_ble_eq_true rfl) (fun X C G F I => ?_)
  show zV X 0 0 _ 0 [(0, _)] []
  refine zV.aload_n C dX10_isConsistent_0 rfl rfl ?_
  refine zV.ic (v := nI 0) C dX10_isConsistent_1 (by decide) ?_
  refine zV.pI 435 (k := 19) C dX10_isConsistent_2 zcl_X10 (by decide) rfl lk_X10_39 rfl hm.1 rfl ⟨rfl, rfl⟩ ?_
  refine zV.ic (v := nI 1) C dX10_isConsistent_5 (by decide) ?_
  refine zV.zret C F dX10_isConsistent_6 rfl rfl ?_
  exact ⟨rfl, rfl⟩
set_option maxHeartbeats 4000000 in
set_option maxRecDepth 100000 in
theorem s_qisFolded {l : Launch} {E : zG} (hzs : zS E) (hst : l.stackTraces = false) (h : zH) (r m : Nat) (g : zGd) (hm : zMs h r) (hg : rG (aI h (r + 1)) g) (hR : gR m g) (hb : m + 3000 ≤ big) (x : Int32) : zMet l E yX10_isFolded cX10_isFolded 2 (some .boolean) ({ frames := 3, cells := 0, slots := 0, locals := 67 } : Room) 0 0 [.ref r, .int x] h (mqQ h r (chQ g x (fun _ c => .inr (.int (nI (b2 (chF c)))))) c1 (.int (nI 0))) (fun _ _ => False) := by
  refine zM_start hzs hst (by decide) (Nat.le_of_ble_eq_true rfl) (fun X C G F I => ?_)
  show zV X 0 0 _ 0 [(0, _), (1, _)] []
  refine zV.aload_n C dX10_isFolded_0 rfl rfl ?_
  refine zV.iload_n C dX10_isFolded_1 rfl ?_
  refine zV.ic (v := nI 3) C dX10_isFolded_2 (by decide) ?_
  refine zV.callV (n := 2) C G dX10_isFolded_3 (s_qtells hzs hst h r m g hm hg hR hb x 3 (by decide) (by decide)) rfl ⟨cd_X10_tells, lk_X10_179, im_X10_tells, se_X10_X10_tells, in_X10⟩ ⟨⟨by decide, by decide⟩, by decide⟩ rfl rfl rfl hm.1 ⟨rfl, by decide⟩ (zafX (fun v1 h1 q1 => ?_)) (zno)
  rcases e1 : kc g x with _ | ⟨k, c⟩
  · rw [chQ_n e1] at q1
    obtain ⟨rfl, rfl⟩ := q1
    show zV X 0 0 (sI h 435 r (nI 1)) 6 _ [.int (nI 0)]
    refine zV.ic (v := nI 1) C dX10_isFolded_6 (by decide) ?_
    refine zV.icmp_ne (tgt := 14) C dX10_isFolded_7 (by decide) (fun q7 => ?_) (fun q7 => ?_)
    · refine zV.ic (v := nI 0) C dX10_isFolded_14 (by decide) ?_
      refine zV.zret C F dX10_isFolded_15 rfl rfl ?_
      exact mq_x (chQ_n e1) rfl
    · exact absurd q7 (by decide)
  · rw [chQ_s e1] at q1
    obtain ⟨rfl, rfl⟩ := q1
    obtain ⟨-, hck, hid, hkl⟩ := kc_some e1
    show zV X 0 0 (sI h 435 r (nI 0)) 6 _ [.int (nI (b2 (chF c)))]
    refine zV.ic (v := nI 1) C dX10_isFolded_6 (by decide) ?_
    refine zV.icmp_ne (tgt := 14) C dX10_isFolded_7 (by decide) (fun q7 => ?_) (fun q7 => ?_)
    · have e3 : chF c = false := by
        rcases hx : chF c with _ | _
        · rfl
        · rw [hx] at q7; exact absurd rfl q7
      refine zV.ic (v := nI 0) C dX10_isFolded_14 (by decide) ?_
      refine zV.zret C F dX10_isFolded_15 rfl rfl ?_
      exact mq_r ((chQ_s e1).trans (by rw [e3]; rfl))
    · have e3 : chF c = true := by
        rcases hx : chF c with _ | _
        · rw [hx] at q7; exact absurd q7 (by decide)
        · rfl
      refine zV.ic (v := nI 1) C dX10_isFolded_10 (by decide) ?_
      refine zV.goto (tgt := 15) C dX10_isFolded_11 (by decide) ?_
      refine zV.zret C F dX10_isFolded_15 rfl rfl ?_
      exact mq_r ((chQ_s e1).trans (by rw [e3]; rfl))
set_option maxHeartbeats 4000000 in
set_option maxRecDepth 100000 in
theorem s_qageOf {l : Launch} {E : zG} (hzs : zS E) (hst : l.stackTraces = false) (h : zH) (r m : Nat) (g : zGd) (hm : zMs h r) (hg : rG (aI h (r + 1)) g) (hR : gR m g) (hb : m + 3000 ≤ big) (x : Int32) : zMet l E yX10_ageOf cX10_ageOf 3 (some .int) ({ frames := 3, cells := 0, slots := 0, locals := 67 } : Room) 0 0 [.ref r, .int x] h (mqQ h r (chQ g x (fun _ c => .inr (.int (nI (gD g - chD c))))) c1 (.int (nI 0))) (fun _ _ => False) := by
  refine zM_start hzs hst (by decide) (Nat.le_of_ble_eq_true rfl) (fun X C G F I => ?_)
  show zV X 0 0 _ 0 [(0, _), (1, _)] []
  have hg0 := hg
  obtain ⟨cs, hp, hsrt, hf⟩ := hg0
  have hw := rG_W hR (by omega) hp
  have hN := hR.2.1
  have hls := hf.2.2.1
  have hgw := gQ_W hR.1 (by omega : m ≤ big)
  refine zV.aload_n C dX10_ageOf_0 rfl rfl ?_
  refine zV.iload_n C dX10_ageOf_1 rfl ?_
  refine zV.ic (v := nI 4) C dX10_ageOf_2 (by decide) ?_
  refine zV.callV (n := 2) C G dX10_ageOf_3 (s_qtells hzs hst h r m g hm hg hR hb x 4 (by decide) (by decide)) rfl ⟨cd_X10_tells, lk_X10_179, im_X10_tells, se_X10_X10_tells, in_X10⟩ ⟨⟨by decide, by decide⟩, by decide⟩ rfl rfl rfl hm.1 ⟨rfl, by decide⟩ (zafX (fun v1 h1 q1 => ?_)) (zno)
  rcases e1 : kc g x with _ | ⟨k, c⟩
  · rw [chQ_n e1] at q1
    obtain ⟨rfl, rfl⟩ := q1
    show zV X 0 0 (sI h 435 r (nI 1)) 6 _ [.int (nI 0)]
    refine zV.istore_n (lo' := [(0, _), (1, _), (2, _)]) C dX10_ageOf_6 (by decide) rfl rfl rfl ?_
    refine zV.aload_n C dX10_ageOf_7 rfl rfl ?_
    refine zV.gIv 435 (k := 19) C dX10_ageOf_8 zcl_X10 (by decide) rfl lk_X10_39 hm.1 rfl (hI_sI) ?_
    refine zV.if_ne (tgt := 25) C dX10_ageOf_11 (by decide) (fun q11 => ?_) (fun q11 => ?_)
    · refine zV.ic (v := nI 0) C dX10_ageOf_25 (by decide) ?_
      refine zV.iret C F dX10_ageOf_26 rfl ?_
      exact mq_x (chQ_n e1) rfl
    · exact absurd q11 (by decide)
  · rw [chQ_s e1] at q1
    obtain ⟨rfl, rfl⟩ := q1
    obtain ⟨-, hck, hid, hkl⟩ := kc_some e1
    show zV X 0 0 (sI h 435 r (nI 0)) 6 _ [.int (nI (chD c))]
    refine zV.istore_n (lo' := [(0, _), (1, _), (2, _)]) C dX10_ageOf_6 (by decide) rfl rfl rfl ?_
    refine zV.aload_n C dX10_ageOf_7 rfl rfl ?_
    refine zV.gIv 435 (k := 19) C dX10_ageOf_8 zcl_X10 (by decide) rfl lk_X10_39 hm.1 rfl (hI_sI) ?_
    refine zV.if_ne (tgt := 25) C dX10_ageOf_11 (by decide) (fun q11 => ?_) (fun q11 => ?_)
    · exact absurd rfl q11
    · refine zV.aload_n C dX10_ageOf_14 rfl rfl ?_
      refine zV.gR 416 (k := 0) C dX10_ageOf_15 zcl_X10 (by decide) rfl lk_X10_9 (hm.1) rfl (hm.2.1) ?_
      refine zV.ic (v := nI 2) C dX10_ageOf_18 (by decide) ?_
      refine zV.ialdv (j := 2) C dX10_ageOf_19 (hm.2.2.2.2.2.2.2.2.2.1.1) (rfl) (Nat.lt_of_lt_of_eq (show 2 < 116 by decide) (hm.2.2.2.2.2.2.2.2.2.1.2).symm) (by omega) (hf.2.2.2.2.1) ?_
      refine zV.iload_n C dX10_ageOf_20 rfl ?_
      refine zV.isub C dX10_ageOf_21 ?_
      rw [show nI (gD g) - nI (chD c) = nI (gD g - chD c) from pk_sub (hgw.1 c (List.mem_of_getElem? hck)).2.2.2]
      refine zV.goto (tgt := 26) C dX10_ageOf_22 (by decide) ?_
      refine zV.iret C F dX10_ageOf_26 rfl ?_
      exact mq_r (chQ_s e1)
set_option maxHeartbeats 4000000 in
set_option maxRecDepth 100000 in
theorem s_qposE {X : zX} {l : Launch} {E : zG} {rm : Room} (hzs : zS E) (hst : l.stackTraces = false) (C : zC X cX10_positionOf RX10 4) (G : zGX X l E rm) {h : zH} {r k l9 id : Nat} {Qr : Option Value → zH → Prop} {Qx : String → zH → Prop} (hr : rm = ({ frames := 3, cells := 0, slots := 0, locals := 67 } : Room)) (F : zF X (some .int) 0 0 Qr Qx) (hm : zMs h r) (hl : l9 < 6) (hk : k < 5) (hv : aI h (r + 1) (8 + 8 * l9 + 3 + k) = nI id) (kq : Qr (some (.int (nI k))) h) : zV X 0 0 h 18 [(0, .ref r), (1, .int (nI id)), (2, .int (nI l9)), (3, .int (nI k))] [] := by
  subst hr
  refine zV.aload_n C dX10_positionOf_18 rfl rfl ?_
  refine zV.iload_n C dX10_positionOf_19 rfl ?_
  refine zV.iload_n C dX10_positionOf_20 rfl ?_
  refine zV.callV (n := 2) C G dX10_positionOf_21 (s_mherd hzs hst h r hm l9 k hl hk) rfl ⟨cd_X10_herd, lk_X10_147, im_X10_herd, se_X10_X10_herd, in_X10⟩ ⟨⟨by decide, by decide⟩, by decide⟩ rfl rfl rfl (hm.1) ⟨rfl, by decide⟩ (zaf ?_) (zno)
  rw [hv]
  refine zV.iload_n C dX10_positionOf_24 rfl ?_
  refine zV.icmp_eq (tgt := 34) C dX10_positionOf_25 (by decide) (fun q25 => ?_) (fun q25 => ?_)
  · refine zV.iload_n C dX10_positionOf_34 rfl ?_
    refine zV.iret C F dX10_positionOf_35 rfl ?_
    exact kq
  · exact absurd rfl q25
set_option maxHeartbeats 4000000 in
set_option maxRecDepth 100000 in
theorem L_qpositionOf {X : zX} {l : Launch} {E : zG} {rm : Room} (hzs : zS E) (hst : l.stackTraces = false) (C : zC X cX10_positionOf RX10 4) (G : zGX X l E rm) {h0 h : zH} {r q l9 id : Nat} {t : List Nat} {Qr : Option Value → zH → Prop} {Qx : String → zH → Prop} (hr : rm = ({ frames := 3, cells := 0, slots := 0, locals := 67 } : Room)) (F : zF X (some .int) 0 0 Qr Qx) (hm : zMs h r) (hl : l9 < 6) (ht : t.length ≤ 5) (hv : ∀ k x, t[k]? = some x → aI h (r + 1) (8 + 8 * l9 + 3 + k) = nI x) (hb : ∀ x ∈ t, x < 2 ^ 31) (hq : t[q]? = some id) (nd : t.Nodup) (kq : Qr (some (.int (nI q))) h) : ∀ n k, k + n = q → zV X 0 0 h 18 [(0, .ref r), (1, .int (nI id)), (2, .int (nI l9)), (3, .int (nI k))] [] := by
  subst hr
  have hql := (List.getElem?_eq_some_iff.mp hq).1
  intro n
  induction n with
  | zero =>
    intro k hk
    obtain rfl : k = q := by omega
    exact s_qposE hzs hst C G rfl F hm hl (by omega) (hv k _ hq) kq
  | succ n ih =>
    intro k hk
    obtain ⟨x, hx⟩ : ∃ x, t[k]? = some x := ⟨_, List.getElem?_eq_getElem (by omega)⟩
    have hne : x ≠ id := fun e => by have := nd_idx nd hx (e ▸ hq); omega
    have b1 := hb x (List.mem_of_getElem? hx)
    have b2_ := hb id (List.mem_of_getElem? hq)
    refine zV.aload_n C dX10_positionOf_18 rfl rfl ?_
    refine zV.iload_n C dX10_positionOf_19 rfl ?_
    refine zV.iload_n C dX10_positionOf_20 rfl ?_
    refine zV.callV (n := 2) C G dX10_positionOf_21 (s_mherd hzs hst h r hm l9 k hl (by omega)) rfl ⟨cd_X10_herd, lk_X10_147, im_X10_herd, se_X10_X10_herd, in_X10⟩ ⟨⟨by decide, by decide⟩, by decide⟩ rfl rfl rfl (hm.1) ⟨rfl, by decide⟩ (zaf ?_) (zno)
    rw [hv k _ hx]
    refine zV.iload_n C dX10_positionOf_24 rfl ?_
    refine zV.icmp_eq (tgt := 34) C dX10_positionOf_25 (by decide) (fun q25 => ?_) (fun q25 => ?_)
    · exact absurd (neq b1 b2_ q25) hne
    · refine zV.iinc (lo' := [(0, _), (1, _), (2, _), (3, _)]) C dX10_positionOf_28 rfl (by decide) rfl rfl rfl ?_
      refine zV.goto (tgt := 18) C dX10_positionOf_31 (by decide) ?_
      rw [inc1]
      exact ih (k + 1) (by omega)
set_option maxHeartbeats 4000000 in
set_option maxRecDepth 100000 in
theorem s_qpositionOf {l : Launch} {E : zG} (hzs : zS E) (hst : l.stackTraces = false) (h : zH) (r m : Nat) (g : zGd) (hm : zMs h r) (hg : rG (aI h (r + 1)) g) (hR : gR m g) (hb : m + 3000 ≤ big) (x : Int32) : zMet l E yX10_positionOf cX10_positionOf 4 (some .int) ({ frames := 3, cells := 0, slots := 0, locals := 67 } : Room) 0 0 [.ref r, .int x] h (mqQ h r (chQ g x (fun k c => .inr (.int (nI (hsz ((gC g).take k) (chL c)))))) c1 (.int (nI 0))) (fun _ _ => False) := by
  refine zM_start hzs hst (by decide) (Nat.le_of_ble_eq_true rfl) (fun X C G F I => ?_)
  show zV X 0 0 _ 0 [(0, _), (1, _)] []
  have hg0 := hg
  obtain ⟨cs, hp, hsrt, hf⟩ := hg0
  have hw := rG_W hR (by omega) hp
  have hN := hR.2.1
  have hls := hf.2.2.1
  have hgw := gQ_W hR.1 (by omega : m ≤ big)
  refine zV.aload_n C dX10_positionOf_0 rfl rfl ?_
  refine zV.iload_n C dX10_positionOf_1 rfl ?_
  refine zV.ic (v := nI 1) C dX10_positionOf_2 (by decide) ?_
  refine zV.callV (n := 2) C G dX10_positionOf_3 (s_qtells hzs hst h r m g hm hg hR hb x 1 (by decide) (by decide)) rfl ⟨cd_X10_tells, lk_X10_179, im_X10_tells, se_X10_X10_tells, in_X10⟩ ⟨⟨by decide, by decide⟩, by decide⟩ rfl rfl rfl hm.1 ⟨rfl, by decide⟩ (zafX (fun v1 h1 q1 => ?_)) (zno)
  rcases e1 : kc g x with _ | ⟨k, c⟩
  · rw [chQ_n e1] at q1
    obtain ⟨rfl, rfl⟩ := q1
    show zV X 0 0 (sI h 435 r (nI 1)) 6 _ [.int (nI 0)]
    refine zV.istore_n (lo' := [(0, _), (1, _), (2, _)]) C dX10_positionOf_6 (by decide) rfl rfl rfl ?_
    refine zV.aload_n C dX10_positionOf_7 rfl rfl ?_
    refine zV.gIv 435 (k := 19) C dX10_positionOf_8 zcl_X10 (by decide) rfl lk_X10_39 hm.1 rfl (hI_sI) ?_
    refine zV.if_le (tgt := 16) C dX10_positionOf_11 (by decide) (fun q11 => ?_) (fun q11 => ?_)
    · exact absurd q11 (by decide)
    · refine zV.ic (v := nI 0) C dX10_positionOf_14 (by decide) ?_
      refine zV.iret C F dX10_positionOf_15 rfl ?_
      exact mq_x (chQ_n e1) rfl
  · rw [chQ_s e1] at q1
    obtain ⟨rfl, rfl⟩ := q1
    obtain ⟨-, hck, hid, hkl⟩ := kc_some e1
    show zV X 0 0 (sI h 435 r (nI 0)) 6 _ [.int (nI (chL c))]
    refine zV.istore_n (lo' := [(0, _), (1, _), (2, _)]) C dX10_positionOf_6 (by decide) rfl rfl rfl ?_
    refine zV.aload_n C dX10_positionOf_7 rfl rfl ?_
    refine zV.gIv 435 (k := 19) C dX10_positionOf_8 zcl_X10 (by decide) rfl lk_X10_39 hm.1 rfl (hI_sI) ?_
    refine zV.if_le (tgt := 16) C dX10_positionOf_11 (by decide) (fun q11 => ?_) (fun q11 => ?_)
    · refine zV.ic (v := nI 0) C dX10_positionOf_16 (by decide) ?_
      refine zV.istore_n (lo' := [(0, _), (1, _), (2, _), (3, _)]) C dX10_positionOf_17 (by decide) rfl rfl rfl ?_
      have hc6 := (hgw.1 c (List.mem_of_getElem? hck)).2.1
      have hb9 : (big : Nat) = 1000000000 := rfl
      rw [← hid]
      exact L_qpositionOf hzs hst C G (h0 := h) (h := sI h 435 r (nI 0)) (t := hrd (gC g) (chL c)) rfl F hm hc6 (hw.2.2.1 _ hc6) (hf.2.1 _ hc6).2 (fun y hy => by obtain ⟨d, hd, e, -⟩ := hw.2.2.2.1 _ hc6 y hy; have := (hw.2.1 d hd).1; omega) (hrd_pos hck) (hw.2.2.2.2.2.1 _ hc6) (mq_r (chQ_s e1)) _ 0 (Nat.zero_add _)
    · exact absurd (by decide) q11
set_option maxHeartbeats 4000000 in
set_option maxRecDepth 100000 in
theorem s_qchairAt {l : Launch} {E : zG} (hzs : zS E) (hst : l.stackTraces = false) (h : zH) (r m : Nat) (g : zGd) (hm : zMs h r) (hg : rG (aI h (r + 1)) g) (hR : gR m g) (hb : m + 3000 ≤ big) (x y : Int32) : zMet l E yX10_chairAt cX10_chairAt 3 (some .int) ({ frames := 2, cells := 0, slots := 0, locals := 42 } : Room) 0 0 [.ref r, .int x, .int y] h (mqQ h r (lawA x (fun i => elA (idO (gC g) (fdH i y (gC g) 0 0)))) c12 (.int (nI 0))) (fun _ _ => False) := by
  refine zM_start hzs hst (by decide) (Nat.le_of_ble_eq_true rfl) (fun X C G F I => ?_)
  show zV X 0 0 _ 0 [(0, _), (1, _), (2, _)] []
  obtain ⟨cs, hp, hsrt, hf⟩ := hg
  have hw := rG_W hR (by omega) hp
  have hN := hR.2.1
  have hls := hf.2.2.1
  rcases e1 : ln x with _ | i
  · refine zV.aload_n C dX10_chairAt_0 rfl rfl ?_
    refine zV.ic (v := nI 0) C dX10_chairAt_1 (by decide) ?_
    refine zV.pI 435 (k := 19) C dX10_chairAt_2 zcl_X10 (by decide) rfl lk_X10_39 rfl hm.1 rfl ⟨rfl, rfl⟩ ?_
    refine zV.iload_n C dX10_chairAt_5 rfl ?_
    refine zV.callS (n := 1) C G dX10_chairAt_6 (s_misLawn hzs hst (sI h 435 r (nI 0)) x) rfl ⟨cd_X10_isLawn, lk_X10_85, st_X10_isLawn, in_X10⟩ ⟨⟨by decide, by decide⟩, by decide⟩ rfl rfl rfl (zaf ?_) (zno)
    rw [e1]
    show zV X _ _ (sI h 435 r (nI 0)) 9 _ (.int (nI 0) :: _)
    refine zV.if_ne (tgt := 18) C dX10_chairAt_9 (by decide) (fun q9 => ?_) (fun q9 => ?_)
    · exact absurd rfl q9
    · refine zV.aload_n C dX10_chairAt_12 rfl rfl ?_
      refine zV.ic (v := nI 1) C dX10_chairAt_13 (by decide) ?_
      refine zV.callV (n := 1) C G dX10_chairAt_14 (s_mraises hzs hst (sI h 435 r (nI 0)) r hm (nI 1)) rfl ⟨cd_X10_raises, lk_X10_54, im_X10_raises, se_X10_X10_raises, in_X10⟩ ⟨⟨by decide, by decide⟩, by decide⟩ rfl rfl rfl (hm.1) ⟨rfl, by decide⟩ (zaf ?_) (zno)
      refine zV.iret C F dX10_chairAt_17 rfl ?_
      exact mq_y (lawA_n e1) c12_1
  · obtain ⟨hi, rfl⟩ := ln_some e1
    have h5 := hw.2.2.1 i hi
    rcases inB_len (y := y) (n := (hrd (gC g) i).length) (by omega) with ⟨e2, q, hq, rfl⟩ | ⟨e2, hn⟩
    · obtain ⟨id, hid⟩ : ∃ id, (hrd (gC g) i)[q]? = some id := ⟨_, List.getElem?_eq_getElem hq⟩
      refine zV.aload_n C dX10_chairAt_0 rfl rfl ?_
      refine zV.ic (v := nI 0) C dX10_chairAt_1 (by decide) ?_
      refine zV.pI 435 (k := 19) C dX10_chairAt_2 zcl_X10 (by decide) rfl lk_X10_39 rfl hm.1 rfl ⟨rfl, rfl⟩ ?_
      refine zV.iload_n C dX10_chairAt_5 rfl ?_
      refine zV.callS (n := 1) C G dX10_chairAt_6 (s_misLawn hzs hst (sI h 435 r (nI 0)) (nI i)) rfl ⟨cd_X10_isLawn, lk_X10_85, st_X10_isLawn, in_X10⟩ ⟨⟨by decide, by decide⟩, by decide⟩ rfl rfl rfl (zaf ?_) (zno)
      rw [e1]
      show zV X _ _ (sI h 435 r (nI 0)) 9 _ (.int (nI 1) :: _)
      refine zV.if_ne (tgt := 18) C dX10_chairAt_9 (by decide) (fun q9 => ?_) (fun q9 => ?_)
      · refine zV.iload_n C dX10_chairAt_18 rfl ?_
        refine zV.ic (v := nI 0) C dX10_chairAt_19 (by decide) ?_
        refine zV.aload_n C dX10_chairAt_20 rfl rfl ?_
        refine zV.iload_n C dX10_chairAt_21 rfl ?_
        refine zV.ic (v := nI 2) C dX10_chairAt_22 (by decide) ?_
        refine zV.callV (n := 2) C G dX10_chairAt_23 (s_mlawn hzs hst (sI h 435 r (nI 0)) r hm i 2 hi (by decide)) rfl ⟨cd_X10_lawn, lk_X10_69, im_X10_lawn, se_X10_X10_lawn, in_X10⟩ ⟨⟨by decide, by decide⟩, by decide⟩ rfl rfl rfl (hm.1) ⟨rfl, by decide⟩ (zaf ?_) (zno)
        rw [show aI (sI h 435 r (nI 0)) (r + 1) (8 + 8 * i + 2) = nI (hrd (gC g) i).length from (hf.2.1 i hi).1]
        refine zV.ic (v := nI 1) C dX10_chairAt_26 (by decide) ?_
        refine zV.isub C dX10_chairAt_27 ?_
        refine zV.callS (n := 3) C G dX10_chairAt_28 (s_min hzs hst (sI h 435 r (nI 0)) (nI q) (nI 0) (nI (hrd (gC g) i).length - nI 1)) rfl ⟨cd_X10_in, lk_X10_61, st_X10_in, in_X10⟩ ⟨⟨by decide, by decide⟩, by decide⟩ rfl rfl rfl (zaf ?_) (zno)
        rw [e2]
        show zV X _ _ _ 31 _ (.int (nI 1) :: _)
        refine zV.if_eq (tgt := 43) C dX10_chairAt_31 (by decide) (fun q31 => ?_) (fun q31 => ?_)
        · exact absurd q31 (by decide)
        · refine zV.aload_n C dX10_chairAt_34 rfl rfl ?_
          refine zV.iload_n C dX10_chairAt_35 rfl ?_
          refine zV.iload_n C dX10_chairAt_36 rfl ?_
          refine zV.callV (n := 2) C G dX10_chairAt_37 (s_mherd hzs hst (sI h 435 r (nI 0)) r hm i q hi (by omega)) rfl ⟨cd_X10_herd, lk_X10_147, im_X10_herd, se_X10_X10_herd, in_X10⟩ ⟨⟨by decide, by decide⟩, by decide⟩ rfl rfl rfl (hm.1) ⟨rfl, by decide⟩ (zaf ?_) (zno)
          rw [show aI (sI h 435 r (nI 0)) (r + 1) (8 + 8 * i + 3 + q) = nI id from (hf.2.1 i hi).2 q _ hid]
          refine zV.goto (tgt := 48) C dX10_chairAt_40 (by decide) ?_
          refine zV.iret C F dX10_chairAt_48 rfl ?_
          exact mq_r ((lawA_s e1).trans (ca_s hid (by have := hw.1; rw [hp.length_eq] at this; exact this) (by obtain ⟨d, hd, e, -⟩ := hw.2.2.2.1 _ hi id (List.mem_of_getElem? hid); have := (hw.2.1 d hd).1; have : (big : Nat) = 1000000000 := rfl; omega)))
      · exact absurd q9 (by decide)
    · refine zV.aload_n C dX10_chairAt_0 rfl rfl ?_
      refine zV.ic (v := nI 0) C dX10_chairAt_1 (by decide) ?_
      refine zV.pI 435 (k := 19) C dX10_chairAt_2 zcl_X10 (by decide) rfl lk_X10_39 rfl hm.1 rfl ⟨rfl, rfl⟩ ?_
      refine zV.iload_n C dX10_chairAt_5 rfl ?_
      refine zV.callS (n := 1) C G dX10_chairAt_6 (s_misLawn hzs hst (sI h 435 r (nI 0)) (nI i)) rfl ⟨cd_X10_isLawn, lk_X10_85, st_X10_isLawn, in_X10⟩ ⟨⟨by decide, by decide⟩, by decide⟩ rfl rfl rfl (zaf ?_) (zno)
      rw [e1]
      show zV X _ _ (sI h 435 r (nI 0)) 9 _ (.int (nI 1) :: _)
      refine zV.if_ne (tgt := 18) C dX10_chairAt_9 (by decide) (fun q9 => ?_) (fun q9 => ?_)
      · refine zV.iload_n C dX10_chairAt_18 rfl ?_
        refine zV.ic (v := nI 0) C dX10_chairAt_19 (by decide) ?_
        refine zV.aload_n C dX10_chairAt_20 rfl rfl ?_
        refine zV.iload_n C dX10_chairAt_21 rfl ?_
        refine zV.ic (v := nI 2) C dX10_chairAt_22 (by decide) ?_
        refine zV.callV (n := 2) C G dX10_chairAt_23 (s_mlawn hzs hst (sI h 435 r (nI 0)) r hm i 2 hi (by decide)) rfl ⟨cd_X10_lawn, lk_X10_69, im_X10_lawn, se_X10_X10_lawn, in_X10⟩ ⟨⟨by decide, by decide⟩, by decide⟩ rfl rfl rfl (hm.1) ⟨rfl, by decide⟩ (zaf ?_) (zno)
        rw [show aI (sI h 435 r (nI 0)) (r + 1) (8 + 8 * i + 2) = nI (hrd (gC g) i).length from (hf.2.1 i hi).1]
        refine zV.ic (v := nI 1) C dX10_chairAt_26 (by decide) ?_
        refine zV.isub C dX10_chairAt_27 ?_
        refine zV.callS (n := 3) C G dX10_chairAt_28 (s_min hzs hst (sI h 435 r (nI 0)) y (nI 0) (nI (hrd (gC g) i).length - nI 1)) rfl ⟨cd_X10_in, lk_X10_61, st_X10_in, in_X10⟩ ⟨⟨by decide, by decide⟩, by decide⟩ rfl rfl rfl (zaf ?_) (zno)
        rw [e2]
        show zV X _ _ _ 31 _ (.int (nI 0) :: _)
        refine zV.if_eq (tgt := 43) C dX10_chairAt_31 (by decide) (fun q31 => ?_) (fun q31 => ?_)
        · refine zV.aload_n C dX10_chairAt_43 rfl rfl ?_
          refine zV.ic (v := nI 2) C dX10_chairAt_44 (by decide) ?_
          refine zV.callV (n := 1) C G dX10_chairAt_45 (s_mraises hzs hst (sI h 435 r (nI 0)) r hm (nI 2)) rfl ⟨cd_X10_raises, lk_X10_54, im_X10_raises, se_X10_X10_raises, in_X10⟩ ⟨⟨by decide, by decide⟩, by decide⟩ rfl rfl rfl (hm.1) ⟨rfl, by decide⟩ (zaf ?_) (zno)
          refine zV.iret C F dX10_chairAt_48 rfl ?_
          exact mq_y ((lawA_s e1).trans (ca_n hn)) c12_n
        · exact absurd rfl q31
      · exact absurd q9 (by decide)
