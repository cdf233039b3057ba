/-! ChairMigration: questions -/
def lawA (x : Int32) (f : Nat → zAn) : zAn := match ln x with
  | none => .inl IOB
  | some i => f i
theorem lawA_n {x : Int32} {f : Nat → zAn} (e : ln x = none) : lawA x f = .inl IOB := by unfold lawA; rw [e]
theorem lawA_s {x : Int32} {f : Nat → zAn} {i : Nat} (e : ln x = some i) : lawA x f = f i := by unfold lawA; rw [e]
def chQ (g : zGd) (x : Int32) (f : Nat → zCh → zAn) : zAn := match kc g x with
  | none => .inl IOB
  | some (k, c) => f k c
theorem chQ_n {g : zGd} {x : Int32} {f : Nat → zCh → zAn} (e : kc g x = none) : chQ g x f = .inl IOB := by unfold chQ; rw [e]
theorem chQ_s {g : zGd} {x : Int32} {f : Nat → zCh → zAn} {k : Nat} {c : zCh} (e : kc g x = some (k, c)) : chQ g x f = f k c := by unfold chQ; rw [e]
theorem chA9_n {h : zH} {b : Nat} {g : zGd} {x : Int32} (e : kc g x = none) : chA9 h b g x = .inl IOB := by unfold chA9; rw [e]
theorem chA9_s {h : zH} {b : Nat} {g : zGd} {x : Int32} {k : Nat} {c : zCh} (e : kc g x = some (k, c)) : chA9 h b g x = .inr (.ref (cA h b k)) := by unfold chA9; rw [e]
theorem elA_k {X : zX} {kc ks : Nat} {h : zH} {pc : Nat} {lo : List (Nat × Value)} {n : Nat} {B : zAn} {x : Int32} {cc : ByteArray} {own : String} {nL : Nat} {mc ms : Nat} (C : zC X cc own nL) (F : zF X (some .int) mc ms (aQ h B) (aX h B)) (e : B = elA x) (d : decode cc pc = .ok (.ireturn, 1)) (hc : Nat.ble kc mc && Nat.ble ks ms) : ∀ (r : Option Value) (h' : zH), aQ h (elA x) r h' → n ≤ hN h' → zV X kc ks h' pc lo (r.toList ++ []) := fun r h' q _ => by
  obtain ⟨⟨w, e1, rfl⟩, rfl⟩ := q
  have e2 := e1
  unfold elA at e1
  split at e1
  · cases e1
  · cases e1
    exact zV.iret C F d hc (aQ_of (e.trans e2))
theorem elA_x {X : zX} {kc ks : Nat} {h : zH} {pc : Nat} {lo : List (Nat × Value)} {rest : List Value} {n : Nat} {B : zAn} {x : Int32} {cc : ByteArray} {own : String} {nL : Nat} {ret : Option FieldType} {mc ms : Nat} {Qr : Option Value → zH → Prop} (C : zC X cc own nL) (F : zF X ret mc ms Qr (aX h B)) (e : B = elA x) (hc : kc ≤ mc ∧ ks ≤ ms) : ∀ (Ex : String) (h' : zH), aX h (elA x) Ex h' → n ≤ hN h' → zVX X kc ks h' pc lo rest Ex := fun Ex h' q _ => by
  obtain ⟨e1, rfl⟩ := q
  exact zVX.out C F ⟨e.trans e1, rfl⟩ hc
set_option maxHeartbeats 4000000 in
set_option maxRecDepth 100000 in
theorem s_isPath {l : Launch} {E : zG} (hzs : zS E) (hst : l.stackTraces = false) (h : zH) (a : Nat) (g : zGd) (x y : Int32) (hx : zXs h a) (hg : zGa h (a + 1) g) (hw : gW g) : zMet l E yX9_isPath cX9_isPath 3 (some .boolean) ({ frames := 7, cells := 2, slots := 12, locals := 115 } : Room) 2 12 [.ref a, .int x, .int y] h (aQ h (lawA x (fun i => lawA y (fun j => .inr (.int (nI (if (gN g i).testBit j then 1 else 0))))))) (aX h (lawA x (fun i => lawA y (fun j => .inr (.int (nI (if (gN g i).testBit j then 1 else 0))))))) := by
  refine zM_start hzs hst (by decide) (Nat.le_of_ble_eq_true rfl) (fun X C G F I => ?_)
  show zV X 0 0 _ 0 [(0, _), (1, _), (2, _)] []
  rcases e1 : ln x with _ | i
  · refine zV.iload_n C dX9_isPath_0 rfl ?_
    refine zV.callS (n := 1) C G dX9_isPath_1 (s_demandLawn hzs hst h x) rfl ⟨cd_X9_demandLawn, lk_X9_70, st_X9_demandLawn, in_X9⟩ ⟨⟨by decide, by decide⟩, by decide⟩ rfl rfl rfl (dl_no e1) (dl_x C F (lawA_n e1) ⟨by decide, by decide⟩)
  · obtain ⟨hi, rfl⟩ := ln_some e1
    rcases e2 : ln y with _ | j
    · refine zV.iload_n C dX9_isPath_0 rfl ?_
      refine zV.callS (n := 1) C G dX9_isPath_1 (s_demandLawn hzs hst h (nI i)) rfl ⟨cd_X9_demandLawn, lk_X9_70, st_X9_demandLawn, in_X9⟩ ⟨⟨by decide, by decide⟩, by decide⟩ rfl rfl rfl (dl_ok ?_) (dl_nx e1)
      refine zV.iload_n C dX9_isPath_4 rfl ?_
      refine zV.callS (n := 1) C G dX9_isPath_5 (s_demandLawn hzs hst h y) rfl ⟨cd_X9_demandLawn, lk_X9_70, st_X9_demandLawn, in_X9⟩ ⟨⟨by decide, by decide⟩, by decide⟩ rfl rfl rfl (dl_no e2) (dl_x C F ((lawA_s e1).trans (lawA_n e2)) ⟨by decide, by decide⟩)
    · obtain ⟨hj, rfl⟩ := ln_some e2
      refine zV.iload_n C dX9_isPath_0 rfl ?_
      refine zV.callS (n := 1) C G dX9_isPath_1 (s_demandLawn hzs hst h (nI i)) rfl ⟨cd_X9_demandLawn, lk_X9_70, st_X9_demandLawn, in_X9⟩ ⟨⟨by decide, by decide⟩, by decide⟩ rfl rfl rfl (dl_ok ?_) (dl_nx e1)
      refine zV.iload_n C dX9_isPath_4 rfl ?_
      refine zV.callS (n := 1) C G dX9_isPath_5 (s_demandLawn hzs hst h (nI j)) rfl ⟨cd_X9_demandLawn, lk_X9_70, st_X9_demandLawn, in_X9⟩ ⟨⟨by decide, by decide⟩, by decide⟩ rfl rfl rfl (dl_ok ?_) (dl_nx e2)
      refine zV.aload_n C dX9_isPath_8 rfl rfl ?_
      refine zV.gR 384 (k := 0) C dX9_isPath_9 zcl_X9 (by decide) rfl lk_X9_10 (hx.1) rfl (hx.2.1) ?_
      refine zV.gNR 192 (k := 0) C dX9_isPath_12 zcl_X3 (by decide) rfl lk_X9_74 (hg.1.1) rfl (hg.1.2.1) ?_
      refine zV.iload_n C dX9_isPath_15 rfl ?_
      refine zV.iload_n C dX9_isPath_16 rfl ?_
      refine zV.callV (n := 2) C G dX9_isPath_17 (s_Paths_areNeighbours hzs hst h (a + 1 + 1) i j (gN g) hi hj (zGa_pa hg)) rfl ⟨cd_X8_areNeighbours, lk_X9_78, im_X8_areNeighbours, se_X8_X8_areNeighbours, in_X8⟩ ⟨⟨by decide, by decide⟩, by decide⟩ rfl rfl rfl (hg.1.2.2.2.2.2.1.1) ⟨rfl, by decide⟩ (zaf ?_) (zno)
      refine zV.zret C F dX9_isPath_20 b01z rfl ?_
      exact aQ_of ((lawA_s e1).trans (lawA_s e2))
set_option maxHeartbeats 4000000 in
set_option maxRecDepth 100000 in
theorem s_distance {l : Launch} {E : zG} (hzs : zS E) (hst : l.stackTraces = false) (h : zH) (a : Nat) (g : zGd) (x y : Int32) (hx : zXs h a) (hg : zGa h (a + 1) g) (hw : gW g) : zMet l E yX9_distance cX9_distance 3 (some .int) ({ frames := 7, cells := 3, slots := 18, locals := 115 } : Room) 3 18 [.ref a, .int x, .int y] h (aQ h (lawA x (fun i => lawA y (fun j => elA (oI (far (gN g) i j)))))) (aX h (lawA x (fun i => lawA y (fun j => elA (oI (far (gN g) i j)))))) := by
  refine zM_start hzs hst (by decide) (Nat.le_of_ble_eq_true rfl) (fun X C G F I => ?_)
  show zV X 0 0 _ 0 [(0, _), (1, _), (2, _)] []
  rcases e1 : ln x with _ | i
  · refine zV.iload_n C dX9_distance_0 rfl ?_
    refine zV.callS (n := 1) C G dX9_distance_1 (s_demandLawn hzs hst h x) rfl ⟨cd_X9_demandLawn, lk_X9_70, st_X9_demandLawn, in_X9⟩ ⟨⟨by decide, by decide⟩, by decide⟩ rfl rfl rfl (dl_no e1) (dl_x C F (lawA_n e1) ⟨by decide, by decide⟩)
  · obtain ⟨hi, rfl⟩ := ln_some e1
    rcases e2 : ln y with _ | j
    · refine zV.iload_n C dX9_distance_0 rfl ?_
      refine zV.callS (n := 1) C G dX9_distance_1 (s_demandLawn hzs hst h (nI i)) rfl ⟨cd_X9_demandLawn, lk_X9_70, st_X9_demandLawn, in_X9⟩ ⟨⟨by decide, by decide⟩, by decide⟩ rfl rfl rfl (dl_ok ?_) (dl_nx e1)
      refine zV.iload_n C dX9_distance_4 rfl ?_
      refine zV.callS (n := 1) C G dX9_distance_5 (s_demandLawn hzs hst h y) rfl ⟨cd_X9_demandLawn, lk_X9_70, st_X9_demandLawn, in_X9⟩ ⟨⟨by decide, by decide⟩, by decide⟩ rfl rfl rfl (dl_no e2) (dl_x C F ((lawA_s e1).trans (lawA_n e2)) ⟨by decide, by decide⟩)
    · obtain ⟨hj, rfl⟩ := ln_some e2
      refine zV.iload_n C dX9_distance_0 rfl ?_
      refine zV.callS (n := 1) C G dX9_distance_1 (s_demandLawn hzs hst h (nI i)) rfl ⟨cd_X9_demandLawn, lk_X9_70, st_X9_demandLawn, in_X9⟩ ⟨⟨by decide, by decide⟩, by decide⟩ rfl rfl rfl (dl_ok ?_) (dl_nx e1)
      refine zV.iload_n C dX9_distance_4 rfl ?_
      refine zV.callS (n := 1) C G dX9_distance_5 (s_demandLawn hzs hst h (nI j)) rfl ⟨cd_X9_demandLawn, lk_X9_70, st_X9_demandLawn, in_X9⟩ ⟨⟨by decide, by decide⟩, by decide⟩ rfl rfl rfl (dl_ok ?_) (dl_nx e2)
      refine zV.aload_n C dX9_distance_8 rfl rfl ?_
      refine zV.gR 384 (k := 0) C dX9_distance_9 zcl_X9 (by decide) rfl lk_X9_10 (hx.1) rfl (hx.2.1) ?_
      refine zV.gNR 192 (k := 0) C dX9_distance_12 zcl_X3 (by decide) rfl lk_X9_74 (hg.1.1) rfl (hg.1.2.1) ?_
      refine zV.iload_n C dX9_distance_15 rfl ?_
      refine zV.iload_n C dX9_distance_16 rfl ?_
      refine zV.callV (n := 2) C G dX9_distance_17 (s_Paths_stepsBetween hzs hst h (a + 1 + 1) i j (gN g) hi hj (zGa_pa hg)) rfl ⟨cd_X8_stepsBetween, lk_X9_84, im_X8_stepsBetween, se_X8_X8_stepsBetween, in_X8⟩ ⟨⟨by decide, by decide⟩, by decide⟩ rfl rfl rfl (hg.1.2.2.2.2.2.1.1) ⟨rfl, by decide⟩ (zaf ?_) (zno)
      refine zV.callS (n := 1) C G dX9_distance_20 (s_demandElement hzs hst h (oI (far (gN g) i j))) rfl ⟨cd_X9_demandElement, lk_X9_88, st_X9_demandElement, in_X9⟩ ⟨⟨by decide, by decide⟩, by decide⟩ rfl rfl rfl (elA_k C F ((lawA_s e1).trans (lawA_s e2)) dX9_distance_23 rfl) (elA_x C F ((lawA_s e1).trans (lawA_s e2)) ⟨by decide, by decide⟩)
set_option maxHeartbeats 4000000 in
set_option maxRecDepth 100000 in
theorem s_reachableLawns {l : Launch} {E : zG} (hzs : zS E) (hst : l.stackTraces = false) (h : zH) (a : Nat) (g : zGd) (x : Int32) (hx : zXs h a) (hg : zGa h (a + 1) g) (hw : gW g) : zMet l E yX9_reachableLawns cX9_reachableLawns 2 (some .int) ({ frames := 7, cells := 1, slots := 6, locals := 115 } : Room) 1 6 [.ref a, .int x] h (aQ h (lawA x (fun i => .inr (.int (nI (popc (wnI (gN g) (2 ^ i) 5))))))) (aX h (lawA x (fun i => .inr (.int (nI (popc (wnI (gN g) (2 ^ i) 5))))))) := by
  refine zM_start hzs hst (by decide) (Nat.le_of_ble_eq_true rfl) (fun X C G F I => ?_)
  show zV X 0 0 _ 0 [(0, _), (1, _)] []
  rcases e1 : ln x with _ | i
  · refine zV.iload_n C dX9_reachableLawns_0 rfl ?_
    refine zV.callS (n := 1) C G dX9_reachableLawns_1 (s_demandLawn hzs hst h x) rfl ⟨cd_X9_demandLawn, lk_X9_70, st_X9_demandLawn, in_X9⟩ ⟨⟨by decide, by decide⟩, by decide⟩ rfl rfl rfl (dl_no e1) (dl_x C F (lawA_n e1) ⟨by decide, by decide⟩)
  · obtain ⟨hi, rfl⟩ := ln_some e1
    refine zV.iload_n C dX9_reachableLawns_0 rfl ?_
    refine zV.callS (n := 1) C G dX9_reachableLawns_1 (s_demandLawn hzs hst h (nI i)) rfl ⟨cd_X9_demandLawn, lk_X9_70, st_X9_demandLawn, in_X9⟩ ⟨⟨by decide, by decide⟩, by decide⟩ rfl rfl rfl (dl_ok ?_) (dl_nx e1)
    refine zV.aload_n C dX9_reachableLawns_4 rfl rfl ?_
    refine zV.gR 384 (k := 0) C dX9_reachableLawns_5 zcl_X9 (by decide) rfl lk_X9_10 (hx.1) rfl (hx.2.1) ?_
    refine zV.gNR 192 (k := 0) C dX9_reachableLawns_8 zcl_X3 (by decide) rfl lk_X9_74 (hg.1.1) rfl (hg.1.2.1) ?_
    refine zV.iload_n C dX9_reachableLawns_11 rfl ?_
    refine zV.callV (n := 1) C G dX9_reachableLawns_12 (s_Paths_countReached hzs hst h (a + 1 + 1) i (gN g) hi (zGa_pa hg)) rfl ⟨cd_X8_countReached, lk_X9_109, im_X8_countReached, se_X8_X8_countReached, in_X8⟩ ⟨⟨by decide, by decide⟩, by decide⟩ rfl rfl rfl (hg.1.2.2.2.2.2.1.1) ⟨rfl, by decide⟩ (zaf ?_) (zno)
    refine zV.iret C F dX9_reachableLawns_15 rfl ?_
    exact aQ_of (lawA_s e1)
set_option maxHeartbeats 4000000 in
set_option maxRecDepth 100000 in
theorem s_shadeOf {l : Launch} {E : zG} (hzs : zS E) (hst : l.stackTraces = false) (h : zH) (a : Nat) (g : zGd) (x : Int32) (hx : zXs h a) (hg : zGa h (a + 1) g) (hw : gW g) : zMet l E yX9_shadeOf cX9_shadeOf 2 (some .int) ({ frames := 7, cells := 1, slots := 6, locals := 115 } : Room) 1 6 [.ref a, .int x] h (aQ h (lawA x (fun i => .inr (.int (nI (gS g i)))))) (aX h (lawA x (fun i => .inr (.int (nI (gS g i)))))) := by
  refine zM_start hzs hst (by decide) (Nat.le_of_ble_eq_true rfl) (fun X C G F I => ?_)
  show zV X 0 0 _ 0 [(0, _), (1, _)] []
  rcases e1 : ln x with _ | i
  · refine zV.iload_n C dX9_shadeOf_0 rfl ?_
    refine zV.callS (n := 1) C G dX9_shadeOf_1 (s_demandLawn hzs hst h x) rfl ⟨cd_X9_demandLawn, lk_X9_70, st_X9_demandLawn, in_X9⟩ ⟨⟨by decide, by decide⟩, by decide⟩ rfl rfl rfl (dl_no e1) (dl_x C F (lawA_n e1) ⟨by decide, by decide⟩)
  · obtain ⟨hi, rfl⟩ := ln_some e1
    refine zV.iload_n C dX9_shadeOf_0 rfl ?_
    refine zV.callS (n := 1) C G dX9_shadeOf_1 (s_demandLawn hzs hst h (nI i)) rfl ⟨cd_X9_demandLawn, lk_X9_70, st_X9_demandLawn, in_X9⟩ ⟨⟨by decide, by decide⟩, by decide⟩ rfl rfl rfl (dl_ok ?_) (dl_nx e1)
    refine zV.aload_n C dX9_shadeOf_4 rfl rfl ?_
    refine zV.gR 384 (k := 0) C dX9_shadeOf_5 zcl_X9 (by decide) rfl lk_X9_10 (hx.1) rfl (hx.2.1) ?_
    refine zV.gNR 193 (k := 1) C dX9_shadeOf_8 zcl_X3 (by decide) rfl lk_X9_115 (hg.1.1) rfl (hg.1.2.2.1) ?_
    refine zV.iload_n C dX9_shadeOf_11 rfl ?_
    refine zV.callV (n := 1) C G dX9_shadeOf_12 (s_LawnRow_at hzs hst h (a + 1 + 4) i hi hg.1.2.2.2.2.2.2.1) rfl ⟨cd_X7_at, lk_X9_119, im_X7_at, se_X7_X7_at, in_X7⟩ ⟨⟨by decide, by decide⟩, by decide⟩ rfl rfl rfl (hg.1.2.2.2.2.2.2.1.1) ⟨rfl, by decide⟩ (zaf ?_) (zno)
    rw [zGa_s hg i hi]
    refine zV.iret C F dX9_shadeOf_15 rfl ?_
    exact aQ_of (lawA_s e1)
set_option maxHeartbeats 4000000 in
set_option maxRecDepth 100000 in
theorem s_herdSize {l : Launch} {E : zG} (hzs : zS E) (hst : l.stackTraces = false) (h : zH) (a : Nat) (g : zGd) (x : Int32) (hx : zXs h a) (hg : zGa h (a + 1) g) (hw : gW g) : zMet l E yX9_herdSize cX9_herdSize 2 (some .int) ({ frames := 7, cells := 1, slots := 6, locals := 115 } : Room) 1 6 [.ref a, .int x] h (aQ h (lawA x (fun i => .inr (.int (nI (hsz (gC g) i)))))) (aX h (lawA x (fun i => .inr (.int (nI (hsz (gC g) i)))))) := by
  refine zM_start hzs hst (by decide) (Nat.le_of_ble_eq_true rfl) (fun X C G F I => ?_)
  show zV X 0 0 _ 0 [(0, _), (1, _)] []
  rcases e1 : ln x with _ | i
  · refine zV.iload_n C dX9_herdSize_0 rfl ?_
    refine zV.callS (n := 1) C G dX9_herdSize_1 (s_demandLawn hzs hst h x) rfl ⟨cd_X9_demandLawn, lk_X9_70, st_X9_demandLawn, in_X9⟩ ⟨⟨by decide, by decide⟩, by decide⟩ rfl rfl rfl (dl_no e1) (dl_x C F (lawA_n e1) ⟨by decide, by decide⟩)
  · obtain ⟨hi, rfl⟩ := ln_some e1
    refine zV.iload_n C dX9_herdSize_0 rfl ?_
    refine zV.callS (n := 1) C G dX9_herdSize_1 (s_demandLawn hzs hst h (nI i)) rfl ⟨cd_X9_demandLawn, lk_X9_70, st_X9_demandLawn, in_X9⟩ ⟨⟨by decide, by decide⟩, by decide⟩ rfl rfl rfl (dl_ok ?_) (dl_nx e1)
    refine zV.aload_n C dX9_herdSize_4 rfl rfl ?_
    refine zV.gR 384 (k := 0) C dX9_herdSize_5 zcl_X9 (by decide) rfl lk_X9_10 (hx.1) rfl (hx.2.1) ?_
    refine zV.gNR 194 (k := 2) C dX9_herdSize_8 zcl_X3 (by decide) rfl lk_X9_153 (hg.1.1) rfl (hg.1.2.2.2.1) ?_
    refine zV.iload_n C dX9_herdSize_11 rfl ?_
    refine zV.callV (n := 1) C G dX9_herdSize_12 (s_LawnRow_at hzs hst h (a + 1 + 6) i hi hg.1.2.2.2.2.2.2.2.1) rfl ⟨cd_X7_at, lk_X9_119, im_X7_at, se_X7_X7_at, in_X7⟩ ⟨⟨by decide, by decide⟩, by decide⟩ rfl rfl rfl (hg.1.2.2.2.2.2.2.2.1.1) ⟨rfl, by decide⟩ (zaf ?_) (zno)
    rw [zGa_h hg i hi]
    refine zV.iret C F dX9_herdSize_15 rfl ?_
    exact aQ_of (lawA_s e1)
set_option maxHeartbeats 4000000 in
set_option maxRecDepth 100000 in
theorem s_herdSizeByChairs {l : Launch} {E : zG} (hzs : zS E) (hst : l.stackTraces = false) (h : zH) (a : Nat) (g : zGd) (x : Int32) (hx : zXs h a) (hg : zGa h (a + 1) g) (hw : gW g) : zMet l E yX9_herdSizeByChairs cX9_herdSizeByChairs 2 (some .int) ({ frames := 7, cells := 1, slots := 6, locals := 115 } : Room) 1 6 [.ref a, .int x] h (aQ h (lawA x (fun i => .inr (.int (nI (hsz (gC g) i)))))) (aX h (lawA x (fun i => .inr (.int (nI (hsz (gC g) i)))))) := by
  refine zM_start hzs hst (by decide) (Nat.le_of_ble_eq_true rfl) (fun X C G F I => ?_)
  show zV X 0 0 _ 0 [(0, _), (1, _)] []
  rcases e1 : ln x with _ | i
  · refine zV.iload_n C dX9_herdSizeByChairs_0 rfl ?_
    refine zV.callS (n := 1) C G dX9_herdSizeByChairs_1 (s_demandLawn hzs hst h x) rfl ⟨cd_X9_demandLawn, lk_X9_70, st_X9_demandLawn, in_X9⟩ ⟨⟨by decide, by decide⟩, by decide⟩ rfl rfl rfl (dl_no e1) (dl_x C F (lawA_n e1) ⟨by decide, by decide⟩)
  · obtain ⟨hi, rfl⟩ := ln_some e1
    refine zV.iload_n C dX9_herdSizeByChairs_0 rfl ?_
    refine zV.callS (n := 1) C G dX9_herdSizeByChairs_1 (s_demandLawn hzs hst h (nI i)) rfl ⟨cd_X9_demandLawn, lk_X9_70, st_X9_demandLawn, in_X9⟩ ⟨⟨by decide, by decide⟩, by decide⟩ rfl rfl rfl (dl_ok ?_) (dl_nx e1)
    refine zV.aload_n C dX9_herdSizeByChairs_4 rfl rfl ?_
    refine zV.gR 384 (k := 0) C dX9_herdSizeByChairs_5 zcl_X9 (by decide) rfl lk_X9_10 (hx.1) rfl (hx.2.1) ?_
    refine zV.iload_n C dX9_herdSizeByChairs_8 rfl ?_
    refine zV.callV (n := 1) C G dX9_herdSizeByChairs_9 (s_countChairsOn hzs hst h (a + 1) g i hi hg hw) rfl ⟨cd_X3_countChairsOn, lk_X9_156, im_X3_countChairsOn, se_X3_X3_countChairsOn, in_X3⟩ ⟨⟨by decide, by decide⟩, by decide⟩ rfl rfl rfl (hg.1.1) ⟨rfl, by decide⟩ (zaf ?_) (zno)
    refine zV.iret C F dX9_herdSizeByChairs_12 rfl ?_
    exact aQ_of (lawA_s e1)
set_option maxHeartbeats 4000000 in
set_option maxRecDepth 100000 in
theorem s_chairAt {l : Launch} {E : zG} (hzs : zS E) (hst : l.stackTraces = false) (h : zH) (a : Nat) (g : zGd) (x y : Int32) (hx : zXs h a) (hg : zGa h (a + 1) g) (hw : gW g) : zMet l E yX9_chairAt cX9_chairAt 3 (some .int) ({ frames := 7, cells := 2, slots := 12, locals := 115 } : Room) 2 12 [.ref a, .int x, .int y] h (aQ h (lawA x (fun i => elA (idO (gC g) (fdH i y (gC g) 0 0))))) (aX h (lawA x (fun i => elA (idO (gC g) (fdH i y (gC g) 0 0))))) := by
  refine zM_start hzs hst (by decide) (Nat.le_of_ble_eq_true rfl) (fun X C G F I => ?_)
  show zV X 0 0 _ 0 [(0, _), (1, _), (2, _)] []
  rcases e1 : ln x with _ | i
  · refine zV.iload_n C dX9_chairAt_0 rfl ?_
    refine zV.callS (n := 1) C G dX9_chairAt_1 (s_demandLawn hzs hst h x) rfl ⟨cd_X9_demandLawn, lk_X9_70, st_X9_demandLawn, in_X9⟩ ⟨⟨by decide, by decide⟩, by decide⟩ rfl rfl rfl (dl_no e1) (dl_x C F (lawA_n e1) ⟨by decide, by decide⟩)
  · obtain ⟨hi, rfl⟩ := ln_some e1
    refine zV.iload_n C dX9_chairAt_0 rfl ?_
    refine zV.callS (n := 1) C G dX9_chairAt_1 (s_demandLawn hzs hst h (nI i)) rfl ⟨cd_X9_demandLawn, lk_X9_70, st_X9_demandLawn, in_X9⟩ ⟨⟨by decide, by decide⟩, by decide⟩ rfl rfl rfl (dl_ok ?_) (dl_nx e1)
    refine zV.aload_n C dX9_chairAt_4 rfl rfl ?_
    refine zV.gR 384 (k := 0) C dX9_chairAt_5 zcl_X9 (by decide) rfl lk_X9_10 (hx.1) rfl (hx.2.1) ?_
    refine zV.iload_n C dX9_chairAt_8 rfl ?_
    refine zV.iload_n C dX9_chairAt_9 rfl ?_
    refine zV.callV (n := 2) C G dX9_chairAt_10 (s_idInHerd hzs hst h (a + 1) g i y hi hg hw) rfl ⟨cd_X3_idInHerd, lk_X9_159, im_X3_idInHerd, se_X3_X3_idInHerd, in_X3⟩ ⟨⟨by decide, by decide⟩, by decide⟩ rfl rfl rfl (hg.1.1) ⟨rfl, by decide⟩ (zaf ?_) (zno)
    refine zV.callS (n := 1) C G dX9_chairAt_13 (s_demandElement hzs hst h (idO (gC g) (fdH i y (gC g) 0 0))) rfl ⟨cd_X9_demandElement, lk_X9_88, st_X9_demandElement, in_X9⟩ ⟨⟨by decide, by decide⟩, by decide⟩ rfl rfl rfl (elA_k C F (lawA_s e1) dX9_chairAt_16 rfl) (elA_x C F (lawA_s e1) ⟨by decide, by decide⟩)
set_option maxHeartbeats 4000000 in
set_option maxRecDepth 100000 in
theorem s_elderOf {l : Launch} {E : zG} (hzs : zS E) (hst : l.stackTraces = false) (h : zH) (a : Nat) (g : zGd) (x : Int32) (hx : zXs h a) (hg : zGa h (a + 1) g) (hw : gW g) : zMet l E yX9_elderOf cX9_elderOf 2 (some .int) ({ frames := 7, cells := 2, slots := 12, locals := 115 } : Room) 2 12 [.ref a, .int x] h (aQ h (lawA x (fun i => elA (eldI (eldF i (gC g) 0 none))))) (aX h (lawA x (fun i => elA (eldI (eldF i (gC g) 0 none))))) := by
  refine zM_start hzs hst (by decide) (Nat.le_of_ble_eq_true rfl) (fun X C G F I => ?_)
  show zV X 0 0 _ 0 [(0, _), (1, _)] []
  rcases e1 : ln x with _ | i
  · refine zV.iload_n C dX9_elderOf_0 rfl ?_
    refine zV.callS (n := 1) C G dX9_elderOf_1 (s_demandLawn hzs hst h x) rfl ⟨cd_X9_demandLawn, lk_X9_70, st_X9_demandLawn, in_X9⟩ ⟨⟨by decide, by decide⟩, by decide⟩ rfl rfl rfl (dl_no e1) (dl_x C F (lawA_n e1) ⟨by decide, by decide⟩)
  · obtain ⟨hi, rfl⟩ := ln_some e1
    refine zV.iload_n C dX9_elderOf_0 rfl ?_
    refine zV.callS (n := 1) C G dX9_elderOf_1 (s_demandLawn hzs hst h (nI i)) rfl ⟨cd_X9_demandLawn, lk_X9_70, st_X9_demandLawn, in_X9⟩ ⟨⟨by decide, by decide⟩, by decide⟩ rfl rfl rfl (dl_ok ?_) (dl_nx e1)
    refine zV.aload_n C dX9_elderOf_4 rfl rfl ?_
    refine zV.gR 384 (k := 0) C dX9_elderOf_5 zcl_X9 (by decide) rfl lk_X9_10 (hx.1) rfl (hx.2.1) ?_
    refine zV.iload_n C dX9_elderOf_8 rfl ?_
    refine zV.callV (n := 1) C G dX9_elderOf_9 (s_idOfElder hzs hst h (a + 1) g i hi hg hw) rfl ⟨cd_X3_idOfElder, lk_X9_162, im_X3_idOfElder, se_X3_X3_idOfElder, in_X3⟩ ⟨⟨by decide, by decide⟩, by decide⟩ rfl rfl rfl (hg.1.1) ⟨rfl, by decide⟩ (zaf ?_) (zno)
    refine zV.callS (n := 1) C G dX9_elderOf_12 (s_demandElement hzs hst h (eldI (eldF i (gC g) 0 none))) rfl ⟨cd_X9_demandElement, lk_X9_88, st_X9_demandElement, in_X9⟩ ⟨⟨by decide, by decide⟩, by decide⟩ rfl rfl rfl (elA_k C F (lawA_s e1) dX9_elderOf_15 rfl) (elA_x C F (lawA_s e1) ⟨by decide, by decide⟩)
set_option maxHeartbeats 4000000 in
set_option maxRecDepth 100000 in
theorem s_bestNeighbour {l : Launch} {E : zG} (hzs : zS E) (hst : l.stackTraces = false) (h : zH) (a : Nat) (g : zGd) (x : Int32) (hx : zXs h a) (hg : zGa h (a + 1) g) (hw : gW g) : zMet l E yX9_bestNeighbour cX9_bestNeighbour 2 (some .int) ({ frames := 7, cells := 2, slots := 12, locals := 115 } : Room) 2 12 [.ref a, .int x] h (aQ h (lawA x (fun i => elA (oI (bnF g i 6 0 none))))) (aX h (lawA x (fun i => elA (oI (bnF g i 6 0 none))))) := by
  refine zM_start hzs hst (by decide) (Nat.le_of_ble_eq_true rfl) (fun X C G F I => ?_)
  show zV X 0 0 _ 0 [(0, _), (1, _)] []
  rcases e1 : ln x with _ | i
  · refine zV.iload_n C dX9_bestNeighbour_0 rfl ?_
    refine zV.callS (n := 1) C G dX9_bestNeighbour_1 (s_demandLawn hzs hst h x) rfl ⟨cd_X9_demandLawn, lk_X9_70, st_X9_demandLawn, in_X9⟩ ⟨⟨by decide, by decide⟩, by decide⟩ rfl rfl rfl (dl_no e1) (dl_x C F (lawA_n e1) ⟨by decide, by decide⟩)
  · obtain ⟨hi, rfl⟩ := ln_some e1
    refine zV.iload_n C dX9_bestNeighbour_0 rfl ?_
    refine zV.callS (n := 1) C G dX9_bestNeighbour_1 (s_demandLawn hzs hst h (nI i)) rfl ⟨cd_X9_demandLawn, lk_X9_70, st_X9_demandLawn, in_X9⟩ ⟨⟨by decide, by decide⟩, by decide⟩ rfl rfl rfl (dl_ok ?_) (dl_nx e1)
    refine zV.aload_n C dX9_bestNeighbour_4 rfl rfl ?_
    refine zV.gR 384 (k := 0) C dX9_bestNeighbour_5 zcl_X9 (by decide) rfl lk_X9_10 (hx.1) rfl (hx.2.1) ?_
    refine zV.iload_n C dX9_bestNeighbour_8 rfl ?_
    refine zV.callV (n := 1) C G dX9_bestNeighbour_9 (s_shadiestNeighbour hzs hst h (a + 1) g i hi hg hw) rfl ⟨cd_X3_shadiestNeighbour, lk_X9_173, im_X3_shadiestNeighbour, se_X3_X3_shadiestNeighbour, in_X3⟩ ⟨⟨by decide, by decide⟩, by decide⟩ rfl rfl rfl (hg.1.1) ⟨rfl, by decide⟩ (zaf ?_) (zno)
    refine zV.callS (n := 1) C G dX9_bestNeighbour_12 (s_demandElement hzs hst h (oI (bnF g i 6 0 none))) rfl ⟨cd_X9_demandElement, lk_X9_88, st_X9_demandElement, in_X9⟩ ⟨⟨by decide, by decide⟩, by decide⟩ rfl rfl rfl (elA_k C F (lawA_s e1) dX9_bestNeighbour_15 rfl) (elA_x C F (lawA_s e1) ⟨by decide, by decide⟩)
theorem max0 : ∀ {p s : Nat}, p ≤ 12 → s ≤ 20 → (if nI 0 < nI p - nI s then nI p - nI s else nI 0) = nI (p - s) := by
  have : ∀ p, p < 13 → ∀ s, s < 21 → (if nI 0 < nI p - nI s then nI p - nI s else nI 0) = nI (p - s) := by decide +kernel
  intro p s h1 h2
  exact this p (by omega) s (by omega)
set_option maxHeartbeats 4000000 in
set_option maxRecDepth 100000 in
theorem s_hungryChairs {l : Launch} {E : zG} (hzs : zS E) (hst : l.stackTraces = false) (h : zH) (a : Nat) (g : zGd) (x : Int32) (hx : zXs h a) (hg : zGa h (a + 1) g) (hw : gW g) : zMet l E yX9_hungryChairs cX9_hungryChairs 2 (some .int) ({ frames := 7, cells := 1, slots := 6, locals := 115 } : Room) 1 6 [.ref a, .int x] h (aQ h (lawA x (fun i => .inr (.int (nI ((gC g).countP (chGr i) - gS g i)))))) (aX h (lawA x (fun i => .inr (.int (nI ((gC g).countP (chGr i) - gS g i)))))) := by
  refine zM_start hzs hst (by decide) (Nat.le_of_ble_eq_true rfl) (fun X C G F I => ?_)
  show zV X 0 0 _ 0 [(0, _), (1, _)] []
  rcases e1 : ln x with _ | i
  · refine zV.iload_n C dX9_hungryChairs_0 rfl ?_
    refine zV.callS (n := 1) C G dX9_hungryChairs_1 (s_demandLawn hzs hst h x) rfl ⟨cd_X9_demandLawn, lk_X9_70, st_X9_demandLawn, in_X9⟩ ⟨⟨by decide, by decide⟩, by decide⟩ rfl rfl rfl (dl_no e1) (dl_x C F (lawA_n e1) ⟨by decide, by decide⟩)
  · obtain ⟨hi, rfl⟩ := ln_some e1
    refine zV.iload_n C dX9_hungryChairs_0 rfl ?_
    refine zV.callS (n := 1) C G dX9_hungryChairs_1 (s_demandLawn hzs hst h (nI i)) rfl ⟨cd_X9_demandLawn, lk_X9_70, st_X9_demandLawn, in_X9⟩ ⟨⟨by decide, by decide⟩, by decide⟩ rfl rfl rfl (dl_ok ?_) (dl_nx e1)
    refine zV.ic (v := nI 0) C dX9_hungryChairs_4 (by decide) ?_
    refine zV.aload_n C dX9_hungryChairs_5 rfl rfl ?_
    refine zV.gR 384 (k := 0) C dX9_hungryChairs_6 zcl_X9 (by decide) rfl lk_X9_10 (hx.1) rfl (hx.2.1) ?_
    refine zV.iload_n C dX9_hungryChairs_9 rfl ?_
    refine zV.callV (n := 1) C G dX9_hungryChairs_10 (s_countGrazingOn hzs hst h (a + 1) g i hi hg hw) rfl ⟨cd_X3_countGrazingOn, lk_X9_165, im_X3_countGrazingOn, se_X3_X3_countGrazingOn, in_X3⟩ ⟨⟨by decide, by decide⟩, by decide⟩ rfl rfl rfl (hg.1.1) ⟨rfl, by decide⟩ (zaf ?_) (zno)
    refine zV.aload_n C dX9_hungryChairs_13 rfl rfl ?_
    refine zV.gR 384 (k := 0) C dX9_hungryChairs_14 zcl_X9 (by decide) rfl lk_X9_10 (hx.1) rfl (hx.2.1) ?_
    refine zV.gNR 193 (k := 1) C dX9_hungryChairs_17 zcl_X3 (by decide) rfl lk_X9_115 (hg.1.1) rfl (hg.1.2.2.1) ?_
    refine zV.iload_n C dX9_hungryChairs_20 rfl ?_
    refine zV.callV (n := 1) C G dX9_hungryChairs_21 (s_LawnRow_at hzs hst h (a + 1 + 4) i hi hg.1.2.2.2.2.2.2.1) rfl ⟨cd_X7_at, lk_X9_119, im_X7_at, se_X7_X7_at, in_X7⟩ ⟨⟨by decide, by decide⟩, by decide⟩ rfl rfl rfl (hg.1.2.2.2.2.2.2.1.1) ⟨rfl, by decide⟩ (zaf ?_) (zno)
    rw [zGa_s hg i hi]
    refine zV.isub C dX9_hungryChairs_24 ?_
    refine zV.mmax C G dX9_hungryChairs_25 ⟨lk_X9_168, st_J9_max_7cf53, in_J9, cd_J9_max_7cf53⟩ rfl ?_
    refine zV.iret C F dX9_hungryChairs_28 rfl ?_
    rw [max0 (by have h1 := gW_len hw; have h2 : (gC g).countP (chGr i) ≤ (gC g).length := List.countP_le_length; omega) (hw.2.2.2.1 i hi)]
    exact aQ_of (lawA_s e1)
set_option maxHeartbeats 4000000 in
set_option maxRecDepth 100000 in
theorem s_lawnOf {l : Launch} {E : zG} (hzs : zS E) (hst : l.stackTraces = false) (h : zH) (a : Nat) (g : zGd) (x : Int32) (hx : zXs h a) (hg : zGa h (a + 1) g) (hw : gW g) : zMet l E yX9_lawnOf cX9_lawnOf 2 (some .int) ({ frames := 7, cells := 1, slots := 6, locals := 117 } : Room) 1 6 [.ref a, .int x] h (aQ h (chQ g x (fun _ c => .inr (.int (nI (chL c)))))) (aX h (chQ g x (fun _ c => .inr (.int (nI (chL c)))))) := by
  refine zM_start hzs hst (by decide) (Nat.le_of_ble_eq_true rfl) (fun X C G F I => ?_)
  show zV X 0 0 _ 0 [(0, _), (1, _)] []
  rcases e1 : kc g x with _ | ⟨k, c⟩
  · refine zV.aload_n C dX9_lawnOf_0 rfl rfl ?_
    refine zV.iload_n C dX9_lawnOf_1 rfl ?_
    refine zV.callV (n := 1) C G dX9_lawnOf_2 (s_demandChair hzs hst h a g x hx hg hw) rfl ⟨cd_X9_demandChair, lk_X9_128, im_X9_demandChair, se_X9_X9_demandChair, in_X9⟩ ⟨⟨by decide, by decide⟩, by decide⟩ rfl rfl rfl hx.1 ⟨rfl, by decide⟩ (zdeA (chA9_n e1)) (zxA C F (chA9_n e1) (chQ_n e1) ⟨by decide, by decide⟩)
  · obtain ⟨hix, hc, hid, hkl⟩ := kc_some e1
    have hl := gW_len hw
    have h12 : k < 12 := by omega
    obtain ⟨c1, c2, c3, c4, c5⟩ := zGa_c hg hc
    obtain ⟨u1, u2, u3, u4⟩ := gW_cb hw hc
    refine zV.aload_n C dX9_lawnOf_0 rfl rfl ?_
    refine zV.iload_n C dX9_lawnOf_1 rfl ?_
    refine zV.callV (n := 1) C G dX9_lawnOf_2 (s_demandChair hzs hst h a g x hx hg hw) rfl ⟨cd_X9_demandChair, lk_X9_128, im_X9_demandChair, se_X9_X9_demandChair, in_X9⟩ ⟨⟨by decide, by decide⟩, by decide⟩ rfl rfl rfl hx.1 ⟨rfl, by decide⟩ (zafA (chA9_s e1) ?_) (znoA (chA9_s e1))
    refine zV.gNIv 129 (k := 1) C dX9_lawnOf_5 zcl_X0 (by decide) rfl lk_X9_131 (zGa_k hg h12) rfl (c2) ?_
    refine zV.iret C F dX9_lawnOf_8 rfl ?_
    exact aQ_of (chQ_s e1)
set_option maxHeartbeats 4000000 in
set_option maxRecDepth 100000 in
theorem s_rustOf {l : Launch} {E : zG} (hzs : zS E) (hst : l.stackTraces = false) (h : zH) (a : Nat) (g : zGd) (x : Int32) (hx : zXs h a) (hg : zGa h (a + 1) g) (hw : gW g) : zMet l E yX9_rustOf cX9_rustOf 2 (some .int) ({ frames := 7, cells := 1, slots := 6, locals := 117 } : Room) 1 6 [.ref a, .int x] h (aQ h (chQ g x (fun _ c => .inr (.int (nI (chR c)))))) (aX h (chQ g x (fun _ c => .inr (.int (nI (chR c)))))) := by
  refine zM_start hzs hst (by decide) (Nat.le_of_ble_eq_true rfl) (fun X C G F I => ?_)
  show zV X 0 0 _ 0 [(0, _), (1, _)] []
  rcases e1 : kc g x with _ | ⟨k, c⟩
  · refine zV.aload_n C dX9_rustOf_0 rfl rfl ?_
    refine zV.iload_n C dX9_rustOf_1 rfl ?_
    refine zV.callV (n := 1) C G dX9_rustOf_2 (s_demandChair hzs hst h a g x hx hg hw) rfl ⟨cd_X9_demandChair, lk_X9_128, im_X9_demandChair, se_X9_X9_demandChair, in_X9⟩ ⟨⟨by decide, by decide⟩, by decide⟩ rfl rfl rfl hx.1 ⟨rfl, by decide⟩ (zdeA (chA9_n e1)) (zxA C F (chA9_n e1) (chQ_n e1) ⟨by decide, by decide⟩)
  · obtain ⟨hix, hc, hid, hkl⟩ := kc_some e1
    have hl := gW_len hw
    have h12 : k < 12 := by omega
    obtain ⟨c1, c2, c3, c4, c5⟩ := zGa_c hg hc
    obtain ⟨u1, u2, u3, u4⟩ := gW_cb hw hc
    refine zV.aload_n C dX9_rustOf_0 rfl rfl ?_
    refine zV.iload_n C dX9_rustOf_1 rfl ?_
    refine zV.callV (n := 1) C G dX9_rustOf_2 (s_demandChair hzs hst h a g x hx hg hw) rfl ⟨cd_X9_demandChair, lk_X9_128, im_X9_demandChair, se_X9_X9_demandChair, in_X9⟩ ⟨⟨by decide, by decide⟩, by decide⟩ rfl rfl rfl hx.1 ⟨rfl, by decide⟩ (zafA (chA9_s e1) ?_) (znoA (chA9_s e1))
    refine zV.gNIv 130 (k := 2) C dX9_rustOf_5 zcl_X0 (by decide) rfl lk_X9_136 (zGa_k hg h12) rfl (c3) ?_
    refine zV.iret C F dX9_rustOf_8 rfl ?_
    exact aQ_of (chQ_s e1)
set_option maxHeartbeats 4000000 in
set_option maxRecDepth 100000 in
theorem s_isFolded {l : Launch} {E : zG} (hzs : zS E) (hst : l.stackTraces = false) (h : zH) (a : Nat) (g : zGd) (x : Int32) (hx : zXs h a) (hg : zGa h (a + 1) g) (hw : gW g) : zMet l E yX9_isFolded cX9_isFolded 2 (some .boolean) ({ frames := 7, cells := 1, slots := 6, locals := 117 } : Room) 1 6 [.ref a, .int x] h (aQ h (chQ g x (fun _ c => .inr (.int (nI (b2 (chF c))))))) (aX h (chQ g x (fun _ c => .inr (.int (nI (b2 (chF c))))))) := by
  refine zM_start hzs hst (by decide) (Nat.le_of_ble_eq_true rfl) (fun X C G F I => ?_)
  show zV X 0 0 _ 0 [(0, _), (1, _)] []
  rcases e1 : kc g x with _ | ⟨k, c⟩
  · refine zV.aload_n C dX9_isFolded_0 rfl rfl ?_
    refine zV.iload_n C dX9_isFolded_1 rfl ?_
    refine zV.callV (n := 1) C G dX9_isFolded_2 (s_demandChair hzs hst h a g x hx hg hw) rfl ⟨cd_X9_demandChair, lk_X9_128, im_X9_demandChair, se_X9_X9_demandChair, in_X9⟩ ⟨⟨by decide, by decide⟩, by decide⟩ rfl rfl rfl hx.1 ⟨rfl, by decide⟩ (zdeA (chA9_n e1)) (zxA C F (chA9_n e1) (chQ_n e1) ⟨by decide, by decide⟩)
  · obtain ⟨hix, hc, hid, hkl⟩ := kc_some e1
    have hl := gW_len hw
    have h12 : k < 12 := by omega
    obtain ⟨c1, c2, c3, c4, c5⟩ := zGa_c hg hc
    obtain ⟨u1, u2, u3, u4⟩ := gW_cb hw hc
    refine zV.aload_n C dX9_isFolded_0 rfl rfl ?_
    refine zV.iload_n C dX9_isFolded_1 rfl ?_
    refine zV.callV (n := 1) C G dX9_isFolded_2 (s_demandChair hzs hst h a g x hx hg hw) rfl ⟨cd_X9_demandChair, lk_X9_128, im_X9_demandChair, se_X9_X9_demandChair, in_X9⟩ ⟨⟨by decide, by decide⟩, by decide⟩ rfl rfl rfl hx.1 ⟨rfl, by decide⟩ (zafA (chA9_s e1) ?_) (znoA (chA9_s e1))
    refine zV.gNIv 132 (k := 4) C dX9_isFolded_5 zcl_X0 (by decide) rfl lk_X9_139 (zGa_k hg h12) rfl (c5) ?_
    refine zV.zret C F dX9_isFolded_8 b01b.1 rfl ?_
    exact aQ_of (chQ_s e1)
set_option maxHeartbeats 4000000 in
set_option maxRecDepth 100000 in
theorem s_ageOf {l : Launch} {E : zG} (hzs : zS E) (hst : l.stackTraces = false) (h : zH) (a : Nat) (g : zGd) (x : Int32) (hx : zXs h a) (hg : zGa h (a + 1) g) (hw : gW g) : zMet l E yX9_ageOf cX9_ageOf 2 (some .int) ({ frames := 7, cells := 1, slots := 6, locals := 117 } : Room) 1 6 [.ref a, .int x] h (aQ h (chQ g x (fun _ c => .inr (.int (nI (gD g - chD c)))))) (aX h (chQ g x (fun _ c => .inr (.int (nI (gD g - chD c)))))) := by
  refine zM_start hzs hst (by decide) (Nat.le_of_ble_eq_true rfl) (fun X C G F I => ?_)
  show zV X 0 0 _ 0 [(0, _), (1, _)] []
  rcases e1 : kc g x with _ | ⟨k, c⟩
  · refine zV.aload_n C dX9_ageOf_0 rfl rfl ?_
    refine zV.gR 384 (k := 0) C dX9_ageOf_1 zcl_X9 (by decide) rfl lk_X9_10 (hx.1) rfl (hx.2.1) ?_
    refine zV.gNIv 198 (k := 6) C dX9_ageOf_4 zcl_X3 (by decide) rfl lk_X9_143 (hg.1.1) rfl ((zGa_n hg).2.2.1) ?_
    refine zV.aload_n C dX9_ageOf_7 rfl rfl ?_
    refine zV.iload_n C dX9_ageOf_8 rfl ?_
    refine zV.callV (n := 1) C G dX9_ageOf_9 (s_demandChair hzs hst h a g x hx hg hw) rfl ⟨cd_X9_demandChair, lk_X9_128, im_X9_demandChair, se_X9_X9_demandChair, in_X9⟩ ⟨⟨by decide, by decide⟩, by decide⟩ rfl rfl rfl hx.1 ⟨rfl, by decide⟩ (zdeA (chA9_n e1)) (zxA C F (chA9_n e1) (chQ_n e1) ⟨by decide, by decide⟩)
  · obtain ⟨hix, hc, hid, hkl⟩ := kc_some e1
    have hl := gW_len hw
    have h12 : k < 12 := by omega
    obtain ⟨c1, c2, c3, c4, c5⟩ := zGa_c hg hc
    obtain ⟨u1, u2, u3, u4⟩ := gW_cb hw hc
    refine zV.aload_n C dX9_ageOf_0 rfl rfl ?_
    refine zV.gR 384 (k := 0) C dX9_ageOf_1 zcl_X9 (by decide) rfl lk_X9_10 (hx.1) rfl (hx.2.1) ?_
    refine zV.gNIv 198 (k := 6) C dX9_ageOf_4 zcl_X3 (by decide) rfl lk_X9_143 (hg.1.1) rfl ((zGa_n hg).2.2.1) ?_
    refine zV.aload_n C dX9_ageOf_7 rfl rfl ?_
    refine zV.iload_n C dX9_ageOf_8 rfl ?_
    refine zV.callV (n := 1) C G dX9_ageOf_9 (s_demandChair hzs hst h a g x hx hg hw) rfl ⟨cd_X9_demandChair, lk_X9_128, im_X9_demandChair, se_X9_X9_demandChair, in_X9⟩ ⟨⟨by decide, by decide⟩, by decide⟩ rfl rfl rfl hx.1 ⟨rfl, by decide⟩ (zafA (chA9_s e1) ?_) (znoA (chA9_s e1))
    refine zV.gNIv 131 (k := 3) C dX9_ageOf_12 zcl_X0 (by decide) rfl lk_X9_146 (zGa_k hg h12) rfl (c4) ?_
    refine zV.isub C dX9_ageOf_15 ?_
    refine zV.iret C F dX9_ageOf_16 rfl ?_
    rw [show nI (gD g) - nI (chD c) = nI (gD g - chD c) from pk_sub (gW_c hw hc).2.2.2]
    exact aQ_of (chQ_s e1)
set_option maxHeartbeats 4000000 in
set_option maxRecDepth 100000 in
theorem s_positionOf {l : Launch} {E : zG} (hzs : zS E) (hst : l.stackTraces = false) (h : zH) (a : Nat) (g : zGd) (x : Int32) (hx : zXs h a) (hg : zGa h (a + 1) g) (hw : gW g) : zMet l E yX9_positionOf cX9_positionOf 2 (some .int) ({ frames := 7, cells := 1, slots := 6, locals := 117 } : Room) 1 6 [.ref a, .int x] h (aQ h (chQ g x (fun k c => .inr (.int (nI (hsz ((gC g).take k) (chL c))))))) (aX h (chQ g x (fun k c => .inr (.int (nI (hsz ((gC g).take k) (chL c))))))) := by
  refine zM_start hzs hst (by decide) (Nat.le_of_ble_eq_true rfl) (fun X C G F I => ?_)
  show zV X 0 0 _ 0 [(0, _), (1, _)] []
  rcases e1 : kc g x with _ | ⟨k, c⟩
  · refine zV.aload_n C dX9_positionOf_0 rfl rfl ?_
    refine zV.gR 384 (k := 0) C dX9_positionOf_1 zcl_X9 (by decide) rfl lk_X9_10 (hx.1) rfl (hx.2.1) ?_
    refine zV.aload_n C dX9_positionOf_4 rfl rfl ?_
    refine zV.iload_n C dX9_positionOf_5 rfl ?_
    refine zV.callV (n := 1) C G dX9_positionOf_6 (s_demandChair hzs hst h a g x hx hg hw) rfl ⟨cd_X9_demandChair, lk_X9_128, im_X9_demandChair, se_X9_X9_demandChair, in_X9⟩ ⟨⟨by decide, by decide⟩, by decide⟩ rfl rfl rfl hx.1 ⟨rfl, by decide⟩ (zdeA (chA9_n e1)) (zxA C F (chA9_n e1) (chQ_n e1) ⟨by decide, by decide⟩)
  · obtain ⟨hix, hc, hid, hkl⟩ := kc_some e1
    have hl := gW_len hw
    have h12 : k < 12 := by omega
    obtain ⟨c1, c2, c3, c4, c5⟩ := zGa_c hg hc
    obtain ⟨u1, u2, u3, u4⟩ := gW_cb hw hc
    refine zV.aload_n C dX9_positionOf_0 rfl rfl ?_
    refine zV.gR 384 (k := 0) C dX9_positionOf_1 zcl_X9 (by decide) rfl lk_X9_10 (hx.1) rfl (hx.2.1) ?_
    refine zV.aload_n C dX9_positionOf_4 rfl rfl ?_
    refine zV.iload_n C dX9_positionOf_5 rfl ?_
    refine zV.callV (n := 1) C G dX9_positionOf_6 (s_demandChair hzs hst h a g x hx hg hw) rfl ⟨cd_X9_demandChair, lk_X9_128, im_X9_demandChair, se_X9_X9_demandChair, in_X9⟩ ⟨⟨by decide, by decide⟩, by decide⟩ rfl rfl rfl hx.1 ⟨rfl, by decide⟩ (zafA (chA9_s e1) ?_) (znoA (chA9_s e1))
    refine zV.callV (n := 1) C G dX9_positionOf_9 (s_placeInHerd hzs hst h (a + 1) g k c hc hg hw) rfl ⟨cd_X3_placeInHerd, lk_X9_149, im_X3_placeInHerd, se_X3_X3_placeInHerd, in_X3⟩ ⟨⟨by decide, by decide⟩, by decide⟩ rfl rfl rfl hg.1.1 ⟨rfl, by decide⟩ (zaf ?_) (zno)
    refine zV.iret C F dX9_positionOf_12 rfl ?_
    exact aQ_of (chQ_s e1)
set_option maxHeartbeats 4000000 in
set_option maxRecDepth 100000 in
theorem s_pathCount {l : Launch} {E : zG} (hzs : zS E) (hst : l.stackTraces = false) (h : zH) (a : Nat) (g : zGd) (hx : zXs h a) (hg : zGa h (a + 1) g) (hw : gW g) : zMet l E yX9_pathCount cX9_pathCount 1 (some .int) ({ frames := 0, cells := 0, slots := 0, locals := 0 } : Room) 0 0 [.ref a] h (fun r h' => r = some (.int (nI (gP g))) ∧ h' = h) (fun _ _ => False) := by
  refine zM_start hzs hst (by decide) (Nat.le_of_ble_eq_true rfl) (fun X C G F I => ?_)
  show zV X 0 0 _ 0 [(0, _)] []
  refine zV.aload_n C dX9_pathCount_0 rfl rfl ?_
  refine zV.gR 384 (k := 0) C dX9_pathCount_1 zcl_X9 (by decide) rfl lk_X9_10 (hx.1) rfl (hx.2.1) ?_
  refine zV.gNR 192 (k := 0) C dX9_pathCount_4 zcl_X3 (by decide) rfl lk_X9_74 (hg.1.1) rfl (hg.1.2.1) ?_
  refine zV.gNIv 353 (k := 1) C dX9_pathCount_7 zcl_X8 (by decide) rfl lk_X9_112 (hg.1.2.2.2.2.2.1.1) rfl ((zGa_p hg)) ?_
  refine zV.iret C F dX9_pathCount_10 rfl ?_
  exact ⟨rfl, rfl⟩
set_option maxHeartbeats 4000000 in
set_option maxRecDepth 100000 in
theorem s_day {l : Launch} {E : zG} (hzs : zS E) (hst : l.stackTraces = false) (h : zH) (a : Nat) (g : zGd) (hx : zXs h a) (hg : zGa h (a + 1) g) (hw : gW g) : zMet l E yX9_day cX9_day 1 (some .int) ({ frames := 0, cells := 0, slots := 0, locals := 0 } : Room) 0 0 [.ref a] h (fun r h' => r = some (.int (nI (gD g))) ∧ h' = h) (fun _ _ => False) := by
  refine zM_start hzs hst (by decide) (Nat.le_of_ble_eq_true rfl) (fun X C G F I => ?_)
  show zV X 0 0 _ 0 [(0, _)] []
  refine zV.aload_n C dX9_day_0 rfl rfl ?_
  refine zV.gR 384 (k := 0) C dX9_day_1 zcl_X9 (by decide) rfl lk_X9_10 (hx.1) rfl (hx.2.1) ?_
  refine zV.gNIv 198 (k := 6) C dX9_day_4 zcl_X3 (by decide) rfl lk_X9_143 hg.1.1 rfl ((zGa_n hg).2.2.1) ?_
  refine zV.iret C F dX9_day_7 rfl ?_
  exact ⟨rfl, rfl⟩
set_option maxHeartbeats 4000000 in
set_option maxRecDepth 100000 in
theorem s_chairCount {l : Launch} {E : zG} (hzs : zS E) (hst : l.stackTraces = false) (h : zH) (a : Nat) (g : zGd) (hx : zXs h a) (hg : zGa h (a + 1) g) (hw : gW g) : zMet l E yX9_chairCount cX9_chairCount 1 (some .int) ({ frames := 0, cells := 0, slots := 0, locals := 0 } : Room) 0 0 [.ref a] h (fun r h' => r = some (.int (nI ((gC g).length))) ∧ h' = h) (fun _ _ => False) := by
  refine zM_start hzs hst (by decide) (Nat.le_of_ble_eq_true rfl) (fun X C G F I => ?_)
  show zV X 0 0 _ 0 [(0, _)] []
  refine zV.aload_n C dX9_chairCount_0 rfl rfl ?_
  refine zV.gR 384 (k := 0) C dX9_chairCount_1 zcl_X9 (by decide) rfl lk_X9_10 (hx.1) rfl (hx.2.1) ?_
  refine zV.gNIv 196 (k := 4) C dX9_chairCount_4 zcl_X3 (by decide) rfl lk_X9_203 hg.1.1 rfl ((zGa_n hg).1) ?_
  refine zV.iret C F dX9_chairCount_7 rfl ?_
  exact ⟨rfl, rfl⟩
set_option maxHeartbeats 4000000 in
set_option maxRecDepth 100000 in
theorem s_oil {l : Launch} {E : zG} (hzs : zS E) (hst : l.stackTraces = false) (h : zH) (a : Nat) (g : zGd) (hx : zXs h a) (hg : zGa h (a + 1) g) (hw : gW g) : zMet l E yX9_oil cX9_oil 1 (some .int) ({ frames := 0, cells := 0, slots := 0, locals := 0 } : Room) 0 0 [.ref a] h (fun r h' => r = some (.int (nI (gO g))) ∧ h' = h) (fun _ _ => False) := by
  refine zM_start hzs hst (by decide) (Nat.le_of_ble_eq_true rfl) (fun X C G F I => ?_)
  show zV X 0 0 _ 0 [(0, _)] []
  refine zV.aload_n C dX9_oil_0 rfl rfl ?_
  refine zV.gR 384 (k := 0) C dX9_oil_1 zcl_X9 (by decide) rfl lk_X9_10 (hx.1) rfl (hx.2.1) ?_
  refine zV.gNIv 199 (k := 7) C dX9_oil_4 zcl_X3 (by decide) rfl lk_X9_209 hg.1.1 rfl ((zGa_n hg).2.2.2.1) ?_
  refine zV.iret C F dX9_oil_7 rfl ?_
  exact ⟨rfl, rfl⟩
set_option maxHeartbeats 4000000 in
set_option maxRecDepth 100000 in
theorem s_collapsedChairs {l : Launch} {E : zG} (hzs : zS E) (hst : l.stackTraces = false) (h : zH) (a : Nat) (g : zGd) (hx : zXs h a) (hg : zGa h (a + 1) g) (hw : gW g) : zMet l E yX9_collapsedChairs cX9_collapsedChairs 1 (some .int) ({ frames := 0, cells := 0, slots := 0, locals := 0 } : Room) 0 0 [.ref a] h (fun r h' => r = some (.int (nI (gF g))) ∧ h' = h) (fun _ _ => False) := by
  refine zM_start hzs hst (by decide) (Nat.le_of_ble_eq_true rfl) (fun X C G F I => ?_)
  show zV X 0 0 _ 0 [(0, _)] []
  refine zV.aload_n C dX9_collapsedChairs_0 rfl rfl ?_
  refine zV.gR 384 (k := 0) C dX9_collapsedChairs_1 zcl_X9 (by decide) rfl lk_X9_10 (hx.1) rfl (hx.2.1) ?_
  refine zV.gNIv 200 (k := 8) C dX9_collapsedChairs_4 zcl_X3 (by decide) rfl lk_X9_218 hg.1.1 rfl ((zGa_n hg).2.2.2.2.1) ?_
  refine zV.iret C F dX9_collapsedChairs_7 rfl ?_
  exact ⟨rfl, rfl⟩
set_option maxHeartbeats 4000000 in
set_option maxRecDepth 100000 in
theorem s_scrappedChairs {l : Launch} {E : zG} (hzs : zS E) (hst : l.stackTraces = false) (h : zH) (a : Nat) (g : zGd) (hx : zXs h a) (hg : zGa h (a + 1) g) (hw : gW g) : zMet l E yX9_scrappedChairs cX9_scrappedChairs 1 (some .int) ({ frames := 0, cells := 0, slots := 0, locals := 0 } : Room) 0 0 [.ref a] h (fun r h' => r = some (.int (nI (gU g))) ∧ h' = h) (fun _ _ => False) := by
  refine zM_start hzs hst (by decide) (Nat.le_of_ble_eq_true rfl) (fun X C G F I => ?_)
  show zV X 0 0 _ 0 [(0, _)] []
  refine zV.aload_n C dX9_scrappedChairs_0 rfl rfl ?_
  refine zV.gR 384 (k := 0) C dX9_scrappedChairs_1 zcl_X9 (by decide) rfl lk_X9_10 (hx.1) rfl (hx.2.1) ?_
  refine zV.gNIv 201 (k := 9) C dX9_scrappedChairs_4 zcl_X3 (by decide) rfl lk_X9_221 hg.1.1 rfl ((zGa_n hg).2.2.2.2.2.1) ?_
  refine zV.iret C F dX9_scrappedChairs_7 rfl ?_
  exact ⟨rfl, rfl⟩
set_option maxHeartbeats 4000000 in
set_option maxRecDepth 100000 in
theorem s_moveCount {l : Launch} {E : zG} (hzs : zS E) (hst : l.stackTraces = false) (h : zH) (a : Nat) (g : zGd) (hx : zXs h a) (hg : zGa h (a + 1) g) (hw : gW g) : zMet l E yX9_moveCount cX9_moveCount 1 (some .int) ({ frames := 0, cells := 0, slots := 0, locals := 0 } : Room) 0 0 [.ref a] h (fun r h' => r = some (.int (nI (gM g))) ∧ h' = h) (fun _ _ => False) := by
  refine zM_start hzs hst (by decide) (Nat.le_of_ble_eq_true rfl) (fun X C G F I => ?_)
  show zV X 0 0 _ 0 [(0, _)] []
  refine zV.aload_n C dX9_moveCount_0 rfl rfl ?_
  refine zV.gR 384 (k := 0) C dX9_moveCount_1 zcl_X9 (by decide) rfl lk_X9_10 (hx.1) rfl (hx.2.1) ?_
  refine zV.gNIv 202 (k := 10) C dX9_moveCount_4 zcl_X3 (by decide) rfl lk_X9_224 hg.1.1 rfl ((zGa_n hg).2.2.2.2.2.2.1) ?_
  refine zV.iret C F dX9_moveCount_7 rfl ?_
  exact ⟨rfl, rfl⟩
set_option maxHeartbeats 4000000 in
set_option maxRecDepth 100000 in
theorem s_grazedShade {l : Launch} {E : zG} (hzs : zS E) (hst : l.stackTraces = false) (h : zH) (a : Nat) (g : zGd) (hx : zXs h a) (hg : zGa h (a + 1) g) (hw : gW g) : zMet l E yX9_grazedShade cX9_grazedShade 1 (some .int) ({ frames := 0, cells := 0, slots := 0, locals := 0 } : Room) 0 0 [.ref a] h (fun r h' => r = some (.int (nI (gZ g))) ∧ h' = h) (fun _ _ => False) := by
  refine zM_start hzs hst (by decide) (Nat.le_of_ble_eq_true rfl) (fun X C G F I => ?_)
  show zV X 0 0 _ 0 [(0, _)] []
  refine zV.aload_n C dX9_grazedShade_0 rfl rfl ?_
  refine zV.gR 384 (k := 0) C dX9_grazedShade_1 zcl_X9 (by decide) rfl lk_X9_10 (hx.1) rfl (hx.2.1) ?_
  refine zV.gNIv 203 (k := 11) C dX9_grazedShade_4 zcl_X3 (by decide) rfl lk_X9_227 hg.1.1 rfl ((zGa_n hg).2.2.2.2.2.2.2) ?_
  refine zV.iret C F dX9_grazedShade_7 rfl ?_
  exact ⟨rfl, rfl⟩
set_option maxHeartbeats 4000000 in
set_option maxRecDepth 100000 in
theorem s_exists {l : Launch} {E : zG} (hzs : zS E) (hst : l.stackTraces = false) (h : zH) (a : Nat) (g : zGd) (x : Int32) (hx : zXs h a) (hg : zGa h (a + 1) g) (hw : gW g) : zMet l E yX9_exists cX9_exists 2 (some .boolean) ({ frames := 2, cells := 0, slots := 0, locals := 44 } : Room) 0 0 [.ref a, .int x] h (fun r h' => r = some (.int (nI (b2 (kc g x).isSome))) ∧ h' = h) (fun _ _ => False) := by
  refine zM_start hzs hst (by decide) (Nat.le_of_ble_eq_true rfl) (fun X C G F I => ?_)
  show zV X 0 0 _ 0 [(0, _), (1, _)] []
  rcases hq : kc g x with _ | ⟨k, c⟩
  · have hix := kc_none hq
    refine zV.aload_n C dX9_exists_0 rfl rfl ?_
    refine zV.gR 384 (k := 0) C dX9_exists_1 zcl_X9 (by decide) rfl lk_X9_10 (hx.1) rfl (hx.2.1) ?_
    refine zV.iload_n C dX9_exists_4 rfl ?_
    refine zV.callV (n := 1) C G dX9_exists_5 (s_find hzs hst h (a + 1) g x hg hw) rfl ⟨cd_X3_find, lk_X9_124, im_X3_find, se_X3_X3_find, in_X3⟩ ⟨⟨by decide, by decide⟩, by decide⟩ rfl rfl rfl hg.1.1 ⟨rfl, by decide⟩ (zafe (congrArg (zfo h (a + 1)) hix) ?_) (zno)
    refine zV.ifnull (tgt := 15) C dX9_exists_8 (by decide) rfl (fun q8 => ?_) (fun q8 => ?_)
    · refine zV.ic (v := nI 0) C dX9_exists_15 (by decide) ?_
      refine zV.zret C F dX9_exists_16 rfl rfl ?_
      exact ⟨by rw [hq]; rfl, rfl⟩
    · exact absurd rfl q8
  · obtain ⟨hix, hc, hid, hkl⟩ := kc_some hq
    refine zV.aload_n C dX9_exists_0 rfl rfl ?_
    refine zV.gR 384 (k := 0) C dX9_exists_1 zcl_X9 (by decide) rfl lk_X9_10 (hx.1) rfl (hx.2.1) ?_
    refine zV.iload_n C dX9_exists_4 rfl ?_
    refine zV.callV (n := 1) C G dX9_exists_5 (s_find hzs hst h (a + 1) g x hg hw) rfl ⟨cd_X3_find, lk_X9_124, im_X3_find, se_X3_X3_find, in_X3⟩ ⟨⟨by decide, by decide⟩, by decide⟩ rfl rfl rfl hg.1.1 ⟨rfl, by decide⟩ (zafe (congrArg (zfo h (a + 1)) hix) ?_) (zno)
    show zV X 0 0 h 8 _ (.ref (cA h (a + 1) k) :: _)
    refine zV.ifnull (tgt := 15) C dX9_exists_8 (by decide) rfl (fun q8 => ?_) (fun q8 => ?_)
    · exact absurd q8 (by intro z; cases z)
    · refine zV.ic (v := nI 1) C dX9_exists_11 (by decide) ?_
      refine zV.goto (tgt := 16) C dX9_exists_12 (by decide) ?_
      refine zV.zret C F dX9_exists_16 rfl rfl ?_
      exact ⟨by rw [hq]; rfl, rfl⟩
set_option maxHeartbeats 4000000 in
set_option maxRecDepth 100000 in
theorem s_chairByRust {l : Launch} {E : zG} (hzs : zS E) (hst : l.stackTraces = false) (h : zH) (a : Nat) (g : zGd) (x : Int32) (hx : zXs h a) (hg : zGa h (a + 1) g) (hw : gW g) : zMet l E yX9_chairByRust cX9_chairByRust 2 (some .int) ({ frames := 7, cells := 1, slots := 6, locals := 115 } : Room) 1 6 [.ref a, .int x] h (aQ h (elA (rkI (gC g) x (gC g)))) (aX h (elA (rkI (gC g) x (gC g)))) := by
  refine zM_start hzs hst (by decide) (Nat.le_of_ble_eq_true rfl) (fun X C G F I => ?_)
  show zV X 0 0 _ 0 [(0, _), (1, _)] []
  refine zV.aload_n C dX9_chairByRust_0 rfl rfl ?_
  refine zV.gR 384 (k := 0) C dX9_chairByRust_1 zcl_X9 (by decide) rfl lk_X9_10 (hx.1) rfl (hx.2.1) ?_
  refine zV.iload_n C dX9_chairByRust_4 rfl ?_
  refine zV.callV (n := 1) C G dX9_chairByRust_5 (s_idAtRank hzs hst h (a + 1) g x hg hw) rfl ⟨cd_X3_idAtRank, lk_X9_230, im_X3_idAtRank, se_X3_X3_idAtRank, in_X3⟩ ⟨⟨by decide, by decide⟩, by decide⟩ rfl rfl rfl hg.1.1 ⟨rfl, by decide⟩ (zaf ?_) (zno)
  refine zV.callS (n := 1) C G dX9_chairByRust_8 (s_demandElement hzs hst h (rkI (gC g) x (gC g))) rfl ⟨cd_X9_demandElement, lk_X9_88, st_X9_demandElement, in_X9⟩ ⟨⟨by decide, by decide⟩, by decide⟩ rfl rfl rfl (elA_k C F (rfl) dX9_chairByRust_11 rfl) (elA_x C F (rfl) ⟨by decide, by decide⟩)
set_option maxHeartbeats 4000000 in
set_option maxRecDepth 100000 in
theorem s_lawnByShade {l : Launch} {E : zG} (hzs : zS E) (hst : l.stackTraces = false) (h : zH) (a : Nat) (g : zGd) (x : Int32) (hx : zXs h a) (hg : zGa h (a + 1) g) (hw : gW g) : zMet l E yX9_lawnByShade cX9_lawnByShade 2 (some .int) ({ frames := 7, cells := 1, slots := 6, locals := 115 } : Room) 1 6 [.ref a, .int x] h (aQ h (elA (lrF g x 6 0))) (aX h (elA (lrF g x 6 0))) := by
  refine zM_start hzs hst (by decide) (Nat.le_of_ble_eq_true rfl) (fun X C G F I => ?_)
  show zV X 0 0 _ 0 [(0, _), (1, _)] []
  refine zV.aload_n C dX9_lawnByShade_0 rfl rfl ?_
  refine zV.gR 384 (k := 0) C dX9_lawnByShade_1 zcl_X9 (by decide) rfl lk_X9_10 (hx.1) rfl (hx.2.1) ?_
  refine zV.iload_n C dX9_lawnByShade_4 rfl ?_
  refine zV.callV (n := 1) C G dX9_lawnByShade_5 (s_lawnAtRank hzs hst h (a + 1) g x hg hw) rfl ⟨cd_X3_lawnAtRank, lk_X9_233, im_X3_lawnAtRank, se_X3_X3_lawnAtRank, in_X3⟩ ⟨⟨by decide, by decide⟩, by decide⟩ rfl rfl rfl hg.1.1 ⟨rfl, by decide⟩ (zaf ?_) (zno)
  refine zV.callS (n := 1) C G dX9_lawnByShade_8 (s_demandElement hzs hst h (lrF g x 6 0)) rfl ⟨cd_X9_demandElement, lk_X9_88, st_X9_demandElement, in_X9⟩ ⟨⟨by decide, by decide⟩, by decide⟩ rfl rfl rfl (elA_k C F (rfl) dX9_lawnByShade_11 rfl) (elA_x C F (rfl) ⟨by decide, by decide⟩)
