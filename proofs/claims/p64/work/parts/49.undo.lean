/-! ChairMigration: changes, undo, snapshot -/
theorem sQ_k {X : zX} {kc ks : Nat} {pc : Nat} {lo : List (Nat × Value)} {n : Nat} {A : zAn} {P : zH → Prop} {cc : ByteArray} {own : String} {nL : Nat} {mc ms : Nat} {Qx : String → zH → Prop} {h : zH} (C : zC X cc own nL) (F : zF X (some .int) mc ms (sQ9 h A P) Qx) (hA : ∀ v, A = .inr v → ∃ i, v = .int i) (d : decode cc pc = .ok (.ireturn, 1)) (hc : Nat.ble kc mc && Nat.ble ks ms) : ∀ (r : Option Value) (h' : zH), sQ9 h A P r h' → n ≤ hN h' → zV X kc ks h' pc lo (r.toList ++ []) := fun r h' q _ => by
  obtain ⟨⟨v, e, rfl⟩, p⟩ := q
  obtain ⟨i, rfl⟩ := hA v e
  exact zV.iret C F d hc (sQ_of e p)
theorem sX_k {X : zX} {kc ks : Nat} {pc : Nat} {lo : List (Nat × Value)} {rest : List Value} {n : Nat} {A : zAn} {P : zH → Prop} {cc : ByteArray} {own : String} {nL : Nat} {ret : Option FieldType} {mc ms : Nat} {Qr : Option Value → zH → Prop} {h : zH} (C : zC X cc own nL) (F : zF X ret mc ms Qr (sX9 h A P)) (hc : kc ≤ mc ∧ ks ≤ ms) : ∀ (Ex : String) (h' : zH), sX9 h A P Ex h' → n ≤ hN h' → zVX X kc ks h' pc lo rest Ex := fun Ex h' q _ => zVX.out C F q hc
theorem chgA_i {g : zGd} {d : Nat} {x y : Int32} : ∀ v, chgA g d x y = .inr v → ∃ i, v = .int i := fun v e => by
  unfold chgA at e
  split at e
  · cases e; exact ⟨_, rfl⟩
  · split at e
    · cases e
    · split at e <;> cases e
theorem drj_ok {X : zX} {kc ks : Nat} {h : zH} {pc : Nat} {lo : List (Nat × Value)} {rest : List Value} {n : Nat} {c : Prop} (k : c → zV X kc ks h pc lo rest) : ∀ (r : Option Value) (h' : zH), ((r = none ∧ h' = h) ∧ c) → n ≤ hN h' → zV X kc ks h' pc lo (r.toList ++ rest) := fun r h' q _ => by
  obtain ⟨⟨rfl, rfl⟩, e⟩ := q
  exact k e
set_option maxHeartbeats 4000000 in
set_option maxRecDepth 100000 in
theorem s_addPath {l : Launch} {E : zG} (hzs : zS E) (hst : l.stackTraces = false) (h : zH) (a lo m : Nat) (x y : Int32) (g : zGd) (us : List zGd) (sn : Option zGd) (off rs dt cs : Int32) (t o : List Nat) (q : zXa h a lo g us sn off rs dt cs t o) (hm : gR m g) (hb9 : m + 3000 ≤ big) : zMet l E yX9_addPath cX9_addPath 3 (some .int) ({ frames := 7, cells := 1, slots := 6, locals := 209 } : Room) 1 6 [.ref a, .int x, .int y] h (sQ9 h (chgA g 112 x y) (chgP h a lo 112 x y g us sn off rs dt cs t o)) (sX9 h (chgA g 112 x y) (chgP h a lo 112 x y g us sn off rs dt cs t o)) := by
  refine zM_start hzs hst (by decide) (Nat.le_of_ble_eq_true rfl) (fun X C G F I => ?_)
  show zV X 0 0 _ 0 [(0, _), (1, _), (2, _)] []
  refine zV.aload_n C dX9_addPath_0 rfl rfl ?_
  refine zV.bi (v := nI 112) C dX9_addPath_1 (by decide) ?_
  refine zV.iload_n C dX9_addPath_3 rfl ?_
  refine zV.iload_n C dX9_addPath_4 rfl ?_
  refine zV.callV (n := 3) C G dX9_addPath_5 (s_change hzs hst h a lo m 112 x y g us sn off rs dt cs t o (by unfold isD; omega) q hm hb9) rfl ⟨cd_X9_change, lk_X9_66, im_X9_change, se_X9_X9_change, in_X9⟩ ⟨⟨by decide, by decide⟩, by decide⟩ rfl rfl rfl q.1.1 ⟨rfl, by decide⟩ (sQ_k C F chgA_i dX9_addPath_8 rfl) (sX_k C F ⟨by decide, by decide⟩)
set_option maxHeartbeats 4000000 in
set_option maxRecDepth 100000 in
theorem s_removePath {l : Launch} {E : zG} (hzs : zS E) (hst : l.stackTraces = false) (h : zH) (a lo m : Nat) (x y : Int32) (g : zGd) (us : List zGd) (sn : Option zGd) (off rs dt cs : Int32) (t o : List Nat) (q : zXa h a lo g us sn off rs dt cs t o) (hm : gR m g) (hb9 : m + 3000 ≤ big) : zMet l E yX9_removePath cX9_removePath 3 (some .int) ({ frames := 7, cells := 1, slots := 6, locals := 209 } : Room) 1 6 [.ref a, .int x, .int y] h (sQ9 h (chgA g 113 x y) (chgP h a lo 113 x y g us sn off rs dt cs t o)) (sX9 h (chgA g 113 x y) (chgP h a lo 113 x y g us sn off rs dt cs t o)) := by
  refine zM_start hzs hst (by decide) (Nat.le_of_ble_eq_true rfl) (fun X C G F I => ?_)
  show zV X 0 0 _ 0 [(0, _), (1, _), (2, _)] []
  refine zV.aload_n C dX9_removePath_0 rfl rfl ?_
  refine zV.bi (v := nI 113) C dX9_removePath_1 (by decide) ?_
  refine zV.iload_n C dX9_removePath_3 rfl ?_
  refine zV.iload_n C dX9_removePath_4 rfl ?_
  refine zV.callV (n := 3) C G dX9_removePath_5 (s_change hzs hst h a lo m 113 x y g us sn off rs dt cs t o (by unfold isD; omega) q hm hb9) rfl ⟨cd_X9_change, lk_X9_66, im_X9_change, se_X9_X9_change, in_X9⟩ ⟨⟨by decide, by decide⟩, by decide⟩ rfl rfl rfl q.1.1 ⟨rfl, by decide⟩ (sQ_k C F chgA_i dX9_removePath_8 rfl) (sX_k C F ⟨by decide, by decide⟩)
set_option maxHeartbeats 4000000 in
set_option maxRecDepth 100000 in
theorem s_setShade {l : Launch} {E : zG} (hzs : zS E) (hst : l.stackTraces = false) (h : zH) (a lo m : Nat) (x y : Int32) (g : zGd) (us : List zGd) (sn : Option zGd) (off rs dt cs : Int32) (t o : List Nat) (q : zXa h a lo g us sn off rs dt cs t o) (hm : gR m g) (hb9 : m + 3000 ≤ big) : zMet l E yX9_setShade cX9_setShade 3 (some .int) ({ frames := 7, cells := 1, slots := 6, locals := 209 } : Room) 1 6 [.ref a, .int x, .int y] h (sQ9 h (chgA g 104 x y) (chgP h a lo 104 x y g us sn off rs dt cs t o)) (sX9 h (chgA g 104 x y) (chgP h a lo 104 x y g us sn off rs dt cs t o)) := by
  refine zM_start hzs hst (by decide) (Nat.le_of_ble_eq_true rfl) (fun X C G F I => ?_)
  show zV X 0 0 _ 0 [(0, _), (1, _), (2, _)] []
  refine zV.aload_n C dX9_setShade_0 rfl rfl ?_
  refine zV.bi (v := nI 104) C dX9_setShade_1 (by decide) ?_
  refine zV.iload_n C dX9_setShade_3 rfl ?_
  refine zV.iload_n C dX9_setShade_4 rfl ?_
  refine zV.callV (n := 3) C G dX9_setShade_5 (s_change hzs hst h a lo m 104 x y g us sn off rs dt cs t o (by unfold isD; omega) q hm hb9) rfl ⟨cd_X9_change, lk_X9_66, im_X9_change, se_X9_X9_change, in_X9⟩ ⟨⟨by decide, by decide⟩, by decide⟩ rfl rfl rfl q.1.1 ⟨rfl, by decide⟩ (sQ_k C F chgA_i dX9_setShade_8 rfl) (sX_k C F ⟨by decide, by decide⟩)
set_option maxHeartbeats 4000000 in
set_option maxRecDepth 100000 in
theorem s_addChair {l : Launch} {E : zG} (hzs : zS E) (hst : l.stackTraces = false) (h : zH) (a lo m : Nat) (x y : Int32) (g : zGd) (us : List zGd) (sn : Option zGd) (off rs dt cs : Int32) (t o : List Nat) (q : zXa h a lo g us sn off rs dt cs t o) (hm : gR m g) (hb9 : m + 3000 ≤ big) : zMet l E yX9_addChair cX9_addChair 3 (some .int) ({ frames := 7, cells := 1, slots := 6, locals := 209 } : Room) 1 6 [.ref a, .int x, .int y] h (sQ9 h (chgA g 99 x y) (chgP h a lo 99 x y g us sn off rs dt cs t o)) (sX9 h (chgA g 99 x y) (chgP h a lo 99 x y g us sn off rs dt cs t o)) := by
  refine zM_start hzs hst (by decide) (Nat.le_of_ble_eq_true rfl) (fun X C G F I => ?_)
  show zV X 0 0 _ 0 [(0, _), (1, _), (2, _)] []
  refine zV.aload_n C dX9_addChair_0 rfl rfl ?_
  refine zV.bi (v := nI 99) C dX9_addChair_1 (by decide) ?_
  refine zV.iload_n C dX9_addChair_3 rfl ?_
  refine zV.iload_n C dX9_addChair_4 rfl ?_
  refine zV.callV (n := 3) C G dX9_addChair_5 (s_change hzs hst h a lo m 99 x y g us sn off rs dt cs t o (by unfold isD; omega) q hm hb9) rfl ⟨cd_X9_change, lk_X9_66, im_X9_change, se_X9_X9_change, in_X9⟩ ⟨⟨by decide, by decide⟩, by decide⟩ rfl rfl rfl q.1.1 ⟨rfl, by decide⟩ (sQ_k C F chgA_i dX9_addChair_8 rfl) (sX_k C F ⟨by decide, by decide⟩)
set_option maxHeartbeats 4000000 in
set_option maxRecDepth 100000 in
theorem s_scrapChair {l : Launch} {E : zG} (hzs : zS E) (hst : l.stackTraces = false) (h : zH) (a lo m : Nat) (x : Int32) (g : zGd) (us : List zGd) (sn : Option zGd) (off rs dt cs : Int32) (t o : List Nat) (q : zXa h a lo g us sn off rs dt cs t o) (hm : gR m g) (hb9 : m + 3000 ≤ big) : zMet l E yX9_scrapChair cX9_scrapChair 2 (some .int) ({ frames := 7, cells := 1, slots := 6, locals := 209 } : Room) 1 6 [.ref a, .int x] h (sQ9 h (chgA g 115 x 0) (chgP h a lo 115 x 0 g us sn off rs dt cs t o)) (sX9 h (chgA g 115 x 0) (chgP h a lo 115 x 0 g us sn off rs dt cs t o)) := by
  refine zM_start hzs hst (by decide) (Nat.le_of_ble_eq_true rfl) (fun X C G F I => ?_)
  show zV X 0 0 _ 0 [(0, _), (1, _)] []
  refine zV.aload_n C dX9_scrapChair_0 rfl rfl ?_
  refine zV.bi (v := nI 115) C dX9_scrapChair_1 (by decide) ?_
  refine zV.iload_n C dX9_scrapChair_3 rfl ?_
  refine zV.ic (v := nI 0) C dX9_scrapChair_4 (by decide) ?_
  refine zV.callV (n := 3) C G dX9_scrapChair_5 (s_change hzs hst h a lo m 115 x 0 g us sn off rs dt cs t o (by unfold isD; omega) q hm hb9) rfl ⟨cd_X9_change, lk_X9_66, im_X9_change, se_X9_X9_change, in_X9⟩ ⟨⟨by decide, by decide⟩, by decide⟩ rfl rfl rfl q.1.1 ⟨rfl, by decide⟩ (sQ_k C F chgA_i dX9_scrapChair_8 rfl) (sX_k C F ⟨by decide, by decide⟩)
set_option maxHeartbeats 4000000 in
set_option maxRecDepth 100000 in
theorem s_fold {l : Launch} {E : zG} (hzs : zS E) (hst : l.stackTraces = false) (h : zH) (a lo m : Nat) (x : Int32) (g : zGd) (us : List zGd) (sn : Option zGd) (off rs dt cs : Int32) (t o : List Nat) (q : zXa h a lo g us sn off rs dt cs t o) (hm : gR m g) (hb9 : m + 3000 ≤ big) : zMet l E yX9_fold cX9_fold 2 (some .int) ({ frames := 7, cells := 1, slots := 6, locals := 209 } : Room) 1 6 [.ref a, .int x] h (sQ9 h (chgA g 102 x 0) (chgP h a lo 102 x 0 g us sn off rs dt cs t o)) (sX9 h (chgA g 102 x 0) (chgP h a lo 102 x 0 g us sn off rs dt cs t o)) := by
  refine zM_start hzs hst (by decide) (Nat.le_of_ble_eq_true rfl) (fun X C G F I => ?_)
  show zV X 0 0 _ 0 [(0, _), (1, _)] []
  refine zV.aload_n C dX9_fold_0 rfl rfl ?_
  refine zV.bi (v := nI 102) C dX9_fold_1 (by decide) ?_
  refine zV.iload_n C dX9_fold_3 rfl ?_
  refine zV.ic (v := nI 0) C dX9_fold_4 (by decide) ?_
  refine zV.callV (n := 3) C G dX9_fold_5 (s_change hzs hst h a lo m 102 x 0 g us sn off rs dt cs t o (by unfold isD; omega) q hm hb9) rfl ⟨cd_X9_change, lk_X9_66, im_X9_change, se_X9_X9_change, in_X9⟩ ⟨⟨by decide, by decide⟩, by decide⟩ rfl rfl rfl q.1.1 ⟨rfl, by decide⟩ (sQ_k C F chgA_i dX9_fold_8 rfl) (sX_k C F ⟨by decide, by decide⟩)
set_option maxHeartbeats 4000000 in
set_option maxRecDepth 100000 in
theorem s_unfold {l : Launch} {E : zG} (hzs : zS E) (hst : l.stackTraces = false) (h : zH) (a lo m : Nat) (x : Int32) (g : zGd) (us : List zGd) (sn : Option zGd) (off rs dt cs : Int32) (t o : List Nat) (q : zXa h a lo g us sn off rs dt cs t o) (hm : gR m g) (hb9 : m + 3000 ≤ big) : zMet l E yX9_unfold cX9_unfold 2 (some .int) ({ frames := 7, cells := 1, slots := 6, locals := 209 } : Room) 1 6 [.ref a, .int x] h (sQ9 h (chgA g 117 x 0) (chgP h a lo 117 x 0 g us sn off rs dt cs t o)) (sX9 h (chgA g 117 x 0) (chgP h a lo 117 x 0 g us sn off rs dt cs t o)) := by
  refine zM_start hzs hst (by decide) (Nat.le_of_ble_eq_true rfl) (fun X C G F I => ?_)
  show zV X 0 0 _ 0 [(0, _), (1, _)] []
  refine zV.aload_n C dX9_unfold_0 rfl rfl ?_
  refine zV.bi (v := nI 117) C dX9_unfold_1 (by decide) ?_
  refine zV.iload_n C dX9_unfold_3 rfl ?_
  refine zV.ic (v := nI 0) C dX9_unfold_4 (by decide) ?_
  refine zV.callV (n := 3) C G dX9_unfold_5 (s_change hzs hst h a lo m 117 x 0 g us sn off rs dt cs t o (by unfold isD; omega) q hm hb9) rfl ⟨cd_X9_change, lk_X9_66, im_X9_change, se_X9_X9_change, in_X9⟩ ⟨⟨by decide, by decide⟩, by decide⟩ rfl rfl rfl q.1.1 ⟨rfl, by decide⟩ (sQ_k C F chgA_i dX9_unfold_8 rfl) (sX_k C F ⟨by decide, by decide⟩)
set_option maxHeartbeats 4000000 in
set_option maxRecDepth 100000 in
theorem s_moveChair {l : Launch} {E : zG} (hzs : zS E) (hst : l.stackTraces = false) (h : zH) (a lo m : Nat) (x y : Int32) (g : zGd) (us : List zGd) (sn : Option zGd) (off rs dt cs : Int32) (t o : List Nat) (q : zXa h a lo g us sn off rs dt cs t o) (hm : gR m g) (hb9 : m + 3000 ≤ big) : zMet l E yX9_moveChair cX9_moveChair 3 (some .int) ({ frames := 7, cells := 1, slots := 6, locals := 209 } : Room) 1 6 [.ref a, .int x, .int y] h (sQ9 h (chgA g 109 x y) (chgP h a lo 109 x y g us sn off rs dt cs t o)) (sX9 h (chgA g 109 x y) (chgP h a lo 109 x y g us sn off rs dt cs t o)) := by
  refine zM_start hzs hst (by decide) (Nat.le_of_ble_eq_true rfl) (fun X C G F I => ?_)
  show zV X 0 0 _ 0 [(0, _), (1, _), (2, _)] []
  refine zV.aload_n C dX9_moveChair_0 rfl rfl ?_
  refine zV.bi (v := nI 109) C dX9_moveChair_1 (by decide) ?_
  refine zV.iload_n C dX9_moveChair_3 rfl ?_
  refine zV.iload_n C dX9_moveChair_4 rfl ?_
  refine zV.callV (n := 3) C G dX9_moveChair_5 (s_change hzs hst h a lo m 109 x y g us sn off rs dt cs t o (by unfold isD; omega) q hm hb9) rfl ⟨cd_X9_change, lk_X9_66, im_X9_change, se_X9_X9_change, in_X9⟩ ⟨⟨by decide, by decide⟩, by decide⟩ rfl rfl rfl q.1.1 ⟨rfl, by decide⟩ (sQ_k C F chgA_i dX9_moveChair_8 rfl) (sX_k C F ⟨by decide, by decide⟩)
set_option maxHeartbeats 4000000 in
set_option maxRecDepth 100000 in
theorem s_migrate {l : Launch} {E : zG} (hzs : zS E) (hst : l.stackTraces = false) (h : zH) (a lo m : Nat) (x y : Int32) (g : zGd) (us : List zGd) (sn : Option zGd) (off rs dt cs : Int32) (t o : List Nat) (q : zXa h a lo g us sn off rs dt cs t o) (hm : gR m g) (hb9 : m + 3000 ≤ big) : zMet l E yX9_migrate cX9_migrate 3 (some .int) ({ frames := 7, cells := 1, slots := 6, locals := 209 } : Room) 1 6 [.ref a, .int x, .int y] h (sQ9 h (chgA g 103 x y) (chgP h a lo 103 x y g us sn off rs dt cs t o)) (sX9 h (chgA g 103 x y) (chgP h a lo 103 x y g us sn off rs dt cs t o)) := by
  refine zM_start hzs hst (by decide) (Nat.le_of_ble_eq_true rfl) (fun X C G F I => ?_)
  show zV X 0 0 _ 0 [(0, _), (1, _), (2, _)] []
  refine zV.aload_n C dX9_migrate_0 rfl rfl ?_
  refine zV.bi (v := nI 103) C dX9_migrate_1 (by decide) ?_
  refine zV.iload_n C dX9_migrate_3 rfl ?_
  refine zV.iload_n C dX9_migrate_4 rfl ?_
  refine zV.callV (n := 3) C G dX9_migrate_5 (s_change hzs hst h a lo m 103 x y g us sn off rs dt cs t o (by unfold isD; omega) q hm hb9) rfl ⟨cd_X9_change, lk_X9_66, im_X9_change, se_X9_X9_change, in_X9⟩ ⟨⟨by decide, by decide⟩, by decide⟩ rfl rfl rfl q.1.1 ⟨rfl, by decide⟩ (sQ_k C F chgA_i dX9_migrate_8 rfl) (sX_k C F ⟨by decide, by decide⟩)
set_option maxHeartbeats 4000000 in
set_option maxRecDepth 100000 in
theorem s_oilChair {l : Launch} {E : zG} (hzs : zS E) (hst : l.stackTraces = false) (h : zH) (a lo m : Nat) (x : Int32) (g : zGd) (us : List zGd) (sn : Option zGd) (off rs dt cs : Int32) (t o : List Nat) (q : zXa h a lo g us sn off rs dt cs t o) (hm : gR m g) (hb9 : m + 3000 ≤ big) : zMet l E yX9_oilChair cX9_oilChair 2 (some .int) ({ frames := 7, cells := 1, slots := 6, locals := 209 } : Room) 1 6 [.ref a, .int x] h (sQ9 h (chgA g 111 x 0) (chgP h a lo 111 x 0 g us sn off rs dt cs t o)) (sX9 h (chgA g 111 x 0) (chgP h a lo 111 x 0 g us sn off rs dt cs t o)) := by
  refine zM_start hzs hst (by decide) (Nat.le_of_ble_eq_true rfl) (fun X C G F I => ?_)
  show zV X 0 0 _ 0 [(0, _), (1, _)] []
  refine zV.aload_n C dX9_oilChair_0 rfl rfl ?_
  refine zV.bi (v := nI 111) C dX9_oilChair_1 (by decide) ?_
  refine zV.iload_n C dX9_oilChair_3 rfl ?_
  refine zV.ic (v := nI 0) C dX9_oilChair_4 (by decide) ?_
  refine zV.callV (n := 3) C G dX9_oilChair_5 (s_change hzs hst h a lo m 111 x 0 g us sn off rs dt cs t o (by unfold isD; omega) q hm hb9) rfl ⟨cd_X9_change, lk_X9_66, im_X9_change, se_X9_X9_change, in_X9⟩ ⟨⟨by decide, by decide⟩, by decide⟩ rfl rfl rfl q.1.1 ⟨rfl, by decide⟩ (sQ_k C F chgA_i dX9_oilChair_8 rfl) (sX_k C F ⟨by decide, by decide⟩)
set_option maxHeartbeats 4000000 in
set_option maxRecDepth 100000 in
theorem s_addOil {l : Launch} {E : zG} (hzs : zS E) (hst : l.stackTraces = false) (h : zH) (a lo m : Nat) (x : Int32) (g : zGd) (us : List zGd) (sn : Option zGd) (off rs dt cs : Int32) (t o : List Nat) (q : zXa h a lo g us sn off rs dt cs t o) (hm : gR m g) (hb9 : m + 3000 ≤ big) : zMet l E yX9_addOil cX9_addOil 2 (some .int) ({ frames := 7, cells := 1, slots := 6, locals := 209 } : Room) 1 6 [.ref a, .int x] h (sQ9 h (chgA g 97 x 0) (chgP h a lo 97 x 0 g us sn off rs dt cs t o)) (sX9 h (chgA g 97 x 0) (chgP h a lo 97 x 0 g us sn off rs dt cs t o)) := by
  refine zM_start hzs hst (by decide) (Nat.le_of_ble_eq_true rfl) (fun X C G F I => ?_)
  show zV X 0 0 _ 0 [(0, _), (1, _)] []
  refine zV.aload_n C dX9_addOil_0 rfl rfl ?_
  refine zV.bi (v := nI 97) C dX9_addOil_1 (by decide) ?_
  refine zV.iload_n C dX9_addOil_3 rfl ?_
  refine zV.ic (v := nI 0) C dX9_addOil_4 (by decide) ?_
  refine zV.callV (n := 3) C G dX9_addOil_5 (s_change hzs hst h a lo m 97 x 0 g us sn off rs dt cs t o (by unfold isD; omega) q hm hb9) rfl ⟨cd_X9_change, lk_X9_66, im_X9_change, se_X9_X9_change, in_X9⟩ ⟨⟨by decide, by decide⟩, by decide⟩ rfl rfl rfl q.1.1 ⟨rfl, by decide⟩ (sQ_k C F chgA_i dX9_addOil_8 rfl) (sX_k C F ⟨by decide, by decide⟩)
set_option maxHeartbeats 4000000 in
set_option maxRecDepth 100000 in
theorem s_passDays {l : Launch} {E : zG} (hzs : zS E) (hst : l.stackTraces = false) (h : zH) (a lo m : Nat) (x : Int32) (g : zGd) (us : List zGd) (sn : Option zGd) (off rs dt cs : Int32) (t o : List Nat) (q : zXa h a lo g us sn off rs dt cs t o) (hm : gR m g) (hb9 : m + 3000 ≤ big) : zMet l E yX9_passDays cX9_passDays 2 (some .int) ({ frames := 7, cells := 1, slots := 6, locals := 209 } : Room) 1 6 [.ref a, .int x] h (sQ9 h (chgA g 100 x 0) (chgP h a lo 100 x 0 g us sn off rs dt cs t o)) (sX9 h (chgA g 100 x 0) (chgP h a lo 100 x 0 g us sn off rs dt cs t o)) := by
  refine zM_start hzs hst (by decide) (Nat.le_of_ble_eq_true rfl) (fun X C G F I => ?_)
  show zV X 0 0 _ 0 [(0, _), (1, _)] []
  refine zV.aload_n C dX9_passDays_0 rfl rfl ?_
  refine zV.bi (v := nI 100) C dX9_passDays_1 (by decide) ?_
  refine zV.iload_n C dX9_passDays_3 rfl ?_
  refine zV.ic (v := nI 0) C dX9_passDays_4 (by decide) ?_
  refine zV.callV (n := 3) C G dX9_passDays_5 (s_change hzs hst h a lo m 100 x 0 g us sn off rs dt cs t o (by unfold isD; omega) q hm hb9) rfl ⟨cd_X9_change, lk_X9_66, im_X9_change, se_X9_X9_change, in_X9⟩ ⟨⟨by decide, by decide⟩, by decide⟩ rfl rfl rfl q.1.1 ⟨rfl, by decide⟩ (sQ_k C F chgA_i dX9_passDays_8 rfl) (sX_k C F ⟨by decide, by decide⟩)
def rjA (rs v : Int32) : zAn := if rs = 0 then .inl NSE else .inr (.int v)
set_option maxHeartbeats 4000000 in
set_option maxRecDepth 100000 in
theorem s_demandRejection {l : Launch} {E : zG} (hzs : zS E) (hst : l.stackTraces = false) (h : zH) (a lo : Nat) (g : zGd) (us : List zGd) (sn : Option zGd) (off rs dt cs : Int32) (t o : List Nat) (q : zXa h a lo g us sn off rs dt cs t o) : zMet l E yX9_demandRejection cX9_demandRejection 1 none ({ frames := 6, cells := 1, slots := 6, locals := 95 } : Room) 1 6 [.ref a] h (fun r h' => (r = none ∧ h' = h) ∧ rs ≠ 0) (fun Ex h' => Ex = NSE ∧ h' = h ∧ rs = 0) := by
  refine zM_start hzs hst (by decide) (Nat.le_of_ble_eq_true rfl) (fun X C G F I => ?_)
  show zV X 0 0 _ 0 [(0, _)] []
  refine zV.aload_n C dX9_demandRejection_0 rfl rfl ?_
  refine zV.gIv 395 (k := 11) C dX9_demandRejection_1 zcl_X9 (by decide) rfl lk_X9_304 q.1.1 rfl (q.2.2.2.2.2.2.2.2.1.2.2.1) ?_
  refine zV.if_ne (tgt := 18) C dX9_demandRejection_4 (by decide) (fun q4 => ?_) (fun q4 => ?_)
  · refine zV.vret C F dX9_demandRejection_18 rfl ?_
    exact ⟨⟨rfl, rfl⟩, q4⟩
  · exact zV.throwXW _ C G dX9_demandRejection_7 dX9_demandRejection_10 dX9_demandRejection_11 dX9_demandRejection_14 dX9_demandRejection_17 hz_nse lk_X9_99 in_java_util_NoSuchElementException hs_343 hp_nse zUW rfl (zVX.out C F (⟨rfl, rfl, q4⟩) ⟨by decide, by decide⟩)
set_option maxHeartbeats 4000000 in
set_option maxRecDepth 100000 in
theorem s_rejectionReason {l : Launch} {E : zG} (hzs : zS E) (hst : l.stackTraces = false) (h : zH) (a lo : Nat) (g : zGd) (us : List zGd) (sn : Option zGd) (off rs dt cs : Int32) (t o : List Nat) (q : zXa h a lo g us sn off rs dt cs t o) : zMet l E yX9_rejectionReason cX9_rejectionReason 1 (some .int) ({ frames := 7, cells := 1, slots := 6, locals := 115 } : Room) 1 6 [.ref a] h (aQ h (rjA rs rs)) (aX h (rjA rs rs)) := by
  refine zM_start hzs hst (by decide) (Nat.le_of_ble_eq_true rfl) (fun X C G F I => ?_)
  show zV X 0 0 _ 0 [(0, _)] []
  refine zV.aload_n C dX9_rejectionReason_0 rfl rfl ?_
  refine zV.callV (n := 0) C G dX9_rejectionReason_1 (s_demandRejection hzs hst h a lo g us sn off rs dt cs t o q) rfl ⟨cd_X9_demandRejection, lk_X9_301, im_X9_demandRejection, se_X9_X9_demandRejection, in_X9⟩ ⟨⟨by decide, by decide⟩, by decide⟩ rfl rfl rfl q.1.1 ⟨rfl, by decide⟩ (drj_ok (fun e9 => ?_)) (fun Ex h9 q9 _ => by
  obtain ⟨rfl, rfl, e9⟩ := q9
  exact zVX.out C F ⟨if_pos e9, rfl⟩ ⟨by decide, by decide⟩)
  refine zV.aload_n C dX9_rejectionReason_4 rfl rfl ?_
  refine zV.gIv 395 (k := 11) C dX9_rejectionReason_5 zcl_X9 (by decide) rfl lk_X9_304 q.1.1 rfl (q.2.2.2.2.2.2.2.2.1.2.2.1) ?_
  refine zV.iret C F dX9_rejectionReason_8 rfl ?_
  exact aQ_of (if_neg e9)
set_option maxHeartbeats 4000000 in
set_option maxRecDepth 100000 in
theorem s_rejectionDetail {l : Launch} {E : zG} (hzs : zS E) (hst : l.stackTraces = false) (h : zH) (a lo : Nat) (g : zGd) (us : List zGd) (sn : Option zGd) (off rs dt cs : Int32) (t o : List Nat) (q : zXa h a lo g us sn off rs dt cs t o) : zMet l E yX9_rejectionDetail cX9_rejectionDetail 1 (some .int) ({ frames := 7, cells := 1, slots := 6, locals := 115 } : Room) 1 6 [.ref a] h (aQ h (rjA rs dt)) (aX h (rjA rs dt)) := by
  refine zM_start hzs hst (by decide) (Nat.le_of_ble_eq_true rfl) (fun X C G F I => ?_)
  show zV X 0 0 _ 0 [(0, _)] []
  refine zV.aload_n C dX9_rejectionDetail_0 rfl rfl ?_
  refine zV.callV (n := 0) C G dX9_rejectionDetail_1 (s_demandRejection hzs hst h a lo g us sn off rs dt cs t o q) rfl ⟨cd_X9_demandRejection, lk_X9_301, im_X9_demandRejection, se_X9_X9_demandRejection, in_X9⟩ ⟨⟨by decide, by decide⟩, by decide⟩ rfl rfl rfl q.1.1 ⟨rfl, by decide⟩ (drj_ok (fun e9 => ?_)) (fun Ex h9 q9 _ => by
  obtain ⟨rfl, rfl, e9⟩ := q9
  exact zVX.out C F ⟨if_pos e9, rfl⟩ ⟨by decide, by decide⟩)
  refine zV.aload_n C dX9_rejectionDetail_4 rfl rfl ?_
  refine zV.gIv 396 (k := 12) C dX9_rejectionDetail_5 zcl_X9 (by decide) rfl lk_X9_307 q.1.1 rfl (q.2.2.2.2.2.2.2.2.1.2.2.2.1) ?_
  refine zV.iret C F dX9_rejectionDetail_8 rfl ?_
  exact aQ_of (if_neg e9)
def csA (rs cs : Int32) : zAn := if rs = nI 11 then .inr (.int cs) else .inl NSE
set_option maxHeartbeats 4000000 in
set_option maxRecDepth 100000 in
theorem s_causeReason {l : Launch} {E : zG} (hzs : zS E) (hst : l.stackTraces = false) (h : zH) (a lo : Nat) (g : zGd) (us : List zGd) (sn : Option zGd) (off rs dt cs : Int32) (t o : List Nat) (q : zXa h a lo g us sn off rs dt cs t o) : zMet l E yX9_causeReason cX9_causeReason 1 (some .int) ({ frames := 6, cells := 1, slots := 6, locals := 95 } : Room) 1 6 [.ref a] h (aQ h (csA rs cs)) (aX h (csA rs cs)) := by
  refine zM_start hzs hst (by decide) (Nat.le_of_ble_eq_true rfl) (fun X C G F I => ?_)
  show zV X 0 0 _ 0 [(0, _)] []
  refine zV.aload_n C dX9_causeReason_0 rfl rfl ?_
  refine zV.gIv 395 (k := 11) C dX9_causeReason_1 zcl_X9 (by decide) rfl lk_X9_304 q.1.1 rfl (q.2.2.2.2.2.2.2.2.1.2.2.1) ?_
  refine zV.bi (v := nI 11) C dX9_causeReason_4 (by decide) ?_
  refine zV.icmp_eq (tgt := 20) C dX9_causeReason_6 (by decide) (fun q6 => ?_) (fun q6 => ?_)
  · refine zV.aload_n C dX9_causeReason_20 rfl rfl ?_
    refine zV.gIv 397 (k := 13) C dX9_causeReason_21 zcl_X9 (by decide) rfl lk_X9_312 q.1.1 rfl (q.2.2.2.2.2.2.2.2.1.2.2.2.2) ?_
    refine zV.iret C F dX9_causeReason_24 rfl ?_
    exact aQ_of (if_pos q6)
  · exact zV.throwXW _ C G dX9_causeReason_9 dX9_causeReason_12 dX9_causeReason_13 dX9_causeReason_16 dX9_causeReason_19 hz_nse lk_X9_99 in_java_util_NoSuchElementException hs_310 hp_nse zUW rfl (zVX.out C F (⟨if_neg q6, rfl⟩) ⟨by decide, by decide⟩)
set_option maxHeartbeats 4000000 in
set_option maxRecDepth 100000 in
theorem s_syntaxErrorOffset {l : Launch} {E : zG} (hzs : zS E) (hst : l.stackTraces = false) (h : zH) (a lo : Nat) (g : zGd) (us : List zGd) (sn : Option zGd) (off rs dt cs : Int32) (t o : List Nat) (q : zXa h a lo g us sn off rs dt cs t o) : zMet l E yX9_syntaxErrorOffset cX9_syntaxErrorOffset 1 (some .int) ({ frames := 7, cells := 1, slots := 6, locals := 115 } : Room) 1 6 [.ref a] h (aQ h (elA off)) (aX h (elA off)) := by
  refine zM_start hzs hst (by decide) (Nat.le_of_ble_eq_true rfl) (fun X C G F I => ?_)
  show zV X 0 0 _ 0 [(0, _)] []
  refine zV.aload_n C dX9_syntaxErrorOffset_0 rfl rfl ?_
  refine zV.gIv 394 (k := 10) C dX9_syntaxErrorOffset_1 zcl_X9 (by decide) rfl lk_X9_60 q.1.1 rfl (q.2.2.2.2.2.2.2.2.1.2.1) ?_
  refine zV.callS (n := 1) C G dX9_syntaxErrorOffset_4 (s_demandElement hzs hst h (off)) rfl ⟨cd_X9_demandElement, lk_X9_88, st_X9_demandElement, in_X9⟩ ⟨⟨by decide, by decide⟩, by decide⟩ rfl rfl rfl (elA_k C F (rfl) dX9_syntaxErrorOffset_7 rfl) (elA_x C F (rfl) ⟨by decide, by decide⟩)
/-- the last of a list, and what is ahead of it -/
theorem last9 {α : Type} {us : List α} (h : us ≠ []) : ∃ vs g, us = vs ++ [g] := ⟨us.dropLast, us.getLast h, (List.dropLast_concat_getLast h).symm⟩
def unA (us : List zGd) : zAn := if us = [] then .inl ISE else .inr (.int (nI (us.length - 1)))
def unP (h : zH) (a lo : Nat) (g : zGd) (us : List zGd) (sn : Option zGd) (off rs dt cs : Int32) (t o : List Nat) (h' : zH) : Prop := zXf h h' a lo ∧ match us.getLast? with
  | none => zXa h' a lo g us sn off rs dt cs t o
  | some g' => zXa h' a lo g' us.dropLast sn off rs dt cs t o
set_option maxHeartbeats 4000000 in
set_option maxRecDepth 100000 in
theorem s_undo {l : Launch} {E : zG} (hzs : zS E) (hst : l.stackTraces = false) (h : zH) (a lo : Nat) (g : zGd) (us : List zGd) (sn : Option zGd) (off rs dt cs : Int32) (t o : List Nat) (q : zXa h a lo g us sn off rs dt cs t o) : zMet l E yX9_undo cX9_undo 1 (some .int) ({ frames := 6, cells := 1, slots := 6, locals := 185 } : Room) 1 6 [.ref a] h (sQ9 h (unA us) (unP h a lo g us sn off rs dt cs t o)) (sX9 h (unA us) (unP h a lo g us sn off rs dt cs t o)) := by
  refine zM_start hzs hst (by decide) (Nat.le_of_ble_eq_true rfl) (fun X C G F I => ?_)
  show zV X 0 0 _ 0 [(0, _)] []
  obtain ⟨hx, ⟨hg, hf, hb⟩, hs, hH, hI, hJ, hin, hou, hn, hlo, hl9⟩ := id q
  refine zV.aload_n C dX9_undo_0 rfl rfl ?_
  refine zV.gR 388 (k := 4) C dX9_undo_1 zcl_X9 (by decide) rfl lk_X9_28 (hx.1) rfl (hx.2.2.2.2.2.1) ?_
  refine zV.gNIv 225 (k := 1) C dX9_undo_4 zcl_X4 (by decide) rfl lk_X9_315 (hH.1.1) rfl (hH.2.2.1) ?_
  refine zV.if_ne (tgt := 21) C dX9_undo_7 (by decide) (fun q7 => ?_) (fun q7 => ?_)
  · have e : us ≠ [] := fun z => q7 (by rw [z]; rfl)
    obtain ⟨vs, g9, rfl⟩ := last9 e
    refine zV.aload_n C dX9_undo_21 rfl rfl ?_
    refine zV.gR 388 (k := 4) C dX9_undo_22 zcl_X9 (by decide) rfl lk_X9_28 (hx.1) rfl (hx.2.2.2.2.2.1) ?_
    refine zV.aload_n C dX9_undo_25 rfl rfl ?_
    refine zV.gR 384 (k := 0) C dX9_undo_26 zcl_X9 (by decide) rfl lk_X9_10 (hx.1) rfl (hx.2.1) ?_
    refine zV.callV (n := 1) C G dX9_undo_29 (s_takeBack hzs hst h (a + 85) (a + 1) vs g9 hH (zGa_t hg) (by omega)) rfl ⟨cd_X4_takeBack, lk_X9_318, im_X4_takeBack, se_X4_X4_takeBack, in_X4⟩ ⟨⟨by decide, by decide⟩, by decide⟩ rfl rfl rfl (hH.1.1) ⟨rfl, by decide⟩ (zafRv (fun h9 ⟨g7, k7, f7⟩ => ?_)) (zno)
    have f6 : zFq h (sI h 225 (a + 85) (nI vs.length)) (a + 85) (a + 255) := (zFq.refl h _ _).sI (Nat.le_refl _) (by omega)
    obtain ⟨-, hl7⟩ := hH.2.2.2.2 vs.length g9 List.getElem?_concat_length
    have k6 := zHi_n (vs := vs) (n := vs.length) hH rfl (by have := hH.2.2.2.1; rw [List.length_append] at this; omega) (fun k c hc => by rw [List.getElem?_append_left (List.getElem?_eq_some_iff.mp hc).1]; exact hc)
    have q := zXa_g (zXa_h q f6 k6) f7.q g7 hl7
    clear hx hg hf hb hs hH hI hJ hin hou hn
    obtain ⟨hx, ⟨hg, hf, hb⟩, hs, hH, hI, hJ, hin, hou, hn, hlo2, hl92⟩ := id q
    refine zV.aload_n C dX9_undo_32 rfl rfl ?_
    refine zV.gR 388 (k := 4) C dX9_undo_33 zcl_X9 (by decide) rfl lk_X9_28 (hx.1) rfl (hx.2.2.2.2.2.1) ?_
    refine zV.gNIv 225 (k := 1) C dX9_undo_36 zcl_X4 (by decide) rfl lk_X9_315 (hH.1.1) rfl (hH.2.2.1) ?_
    refine zV.iret C F dX9_undo_39 rfl ?_
    refine sQ_of (by unfold unA; rw [if_neg e, List.length_append]; rfl) ⟨(zXf.q f6 (by omega) (by omega)).trans (zXf.q f7.q (by omega) (by omega)), ?_⟩
    rw [List.getLast?_concat, List.dropLast_concat]
    exact q
  · have e : us = [] := List.length_eq_zero_iff.mp ((n0 (by have := hH.2.2.2.1; omega)).mp q7)
    exact zV.throwXW _ C G dX9_undo_10 dX9_undo_13 dX9_undo_14 dX9_undo_17 dX9_undo_20 hz_ise lk_X9_274 in_java_lang_IllegalStateException hs_316 hp_ise zUW rfl (zVX.out C F (⟨if_pos e, zXf.refl h a lo, by rw [e]; rw [e] at q; exact q⟩) ⟨by decide, by decide⟩)
set_option maxHeartbeats 4000000 in
set_option maxRecDepth 100000 in
theorem s_saveSnapshot {l : Launch} {E : zG} (hzs : zS E) (hst : l.stackTraces = false) (h : zH) (a lo : Nat) (g : zGd) (us : List zGd) (sn : Option zGd) (off rs dt cs : Int32) (t o : List Nat) (q : zXa h a lo g us sn off rs dt cs t o) : zMet l E yX9_saveSnapshot cX9_saveSnapshot 1 (some .int) ({ frames := 4, cells := 0, slots := 0, locals := 164 } : Room) 0 0 [.ref a] h (fun r h' => r = some (.int (nI (gC g).length)) ∧ zXf h h' a lo ∧ zXa h' a lo g us (some g) off rs dt cs t o) (fun _ _ => False) := by
  refine zM_start hzs hst (by decide) (Nat.le_of_ble_eq_true rfl) (fun X C G F I => ?_)
  show zV X 0 0 _ 0 [(0, _)] []
  obtain ⟨hx, ⟨hg, hf, hb⟩, hs, hH, hI, hJ, hin, hou, hn, hlo, hl9⟩ := id q
  refine zV.aload_n C dX9_saveSnapshot_0 rfl rfl ?_
  refine zV.gR 387 (k := 3) C dX9_saveSnapshot_1 zcl_X9 (by decide) rfl lk_X9_22 (hx.1) rfl (hx.2.2.2.2.1) ?_
  refine zV.aload_n C dX9_saveSnapshot_4 rfl rfl ?_
  refine zV.gR 384 (k := 0) C dX9_saveSnapshot_5 zcl_X9 (by decide) rfl lk_X9_10 (hx.1) rfl (hx.2.1) ?_
  refine zV.callV (n := 1) C G dX9_saveSnapshot_8 (s_become hzs hst h (a + 64) (a + 1) g hs.1 hg hl9 (by omega)) rfl ⟨cd_X3_become, lk_X9_191, im_X3_become, se_X3_X3_become, in_X3⟩ ⟨⟨by decide, by decide⟩, by decide⟩ rfl rfl rfl hs.1.1.1 ⟨rfl, by decide⟩ (zafRv (fun h9 ⟨g7, f7⟩ => ?_)) (zno)
  refine zV.aload_n C dX9_saveSnapshot_11 rfl rfl ?_
  refine zV.ic (v := nI 1) C dX9_saveSnapshot_12 (by decide) ?_
  refine zV.pI 393 (k := 9) C dX9_saveSnapshot_13 zcl_X9 (by decide) rfl lk_X9_321 rfl ((f7.q.e (by omega)).1.trans hx.1) rfl ⟨rfl, rfl⟩ ?_
  have q9 := zXa_s q f7.q g7 hl9
  clear hx hg hf hb hs hH hI hJ hin hou hn
  obtain ⟨hx, ⟨hg, hf, hb⟩, hs, hH, hI, hJ, hin, hou, hn, hlo2, hl92⟩ := id q9
  refine zV.aload_n C dX9_saveSnapshot_16 rfl rfl ?_
  refine zV.gR 384 (k := 0) C dX9_saveSnapshot_17 zcl_X9 (by decide) rfl lk_X9_10 (hx.1) rfl (hx.2.1) ?_
  refine zV.gNIv 196 (k := 4) C dX9_saveSnapshot_20 zcl_X3 (by decide) rfl lk_X9_203 (hg.1.1) rfl ((zGa_len hg)) ?_
  refine zV.iret C F dX9_saveSnapshot_23 rfl ?_
  exact ⟨rfl, (zXf.q f7.q (by omega) (by omega)).trans (zXf.q ((zFq.refl h9 a (a + 1)).sI (Nat.le_refl _) (Nat.lt_succ_self _)) (by omega) (by omega)), q9⟩
def rsA (sn : Option zGd) : zAn := match sn with
  | none => .inl ISE
  | some s => .inr (.int (nI (gC s).length))
def rsP (h : zH) (a lo : Nat) (g : zGd) (us : List zGd) (sn : Option zGd) (off rs dt cs : Int32) (t o : List Nat) (h' : zH) : Prop := zXf h h' a lo ∧ match sn with
  | none => zXa h' a lo g us none off rs dt cs t o
  | some s => zXa h' a lo s [] (some s) off rs dt cs t o
set_option maxHeartbeats 4000000 in
set_option maxRecDepth 100000 in
theorem s_restoreSnapshot {l : Launch} {E : zG} (hzs : zS E) (hst : l.stackTraces = false) (h : zH) (a lo : Nat) (g : zGd) (us : List zGd) (sn : Option zGd) (off rs dt cs : Int32) (t o : List Nat) (q : zXa h a lo g us sn off rs dt cs t o) : zMet l E yX9_restoreSnapshot cX9_restoreSnapshot 1 (some .int) ({ frames := 6, cells := 1, slots := 6, locals := 164 } : Room) 1 6 [.ref a] h (sQ9 h (rsA sn) (rsP h a lo g us sn off rs dt cs t o)) (sX9 h (rsA sn) (rsP h a lo g us sn off rs dt cs t o)) := by
  refine zM_start hzs hst (by decide) (Nat.le_of_ble_eq_true rfl) (fun X C G F I => ?_)
  show zV X 0 0 _ 0 [(0, _)] []
  obtain ⟨hx, ⟨hg, hf, hb⟩, hs, hH, hI, hJ, hin, hou, hn, hlo, hl9⟩ := id q
  rcases sn with _ | s9
  · refine zV.aload_n C dX9_restoreSnapshot_0 rfl rfl ?_
    refine zV.gIv 393 (k := 9) C dX9_restoreSnapshot_1 zcl_X9 (by decide) rfl lk_X9_321 (hx.1) rfl (hn.1) ?_
    refine zV.if_ne (tgt := 18) C dX9_restoreSnapshot_4 (by decide) (fun q4 => ?_) (fun q4 => ?_)
    · exact absurd rfl q4
    · exact zV.throwXW _ C G dX9_restoreSnapshot_7 dX9_restoreSnapshot_10 dX9_restoreSnapshot_11 dX9_restoreSnapshot_14 dX9_restoreSnapshot_17 hz_ise lk_X9_274 in_java_lang_IllegalStateException hs_324 hp_ise zUW rfl (zVX.out C F (⟨rfl, zXf.refl h a lo, q⟩) ⟨by decide, by decide⟩)
  · refine zV.aload_n C dX9_restoreSnapshot_0 rfl rfl ?_
    refine zV.gIv 393 (k := 9) C dX9_restoreSnapshot_1 zcl_X9 (by decide) rfl lk_X9_321 (hx.1) rfl (hn.1) ?_
    refine zV.if_ne (tgt := 18) C dX9_restoreSnapshot_4 (by decide) (fun q4 => ?_) (fun q4 => ?_)
    · refine zV.aload_n C dX9_restoreSnapshot_18 rfl rfl ?_
      refine zV.gR 384 (k := 0) C dX9_restoreSnapshot_19 zcl_X9 (by decide) rfl lk_X9_10 (hx.1) rfl (hx.2.1) ?_
      refine zV.aload_n C dX9_restoreSnapshot_22 rfl rfl ?_
      refine zV.gR 387 (k := 3) C dX9_restoreSnapshot_23 zcl_X9 (by decide) rfl lk_X9_22 (hx.1) rfl (hx.2.2.2.2.1) ?_
      refine zV.callV (n := 1) C G dX9_restoreSnapshot_26 (s_become hzs hst h (a + 1) (a + 64) s9 (zGa_t hg) (hs.2 s9 rfl).1 (hs.2 s9 rfl).2 (by omega)) rfl ⟨cd_X3_become, lk_X9_191, im_X3_become, se_X3_X3_become, in_X3⟩ ⟨⟨by decide, by decide⟩, by decide⟩ rfl rfl rfl (hg.1.1) ⟨rfl, by decide⟩ (zafRv (fun h9 ⟨g7, f7⟩ => ?_)) (zno)
      have q := zXa_g q f7.q g7 (hs.2 s9 rfl).2
      clear hx hg hf hb hs hH hI hJ hin hou hn
      obtain ⟨hx, ⟨hg, hf, hb⟩, hs, hH, hI, hJ, hin, hou, hn, hlo2, hl92⟩ := id q
      refine zV.aload_n C dX9_restoreSnapshot_29 rfl rfl ?_
      refine zV.gR 388 (k := 4) C dX9_restoreSnapshot_30 zcl_X9 (by decide) rfl lk_X9_28 (hx.1) rfl (hx.2.2.2.2.2.1) ?_
      refine zV.callV (n := 0) C G dX9_restoreSnapshot_33 (s_forget hzs hst h9 (a + 85) hH.1.1) rfl ⟨cd_X4_forget, lk_X9_326, im_X4_forget, se_X4_X4_forget, in_X4⟩ ⟨⟨by decide, by decide⟩, by decide⟩ rfl rfl rfl (hH.1.1) ⟨rfl, by decide⟩ (zafv ?_) (zno)
      have f8 : zFq h9 (sI h9 225 (a + 85) (nI 0)) (a + 85) (a + 255) := (zFq.refl h9 _ _).sI (Nat.le_refl _) (by omega)
      have q := zXa_h q f8 (zHi_n (vs := []) (n := 0) hH rfl (Nat.zero_le _) (fun k c hc => by cases k <;> cases hc))
      clear hx hg hf hb hs hH hI hJ hin hou hn
      obtain ⟨hx, ⟨hg, hf, hb⟩, hs, hH, hI, hJ, hin, hou, hn, hlo3, hl93⟩ := id q
      refine zV.aload_n C dX9_restoreSnapshot_36 rfl rfl ?_
      refine zV.gR 384 (k := 0) C dX9_restoreSnapshot_37 zcl_X9 (by decide) rfl lk_X9_10 (hx.1) rfl (hx.2.1) ?_
      refine zV.gNIv 196 (k := 4) C dX9_restoreSnapshot_40 zcl_X3 (by decide) rfl lk_X9_203 (hg.1.1) rfl ((zGa_len hg)) ?_
      refine zV.iret C F dX9_restoreSnapshot_43 rfl ?_
      exact sQ_of rfl ⟨(zXf.q f7.q (by omega) (by omega)).trans (zXf.q f8 (by omega) (by omega)), q⟩
    · exact absurd (show nI 1 = 0 from q4) (by decide)
