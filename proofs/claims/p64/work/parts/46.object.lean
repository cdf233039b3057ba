/-! ChairMigration: the object, and what its calls share -/
def IOB : String := "java/lang/IndexOutOfBoundsException"
def IAE : String := "java/lang/IllegalArgumentException"
def ISE : String := "java/lang/IllegalStateException"
def UOE : String := "java/lang/UnsupportedOperationException"
def NSE : String := "java/util/NoSuchElementException"
def ARE : String := "java/lang/ArithmeticException"
/-- the cells of the object at a -/
def zXs (h : zH) (a : Nat) : Prop := hK h a = 13 ∧ hR h 384 a = some (a + 1) ∧ hR h 385 a = some (a + 22) ∧ hR h 386 a = some (a + 43) ∧ hR h 387 a = some (a + 64) ∧ hR h 388 a = some (a + 85) ∧ hR h 389 a = some (a + 255) ∧ hR h 390 a = some (a + 263) ∧ hR h 391 a = some (a + 264) ∧ hR h 392 a = some (a + 269)
theorem zXs_e {h h' : zH} {a : Nat} (q : zXs h a) (e : zEq h h' a) : zXs h' a := by
  obtain ⟨q1, q2, q3, q4, q5, q6, q7, q8, q9, q10⟩ := q
  obtain ⟨e1, -, e3, -⟩ := e
  exact ⟨e1.trans q1, (e3 _).trans q2, (e3 _).trans q3, (e3 _).trans q4, (e3 _).trans q5, (e3 _).trans q6, (e3 _).trans q7, (e3 _).trans q8, (e3 _).trans q9, (e3 _).trans q10⟩
/-- what a call answers: an exception's class, or a value -/
abbrev zAn : Type := String ⊕ Value
def aQ (h : zH) (A : zAn) : Option Value → zH → Prop := fun r h' => (∃ v, A = .inr v ∧ r = some v) ∧ h' = h
def aX (h : zH) (A : zAn) : String → zH → Prop := fun Ex h' => A = .inl Ex ∧ h' = h
theorem aQ_of {h : zH} {A : zAn} {v : Value} (e : A = .inr v) : aQ h A (some v) h := ⟨⟨v, e, rfl⟩, rfl⟩
theorem zafA {X : zX} {kc ks : Nat} {h : zH} {pc : Nat} {lo : List (Nat × Value)} {rest : List Value} {n : Nat} {A : zAn} {v : Value} (e : A = .inr v) (k : zV X kc ks h pc lo (v :: rest)) : ∀ (r : Option Value) (h' : zH), aQ h A r h' → n ≤ hN h' → zV X kc ks h' pc lo (r.toList ++ rest) := fun r h' q _ => by
  obtain ⟨⟨w, e1, rfl⟩, rfl⟩ := q
  rw [e] at e1
  cases e1
  exact k
theorem znoA {X : zX} {kc ks : Nat} {h : zH} {pc : Nat} {lo : List (Nat × Value)} {rest : List Value} {n : Nat} {A : zAn} {v : Value} (e : A = .inr v) : ∀ (Ex : String) (h' : zH), aX h A Ex h' → n ≤ hN h' → zVX X kc ks h' pc lo rest Ex := fun Ex h' q _ => by
  obtain ⟨e1, -⟩ := q
  rw [e] at e1
  cases e1
theorem zdeA {X : zX} {kc ks : Nat} {h : zH} {pc : Nat} {lo : List (Nat × Value)} {rest : List Value} {n : Nat} {A : zAn} {Ex0 : String} (e : A = .inl Ex0) : ∀ (r : Option Value) (h' : zH), aQ h A r h' → n ≤ hN h' → zV X kc ks h' pc lo (r.toList ++ rest) := fun r h' q _ => by
  obtain ⟨⟨w, e1, rfl⟩, rfl⟩ := q
  rw [e] at e1
  cases e1
/-- a callee's exception goes on -/
theorem zxA {X : zX} {kc ks : Nat} {h : zH} {pc : Nat} {lo : List (Nat × Value)} {rest : List Value} {n : Nat} {A B : zAn} {Ex0 : String} {cc : ByteArray} {own : String} {nL : Nat} {ret : Option FieldType} {mc ms : Nat} {Qr : Option Value → zH → Prop} (C : zC X cc own nL) (F : zF X ret mc ms Qr (aX h B)) (e : A = .inl Ex0) (e2 : B = .inl Ex0) (hc : kc ≤ mc ∧ ks ≤ ms) : ∀ (Ex : String) (h' : zH), aX h A Ex h' → n ≤ hN h' → zVX X kc ks h' pc lo rest Ex := fun Ex h' q _ => by
  obtain ⟨e1, rfl⟩ := q
  rw [e] at e1
  cases e1
  exact zVX.out C F ⟨e2, rfl⟩ hc
set_option maxHeartbeats 4000000 in
set_option maxRecDepth 100000 in
theorem s_demandLawn {l : Launch} {E : zG} (hzs : zS E) (hst : l.stackTraces = false) (h : zH) (x : Int32) : zMet l E yX9_demandLawn cX9_demandLawn 1 none ({ frames := 6, cells := 1, slots := 6, locals := 95 } : Room) 1 6 [.int x] h (fun r h' => (r = none ∧ h' = h) ∧ (ln x).isSome = true) (fun Ex h' => Ex = IOB ∧ h' = h ∧ (ln x).isSome = false) := by
  refine zM_start hzs hst (by decide) (Nat.le_of_ble_eq_true rfl) (fun X C G F I => ?_)
  show zV X 0 0 _ 0 [(0, _)] []
  refine zV.iload_n C dX9_demandLawn_0 rfl ?_
  refine zV.callS (n := 1) C G dX9_demandLawn_1 (s_isLawn hzs hst h x) rfl ⟨cd_X9_isLawn, lk_X9_329, st_X9_isLawn, in_X9⟩ ⟨⟨by decide, by decide⟩, by decide⟩ rfl rfl rfl (zaf ?_) (zno)
  refine zV.if_ne (tgt := 18) C dX9_demandLawn_4 (by decide) (fun q4 => ?_) (fun q4 => ?_)
  · have e : (ln x).isSome = true := Bool.of_not_eq_false (fun z => q4 (b2n.mpr z))
    refine zV.vret C F dX9_demandLawn_18 rfl ?_
    exact ⟨⟨rfl, rfl⟩, e⟩
  · have e : (ln x).isSome = false := b2n.mp q4
    exact zV.throwXW _ C G dX9_demandLawn_7 dX9_demandLawn_10 dX9_demandLawn_11 dX9_demandLawn_14 dX9_demandLawn_17 hz_iob lk_X9_260 in_java_lang_IndexOutOfBoundsException hs_332 hp_iob zUW rfl (zVX.out C F (⟨rfl, rfl, e⟩) ⟨by decide, by decide⟩)
theorem dl_ok {X : zX} {kc ks : Nat} {h : zH} {pc : Nat} {lo : List (Nat × Value)} {rest : List Value} {n : Nat} {x : Int32} (k : zV X kc ks h pc lo rest) : ∀ (r : Option Value) (h' : zH), ((r = none ∧ h' = h) ∧ (ln x).isSome = true) → n ≤ hN h' → zV X kc ks h' pc lo (r.toList ++ rest) := fun r h' q _ => by
  obtain ⟨⟨rfl, rfl⟩, -⟩ := q
  exact k
theorem dl_nx {X : zX} {kc ks : Nat} {h : zH} {pc : Nat} {lo : List (Nat × Value)} {rest : List Value} {n j : Nat} {x : Int32} (e : ln x = some j) : ∀ (Ex : String) (h' : zH), (Ex = IOB ∧ h' = h ∧ (ln x).isSome = false) → n ≤ hN h' → zVX X kc ks h' pc lo rest Ex := fun Ex h' q _ => by
  rw [e] at q
  cases q.2.2
theorem dl_no {X : zX} {kc ks : Nat} {h : zH} {pc : Nat} {lo : List (Nat × Value)} {rest : List Value} {n : Nat} {x : Int32} (e : ln x = none) : ∀ (r : Option Value) (h' : zH), ((r = none ∧ h' = h) ∧ (ln x).isSome = true) → n ≤ hN h' → zV X kc ks h' pc lo (r.toList ++ rest) := fun r h' q _ => by
  rw [e] at q
  cases q.2
theorem dl_x {X : zX} {kc ks : Nat} {h : zH} {pc : Nat} {lo : List (Nat × Value)} {rest : List Value} {n : Nat} {x : Int32} {B : zAn} {cc : ByteArray} {own : String} {nL : Nat} {ret : Option FieldType} {mc ms : Nat} {Qr : Option Value → zH → Prop} (C : zC X cc own nL) (F : zF X ret mc ms Qr (aX h B)) (e2 : B = .inl IOB) (hc : kc ≤ mc ∧ ks ≤ ms) : ∀ (Ex : String) (h' : zH), (Ex = IOB ∧ h' = h ∧ (ln x).isSome = false) → n ≤ hN h' → zVX X kc ks h' pc lo rest Ex := fun Ex h' q _ => by
  obtain ⟨rfl, rfl, -⟩ := q
  exact zVX.out C F ⟨e2, rfl⟩ hc
def elA (x : Int32) : zAn := if x = -1 then .inl NSE else .inr (.int x)
set_option maxHeartbeats 4000000 in
set_option maxRecDepth 100000 in
theorem s_demandElement {l : Launch} {E : zG} (hzs : zS E) (hst : l.stackTraces = false) (h : zH) (x : Int32) : zMet l E yX9_demandElement cX9_demandElement 1 (some .int) ({ frames := 6, cells := 1, slots := 6, locals := 95 } : Room) 1 6 [.int x] h (aQ h (elA x)) (aX h (elA x)) := by
  refine zM_start hzs hst (by decide) (Nat.le_of_ble_eq_true rfl) (fun X C G F I => ?_)
  show zV X 0 0 _ 0 [(0, _)] []
  refine zV.iload_n C dX9_demandElement_0 rfl ?_
  refine zV.ic (v := (-1)) C dX9_demandElement_1 (by decide) ?_
  refine zV.icmp_ne (tgt := 16) C dX9_demandElement_2 (by decide) (fun q2 => ?_) (fun q2 => ?_)
  · have e : elA x = .inr (.int x) := if_neg q2
    refine zV.iload_n C dX9_demandElement_16 rfl ?_
    refine zV.iret C F dX9_demandElement_17 rfl ?_
    exact aQ_of e
  · have e : elA x = .inl NSE := if_pos q2
    exact zV.throwXW _ C G dX9_demandElement_5 dX9_demandElement_8 dX9_demandElement_9 dX9_demandElement_12 dX9_demandElement_15 hz_nse lk_X9_99 in_java_util_NoSuchElementException hs_336 hp_nse zUW rfl (zVX.out C F (⟨e, rfl⟩) ⟨by decide, by decide⟩)
def chA9 (h : zH) (b : Nat) (g : zGd) (x : Int32) : zAn := match kc g x with
  | none => .inl IOB
  | some (k, _) => .inr (.ref (cA h b k))
set_option maxHeartbeats 4000000 in
set_option maxRecDepth 100000 in
theorem s_demandChair {l : Launch} {E : zG} (hzs : zS E) (hst : l.stackTraces = false) (h : zH) (a : Nat) (g : zGd) (x : Int32) (hx : zXs h a) (hg : zGa h (a + 1) g) (hw : gW g) : zMet l E yX9_demandChair cX9_demandChair 3 (some (.object "ChairMigration$Chair")) ({ frames := 6, cells := 1, slots := 6, locals := 95 } : Room) 1 6 [.ref a, .int x] h (aQ h (chA9 h (a + 1) g x)) (aX h (chA9 h (a + 1) g x)) := by
  refine zM_start hzs hst (by decide) (Nat.le_of_ble_eq_true rfl) (fun X C G F I => ?_)
  show zV X 0 0 _ 0 [(0, _), (1, _)] []
  rcases hq : kc g x with _ | ⟨k, c⟩
  · have hix := kc_none hq
    refine zV.aload_n C dX9_demandChair_0 rfl rfl ?_
    refine zV.gR 384 (k := 0) C dX9_demandChair_1 zcl_X9 (by decide) rfl lk_X9_10 (hx.1) rfl (hx.2.1) ?_
    refine zV.iload_n C dX9_demandChair_4 rfl ?_
    refine zV.callV (n := 1) C G dX9_demandChair_5 (s_find hzs hst h (a + 1) g x hg hw) rfl ⟨cd_X3_find, lk_X9_124, im_X3_find, se_X3_X3_find, in_X3⟩ ⟨⟨by decide, by decide⟩, by decide⟩ rfl rfl rfl hg.1.1 ⟨rfl, by decide⟩ (zafe (congrArg (zfo h (a + 1)) hix) ?_) (zno)
    refine zV.astore_n (lo' := [(0, _), (1, _), (2, _)]) C dX9_demandChair_8 rfl (by decide) rfl rfl rfl ?_
    refine zV.aload_n C dX9_demandChair_9 rfl rfl ?_
    refine zV.ifnonnull (tgt := 24) C dX9_demandChair_10 (by decide) rfl (fun q10 => ?_) (fun q10 => ?_)
    · exact absurd rfl q10
    · exact zV.throwXW _ C G dX9_demandChair_13 dX9_demandChair_16 dX9_demandChair_17 dX9_demandChair_20 dX9_demandChair_23 hz_iob lk_X9_260 in_java_lang_IndexOutOfBoundsException hs_334 hp_iob zUW rfl (zVX.out C F (⟨by unfold chA9; rw [hq]; rfl, rfl⟩) ⟨by decide, by decide⟩)
  · obtain ⟨hix, hc, hid, hkl⟩ := kc_some hq
    refine zV.aload_n C dX9_demandChair_0 rfl rfl ?_
    refine zV.gR 384 (k := 0) C dX9_demandChair_1 zcl_X9 (by decide) rfl lk_X9_10 (hx.1) rfl (hx.2.1) ?_
    refine zV.iload_n C dX9_demandChair_4 rfl ?_
    refine zV.callV (n := 1) C G dX9_demandChair_5 (s_find hzs hst h (a + 1) g x hg hw) rfl ⟨cd_X3_find, lk_X9_124, im_X3_find, se_X3_X3_find, in_X3⟩ ⟨⟨by decide, by decide⟩, by decide⟩ rfl rfl rfl hg.1.1 ⟨rfl, by decide⟩ (zafe (congrArg (zfo h (a + 1)) hix) ?_) (zno)
    show zV X 0 0 h 8 _ (.ref (cA h (a + 1) k) :: _)
    refine zV.astore_n (lo' := [(0, _), (1, _), (2, _)]) C dX9_demandChair_8 rfl (by decide) rfl rfl rfl ?_
    refine zV.aload_n C dX9_demandChair_9 rfl rfl ?_
    refine zV.ifnonnull (tgt := 24) C dX9_demandChair_10 (by decide) rfl (fun q10 => ?_) (fun q10 => ?_)
    · refine zV.aload_n C dX9_demandChair_24 rfl rfl ?_
      refine zV.aret C F dX9_demandChair_25 (Or.inl ⟨_, rfl⟩) rfl rfl ?_
      exact aQ_of (by unfold chA9; rw [hq])
    · exact absurd q10 (by intro z; cases z)
set_option maxHeartbeats 4000000 in
set_option maxRecDepth 100000 in
theorem s_demandChairs {l : Launch} {E : zG} (hzs : zS E) (hst : l.stackTraces = false) (h : zH) (a : Nat) (g : zGd) (hx : zXs h a) (hg : zGa h (a + 1) g) (hw : gW g) : zMet l E yX9_demandChairs cX9_demandChairs 1 none ({ frames := 6, cells := 1, slots := 6, locals := 95 } : Room) 1 6 [.ref a] h (fun r h' => (r = none ∧ h' = h) ∧ gC g ≠ []) (fun Ex h' => Ex = ARE ∧ h' = h ∧ gC g = []) := by
  refine zM_start hzs hst (by decide) (Nat.le_of_ble_eq_true rfl) (fun X C G F I => ?_)
  show zV X 0 0 _ 0 [(0, _)] []
  refine zV.aload_n C dX9_demandChairs_0 rfl rfl ?_
  refine zV.gR 384 (k := 0) C dX9_demandChairs_1 zcl_X9 (by decide) rfl lk_X9_10 (hx.1) rfl (hx.2.1) ?_
  refine zV.gNIv 196 (k := 4) C dX9_demandChairs_4 zcl_X3 (by decide) rfl lk_X9_203 hg.1.1 rfl ((zGa_len hg)) ?_
  refine zV.if_ne (tgt := 21) C dX9_demandChairs_7 (by decide) (fun q7 => ?_) (fun q7 => ?_)
  · have e : gC g ≠ [] := fun z => q7 (by rw [z]; rfl)
    refine zV.vret C F dX9_demandChairs_21 rfl ?_
    exact ⟨⟨rfl, rfl⟩, e⟩
  · have e : gC g = [] := List.length_eq_zero_iff.mp ((n0 (by have := gW_len hw; omega)).mp q7)
    exact zV.throwXW _ C G dX9_demandChairs_10 dX9_demandChairs_13 dX9_demandChairs_14 dX9_demandChairs_17 dX9_demandChairs_20 hz_are lk_X9_338 in_java_lang_ArithmeticException hs_340 hp_are zUW rfl (zVX.out C F (⟨rfl, rfl, e⟩) ⟨by decide, by decide⟩)
