/-! StringBuilder: the text, its growth -/
/-- the bound on cells and slots may be raised -/
theorem zV.up {X : zX} {kc ks kc' ks' : Nat} {h : zH} {pc : Nat} {lo : List (Nat × Value)} {st : List Value} (h1 : kc ≤ kc') (h2 : ks ≤ ks') (k : zV X kc' ks' h pc lo st) : zV X kc ks h pc lo st := by
  obtain ⟨p, l, e, R, s, m, args, below, meth, c, E, ad0, n0, Z⟩ := X
  intro ad H rl ls e1 e2 w S ol os hl T hT Y
  obtain ⟨q1, q2, q3, q4, q5, q6⟩ := Y.same
  exact k ad H rl ls e1 e2 w S ol os hl T hT ⟨Y.admits, Y.cas, Y.clock, Y.frames, Y.room, Y.hears, Y.method, Y.code, Y.here, Y.tail, Y.warmed, Y.limits, Y.bytes, ⟨q1, q2, Nat.le_trans q3 (Nat.add_le_add_left h1 _), q4, Nat.le_trans q5 h2, q6⟩⟩
def zOv (h : zH) (a v lo : Nat) (o : List Nat) : Prop := hK h a = 2 ∧ hI h 33 a = 0 ∧ hI h 35 a = nI o.length ∧ hR h 32 a = some v ∧ (v = a + 1 ∨ lo ≤ v) ∧ v < hN h ∧ hK h v = 101 ∧ o.length ≤ hL h v ∧ hL h v ≤ 200 ∧ (∀ (i c : Nat), o[i]? = some c → aI h v i = nI c ∧ c < 128) ∧ sb_Fit (aI h v)
theorem zOu_v {h : zH} {a lo : Nat} {o : List Nat} (q : zOu h a lo o) : ∃ v, zOv h a v lo o := by
  obtain ⟨q1, q2, q3, v, q4⟩ := q
  exact ⟨v, q1, q2, q3, q4⟩
theorem zOv_u {h : zH} {a v lo : Nat} {o : List Nat} (q : zOv h a v lo o) : zOu h a lo o := ⟨q.1, q.2.1, q.2.2.1, v, q.2.2.2⟩
/-- only the text's own cells and new ones are other than they were -/
def zOf (h h' : zH) (a lo : Nat) : Prop := hN h ≤ hN h' ∧ ∀ c, (c < a ∨ a + 2 ≤ c) → c < lo → zEq h h' c
theorem zOf.refl (h : zH) (a lo : Nat) : zOf h h a lo := ⟨Nat.le_refl _, fun c _ _ => zEq.refl h c⟩
theorem zOf.trans {h h1 h2 : zH} {a lo : Nat} (p : zOf h h1 a lo) (q : zOf h1 h2 a lo) : zOf h h2 a lo := ⟨Nat.le_trans p.1 q.1, fun c h1 h2 => (p.2 c h1 h2).trans (q.2 c h1 h2)⟩
theorem sub_le0 {q m : Nat} (hq : q < 2 ^ 30) (hm : m < 2 ^ 30) : nI q - nI m ≤ 0 ↔ q ≤ m := by
  rw [Int32.le_iff_toInt_le, pk_sub_toInt hq hm, Int32.toInt_zero]
  omega
theorem cap_le {q m : Nat} (h : q ≤ 80) (hm : m < q) : sb_cap q m ≤ 200 ∧ q ≤ sb_cap q m ∧ m < sb_cap q m := by
  unfold sb_cap
  split <;> (try split) <;> omega
theorem cap_max {q m : Nat} (h : q ≤ 80) (hm : m < q) : (if nI (q - m) < nI (m + 2) then nI (m + 2) else nI (q - m)) = nI (sb_cap q m - m) ∧ m + (sb_cap q m - m) = sb_cap q m := by
  by_cases e : q - m < m + 2
  · rw [if_pos (nI_lt e (by omega))]
    unfold sb_cap
    rw [if_neg (by omega)]
    split
    · omega
    · exact ⟨congrArg nI (by omega), by omega⟩
  · rw [if_neg (nI_nlt (by omega) (by omega))]
    unfold sb_cap
    rw [if_neg (by omega)]
    split
    · exact ⟨rfl, by omega⟩
    · exact ⟨congrArg nI (by omega), by omega⟩
theorem nI_ne {a b : Nat} (ha : a < 2 ^ 31) (hb : b < 2 ^ 31) (h : a ≠ b) : ¬ nI a = nI b := fun e => h (neq ha hb e)
set_option maxHeartbeats 4000000 in
set_option maxRecDepth 100000 in
theorem s_BisLatin1 {l : Launch} {E : zG} (hzs : zS E) (hst : l.stackTraces = false) (h : zH) (a : Nat) (hk : hK h a = 2) (hc : hI h 33 a = 0) : zMet l E yJ5_isLatin1_aae02 cJ5_isLatin1_aae02 1 (some .boolean) ({ frames := 0, cells := 0, slots := 0, locals := 0 } : Room) 0 0 [.ref a] h (fun r h' => r = some (.int (nI 1)) ∧ h' = h) (fun _ _ => False) := by
  refine zM_start hzs hst (by decide) (Nat.le_of_ble_eq_true rfl) (fun X C G F I => ?_)
  show zV X 0 0 _ 0 [(0, _)] []
  refine zV.gstI C G dJ5_isLatin1_aae02_0 (st_compact hzs) lk_J5_18 ?_
  refine zV.if_eq (tgt := 17) C dJ5_isLatin1_aae02_3 (by decide) (fun q3 => ?_) (fun q3 => ?_)
  · exact absurd q3 (by decide)
  · refine zV.aload_n C dJ5_isLatin1_aae02_6 rfl rfl ?_
    refine zV.gIv 33 (k := 1) C dJ5_isLatin1_aae02_7 zcl_J4 (by decide) rfl lk_J5_22 hk rfl (hc) ?_
    refine zV.if_ne (tgt := 17) C dJ5_isLatin1_aae02_10 (by decide) (fun q10 => ?_) (fun q10 => ?_)
    · exact absurd rfl q10
    · refine zV.ic (v := nI 1) C dJ5_isLatin1_aae02_13 (by decide) ?_
      refine zV.goto (tgt := 18) C dJ5_isLatin1_aae02_14 (by decide) ?_
      refine zV.zret C F dJ5_isLatin1_aae02_18 rfl rfl ?_
      exact ⟨rfl, rfl⟩
set_option maxHeartbeats 4000000 in
set_option maxRecDepth 100000 in
theorem s_Blength5 {l : Launch} {E : zG} (hzs : zS E) (hst : l.stackTraces = false) (h : zH) (a v lo : Nat) (o : List Nat) (hu : zOv h a v lo o) : zMet l E yJ5_length_8abf5 cJ5_length_8abf5 1 (some .int) ({ frames := 0, cells := 0, slots := 0, locals := 0 } : Room) 0 0 [.ref a] h (fun r h' => r = some (.int (nI o.length)) ∧ h' = h) (fun _ _ => False) := by
  refine zM_start hzs hst (by decide) (Nat.le_of_ble_eq_true rfl) (fun X C G F I => ?_)
  show zV X 0 0 _ 0 [(0, _)] []
  refine zV.aload_n C dJ5_length_8abf5_0 rfl rfl ?_
  refine zV.gIv 35 (k := 3) C dJ5_length_8abf5_1 zcl_J4 (by decide) rfl lk_J5_79 hu.1 rfl (hu.2.2.1) ?_
  refine zV.iret C F dJ5_length_8abf5_4 rfl ?_
  exact ⟨rfl, rfl⟩
set_option maxHeartbeats 4000000 in
set_option maxRecDepth 100000 in
theorem s_Blength {l : Launch} {E : zG} (hzs : zS E) (hst : l.stackTraces = false) (h : zH) (a v lo : Nat) (o : List Nat) (hu : zOv h a v lo o) : zMet l E yJ4_length_8abf5 cJ4_length_8abf5 1 (some .int) ({ frames := 1, cells := 0, slots := 0, locals := 20 } : Room) 0 0 [.ref a] h (fun r h' => r = some (.int (nI o.length)) ∧ h' = h) (fun _ _ => False) := by
  refine zM_start hzs hst (by decide) (Nat.le_of_ble_eq_true rfl) (fun X C G F I => ?_)
  show zV X 0 0 _ 0 [(0, _)] []
  refine zV.aload_n C dJ4_length_8abf5_0 rfl rfl ?_
  refine zV.callSU (n := 0) C G dJ4_length_8abf5_1 (s_Blength5 hzs hst h a v lo o hu) rfl ⟨cd_J5_length_8abf5, lk_J4_343, sm_J5_J5_J5_length_8abf5, su_J4_J5, im_J5_length_8abf5, in_J5⟩ (by decide) ⟨⟨by decide, by decide⟩, by decide⟩ rfl rfl rfl hu.1 ⟨rfl, by decide⟩ (zaf ?_) (zno)
  refine zV.iret C F dJ4_length_8abf5_4 rfl ?_
  exact ⟨rfl, rfl⟩
set_option maxHeartbeats 4000000 in
set_option maxRecDepth 100000 in
theorem s_newLength {l : Launch} {E : zG} (hzs : zS E) (hst : l.stackTraces = false) (h : zH) (m g p r : Nat) (hr : (if nI g < nI p then nI p else nI g) = nI r) (h0 : 0 < m + r) (h1 : m + r < 1000) : zMet l E yJ8_newLength_cabcc cJ8_newLength_cabcc 4 (some .int) ({ frames := 1, cells := 0, slots := 0, locals := 20 } : Room) 0 0 [.int (nI m), .int (nI g), .int (nI p)] h (fun r9 h' => r9 = some (.int (nI (m + r))) ∧ h' = h) (fun _ _ => False) := by
  refine zM_start hzs hst (by decide) (Nat.le_of_ble_eq_true rfl) (fun X C G F I => ?_)
  show zV X 0 0 _ 0 [(0, _), (1, _), (2, _)] []
  refine zV.iload_n C dJ8_newLength_cabcc_0 rfl ?_
  refine zV.iload_n C dJ8_newLength_cabcc_1 rfl ?_
  refine zV.iload_n C dJ8_newLength_cabcc_2 rfl ?_
  refine zV.mmax C G dJ8_newLength_cabcc_3 ⟨lk_J8_194, st_J9_max_7cf53, in_J9, cd_J9_max_7cf53⟩ rfl ?_
  rw [hr]
  refine zV.iadd C dJ8_newLength_cabcc_6 ?_
  rw [nI_add]
  refine zV.istore_n (lo' := [(0, _), (1, _), (2, _), (3, _)]) C dJ8_newLength_cabcc_7 (by decide) rfl rfl rfl ?_
  refine zV.ic (v := nI 0) C dJ8_newLength_cabcc_8 (by decide) ?_
  refine zV.iload_n C dJ8_newLength_cabcc_9 rfl ?_
  refine zV.icmp_ge (tgt := 21) C dJ8_newLength_cabcc_10 (by decide) (fun q10 => ?_) (fun q10 => ?_)
  · exact absurd (nle (by decide) (by omega) q10) (by omega)
  · refine zV.iload_n C dJ8_newLength_cabcc_13 rfl ?_
    refine zV.ldcI (w := nI 2147483639) C dJ8_newLength_cabcc_14 co_J8_200 rfl ?_
    refine zV.icmp_gt (tgt := 21) C dJ8_newLength_cabcc_16 (by decide) (fun q16 => ?_) (fun q16 => ?_)
    · exact absurd q16 (nI_nlt (by omega) (by decide))
    · refine zV.iload_n C dJ8_newLength_cabcc_19 rfl ?_
      refine zV.iret C F dJ8_newLength_cabcc_20 rfl ?_
      exact ⟨rfl, rfl⟩
set_option maxHeartbeats 4000000 in
set_option maxRecDepth 100000 in
theorem s_BnewCap {l : Launch} {E : zG} (hzs : zS E) (hst : l.stackTraces = false) (h : zH) (a v lo : Nat) (o : List Nat) (hu : zOv h a v lo o) (q : Nat) (hq : q ≤ 80) (hm : hL h v < q) : zMet l E yJ5_newCapacity_0f7a4 cJ5_newCapacity_0f7a4 6 (some .int) ({ frames := 2, cells := 0, slots := 0, locals := 43 } : Room) 0 0 [.ref a, .int (nI q)] h (fun r h' => r = some (.int (nI (sb_cap q (hL h v)))) ∧ h' = h) (fun _ _ => False) := by
  refine zM_start hzs hst (by decide) (Nat.le_of_ble_eq_true rfl) (fun X C G F I => ?_)
  show zV X 0 0 _ 0 [(0, _), (1, _)] []
  have hc := cap_le hq hm
  have h9 := (cap_max hq hm).2
  refine zV.aload_n C dJ5_newCapacity_0f7a4_0 rfl rfl ?_
  refine zV.gR 32 (k := 0) C dJ5_newCapacity_0f7a4_1 zcl_J4 (by decide) rfl lk_J5_15 hu.1 rfl hu.2.2.2.1 ?_
  refine zV.alen (t0 := 0) C dJ5_newCapacity_0f7a4_4 hu.2.2.2.2.2.2.1 (by decide) ?_
  refine zV.istore_n (lo' := [(0, _), (1, _), (2, _)]) C dJ5_newCapacity_0f7a4_5 (by decide) rfl rfl rfl ?_
  refine zV.iload_n C dJ5_newCapacity_0f7a4_6 rfl ?_
  refine zV.aload_n C dJ5_newCapacity_0f7a4_7 rfl rfl ?_
  refine zV.gIv 33 (k := 1) C dJ5_newCapacity_0f7a4_8 zcl_J4 (by decide) rfl lk_J5_22 hu.1 rfl (hu.2.1) ?_
  refine zV.ishl C dJ5_newCapacity_0f7a4_11 ?_
  rw [sb_shl0]
  refine zV.istore_n (lo' := [(0, _), (1, _), (2, _), (3, _)]) C dJ5_newCapacity_0f7a4_12 (by decide) rfl rfl rfl ?_
  refine zV.iload_n C dJ5_newCapacity_0f7a4_13 rfl ?_
  refine zV.iload_n C dJ5_newCapacity_0f7a4_14 rfl ?_
  refine zV.isub C dJ5_newCapacity_0f7a4_15 ?_
  rw [show nI q - nI (hL h v) = nI (q - hL h v) from pk_sub (by omega)]
  refine zV.istore (lo' := [(0, _), (1, _), (2, _), (3, _), (4, _)]) C dJ5_newCapacity_0f7a4_16 (by decide) rfl rfl rfl ?_
  refine zV.iload_n C dJ5_newCapacity_0f7a4_18 rfl ?_
  refine zV.iload C dJ5_newCapacity_0f7a4_19 rfl ?_
  refine zV.iload_n C dJ5_newCapacity_0f7a4_21 rfl ?_
  refine zV.ic (v := nI 2) C dJ5_newCapacity_0f7a4_22 (by decide) ?_
  refine zV.aload_n C dJ5_newCapacity_0f7a4_23 rfl rfl ?_
  refine zV.gIv 33 (k := 1) C dJ5_newCapacity_0f7a4_24 zcl_J4 (by decide) rfl lk_J5_22 hu.1 rfl (hu.2.1) ?_
  refine zV.ishl C dJ5_newCapacity_0f7a4_27 ?_
  rw [sb_shl0]
  refine zV.iadd C dJ5_newCapacity_0f7a4_28 ?_
  rw [show nI (hL h v) + nI 2 = nI (hL h v + 2) from nI_add _ _]
  refine zV.callS (n := 3) C G dJ5_newCapacity_0f7a4_29 (s_newLength hzs hst h (hL h v) (q - hL h v) (hL h v + 2) (sb_cap q (hL h v) - hL h v) (cap_max hq hm).1 (by omega) (by omega)) rfl ⟨cd_J8_newLength_cabcc, lk_J5_114, st_J8_newLength_cabcc, in_J8⟩ ⟨⟨by decide, by decide⟩, by decide⟩ rfl rfl rfl (zaf ?_) (zno)
  rw [h9]
  refine zV.istore (lo' := [(0, _), (1, _), (2, _), (3, _), (4, _), (5, _)]) C dJ5_newCapacity_0f7a4_32 (by decide) rfl rfl rfl ?_
  refine zV.iload C dJ5_newCapacity_0f7a4_34 rfl ?_
  refine zV.ldcI (w := nI 2147483647) C dJ5_newCapacity_0f7a4_36 co_J5_39 rfl ?_
  refine zV.icmp_ne (tgt := 51) C dJ5_newCapacity_0f7a4_38 (by decide) (fun q38 => ?_) (fun q38 => ?_)
  · refine zV.iload C dJ5_newCapacity_0f7a4_51 rfl ?_
    refine zV.aload_n C dJ5_newCapacity_0f7a4_53 rfl rfl ?_
    refine zV.gIv 33 (k := 1) C dJ5_newCapacity_0f7a4_54 zcl_J4 (by decide) rfl lk_J5_22 hu.1 rfl (hu.2.1) ?_
    refine zV.ishr C dJ5_newCapacity_0f7a4_57 ?_
    rw [sb_shr0]
    refine zV.iret C F dJ5_newCapacity_0f7a4_58 rfl ?_
    exact ⟨rfl, rfl⟩
  · exact absurd q38 (nI_ne (by omega) (by decide) (by omega))
set_option maxHeartbeats 4000000 in
set_option maxRecDepth 100000 in
theorem s_copyOf {l : Launch} {E : zG} (hzs : zS E) (hst : l.stackTraces = false) (h : zH) (v q : Nat) (hk : hK h v = 101) (hv : v < hN h) (hm : hL h v < q) (hq : q ≤ 200) (hf : sb_Fit (aI h v)) : zMet l E yJ7_copyOf_9075b cJ7_copyOf_9075b 3 (some (.array .byte)) ({ frames := 1, cells := 1, slots := 200, locals := 60 } : Room) 1 200 [.ref v, .int (nI q)] h (fun r h' => r = some (.ref (hN h)) ∧ h' = sRow (hNew h 101 q) (hN h) (va_cpy (aI h v) (fun _ => 0) 0 0 (hL h v))) (fun _ _ => False) := by
  refine zM_start hzs hst (by decide) (Nat.le_of_ble_eq_true rfl) (fun X C G F I => ?_)
  show zV X 0 0 _ 0 [(0, _), (1, _)] []
  have en1 : aI (hNew h 101 q) v = aI h v := funext fun i => aI_new (k := 101) (z := q) (by omega)
  have en2 : aI (hNew h 101 q) (hN h) = fun _ => 0 := funext fun i => aI_newE (k := 101) (z := q)
  refine zV.iload_n C dJ7_copyOf_9075b_0 rfl ?_
  refine zV.aload_n C dJ7_copyOf_9075b_1 rfl rfl ?_
  refine zV.alen (t0 := 0) C dJ7_copyOf_9075b_2 hk (by decide) ?_
  refine zV.icmp_ne (tgt := 14) C dJ7_copyOf_9075b_3 (by decide) (fun q3 => ?_) (fun q3 => ?_)
  · refine zV.iload_n C dJ7_copyOf_9075b_14 rfl ?_
    refine zV.newB (n := q) C G dJ7_copyOf_9075b_15 ac_byte (rfl) (by omega) (by rw [Bool.and_eq_true]; exact ⟨rfl, Nat.ble_eq_true_of_le (by show 0 + q ≤ 200; omega)⟩) ?_
    refine zV.up (kc' := 1) (ks' := 200) (by omega) (by omega) ?_
    refine zV.astore_n (lo' := [(0, _), (1, _), (2, _)]) C dJ7_copyOf_9075b_17 rfl (by decide) rfl rfl rfl ?_
    refine zV.aload_n C dJ7_copyOf_9075b_18 rfl rfl ?_
    refine zV.ic (v := nI 0) C dJ7_copyOf_9075b_19 (by decide) ?_
    refine zV.aload_n C dJ7_copyOf_9075b_20 rfl rfl ?_
    refine zV.ic (v := nI 0) C dJ7_copyOf_9075b_21 (by decide) ?_
    refine zV.aload_n C dJ7_copyOf_9075b_22 rfl rfl ?_
    refine zV.alen (t0 := 0) C dJ7_copyOf_9075b_23 ((hK_new (z := q) (k := 101) (by omega)).trans hk) (by decide) ?_
    refine zV.iload_n C dJ7_copyOf_9075b_24 rfl ?_
    refine zV.mmin C G dJ7_copyOf_9075b_25 ⟨lk_J7_304, st_J9_min_7cf53, in_J9, cd_J9_min_7cf53⟩ rfl ?_
    rw [show (if nI q < nI (hL (hNew h 101 q) v) then nI q else nI (hL (hNew h 101 q) v)) = nI (hL h v) from by rw [hL_new (z := q) (k := 101) (by omega)]; exact if_neg (nI_nlt (by omega) (by omega))]
    refine zV.copyB (a := v) (b := hN h) (n := hL h v) C G dJ7_copyOf_9075b_28 ⟨lk_J7_150, na_acopy, st_acopy, in_J10⟩ ((hK_new (z := q) (k := 101) (by omega)).trans hk) hK_newE rfl (by omega) (Nat.le_of_eq (hL_new (z := q) (k := 101) (by omega)).symm) (by rw [hL_newE]; omega) (by rw [en1]; exact hf) rfl ?_
    refine zV.aload_n C dJ7_copyOf_9075b_31 rfl rfl ?_
    refine zV.aret C F dJ7_copyOf_9075b_32 (Or.inr ⟨_, rfl⟩) rfl rfl ?_
    exact ⟨rfl, by rw [en1, en2]⟩
  · exact absurd q3 (nI_ne (by omega) (by omega) (by omega))
