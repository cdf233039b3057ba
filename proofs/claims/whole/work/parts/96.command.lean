/-! the reference: isCommand -/
/-- the commands with two numbers *)-/
def tw (d : Nat) : Prop := d = 112 ∨ d = 113 ∨ d = 99 ∨ d = 104 ∨ d = 109 ∨ d = 103
def icQ (h : zH) (r : Nat) (t : List Nat) (p : Nat) : Option Value → zH → Prop := fun v h' => v = some (.int (nI (b2 (rdC t p).1.isSome))) ∧ (rE h h' r [427, 428] [8] ∧ rAt h' r t (rdC t p).2 ∧ ∀ d a b, (rdC t p).1 = some (d, a, b) → hI h' 428 r = nI d ∧ aI h' (r + 8) 0 = nI a ∧ (tw d → aI h' (r + 8) 1 = nI b))
theorem ic_n {h h' : zH} {r p p' : Nat} {t : List Nat} (e : rdC t p = (none, p')) (E : rE h h' r [427, 428] [8]) (A : rAt h' r t p') : icQ h r t p (some (.int (nI 0))) h' := by
  unfold icQ
  rw [e]
  exact ⟨rfl, E, A, fun d a b z => by cases z⟩
theorem ic_s {h h' : zH} {r p p' d a b : Nat} {t : List Nat} (e : rdC t p = (some (d, a, b), p')) (E : rE h h' r [427, 428] [8]) (A : rAt h' r t p') (w : hI h' 428 r = nI d) (t0 : aI h' (r + 8) 0 = nI a) (t1 : tw d → aI h' (r + 8) 1 = nI b) : icQ h r t p (some (.int (nI 1))) h' := by
  unfold icQ
  rw [e]
  refine ⟨rfl, E, A, fun d2 a2 b2 z => ?_⟩
  cases z
  exact ⟨w, t0, t1⟩
theorem rdC_0 {t : List Nat} {p : Nat} (h : shp (nx t p) = []) : rdC t p = (none, p) := if_pos h
def dgW (k : Nat) : Nat := if k = 100 then 1 else 2
theorem rdL_n {t : List Nat} {k p : Nat} {ks : List Nat} {f : Bool} {v : Nat × Nat} (hk : k = 100 ∨ k = 110) (e : (rdN t (dgW k) p none).1 = none) : rdL t (k :: ks) f p v = (none, (rdN t (dgW k) p none).2) := by
  have e2 : rdP t k p = ((rdN t (dgW k) p none).1.isSome, rdN t (dgW k) p none) := if_pos hk
  rw [rdL, e2, e]
  exact if_neg Bool.false_ne_true
theorem rdL_y {t : List Nat} {k p x : Nat} {ks : List Nat} {f : Bool} {v : Nat × Nat} (hk : k = 100 ∨ k = 110) (e : (rdN t (dgW k) p none).1 = some x) : rdL t (k :: ks) f p v = rdL t ks false (rdN t (dgW k) p none).2 (upV f v (some x)) := by
  have e2 : rdP t k p = ((rdN t (dgW k) p none).1.isSome, rdN t (dgW k) p none) := if_pos hk
  rw [rdL, e2, e]
  exact if_pos rfl
theorem rdL_c {t : List Nat} {k p : Nat} {ks : List Nat} {f : Bool} {v : Nat × Nat} (h1 : k ≠ 100) (h2 : k ≠ 110) (e : nx t p = k) : rdL t (k :: ks) f p v = rdL t ks false (p + 1) v := by
  rw [rdL, rdP_s h1 h2, if_pos e, if_pos rfl]; rfl
theorem rdL_d {t : List Nat} {k p : Nat} {ks : List Nat} {f : Bool} {v : Nat × Nat} (h1 : k ≠ 100) (h2 : k ≠ 110) (e : ¬ nx t p = k) : rdL t (k :: ks) f p v = (none, p) := by
  rw [rdL, rdP_s h1 h2, if_neg e]
  exact if_neg Bool.false_ne_true
theorem rdC_L {t : List Nat} {p c k : Nat} {ks : List Nat} (hc : nx t p = c) (h : shp c = k :: ks) : rdC t p = ((rdL t (k :: ks) true (p + 1) (0, 0)).1.map (fun v => (c, v.1, v.2)), (rdL t (k :: ks) true (p + 1) (0, 0)).2) := by
  unfold rdC
  rw [hc, h]
  exact if_neg (by simp)
theorem rdC_1n {t : List Nat} {p c : Nat} (hc : nx t p = c) {k : Nat} {ks : List Nat} (h : shp c = k :: ks) (hk : k = 100 ∨ k = 110) (n1 : (rdN t (dgW k) (p + 1) none).1 = none) : rdC t p = (none, (rdN t (dgW k) (p + 1) none).2) := by
  rw [rdC_L hc h, rdL_n hk n1]; rfl
theorem rdC_1 {t : List Nat} {p c : Nat} (hc : nx t p = c) {k x : Nat} (h : shp c = [k]) (hk : k = 100 ∨ k = 110) (n1 : (rdN t (dgW k) (p + 1) none).1 = some x) : rdC t p = (some (c, x, 0), (rdN t (dgW k) (p + 1) none).2) := by
  rw [rdC_L hc h, rdL_y hk n1]; rfl
theorem rdC_2n {t : List Nat} {p c : Nat} (hc : nx t p = c) {k x k2 : Nat} (h : shp c = [k, k2]) (hk : k = 100 ∨ k = 110) (hk2 : k2 = 100 ∨ k2 = 110) (n1 : (rdN t (dgW k) (p + 1) none).1 = some x) (n2 : (rdN t (dgW k2) (rdN t (dgW k) (p + 1) none).2 none).1 = none) : rdC t p = (none, (rdN t (dgW k2) (rdN t (dgW k) (p + 1) none).2 none).2) := by
  rw [rdC_L hc h, rdL_y hk n1, rdL_n hk2 n2]; rfl
theorem rdC_2 {t : List Nat} {p c : Nat} (hc : nx t p = c) {k x k2 y : Nat} (h : shp c = [k, k2]) (hk : k = 100 ∨ k = 110) (hk2 : k2 = 100 ∨ k2 = 110) (n1 : (rdN t (dgW k) (p + 1) none).1 = some x) (n2 : (rdN t (dgW k2) (rdN t (dgW k) (p + 1) none).2 none).1 = some y) : rdC t p = (some (c, x, y), (rdN t (dgW k2) (rdN t (dgW k) (p + 1) none).2 none).2) := by
  rw [rdC_L hc h, rdL_y hk n1, rdL_y hk2 n2]; rfl
theorem rdC_3d {t : List Nat} {p c : Nat} (hc : nx t p = c) {k x s k2 : Nat} (h : shp c = [k, s, k2]) (hk : k = 100 ∨ k = 110) (h1 : s ≠ 100) (h2 : s ≠ 110) (n1 : (rdN t (dgW k) (p + 1) none).1 = some x) (n2 : ¬ nx t (rdN t (dgW k) (p + 1) none).2 = s) : rdC t p = (none, (rdN t (dgW k) (p + 1) none).2) := by
  rw [rdC_L hc h, rdL_y hk n1, rdL_d h1 h2 n2]; rfl
theorem rdC_3n {t : List Nat} {p c : Nat} (hc : nx t p = c) {k x s k2 : Nat} (h : shp c = [k, s, k2]) (hk : k = 100 ∨ k = 110) (hk2 : k2 = 100 ∨ k2 = 110) (h1 : s ≠ 100) (h2 : s ≠ 110) (n1 : (rdN t (dgW k) (p + 1) none).1 = some x) (n2 : nx t (rdN t (dgW k) (p + 1) none).2 = s) (n3 : (rdN t (dgW k2) ((rdN t (dgW k) (p + 1) none).2 + 1) none).1 = none) : rdC t p = (none, (rdN t (dgW k2) ((rdN t (dgW k) (p + 1) none).2 + 1) none).2) := by
  rw [rdC_L hc h, rdL_y hk n1, rdL_c h1 h2 n2, rdL_n hk2 n3]; rfl
theorem rdC_3 {t : List Nat} {p c : Nat} (hc : nx t p = c) {k x s k2 y : Nat} (h : shp c = [k, s, k2]) (hk : k = 100 ∨ k = 110) (hk2 : k2 = 100 ∨ k2 = 110) (h1 : s ≠ 100) (h2 : s ≠ 110) (n1 : (rdN t (dgW k) (p + 1) none).1 = some x) (n2 : nx t (rdN t (dgW k) (p + 1) none).2 = s) (n3 : (rdN t (dgW k2) ((rdN t (dgW k) (p + 1) none).2 + 1) none).1 = some y) : rdC t p = (some (c, x, y), (rdN t (dgW k2) ((rdN t (dgW k) (p + 1) none).2 + 1) none).2) := by
  rw [rdC_L hc h, rdL_y hk n1, rdL_c h1 h2 n2, rdL_y hk2 n3]; rfl
theorem nar_b2 {b : Bool} : narrow .boolean (.int (nI (b2 b))) = .int (nI (b2 b)) := by cases b <;> rfl
theorem isn {o : Option Nat} (h : nI (b2 o.isSome) = 0) : o = none := by
  rcases o with _ | x
  · rfl
  · exact absurd h (by show ¬ nI 1 = 0; decide)
theorem iss {o : Option Nat} (h : ¬ nI (b2 o.isSome) = 0) : ∃ x, o = some x := by
  rcases o with _ | x
  · exact absurd rfl h
  · exact ⟨x, rfl⟩
theorem dcn {q : Prop} [Decidable q] (h : nI (b2 (decide q)) = 0) : ¬ q := of_decide_eq_false (b2n.mp h)
theorem dcy {q : Prop} [Decidable q] (h : ¬ nI (b2 (decide q)) = 0) : q := of_decide_eq_true (Bool.of_not_eq_false (fun z => h (b2n.mpr z)))
/-- the sign taken *)-/
theorem ic_st {h : zH} {r p c : Nat} {t : List Nat} (hm : zMs h r) (q : rAt h r t p) (hp : p < t.length) : ∃ H1, H1 = sI (sI h 427 r (nI (p + 1))) 428 r (nI c) ∧ rE h H1 r [427, 428] [8] ∧ rAt H1 r t (p + 1) ∧ hI H1 428 r = nI c ∧ zMs H1 r := by
  have E : rE (sI h 427 r (nI (p + 1))) (sI (sI h 427 r (nI (p + 1))) 428 r (nI c)) r [428] [] := rE.i
  exact ⟨_, rfl, (rE.i.trans E).mono (by simp) (by simp), rAt_e (rAt_p q hp) E (by decide) (by decide), hI_sI, hm⟩
theorem ic_out {t : List Nat} {p : Nat} (h : ¬ nx t p = 112 ∧ ¬ nx t p = 113 ∧ ¬ nx t p = 104 ∧ ¬ nx t p = 99 ∧ ¬ nx t p = 115 ∧ ¬ nx t p = 102 ∧ ¬ nx t p = 117 ∧ ¬ nx t p = 111 ∧ ¬ nx t p = 109 ∧ ¬ nx t p = 103 ∧ ¬ nx t p = 97 ∧ ¬ nx t p = 100) : ioF (nx t p) [112, 113, 104, 99, 115, 102, 117, 111, 109, 103, 97, 100] 0 = none := by
  obtain ⟨a1, a2, a3, a4, a5, a6, a7, a8, a9, a10, a11, a12⟩ := h
  simp only [ioF]
  rw [if_neg (Ne.symm a1), if_neg (Ne.symm a2), if_neg (Ne.symm a3), if_neg (Ne.symm a4), if_neg (Ne.symm a5), if_neg (Ne.symm a6), if_neg (Ne.symm a7), if_neg (Ne.symm a8), if_neg (Ne.symm a9), if_neg (Ne.symm a10), if_neg (Ne.symm a11), if_neg (Ne.symm a12)]
theorem ic_shp {t : List Nat} {p : Nat} (h : ¬ nx t p = 112 ∧ ¬ nx t p = 113 ∧ ¬ nx t p = 104 ∧ ¬ nx t p = 99 ∧ ¬ nx t p = 115 ∧ ¬ nx t p = 102 ∧ ¬ nx t p = 117 ∧ ¬ nx t p = 111 ∧ ¬ nx t p = 109 ∧ ¬ nx t p = 103 ∧ ¬ nx t p = 97 ∧ ¬ nx t p = 100) : shp (nx t p) = [] := by
  obtain ⟨a1, a2, a3, a4, a5, a6, a7, a8, a9, a10, a11, a12⟩ := h
  unfold shp
  split <;> first | rfl | (exfalso; omega)
set_option maxHeartbeats 4000000 in
set_option maxRecDepth 100000 in
theorem s_misCommand {l : Launch} {E : zG} (hzs : zS E) (hst : l.stackTraces = false) (h : zH) (r : Nat) (hm : zMs h r) (t : List Nat) (p : Nat) (q : rAt h r t p) : zMet l E yX10_isCommand cX10_isCommand 1 (some .boolean) ({ frames := 4, cells := 0, slots := 0, locals := 91 } : Room) 0 0 [.ref r] h (icQ h r t p) (fun _ _ => False) := by
  refine zM_start hzs hst (by decide) (Nat.le_of_ble_eq_true rfl) (fun X C G F I => ?_)
  show zV X 0 0 _ 0 [(0, _)] []
  have h60 := q.1.2.1
  refine zV.aload_n C dX10_isCommand_0 rfl rfl ?_
  refine zV.gIv 427 (k := 11) C dX10_isCommand_1 zcl_X10 (by decide) rfl lk_X10_216 hm.1 rfl (q.2.1) ?_
  refine zV.aload_n C dX10_isCommand_4 rfl rfl ?_
  refine zV.gIv 426 (k := 10) C dX10_isCommand_5 zcl_X10 (by decide) rfl lk_X10_213 hm.1 rfl (q.1.1) ?_
  rcases nx_rA q with ⟨z1, z2⟩ | ⟨z1, z2, z3, z4, z5⟩
  · refine zV.icmp_eq (tgt := 28) C dX10_isCommand_8 (by decide) (fun q8 => ?_) (fun q8 => ?_)
    · refine zV.ic (v := nI 0) C dX10_isCommand_28 (by decide) ?_
      refine zV.zret C F dX10_isCommand_29 rfl rfl ?_
      exact ic_n (rdC_0 (by rw [z2]; rfl)) ((rE.refl h r).mono (by simp) (by simp)) q
    · exact absurd (congrArg nI z1) q8
  · obtain ⟨q9, q2, e91, hs⟩ := sc_X10_219 hzs
    refine zV.icmp_eq (tgt := 28) C dX10_isCommand_8 (by decide) (fun q8 => ?_) (fun q8 => ?_)
    · exact absurd (neq (by omega) (by omega) q8) (by omega)
    · rcases (by omega : (nx t p = 112 ∨ nx t p = 113 ∨ nx t p = 104 ∨ nx t p = 99 ∨ nx t p = 115 ∨ nx t p = 102 ∨ nx t p = 117 ∨ nx t p = 111 ∨ nx t p = 109 ∨ nx t p = 103 ∨ nx t p = 97 ∨ nx t p = 100) ∨ (¬ nx t p = 112 ∧ ¬ nx t p = 113 ∧ ¬ nx t p = 104 ∧ ¬ nx t p = 99 ∧ ¬ nx t p = 115 ∧ ¬ nx t p = 102 ∧ ¬ nx t p = 117 ∧ ¬ nx t p = 111 ∧ ¬ nx t p = 109 ∧ ¬ nx t p = 103 ∧ ¬ nx t p = 97 ∧ ¬ nx t p = 100)) with (ec | ec | ec | ec | ec | ec | ec | ec | ec | ec | ec | ec) | eo
      · rw [ec] at z2
        refine zV.ldcS C G dX10_isCommand_11 e91 ?_
        refine zV.aload_n C dX10_isCommand_13 rfl rfl ?_
        refine zV.gR 425 (k := 9) C dX10_isCommand_14 zcl_X10 (by decide) rfl lk_X10_29 (hm.1) rfl (hm.2.2.2.2.2.2.2.1) ?_
        refine zV.aload_n C dX10_isCommand_17 rfl rfl ?_
        refine zV.gIv 427 (k := 11) C dX10_isCommand_18 zcl_X10 (by decide) rfl lk_X10_216 hm.1 rfl (q.2.1) ?_
        refine zV.caldv (j := p) C dX10_isCommand_21 (hm.2.2.2.2.2.2.2.2.2.2.2.2.2.2.2.1.1) (rfl) (Nat.lt_of_lt_of_eq (show p < 60 from z5) (hm.2.2.2.2.2.2.2.2.2.2.2.2.2.2.2.1.2).symm) (by omega) ((q.1.2.2 p 112 z2).1) ?_
        refine zV.callVR (n := 1) C G dX10_isCommand_22 (s_SindexOf hzs hst h q9 q2 [112, 113, 104, 99, 115, 102, 117, 111, 109, 103, 97, 100] hs (by decide) 112 (by omega) (by decide) (by decide)) rfl ⟨cd_J0_indexOf_0f7a4, lk_X10_221, im_J0_indexOf_0f7a4, se_J0_J0_indexOf_0f7a4, in_J0⟩ ⟨⟨by decide, by decide⟩, by decide⟩ rfl rfl rfl (hs.1) (zaf ?_) (zno)
        rw [show ioF 112 [112, 113, 104, 99, 115, 102, 117, 111, 109, 103, 97, 100] 0 = some 0 from rfl]
        show zV X _ _ h 25 _ (.int (nI 0) :: _)
        refine zV.if_ge (tgt := 30) C dX10_isCommand_25 (by decide) (fun q25 => ?_) (fun q25 => ?_)
        · refine zV.aload_n C dX10_isCommand_30 rfl rfl ?_
          refine zV.aload_n C dX10_isCommand_31 rfl rfl ?_
          refine zV.gR 425 (k := 9) C dX10_isCommand_32 zcl_X10 (by decide) rfl lk_X10_29 (hm.1) rfl (hm.2.2.2.2.2.2.2.1) ?_
          refine zV.aload_n C dX10_isCommand_35 rfl rfl ?_
          refine zV.dup C dX10_isCommand_36 rfl ?_
          refine zV.gIv 427 (k := 11) C dX10_isCommand_37 zcl_X10 (by decide) rfl lk_X10_216 hm.1 rfl (q.2.1) ?_
          refine zV.dup_x1 C dX10_isCommand_40 rfl rfl ?_
          refine zV.ic (v := nI 1) C dX10_isCommand_41 (by decide) ?_
          refine zV.iadd C dX10_isCommand_42 ?_
          rw [nI_add]
          refine zV.pI 427 (k := 11) C dX10_isCommand_43 zcl_X10 (by decide) rfl lk_X10_216 rfl hm.1 rfl ⟨rfl, rfl⟩ ?_
          refine zV.caldv (j := p) C dX10_isCommand_46 (hm.2.2.2.2.2.2.2.2.2.2.2.2.2.2.2.1.1) (rfl) (Nat.lt_of_lt_of_eq (show p < 60 from z5) (hm.2.2.2.2.2.2.2.2.2.2.2.2.2.2.2.1.2).symm) (by omega) ((show aI (sI h 427 r (nI (p + 1))) (r + 7) p = nI 112 from (q.1.2.2 p 112 z2).1)) ?_
          refine zV.pI 428 (k := 12) C dX10_isCommand_47 zcl_X10 (by decide) rfl lk_X10_226 rfl hm.1 rfl ⟨rfl, rfl⟩ ?_
          obtain ⟨H1, hH1, E1, A1, w1, m1⟩ := ic_st (c := 112) hm q z1
          rw [← hH1]
          refine zV.aload_n C dX10_isCommand_50 rfl rfl ?_
          refine zV.gIv 428 (k := 12) C dX10_isCommand_51 zcl_X10 (by decide) rfl lk_X10_226 m1.1 rfl (w1) ?_
          refine zV.tIn 128 C dX10_isCommand_54 (by decide) (by decide) (show _ = some 74 from by rfl) (by decide) ?_
          refine zV.aload_n C dX10_isCommand_128 rfl rfl ?_
          refine zV.ic (v := nI 0) C dX10_isCommand_129 (by decide) ?_
          refine zV.ic (v := nI 1) C dX10_isCommand_130 (by decide) ?_
          refine zV.callV (n := 2) C G dX10_isCommand_131 (s_mdigits hzs hst H1 r m1 t _ 0 1 A1 (by decide) (by decide)) rfl ⟨cd_X10_digits, lk_X10_230, im_X10_digits, se_X10_X10_digits, in_X10⟩ ⟨⟨by decide, by decide⟩, by decide⟩ rfl rfl rfl m1.1 ⟨rfl, by decide⟩ (zafR (fun h2 ⟨E2, A2, k2, o2⟩ => ?_)) (zno)
          refine zV.if_eq (tgt := 150) C dX10_isCommand_134 (by decide) (fun q134 => ?_) (fun q134 => ?_)
          · have n1 := isn q134
            have E9 : rE h h2 r [427, 428] [8] := (E1.trans E2).mono (by simp) (by simp)
            refine zV.ic (v := nI 0) C dX10_isCommand_150 (by decide) ?_
            refine zV.zret C F dX10_isCommand_151 rfl rfl ?_
            first
              | exact ic_s (rdC_2 ec (show shp 112 = _ from rfl) (Or.inl rfl) (Or.inl rfl) n1 n2) E9 A3 ((E3.f (by decide)).trans ((E2.f (by decide)).trans w1)) ((o3 0 (by decide)).trans (k2.trans (by rw [n1]; rfl))) (fun _ => k3.trans (by rw [n2]; rfl))
              | exact ic_n (rdC_2n ec (show shp 112 = _ from rfl) (Or.inl rfl) (Or.inl rfl) n1 n2) E9 A3
              | exact ic_n (rdC_1n ec (show shp 112 = _ from rfl) (Or.inl rfl) n1) E9 A2
          · obtain ⟨x, n1⟩ := iss q134
            have m2 := E2.m m1
            refine zV.aload_n C dX10_isCommand_137 rfl rfl ?_
            refine zV.ic (v := nI 1) C dX10_isCommand_138 (by decide) ?_
            refine zV.ic (v := nI 1) C dX10_isCommand_139 (by decide) ?_
            refine zV.callV (n := 2) C G dX10_isCommand_140 (s_mdigits hzs hst h2 r m2 t _ 1 1 A2 (by decide) (by decide)) rfl ⟨cd_X10_digits, lk_X10_230, im_X10_digits, se_X10_X10_digits, in_X10⟩ ⟨⟨by decide, by decide⟩, by decide⟩ rfl rfl rfl m2.1 ⟨rfl, by decide⟩ (zafR (fun h3 ⟨E3, A3, k3, o3⟩ => ?_)) (zno)
            refine zV.if_eq (tgt := 150) C dX10_isCommand_143 (by decide) (fun q143 => ?_) (fun q143 => ?_)
            · have n2 := isn q143
              have E9 : rE h h3 r [427, 428] [8] := ((E1.trans E2).trans E3).mono (by simp) (by simp)
              refine zV.ic (v := nI 0) C dX10_isCommand_150 (by decide) ?_
              refine zV.zret C F dX10_isCommand_151 rfl rfl ?_
              first
                | exact ic_s (rdC_2 ec (show shp 112 = _ from rfl) (Or.inl rfl) (Or.inl rfl) n1 n2) E9 A3 ((E3.f (by decide)).trans ((E2.f (by decide)).trans w1)) ((o3 0 (by decide)).trans (k2.trans (by rw [n1]; rfl))) (fun _ => k3.trans (by rw [n2]; rfl))
                | exact ic_n (rdC_2n ec (show shp 112 = _ from rfl) (Or.inl rfl) (Or.inl rfl) n1 n2) E9 A3
                | exact ic_n (rdC_1n ec (show shp 112 = _ from rfl) (Or.inl rfl) n1) E9 A2
            · obtain ⟨y, n2⟩ := iss q143
              have E9 : rE h h3 r [427, 428] [8] := ((E1.trans E2).trans E3).mono (by simp) (by simp)
              refine zV.ic (v := nI 1) C dX10_isCommand_146 (by decide) ?_
              refine zV.goto (tgt := 151) C dX10_isCommand_147 (by decide) ?_
              refine zV.zret C F dX10_isCommand_151 rfl rfl ?_
              first
                | exact ic_s (rdC_2 ec (show shp 112 = _ from rfl) (Or.inl rfl) (Or.inl rfl) n1 n2) E9 A3 ((E3.f (by decide)).trans ((E2.f (by decide)).trans w1)) ((o3 0 (by decide)).trans (k2.trans (by rw [n1]; rfl))) (fun _ => k3.trans (by rw [n2]; rfl))
                | exact ic_n (rdC_2n ec (show shp 112 = _ from rfl) (Or.inl rfl) (Or.inl rfl) n1 n2) E9 A3
                | exact ic_n (rdC_1n ec (show shp 112 = _ from rfl) (Or.inl rfl) n1) E9 A2
        · exact absurd (by decide) q25
      · rw [ec] at z2
        refine zV.ldcS C G dX10_isCommand_11 e91 ?_
        refine zV.aload_n C dX10_isCommand_13 rfl rfl ?_
        refine zV.gR 425 (k := 9) C dX10_isCommand_14 zcl_X10 (by decide) rfl lk_X10_29 (hm.1) rfl (hm.2.2.2.2.2.2.2.1) ?_
        refine zV.aload_n C dX10_isCommand_17 rfl rfl ?_
        refine zV.gIv 427 (k := 11) C dX10_isCommand_18 zcl_X10 (by decide) rfl lk_X10_216 hm.1 rfl (q.2.1) ?_
        refine zV.caldv (j := p) C dX10_isCommand_21 (hm.2.2.2.2.2.2.2.2.2.2.2.2.2.2.2.1.1) (rfl) (Nat.lt_of_lt_of_eq (show p < 60 from z5) (hm.2.2.2.2.2.2.2.2.2.2.2.2.2.2.2.1.2).symm) (by omega) ((q.1.2.2 p 113 z2).1) ?_
        refine zV.callVR (n := 1) C G dX10_isCommand_22 (s_SindexOf hzs hst h q9 q2 [112, 113, 104, 99, 115, 102, 117, 111, 109, 103, 97, 100] hs (by decide) 113 (by omega) (by decide) (by decide)) rfl ⟨cd_J0_indexOf_0f7a4, lk_X10_221, im_J0_indexOf_0f7a4, se_J0_J0_indexOf_0f7a4, in_J0⟩ ⟨⟨by decide, by decide⟩, by decide⟩ rfl rfl rfl (hs.1) (zaf ?_) (zno)
        rw [show ioF 113 [112, 113, 104, 99, 115, 102, 117, 111, 109, 103, 97, 100] 0 = some 1 from rfl]
        show zV X _ _ h 25 _ (.int (nI 1) :: _)
        refine zV.if_ge (tgt := 30) C dX10_isCommand_25 (by decide) (fun q25 => ?_) (fun q25 => ?_)
        · refine zV.aload_n C dX10_isCommand_30 rfl rfl ?_
          refine zV.aload_n C dX10_isCommand_31 rfl rfl ?_
          refine zV.gR 425 (k := 9) C dX10_isCommand_32 zcl_X10 (by decide) rfl lk_X10_29 (hm.1) rfl (hm.2.2.2.2.2.2.2.1) ?_
          refine zV.aload_n C dX10_isCommand_35 rfl rfl ?_
          refine zV.dup C dX10_isCommand_36 rfl ?_
          refine zV.gIv 427 (k := 11) C dX10_isCommand_37 zcl_X10 (by decide) rfl lk_X10_216 hm.1 rfl (q.2.1) ?_
          refine zV.dup_x1 C dX10_isCommand_40 rfl rfl ?_
          refine zV.ic (v := nI 1) C dX10_isCommand_41 (by decide) ?_
          refine zV.iadd C dX10_isCommand_42 ?_
          rw [nI_add]
          refine zV.pI 427 (k := 11) C dX10_isCommand_43 zcl_X10 (by decide) rfl lk_X10_216 rfl hm.1 rfl ⟨rfl, rfl⟩ ?_
          refine zV.caldv (j := p) C dX10_isCommand_46 (hm.2.2.2.2.2.2.2.2.2.2.2.2.2.2.2.1.1) (rfl) (Nat.lt_of_lt_of_eq (show p < 60 from z5) (hm.2.2.2.2.2.2.2.2.2.2.2.2.2.2.2.1.2).symm) (by omega) ((show aI (sI h 427 r (nI (p + 1))) (r + 7) p = nI 113 from (q.1.2.2 p 113 z2).1)) ?_
          refine zV.pI 428 (k := 12) C dX10_isCommand_47 zcl_X10 (by decide) rfl lk_X10_226 rfl hm.1 rfl ⟨rfl, rfl⟩ ?_
          obtain ⟨H1, hH1, E1, A1, w1, m1⟩ := ic_st (c := 113) hm q z1
          rw [← hH1]
          refine zV.aload_n C dX10_isCommand_50 rfl rfl ?_
          refine zV.gIv 428 (k := 12) C dX10_isCommand_51 zcl_X10 (by decide) rfl lk_X10_226 m1.1 rfl (w1) ?_
          refine zV.tIn 128 C dX10_isCommand_54 (by decide) (by decide) (show _ = some 74 from by rfl) (by decide) ?_
          refine zV.aload_n C dX10_isCommand_128 rfl rfl ?_
          refine zV.ic (v := nI 0) C dX10_isCommand_129 (by decide) ?_
          refine zV.ic (v := nI 1) C dX10_isCommand_130 (by decide) ?_
          refine zV.callV (n := 2) C G dX10_isCommand_131 (s_mdigits hzs hst H1 r m1 t _ 0 1 A1 (by decide) (by decide)) rfl ⟨cd_X10_digits, lk_X10_230, im_X10_digits, se_X10_X10_digits, in_X10⟩ ⟨⟨by decide, by decide⟩, by decide⟩ rfl rfl rfl m1.1 ⟨rfl, by decide⟩ (zafR (fun h2 ⟨E2, A2, k2, o2⟩ => ?_)) (zno)
          refine zV.if_eq (tgt := 150) C dX10_isCommand_134 (by decide) (fun q134 => ?_) (fun q134 => ?_)
          · have n1 := isn q134
            have E9 : rE h h2 r [427, 428] [8] := (E1.trans E2).mono (by simp) (by simp)
            refine zV.ic (v := nI 0) C dX10_isCommand_150 (by decide) ?_
            refine zV.zret C F dX10_isCommand_151 rfl rfl ?_
            first
              | exact ic_s (rdC_2 ec (show shp 113 = _ from rfl) (Or.inl rfl) (Or.inl rfl) n1 n2) E9 A3 ((E3.f (by decide)).trans ((E2.f (by decide)).trans w1)) ((o3 0 (by decide)).trans (k2.trans (by rw [n1]; rfl))) (fun _ => k3.trans (by rw [n2]; rfl))
              | exact ic_n (rdC_2n ec (show shp 113 = _ from rfl) (Or.inl rfl) (Or.inl rfl) n1 n2) E9 A3
              | exact ic_n (rdC_1n ec (show shp 113 = _ from rfl) (Or.inl rfl) n1) E9 A2
          · obtain ⟨x, n1⟩ := iss q134
            have m2 := E2.m m1
            refine zV.aload_n C dX10_isCommand_137 rfl rfl ?_
            refine zV.ic (v := nI 1) C dX10_isCommand_138 (by decide) ?_
            refine zV.ic (v := nI 1) C dX10_isCommand_139 (by decide) ?_
            refine zV.callV (n := 2) C G dX10_isCommand_140 (s_mdigits hzs hst h2 r m2 t _ 1 1 A2 (by decide) (by decide)) rfl ⟨cd_X10_digits, lk_X10_230, im_X10_digits, se_X10_X10_digits, in_X10⟩ ⟨⟨by decide, by decide⟩, by decide⟩ rfl rfl rfl m2.1 ⟨rfl, by decide⟩ (zafR (fun h3 ⟨E3, A3, k3, o3⟩ => ?_)) (zno)
            refine zV.if_eq (tgt := 150) C dX10_isCommand_143 (by decide) (fun q143 => ?_) (fun q143 => ?_)
            · have n2 := isn q143
              have E9 : rE h h3 r [427, 428] [8] := ((E1.trans E2).trans E3).mono (by simp) (by simp)
              refine zV.ic (v := nI 0) C dX10_isCommand_150 (by decide) ?_
              refine zV.zret C F dX10_isCommand_151 rfl rfl ?_
              first
                | exact ic_s (rdC_2 ec (show shp 113 = _ from rfl) (Or.inl rfl) (Or.inl rfl) n1 n2) E9 A3 ((E3.f (by decide)).trans ((E2.f (by decide)).trans w1)) ((o3 0 (by decide)).trans (k2.trans (by rw [n1]; rfl))) (fun _ => k3.trans (by rw [n2]; rfl))
                | exact ic_n (rdC_2n ec (show shp 113 = _ from rfl) (Or.inl rfl) (Or.inl rfl) n1 n2) E9 A3
                | exact ic_n (rdC_1n ec (show shp 113 = _ from rfl) (Or.inl rfl) n1) E9 A2
            · obtain ⟨y, n2⟩ := iss q143
              have E9 : rE h h3 r [427, 428] [8] := ((E1.trans E2).trans E3).mono (by simp) (by simp)
              refine zV.ic (v := nI 1) C dX10_isCommand_146 (by decide) ?_
              refine zV.goto (tgt := 151) C dX10_isCommand_147 (by decide) ?_
              refine zV.zret C F dX10_isCommand_151 rfl rfl ?_
              first
                | exact ic_s (rdC_2 ec (show shp 113 = _ from rfl) (Or.inl rfl) (Or.inl rfl) n1 n2) E9 A3 ((E3.f (by decide)).trans ((E2.f (by decide)).trans w1)) ((o3 0 (by decide)).trans (k2.trans (by rw [n1]; rfl))) (fun _ => k3.trans (by rw [n2]; rfl))
                | exact ic_n (rdC_2n ec (show shp 113 = _ from rfl) (Or.inl rfl) (Or.inl rfl) n1 n2) E9 A3
                | exact ic_n (rdC_1n ec (show shp 113 = _ from rfl) (Or.inl rfl) n1) E9 A2
        · exact absurd (by decide) q25
      · rw [ec] at z2
        refine zV.ldcS C G dX10_isCommand_11 e91 ?_
        refine zV.aload_n C dX10_isCommand_13 rfl rfl ?_
        refine zV.gR 425 (k := 9) C dX10_isCommand_14 zcl_X10 (by decide) rfl lk_X10_29 (hm.1) rfl (hm.2.2.2.2.2.2.2.1) ?_
        refine zV.aload_n C dX10_isCommand_17 rfl rfl ?_
        refine zV.gIv 427 (k := 11) C dX10_isCommand_18 zcl_X10 (by decide) rfl lk_X10_216 hm.1 rfl (q.2.1) ?_
        refine zV.caldv (j := p) C dX10_isCommand_21 (hm.2.2.2.2.2.2.2.2.2.2.2.2.2.2.2.1.1) (rfl) (Nat.lt_of_lt_of_eq (show p < 60 from z5) (hm.2.2.2.2.2.2.2.2.2.2.2.2.2.2.2.1.2).symm) (by omega) ((q.1.2.2 p 104 z2).1) ?_
        refine zV.callVR (n := 1) C G dX10_isCommand_22 (s_SindexOf hzs hst h q9 q2 [112, 113, 104, 99, 115, 102, 117, 111, 109, 103, 97, 100] hs (by decide) 104 (by omega) (by decide) (by decide)) rfl ⟨cd_J0_indexOf_0f7a4, lk_X10_221, im_J0_indexOf_0f7a4, se_J0_J0_indexOf_0f7a4, in_J0⟩ ⟨⟨by decide, by decide⟩, by decide⟩ rfl rfl rfl (hs.1) (zaf ?_) (zno)
        rw [show ioF 104 [112, 113, 104, 99, 115, 102, 117, 111, 109, 103, 97, 100] 0 = some 2 from rfl]
        show zV X _ _ h 25 _ (.int (nI 2) :: _)
        refine zV.if_ge (tgt := 30) C dX10_isCommand_25 (by decide) (fun q25 => ?_) (fun q25 => ?_)
        · refine zV.aload_n C dX10_isCommand_30 rfl rfl ?_
          refine zV.aload_n C dX10_isCommand_31 rfl rfl ?_
          refine zV.gR 425 (k := 9) C dX10_isCommand_32 zcl_X10 (by decide) rfl lk_X10_29 (hm.1) rfl (hm.2.2.2.2.2.2.2.1) ?_
          refine zV.aload_n C dX10_isCommand_35 rfl rfl ?_
          refine zV.dup C dX10_isCommand_36 rfl ?_
          refine zV.gIv 427 (k := 11) C dX10_isCommand_37 zcl_X10 (by decide) rfl lk_X10_216 hm.1 rfl (q.2.1) ?_
          refine zV.dup_x1 C dX10_isCommand_40 rfl rfl ?_
          refine zV.ic (v := nI 1) C dX10_isCommand_41 (by decide) ?_
          refine zV.iadd C dX10_isCommand_42 ?_
          rw [nI_add]
          refine zV.pI 427 (k := 11) C dX10_isCommand_43 zcl_X10 (by decide) rfl lk_X10_216 rfl hm.1 rfl ⟨rfl, rfl⟩ ?_
          refine zV.caldv (j := p) C dX10_isCommand_46 (hm.2.2.2.2.2.2.2.2.2.2.2.2.2.2.2.1.1) (rfl) (Nat.lt_of_lt_of_eq (show p < 60 from z5) (hm.2.2.2.2.2.2.2.2.2.2.2.2.2.2.2.1.2).symm) (by omega) ((show aI (sI h 427 r (nI (p + 1))) (r + 7) p = nI 104 from (q.1.2.2 p 104 z2).1)) ?_
          refine zV.pI 428 (k := 12) C dX10_isCommand_47 zcl_X10 (by decide) rfl lk_X10_226 rfl hm.1 rfl ⟨rfl, rfl⟩ ?_
          obtain ⟨H1, hH1, E1, A1, w1, m1⟩ := ic_st (c := 104) hm q z1
          rw [← hH1]
          refine zV.aload_n C dX10_isCommand_50 rfl rfl ?_
          refine zV.gIv 428 (k := 12) C dX10_isCommand_51 zcl_X10 (by decide) rfl lk_X10_226 m1.1 rfl (w1) ?_
          refine zV.tIn 152 C dX10_isCommand_54 (by decide) (by decide) (show _ = some 98 from by rfl) (by decide) ?_
          refine zV.aload_n C dX10_isCommand_152 rfl rfl ?_
          refine zV.ic (v := nI 0) C dX10_isCommand_153 (by decide) ?_
          refine zV.ic (v := nI 1) C dX10_isCommand_154 (by decide) ?_
          refine zV.callV (n := 2) C G dX10_isCommand_155 (s_mdigits hzs hst H1 r m1 t _ 0 1 A1 (by decide) (by decide)) rfl ⟨cd_X10_digits, lk_X10_230, im_X10_digits, se_X10_X10_digits, in_X10⟩ ⟨⟨by decide, by decide⟩, by decide⟩ rfl rfl rfl m1.1 ⟨rfl, by decide⟩ (zafR (fun h2 ⟨E2, A2, k2, o2⟩ => ?_)) (zno)
          refine zV.if_eq (tgt := 183) C dX10_isCommand_158 (by decide) (fun q158 => ?_) (fun q158 => ?_)
          · have n1 := isn q158
            have E9 : rE h h2 r [427, 428] [8] := (E1.trans E2).mono (by simp) (by simp)
            refine zV.ic (v := nI 0) C dX10_isCommand_183 (by decide) ?_
            refine zV.zret C F dX10_isCommand_184 rfl rfl ?_
            first
              | exact ic_s (rdC_3 ec (show shp 104 = _ from rfl) (Or.inl rfl) (Or.inr rfl) (by decide) (by decide) n1 n2 n3) E9 A4 ((E4.f (by decide)).trans ((E3.f (by decide)).trans ((E2.f (by decide)).trans w1))) ((o4 0 (by decide)).trans ((congrFun (E3.r (i := 8) (by decide)) 0).trans (k2.trans (by rw [n1]; rfl)))) (fun _ => k4.trans (by rw [n3]; rfl))
              | exact ic_n (rdC_3n ec (show shp 104 = _ from rfl) (Or.inl rfl) (Or.inr rfl) (by decide) (by decide) n1 n2 n3) E9 A4
              | exact ic_n (rdC_3d ec (show shp 104 = _ from rfl) (Or.inl rfl) (by decide) (by decide) n1 n2) E9 A3
              | exact ic_n (rdC_1n ec (show shp 104 = _ from rfl) (Or.inl rfl) n1) E9 A2
          · obtain ⟨x, n1⟩ := iss q158
            have m2 := E2.m m1
            refine zV.aload_n C dX10_isCommand_161 rfl rfl ?_
            refine zV.bi (v := nI 61) C dX10_isCommand_162 (by decide) ?_
            refine zV.callV (n := 1) C G dX10_isCommand_164 (s_mtakes hzs hst h2 r m2 t _ 61 A2 (by decide)) rfl ⟨cd_X10_takes, lk_X10_233, im_X10_takes, se_X10_X10_takes, in_X10⟩ ⟨⟨by decide, by decide⟩, by decide⟩ rfl rfl rfl m2.1 ⟨rfl, by decide⟩ (zafR (fun h3 ⟨E3, A3⟩ => ?_)) (zno)
            refine zV.if_eq (tgt := 183) C dX10_isCommand_167 (by decide) (fun q167 => ?_) (fun q167 => ?_)
            · have n2 := dcn q167
              rw [if_neg n2] at A3
              have E9 : rE h h3 r [427, 428] [8] := ((E1.trans E2).trans E3).mono (by simp) (by simp)
              refine zV.ic (v := nI 0) C dX10_isCommand_183 (by decide) ?_
              refine zV.zret C F dX10_isCommand_184 rfl rfl ?_
              first
                | exact ic_s (rdC_3 ec (show shp 104 = _ from rfl) (Or.inl rfl) (Or.inr rfl) (by decide) (by decide) n1 n2 n3) E9 A4 ((E4.f (by decide)).trans ((E3.f (by decide)).trans ((E2.f (by decide)).trans w1))) ((o4 0 (by decide)).trans ((congrFun (E3.r (i := 8) (by decide)) 0).trans (k2.trans (by rw [n1]; rfl)))) (fun _ => k4.trans (by rw [n3]; rfl))
                | exact ic_n (rdC_3n ec (show shp 104 = _ from rfl) (Or.inl rfl) (Or.inr rfl) (by decide) (by decide) n1 n2 n3) E9 A4
                | exact ic_n (rdC_3d ec (show shp 104 = _ from rfl) (Or.inl rfl) (by decide) (by decide) n1 n2) E9 A3
                | exact ic_n (rdC_1n ec (show shp 104 = _ from rfl) (Or.inl rfl) n1) E9 A2
            · have n2 := dcy q167
              rw [if_pos n2] at A3
              have m3 := E3.m m2
              refine zV.aload_n C dX10_isCommand_170 rfl rfl ?_
              refine zV.ic (v := nI 1) C dX10_isCommand_171 (by decide) ?_
              refine zV.ic (v := nI 2) C dX10_isCommand_172 (by decide) ?_
              refine zV.callV (n := 2) C G dX10_isCommand_173 (s_mdigits hzs hst h3 r m3 t _ 1 2 A3 (by decide) (by decide)) rfl ⟨cd_X10_digits, lk_X10_230, im_X10_digits, se_X10_X10_digits, in_X10⟩ ⟨⟨by decide, by decide⟩, by decide⟩ rfl rfl rfl m3.1 ⟨rfl, by decide⟩ (zafR (fun h4 ⟨E4, A4, k4, o4⟩ => ?_)) (zno)
              refine zV.if_eq (tgt := 183) C dX10_isCommand_176 (by decide) (fun q176 => ?_) (fun q176 => ?_)
              · have n3 := isn q176
                have E9 : rE h h4 r [427, 428] [8] := (((E1.trans E2).trans E3).trans E4).mono (by simp) (by simp)
                refine zV.ic (v := nI 0) C dX10_isCommand_183 (by decide) ?_
                refine zV.zret C F dX10_isCommand_184 rfl rfl ?_
                first
                  | exact ic_s (rdC_3 ec (show shp 104 = _ from rfl) (Or.inl rfl) (Or.inr rfl) (by decide) (by decide) n1 n2 n3) E9 A4 ((E4.f (by decide)).trans ((E3.f (by decide)).trans ((E2.f (by decide)).trans w1))) ((o4 0 (by decide)).trans ((congrFun (E3.r (i := 8) (by decide)) 0).trans (k2.trans (by rw [n1]; rfl)))) (fun _ => k4.trans (by rw [n3]; rfl))
                  | exact ic_n (rdC_3n ec (show shp 104 = _ from rfl) (Or.inl rfl) (Or.inr rfl) (by decide) (by decide) n1 n2 n3) E9 A4
                  | exact ic_n (rdC_3d ec (show shp 104 = _ from rfl) (Or.inl rfl) (by decide) (by decide) n1 n2) E9 A3
                  | exact ic_n (rdC_1n ec (show shp 104 = _ from rfl) (Or.inl rfl) n1) E9 A2
              · obtain ⟨y, n3⟩ := iss q176
                have E9 : rE h h4 r [427, 428] [8] := (((E1.trans E2).trans E3).trans E4).mono (by simp) (by simp)
                refine zV.ic (v := nI 1) C dX10_isCommand_179 (by decide) ?_
                refine zV.goto (tgt := 184) C dX10_isCommand_180 (by decide) ?_
                refine zV.zret C F dX10_isCommand_184 rfl rfl ?_
                first
                  | exact ic_s (rdC_3 ec (show shp 104 = _ from rfl) (Or.inl rfl) (Or.inr rfl) (by decide) (by decide) n1 n2 n3) E9 A4 ((E4.f (by decide)).trans ((E3.f (by decide)).trans ((E2.f (by decide)).trans w1))) ((o4 0 (by decide)).trans ((congrFun (E3.r (i := 8) (by decide)) 0).trans (k2.trans (by rw [n1]; rfl)))) (fun _ => k4.trans (by rw [n3]; rfl))
                  | exact ic_n (rdC_3n ec (show shp 104 = _ from rfl) (Or.inl rfl) (Or.inr rfl) (by decide) (by decide) n1 n2 n3) E9 A4
                  | exact ic_n (rdC_3d ec (show shp 104 = _ from rfl) (Or.inl rfl) (by decide) (by decide) n1 n2) E9 A3
                  | exact ic_n (rdC_1n ec (show shp 104 = _ from rfl) (Or.inl rfl) n1) E9 A2
        · exact absurd (by decide) q25
      · rw [ec] at z2
        refine zV.ldcS C G dX10_isCommand_11 e91 ?_
        refine zV.aload_n C dX10_isCommand_13 rfl rfl ?_
        refine zV.gR 425 (k := 9) C dX10_isCommand_14 zcl_X10 (by decide) rfl lk_X10_29 (hm.1) rfl (hm.2.2.2.2.2.2.2.1) ?_
        refine zV.aload_n C dX10_isCommand_17 rfl rfl ?_
        refine zV.gIv 427 (k := 11) C dX10_isCommand_18 zcl_X10 (by decide) rfl lk_X10_216 hm.1 rfl (q.2.1) ?_
        refine zV.caldv (j := p) C dX10_isCommand_21 (hm.2.2.2.2.2.2.2.2.2.2.2.2.2.2.2.1.1) (rfl) (Nat.lt_of_lt_of_eq (show p < 60 from z5) (hm.2.2.2.2.2.2.2.2.2.2.2.2.2.2.2.1.2).symm) (by omega) ((q.1.2.2 p 99 z2).1) ?_
        refine zV.callVR (n := 1) C G dX10_isCommand_22 (s_SindexOf hzs hst h q9 q2 [112, 113, 104, 99, 115, 102, 117, 111, 109, 103, 97, 100] hs (by decide) 99 (by omega) (by decide) (by decide)) rfl ⟨cd_J0_indexOf_0f7a4, lk_X10_221, im_J0_indexOf_0f7a4, se_J0_J0_indexOf_0f7a4, in_J0⟩ ⟨⟨by decide, by decide⟩, by decide⟩ rfl rfl rfl (hs.1) (zaf ?_) (zno)
        rw [show ioF 99 [112, 113, 104, 99, 115, 102, 117, 111, 109, 103, 97, 100] 0 = some 3 from rfl]
        show zV X _ _ h 25 _ (.int (nI 3) :: _)
        refine zV.if_ge (tgt := 30) C dX10_isCommand_25 (by decide) (fun q25 => ?_) (fun q25 => ?_)
        · refine zV.aload_n C dX10_isCommand_30 rfl rfl ?_
          refine zV.aload_n C dX10_isCommand_31 rfl rfl ?_
          refine zV.gR 425 (k := 9) C dX10_isCommand_32 zcl_X10 (by decide) rfl lk_X10_29 (hm.1) rfl (hm.2.2.2.2.2.2.2.1) ?_
          refine zV.aload_n C dX10_isCommand_35 rfl rfl ?_
          refine zV.dup C dX10_isCommand_36 rfl ?_
          refine zV.gIv 427 (k := 11) C dX10_isCommand_37 zcl_X10 (by decide) rfl lk_X10_216 hm.1 rfl (q.2.1) ?_
          refine zV.dup_x1 C dX10_isCommand_40 rfl rfl ?_
          refine zV.ic (v := nI 1) C dX10_isCommand_41 (by decide) ?_
          refine zV.iadd C dX10_isCommand_42 ?_
          rw [nI_add]
          refine zV.pI 427 (k := 11) C dX10_isCommand_43 zcl_X10 (by decide) rfl lk_X10_216 rfl hm.1 rfl ⟨rfl, rfl⟩ ?_
          refine zV.caldv (j := p) C dX10_isCommand_46 (hm.2.2.2.2.2.2.2.2.2.2.2.2.2.2.2.1.1) (rfl) (Nat.lt_of_lt_of_eq (show p < 60 from z5) (hm.2.2.2.2.2.2.2.2.2.2.2.2.2.2.2.1.2).symm) (by omega) ((show aI (sI h 427 r (nI (p + 1))) (r + 7) p = nI 99 from (q.1.2.2 p 99 z2).1)) ?_
          refine zV.pI 428 (k := 12) C dX10_isCommand_47 zcl_X10 (by decide) rfl lk_X10_226 rfl hm.1 rfl ⟨rfl, rfl⟩ ?_
          obtain ⟨H1, hH1, E1, A1, w1, m1⟩ := ic_st (c := 99) hm q z1
          rw [← hH1]
          refine zV.aload_n C dX10_isCommand_50 rfl rfl ?_
          refine zV.gIv 428 (k := 12) C dX10_isCommand_51 zcl_X10 (by decide) rfl lk_X10_226 m1.1 rfl (w1) ?_
          refine zV.tIn 128 C dX10_isCommand_54 (by decide) (by decide) (show _ = some 74 from by rfl) (by decide) ?_
          refine zV.aload_n C dX10_isCommand_128 rfl rfl ?_
          refine zV.ic (v := nI 0) C dX10_isCommand_129 (by decide) ?_
          refine zV.ic (v := nI 1) C dX10_isCommand_130 (by decide) ?_
          refine zV.callV (n := 2) C G dX10_isCommand_131 (s_mdigits hzs hst H1 r m1 t _ 0 1 A1 (by decide) (by decide)) rfl ⟨cd_X10_digits, lk_X10_230, im_X10_digits, se_X10_X10_digits, in_X10⟩ ⟨⟨by decide, by decide⟩, by decide⟩ rfl rfl rfl m1.1 ⟨rfl, by decide⟩ (zafR (fun h2 ⟨E2, A2, k2, o2⟩ => ?_)) (zno)
          refine zV.if_eq (tgt := 150) C dX10_isCommand_134 (by decide) (fun q134 => ?_) (fun q134 => ?_)
          · have n1 := isn q134
            have E9 : rE h h2 r [427, 428] [8] := (E1.trans E2).mono (by simp) (by simp)
            refine zV.ic (v := nI 0) C dX10_isCommand_150 (by decide) ?_
            refine zV.zret C F dX10_isCommand_151 rfl rfl ?_
            first
              | exact ic_s (rdC_2 ec (show shp 99 = _ from rfl) (Or.inl rfl) (Or.inl rfl) n1 n2) E9 A3 ((E3.f (by decide)).trans ((E2.f (by decide)).trans w1)) ((o3 0 (by decide)).trans (k2.trans (by rw [n1]; rfl))) (fun _ => k3.trans (by rw [n2]; rfl))
              | exact ic_n (rdC_2n ec (show shp 99 = _ from rfl) (Or.inl rfl) (Or.inl rfl) n1 n2) E9 A3
              | exact ic_n (rdC_1n ec (show shp 99 = _ from rfl) (Or.inl rfl) n1) E9 A2
          · obtain ⟨x, n1⟩ := iss q134
            have m2 := E2.m m1
            refine zV.aload_n C dX10_isCommand_137 rfl rfl ?_
            refine zV.ic (v := nI 1) C dX10_isCommand_138 (by decide) ?_
            refine zV.ic (v := nI 1) C dX10_isCommand_139 (by decide) ?_
            refine zV.callV (n := 2) C G dX10_isCommand_140 (s_mdigits hzs hst h2 r m2 t _ 1 1 A2 (by decide) (by decide)) rfl ⟨cd_X10_digits, lk_X10_230, im_X10_digits, se_X10_X10_digits, in_X10⟩ ⟨⟨by decide, by decide⟩, by decide⟩ rfl rfl rfl m2.1 ⟨rfl, by decide⟩ (zafR (fun h3 ⟨E3, A3, k3, o3⟩ => ?_)) (zno)
            refine zV.if_eq (tgt := 150) C dX10_isCommand_143 (by decide) (fun q143 => ?_) (fun q143 => ?_)
            · have n2 := isn q143
              have E9 : rE h h3 r [427, 428] [8] := ((E1.trans E2).trans E3).mono (by simp) (by simp)
              refine zV.ic (v := nI 0) C dX10_isCommand_150 (by decide) ?_
              refine zV.zret C F dX10_isCommand_151 rfl rfl ?_
              first
                | exact ic_s (rdC_2 ec (show shp 99 = _ from rfl) (Or.inl rfl) (Or.inl rfl) n1 n2) E9 A3 ((E3.f (by decide)).trans ((E2.f (by decide)).trans w1)) ((o3 0 (by decide)).trans (k2.trans (by rw [n1]; rfl))) (fun _ => k3.trans (by rw [n2]; rfl))
                | exact ic_n (rdC_2n ec (show shp 99 = _ from rfl) (Or.inl rfl) (Or.inl rfl) n1 n2) E9 A3
                | exact ic_n (rdC_1n ec (show shp 99 = _ from rfl) (Or.inl rfl) n1) E9 A2
            · obtain ⟨y, n2⟩ := iss q143
              have E9 : rE h h3 r [427, 428] [8] := ((E1.trans E2).trans E3).mono (by simp) (by simp)
              refine zV.ic (v := nI 1) C dX10_isCommand_146 (by decide) ?_
              refine zV.goto (tgt := 151) C dX10_isCommand_147 (by decide) ?_
              refine zV.zret C F dX10_isCommand_151 rfl rfl ?_
              first
                | exact ic_s (rdC_2 ec (show shp 99 = _ from rfl) (Or.inl rfl) (Or.inl rfl) n1 n2) E9 A3 ((E3.f (by decide)).trans ((E2.f (by decide)).trans w1)) ((o3 0 (by decide)).trans (k2.trans (by rw [n1]; rfl))) (fun _ => k3.trans (by rw [n2]; rfl))
                | exact ic_n (rdC_2n ec (show shp 99 = _ from rfl) (Or.inl rfl) (Or.inl rfl) n1 n2) E9 A3
                | exact ic_n (rdC_1n ec (show shp 99 = _ from rfl) (Or.inl rfl) n1) E9 A2
        · exact absurd (by decide) q25
      · rw [ec] at z2
        refine zV.ldcS C G dX10_isCommand_11 e91 ?_
        refine zV.aload_n C dX10_isCommand_13 rfl rfl ?_
        refine zV.gR 425 (k := 9) C dX10_isCommand_14 zcl_X10 (by decide) rfl lk_X10_29 (hm.1) rfl (hm.2.2.2.2.2.2.2.1) ?_
        refine zV.aload_n C dX10_isCommand_17 rfl rfl ?_
        refine zV.gIv 427 (k := 11) C dX10_isCommand_18 zcl_X10 (by decide) rfl lk_X10_216 hm.1 rfl (q.2.1) ?_
        refine zV.caldv (j := p) C dX10_isCommand_21 (hm.2.2.2.2.2.2.2.2.2.2.2.2.2.2.2.1.1) (rfl) (Nat.lt_of_lt_of_eq (show p < 60 from z5) (hm.2.2.2.2.2.2.2.2.2.2.2.2.2.2.2.1.2).symm) (by omega) ((q.1.2.2 p 115 z2).1) ?_
        refine zV.callVR (n := 1) C G dX10_isCommand_22 (s_SindexOf hzs hst h q9 q2 [112, 113, 104, 99, 115, 102, 117, 111, 109, 103, 97, 100] hs (by decide) 115 (by omega) (by decide) (by decide)) rfl ⟨cd_J0_indexOf_0f7a4, lk_X10_221, im_J0_indexOf_0f7a4, se_J0_J0_indexOf_0f7a4, in_J0⟩ ⟨⟨by decide, by decide⟩, by decide⟩ rfl rfl rfl (hs.1) (zaf ?_) (zno)
        rw [show ioF 115 [112, 113, 104, 99, 115, 102, 117, 111, 109, 103, 97, 100] 0 = some 4 from rfl]
        show zV X _ _ h 25 _ (.int (nI 4) :: _)
        refine zV.if_ge (tgt := 30) C dX10_isCommand_25 (by decide) (fun q25 => ?_) (fun q25 => ?_)
        · refine zV.aload_n C dX10_isCommand_30 rfl rfl ?_
          refine zV.aload_n C dX10_isCommand_31 rfl rfl ?_
          refine zV.gR 425 (k := 9) C dX10_isCommand_32 zcl_X10 (by decide) rfl lk_X10_29 (hm.1) rfl (hm.2.2.2.2.2.2.2.1) ?_
          refine zV.aload_n C dX10_isCommand_35 rfl rfl ?_
          refine zV.dup C dX10_isCommand_36 rfl ?_
          refine zV.gIv 427 (k := 11) C dX10_isCommand_37 zcl_X10 (by decide) rfl lk_X10_216 hm.1 rfl (q.2.1) ?_
          refine zV.dup_x1 C dX10_isCommand_40 rfl rfl ?_
          refine zV.ic (v := nI 1) C dX10_isCommand_41 (by decide) ?_
          refine zV.iadd C dX10_isCommand_42 ?_
          rw [nI_add]
          refine zV.pI 427 (k := 11) C dX10_isCommand_43 zcl_X10 (by decide) rfl lk_X10_216 rfl hm.1 rfl ⟨rfl, rfl⟩ ?_
          refine zV.caldv (j := p) C dX10_isCommand_46 (hm.2.2.2.2.2.2.2.2.2.2.2.2.2.2.2.1.1) (rfl) (Nat.lt_of_lt_of_eq (show p < 60 from z5) (hm.2.2.2.2.2.2.2.2.2.2.2.2.2.2.2.1.2).symm) (by omega) ((show aI (sI h 427 r (nI (p + 1))) (r + 7) p = nI 115 from (q.1.2.2 p 115 z2).1)) ?_
          refine zV.pI 428 (k := 12) C dX10_isCommand_47 zcl_X10 (by decide) rfl lk_X10_226 rfl hm.1 rfl ⟨rfl, rfl⟩ ?_
          obtain ⟨H1, hH1, E1, A1, w1, m1⟩ := ic_st (c := 115) hm q z1
          rw [← hH1]
          refine zV.aload_n C dX10_isCommand_50 rfl rfl ?_
          refine zV.gIv 428 (k := 12) C dX10_isCommand_51 zcl_X10 (by decide) rfl lk_X10_226 m1.1 rfl (w1) ?_
          refine zV.tOut 251 C dX10_isCommand_54 (by decide) (by decide) ?_
          refine zV.aload_n C dX10_isCommand_251 rfl rfl ?_
          refine zV.ic (v := nI 0) C dX10_isCommand_252 (by decide) ?_
          refine zV.ic (v := nI 2) C dX10_isCommand_253 (by decide) ?_
          refine zV.callV (n := 2) C G dX10_isCommand_254 (s_mdigits hzs hst H1 r m1 t _ 0 2 A1 (by decide) (by decide)) rfl ⟨cd_X10_digits, lk_X10_230, im_X10_digits, se_X10_X10_digits, in_X10⟩ ⟨⟨by decide, by decide⟩, by decide⟩ rfl rfl rfl m1.1 ⟨rfl, by decide⟩ (zafR (fun h2 ⟨E2, A2, k2, o2⟩ => ?_)) (zno)
          refine zV.zret C F dX10_isCommand_257 nar_b2 rfl ?_
          have E9 : rE h h2 r [427, 428] [8] := (E1.trans E2).mono (by simp) (by simp)
          rcases n1 : (rdN t 2 (p + 1) none).1 with _ | x
          · exact ic_n (rdC_1n ec (show shp 115 = _ from rfl) (Or.inr rfl) n1) E9 A2
          · exact ic_s (rdC_1 ec (show shp 115 = _ from rfl) (Or.inr rfl) n1) E9 A2 ((E2.f (by decide)).trans w1) (k2.trans (by rw [n1]; rfl)) (fun z => absurd z (by unfold tw; decide))
        · exact absurd (by decide) q25
      · rw [ec] at z2
        refine zV.ldcS C G dX10_isCommand_11 e91 ?_
        refine zV.aload_n C dX10_isCommand_13 rfl rfl ?_
        refine zV.gR 425 (k := 9) C dX10_isCommand_14 zcl_X10 (by decide) rfl lk_X10_29 (hm.1) rfl (hm.2.2.2.2.2.2.2.1) ?_
        refine zV.aload_n C dX10_isCommand_17 rfl rfl ?_
        refine zV.gIv 427 (k := 11) C dX10_isCommand_18 zcl_X10 (by decide) rfl lk_X10_216 hm.1 rfl (q.2.1) ?_
        refine zV.caldv (j := p) C dX10_isCommand_21 (hm.2.2.2.2.2.2.2.2.2.2.2.2.2.2.2.1.1) (rfl) (Nat.lt_of_lt_of_eq (show p < 60 from z5) (hm.2.2.2.2.2.2.2.2.2.2.2.2.2.2.2.1.2).symm) (by omega) ((q.1.2.2 p 102 z2).1) ?_
        refine zV.callVR (n := 1) C G dX10_isCommand_22 (s_SindexOf hzs hst h q9 q2 [112, 113, 104, 99, 115, 102, 117, 111, 109, 103, 97, 100] hs (by decide) 102 (by omega) (by decide) (by decide)) rfl ⟨cd_J0_indexOf_0f7a4, lk_X10_221, im_J0_indexOf_0f7a4, se_J0_J0_indexOf_0f7a4, in_J0⟩ ⟨⟨by decide, by decide⟩, by decide⟩ rfl rfl rfl (hs.1) (zaf ?_) (zno)
        rw [show ioF 102 [112, 113, 104, 99, 115, 102, 117, 111, 109, 103, 97, 100] 0 = some 5 from rfl]
        show zV X _ _ h 25 _ (.int (nI 5) :: _)
        refine zV.if_ge (tgt := 30) C dX10_isCommand_25 (by decide) (fun q25 => ?_) (fun q25 => ?_)
        · refine zV.aload_n C dX10_isCommand_30 rfl rfl ?_
          refine zV.aload_n C dX10_isCommand_31 rfl rfl ?_
          refine zV.gR 425 (k := 9) C dX10_isCommand_32 zcl_X10 (by decide) rfl lk_X10_29 (hm.1) rfl (hm.2.2.2.2.2.2.2.1) ?_
          refine zV.aload_n C dX10_isCommand_35 rfl rfl ?_
          refine zV.dup C dX10_isCommand_36 rfl ?_
          refine zV.gIv 427 (k := 11) C dX10_isCommand_37 zcl_X10 (by decide) rfl lk_X10_216 hm.1 rfl (q.2.1) ?_
          refine zV.dup_x1 C dX10_isCommand_40 rfl rfl ?_
          refine zV.ic (v := nI 1) C dX10_isCommand_41 (by decide) ?_
          refine zV.iadd C dX10_isCommand_42 ?_
          rw [nI_add]
          refine zV.pI 427 (k := 11) C dX10_isCommand_43 zcl_X10 (by decide) rfl lk_X10_216 rfl hm.1 rfl ⟨rfl, rfl⟩ ?_
          refine zV.caldv (j := p) C dX10_isCommand_46 (hm.2.2.2.2.2.2.2.2.2.2.2.2.2.2.2.1.1) (rfl) (Nat.lt_of_lt_of_eq (show p < 60 from z5) (hm.2.2.2.2.2.2.2.2.2.2.2.2.2.2.2.1.2).symm) (by omega) ((show aI (sI h 427 r (nI (p + 1))) (r + 7) p = nI 102 from (q.1.2.2 p 102 z2).1)) ?_
          refine zV.pI 428 (k := 12) C dX10_isCommand_47 zcl_X10 (by decide) rfl lk_X10_226 rfl hm.1 rfl ⟨rfl, rfl⟩ ?_
          obtain ⟨H1, hH1, E1, A1, w1, m1⟩ := ic_st (c := 102) hm q z1
          rw [← hH1]
          refine zV.aload_n C dX10_isCommand_50 rfl rfl ?_
          refine zV.gIv 428 (k := 12) C dX10_isCommand_51 zcl_X10 (by decide) rfl lk_X10_226 m1.1 rfl (w1) ?_
          refine zV.tIn 251 C dX10_isCommand_54 (by decide) (by decide) (show _ = some 197 from by rfl) (by decide) ?_
          refine zV.aload_n C dX10_isCommand_251 rfl rfl ?_
          refine zV.ic (v := nI 0) C dX10_isCommand_252 (by decide) ?_
          refine zV.ic (v := nI 2) C dX10_isCommand_253 (by decide) ?_
          refine zV.callV (n := 2) C G dX10_isCommand_254 (s_mdigits hzs hst H1 r m1 t _ 0 2 A1 (by decide) (by decide)) rfl ⟨cd_X10_digits, lk_X10_230, im_X10_digits, se_X10_X10_digits, in_X10⟩ ⟨⟨by decide, by decide⟩, by decide⟩ rfl rfl rfl m1.1 ⟨rfl, by decide⟩ (zafR (fun h2 ⟨E2, A2, k2, o2⟩ => ?_)) (zno)
          refine zV.zret C F dX10_isCommand_257 nar_b2 rfl ?_
          have E9 : rE h h2 r [427, 428] [8] := (E1.trans E2).mono (by simp) (by simp)
          rcases n1 : (rdN t 2 (p + 1) none).1 with _ | x
          · exact ic_n (rdC_1n ec (show shp 102 = _ from rfl) (Or.inr rfl) n1) E9 A2
          · exact ic_s (rdC_1 ec (show shp 102 = _ from rfl) (Or.inr rfl) n1) E9 A2 ((E2.f (by decide)).trans w1) (k2.trans (by rw [n1]; rfl)) (fun z => absurd z (by unfold tw; decide))
        · exact absurd (by decide) q25
      · rw [ec] at z2
        refine zV.ldcS C G dX10_isCommand_11 e91 ?_
        refine zV.aload_n C dX10_isCommand_13 rfl rfl ?_
        refine zV.gR 425 (k := 9) C dX10_isCommand_14 zcl_X10 (by decide) rfl lk_X10_29 (hm.1) rfl (hm.2.2.2.2.2.2.2.1) ?_
        refine zV.aload_n C dX10_isCommand_17 rfl rfl ?_
        refine zV.gIv 427 (k := 11) C dX10_isCommand_18 zcl_X10 (by decide) rfl lk_X10_216 hm.1 rfl (q.2.1) ?_
        refine zV.caldv (j := p) C dX10_isCommand_21 (hm.2.2.2.2.2.2.2.2.2.2.2.2.2.2.2.1.1) (rfl) (Nat.lt_of_lt_of_eq (show p < 60 from z5) (hm.2.2.2.2.2.2.2.2.2.2.2.2.2.2.2.1.2).symm) (by omega) ((q.1.2.2 p 117 z2).1) ?_
        refine zV.callVR (n := 1) C G dX10_isCommand_22 (s_SindexOf hzs hst h q9 q2 [112, 113, 104, 99, 115, 102, 117, 111, 109, 103, 97, 100] hs (by decide) 117 (by omega) (by decide) (by decide)) rfl ⟨cd_J0_indexOf_0f7a4, lk_X10_221, im_J0_indexOf_0f7a4, se_J0_J0_indexOf_0f7a4, in_J0⟩ ⟨⟨by decide, by decide⟩, by decide⟩ rfl rfl rfl (hs.1) (zaf ?_) (zno)
        rw [show ioF 117 [112, 113, 104, 99, 115, 102, 117, 111, 109, 103, 97, 100] 0 = some 6 from rfl]
        show zV X _ _ h 25 _ (.int (nI 6) :: _)
        refine zV.if_ge (tgt := 30) C dX10_isCommand_25 (by decide) (fun q25 => ?_) (fun q25 => ?_)
        · refine zV.aload_n C dX10_isCommand_30 rfl rfl ?_
          refine zV.aload_n C dX10_isCommand_31 rfl rfl ?_
          refine zV.gR 425 (k := 9) C dX10_isCommand_32 zcl_X10 (by decide) rfl lk_X10_29 (hm.1) rfl (hm.2.2.2.2.2.2.2.1) ?_
          refine zV.aload_n C dX10_isCommand_35 rfl rfl ?_
          refine zV.dup C dX10_isCommand_36 rfl ?_
          refine zV.gIv 427 (k := 11) C dX10_isCommand_37 zcl_X10 (by decide) rfl lk_X10_216 hm.1 rfl (q.2.1) ?_
          refine zV.dup_x1 C dX10_isCommand_40 rfl rfl ?_
          refine zV.ic (v := nI 1) C dX10_isCommand_41 (by decide) ?_
          refine zV.iadd C dX10_isCommand_42 ?_
          rw [nI_add]
          refine zV.pI 427 (k := 11) C dX10_isCommand_43 zcl_X10 (by decide) rfl lk_X10_216 rfl hm.1 rfl ⟨rfl, rfl⟩ ?_
          refine zV.caldv (j := p) C dX10_isCommand_46 (hm.2.2.2.2.2.2.2.2.2.2.2.2.2.2.2.1.1) (rfl) (Nat.lt_of_lt_of_eq (show p < 60 from z5) (hm.2.2.2.2.2.2.2.2.2.2.2.2.2.2.2.1.2).symm) (by omega) ((show aI (sI h 427 r (nI (p + 1))) (r + 7) p = nI 117 from (q.1.2.2 p 117 z2).1)) ?_
          refine zV.pI 428 (k := 12) C dX10_isCommand_47 zcl_X10 (by decide) rfl lk_X10_226 rfl hm.1 rfl ⟨rfl, rfl⟩ ?_
          obtain ⟨H1, hH1, E1, A1, w1, m1⟩ := ic_st (c := 117) hm q z1
          rw [← hH1]
          refine zV.aload_n C dX10_isCommand_50 rfl rfl ?_
          refine zV.gIv 428 (k := 12) C dX10_isCommand_51 zcl_X10 (by decide) rfl lk_X10_226 m1.1 rfl (w1) ?_
          refine zV.tOut 251 C dX10_isCommand_54 (by decide) (by decide) ?_
          refine zV.aload_n C dX10_isCommand_251 rfl rfl ?_
          refine zV.ic (v := nI 0) C dX10_isCommand_252 (by decide) ?_
          refine zV.ic (v := nI 2) C dX10_isCommand_253 (by decide) ?_
          refine zV.callV (n := 2) C G dX10_isCommand_254 (s_mdigits hzs hst H1 r m1 t _ 0 2 A1 (by decide) (by decide)) rfl ⟨cd_X10_digits, lk_X10_230, im_X10_digits, se_X10_X10_digits, in_X10⟩ ⟨⟨by decide, by decide⟩, by decide⟩ rfl rfl rfl m1.1 ⟨rfl, by decide⟩ (zafR (fun h2 ⟨E2, A2, k2, o2⟩ => ?_)) (zno)
          refine zV.zret C F dX10_isCommand_257 nar_b2 rfl ?_
          have E9 : rE h h2 r [427, 428] [8] := (E1.trans E2).mono (by simp) (by simp)
          rcases n1 : (rdN t 2 (p + 1) none).1 with _ | x
          · exact ic_n (rdC_1n ec (show shp 117 = _ from rfl) (Or.inr rfl) n1) E9 A2
          · exact ic_s (rdC_1 ec (show shp 117 = _ from rfl) (Or.inr rfl) n1) E9 A2 ((E2.f (by decide)).trans w1) (k2.trans (by rw [n1]; rfl)) (fun z => absurd z (by unfold tw; decide))
        · exact absurd (by decide) q25
      · rw [ec] at z2
        refine zV.ldcS C G dX10_isCommand_11 e91 ?_
        refine zV.aload_n C dX10_isCommand_13 rfl rfl ?_
        refine zV.gR 425 (k := 9) C dX10_isCommand_14 zcl_X10 (by decide) rfl lk_X10_29 (hm.1) rfl (hm.2.2.2.2.2.2.2.1) ?_
        refine zV.aload_n C dX10_isCommand_17 rfl rfl ?_
        refine zV.gIv 427 (k := 11) C dX10_isCommand_18 zcl_X10 (by decide) rfl lk_X10_216 hm.1 rfl (q.2.1) ?_
        refine zV.caldv (j := p) C dX10_isCommand_21 (hm.2.2.2.2.2.2.2.2.2.2.2.2.2.2.2.1.1) (rfl) (Nat.lt_of_lt_of_eq (show p < 60 from z5) (hm.2.2.2.2.2.2.2.2.2.2.2.2.2.2.2.1.2).symm) (by omega) ((q.1.2.2 p 111 z2).1) ?_
        refine zV.callVR (n := 1) C G dX10_isCommand_22 (s_SindexOf hzs hst h q9 q2 [112, 113, 104, 99, 115, 102, 117, 111, 109, 103, 97, 100] hs (by decide) 111 (by omega) (by decide) (by decide)) rfl ⟨cd_J0_indexOf_0f7a4, lk_X10_221, im_J0_indexOf_0f7a4, se_J0_J0_indexOf_0f7a4, in_J0⟩ ⟨⟨by decide, by decide⟩, by decide⟩ rfl rfl rfl (hs.1) (zaf ?_) (zno)
        rw [show ioF 111 [112, 113, 104, 99, 115, 102, 117, 111, 109, 103, 97, 100] 0 = some 7 from rfl]
        show zV X _ _ h 25 _ (.int (nI 7) :: _)
        refine zV.if_ge (tgt := 30) C dX10_isCommand_25 (by decide) (fun q25 => ?_) (fun q25 => ?_)
        · refine zV.aload_n C dX10_isCommand_30 rfl rfl ?_
          refine zV.aload_n C dX10_isCommand_31 rfl rfl ?_
          refine zV.gR 425 (k := 9) C dX10_isCommand_32 zcl_X10 (by decide) rfl lk_X10_29 (hm.1) rfl (hm.2.2.2.2.2.2.2.1) ?_
          refine zV.aload_n C dX10_isCommand_35 rfl rfl ?_
          refine zV.dup C dX10_isCommand_36 rfl ?_
          refine zV.gIv 427 (k := 11) C dX10_isCommand_37 zcl_X10 (by decide) rfl lk_X10_216 hm.1 rfl (q.2.1) ?_
          refine zV.dup_x1 C dX10_isCommand_40 rfl rfl ?_
          refine zV.ic (v := nI 1) C dX10_isCommand_41 (by decide) ?_
          refine zV.iadd C dX10_isCommand_42 ?_
          rw [nI_add]
          refine zV.pI 427 (k := 11) C dX10_isCommand_43 zcl_X10 (by decide) rfl lk_X10_216 rfl hm.1 rfl ⟨rfl, rfl⟩ ?_
          refine zV.caldv (j := p) C dX10_isCommand_46 (hm.2.2.2.2.2.2.2.2.2.2.2.2.2.2.2.1.1) (rfl) (Nat.lt_of_lt_of_eq (show p < 60 from z5) (hm.2.2.2.2.2.2.2.2.2.2.2.2.2.2.2.1.2).symm) (by omega) ((show aI (sI h 427 r (nI (p + 1))) (r + 7) p = nI 111 from (q.1.2.2 p 111 z2).1)) ?_
          refine zV.pI 428 (k := 12) C dX10_isCommand_47 zcl_X10 (by decide) rfl lk_X10_226 rfl hm.1 rfl ⟨rfl, rfl⟩ ?_
          obtain ⟨H1, hH1, E1, A1, w1, m1⟩ := ic_st (c := 111) hm q z1
          rw [← hH1]
          refine zV.aload_n C dX10_isCommand_50 rfl rfl ?_
          refine zV.gIv 428 (k := 12) C dX10_isCommand_51 zcl_X10 (by decide) rfl lk_X10_226 m1.1 rfl (w1) ?_
          refine zV.tIn 251 C dX10_isCommand_54 (by decide) (by decide) (show _ = some 197 from by rfl) (by decide) ?_
          refine zV.aload_n C dX10_isCommand_251 rfl rfl ?_
          refine zV.ic (v := nI 0) C dX10_isCommand_252 (by decide) ?_
          refine zV.ic (v := nI 2) C dX10_isCommand_253 (by decide) ?_
          refine zV.callV (n := 2) C G dX10_isCommand_254 (s_mdigits hzs hst H1 r m1 t _ 0 2 A1 (by decide) (by decide)) rfl ⟨cd_X10_digits, lk_X10_230, im_X10_digits, se_X10_X10_digits, in_X10⟩ ⟨⟨by decide, by decide⟩, by decide⟩ rfl rfl rfl m1.1 ⟨rfl, by decide⟩ (zafR (fun h2 ⟨E2, A2, k2, o2⟩ => ?_)) (zno)
          refine zV.zret C F dX10_isCommand_257 nar_b2 rfl ?_
          have E9 : rE h h2 r [427, 428] [8] := (E1.trans E2).mono (by simp) (by simp)
          rcases n1 : (rdN t 2 (p + 1) none).1 with _ | x
          · exact ic_n (rdC_1n ec (show shp 111 = _ from rfl) (Or.inr rfl) n1) E9 A2
          · exact ic_s (rdC_1 ec (show shp 111 = _ from rfl) (Or.inr rfl) n1) E9 A2 ((E2.f (by decide)).trans w1) (k2.trans (by rw [n1]; rfl)) (fun z => absurd z (by unfold tw; decide))
        · exact absurd (by decide) q25
      · rw [ec] at z2
        refine zV.ldcS C G dX10_isCommand_11 e91 ?_
        refine zV.aload_n C dX10_isCommand_13 rfl rfl ?_
        refine zV.gR 425 (k := 9) C dX10_isCommand_14 zcl_X10 (by decide) rfl lk_X10_29 (hm.1) rfl (hm.2.2.2.2.2.2.2.1) ?_
        refine zV.aload_n C dX10_isCommand_17 rfl rfl ?_
        refine zV.gIv 427 (k := 11) C dX10_isCommand_18 zcl_X10 (by decide) rfl lk_X10_216 hm.1 rfl (q.2.1) ?_
        refine zV.caldv (j := p) C dX10_isCommand_21 (hm.2.2.2.2.2.2.2.2.2.2.2.2.2.2.2.1.1) (rfl) (Nat.lt_of_lt_of_eq (show p < 60 from z5) (hm.2.2.2.2.2.2.2.2.2.2.2.2.2.2.2.1.2).symm) (by omega) ((q.1.2.2 p 109 z2).1) ?_
        refine zV.callVR (n := 1) C G dX10_isCommand_22 (s_SindexOf hzs hst h q9 q2 [112, 113, 104, 99, 115, 102, 117, 111, 109, 103, 97, 100] hs (by decide) 109 (by omega) (by decide) (by decide)) rfl ⟨cd_J0_indexOf_0f7a4, lk_X10_221, im_J0_indexOf_0f7a4, se_J0_J0_indexOf_0f7a4, in_J0⟩ ⟨⟨by decide, by decide⟩, by decide⟩ rfl rfl rfl (hs.1) (zaf ?_) (zno)
        rw [show ioF 109 [112, 113, 104, 99, 115, 102, 117, 111, 109, 103, 97, 100] 0 = some 8 from rfl]
        show zV X _ _ h 25 _ (.int (nI 8) :: _)
        refine zV.if_ge (tgt := 30) C dX10_isCommand_25 (by decide) (fun q25 => ?_) (fun q25 => ?_)
        · refine zV.aload_n C dX10_isCommand_30 rfl rfl ?_
          refine zV.aload_n C dX10_isCommand_31 rfl rfl ?_
          refine zV.gR 425 (k := 9) C dX10_isCommand_32 zcl_X10 (by decide) rfl lk_X10_29 (hm.1) rfl (hm.2.2.2.2.2.2.2.1) ?_
          refine zV.aload_n C dX10_isCommand_35 rfl rfl ?_
          refine zV.dup C dX10_isCommand_36 rfl ?_
          refine zV.gIv 427 (k := 11) C dX10_isCommand_37 zcl_X10 (by decide) rfl lk_X10_216 hm.1 rfl (q.2.1) ?_
          refine zV.dup_x1 C dX10_isCommand_40 rfl rfl ?_
          refine zV.ic (v := nI 1) C dX10_isCommand_41 (by decide) ?_
          refine zV.iadd C dX10_isCommand_42 ?_
          rw [nI_add]
          refine zV.pI 427 (k := 11) C dX10_isCommand_43 zcl_X10 (by decide) rfl lk_X10_216 rfl hm.1 rfl ⟨rfl, rfl⟩ ?_
          refine zV.caldv (j := p) C dX10_isCommand_46 (hm.2.2.2.2.2.2.2.2.2.2.2.2.2.2.2.1.1) (rfl) (Nat.lt_of_lt_of_eq (show p < 60 from z5) (hm.2.2.2.2.2.2.2.2.2.2.2.2.2.2.2.1.2).symm) (by omega) ((show aI (sI h 427 r (nI (p + 1))) (r + 7) p = nI 109 from (q.1.2.2 p 109 z2).1)) ?_
          refine zV.pI 428 (k := 12) C dX10_isCommand_47 zcl_X10 (by decide) rfl lk_X10_226 rfl hm.1 rfl ⟨rfl, rfl⟩ ?_
          obtain ⟨H1, hH1, E1, A1, w1, m1⟩ := ic_st (c := 109) hm q z1
          rw [← hH1]
          refine zV.aload_n C dX10_isCommand_50 rfl rfl ?_
          refine zV.gIv 428 (k := 12) C dX10_isCommand_51 zcl_X10 (by decide) rfl lk_X10_226 m1.1 rfl (w1) ?_
          refine zV.tIn 185 C dX10_isCommand_54 (by decide) (by decide) (show _ = some 131 from by rfl) (by decide) ?_
          refine zV.aload_n C dX10_isCommand_185 rfl rfl ?_
          refine zV.ic (v := nI 0) C dX10_isCommand_186 (by decide) ?_
          refine zV.ic (v := nI 2) C dX10_isCommand_187 (by decide) ?_
          refine zV.callV (n := 2) C G dX10_isCommand_188 (s_mdigits hzs hst H1 r m1 t _ 0 2 A1 (by decide) (by decide)) rfl ⟨cd_X10_digits, lk_X10_230, im_X10_digits, se_X10_X10_digits, in_X10⟩ ⟨⟨by decide, by decide⟩, by decide⟩ rfl rfl rfl m1.1 ⟨rfl, by decide⟩ (zafR (fun h2 ⟨E2, A2, k2, o2⟩ => ?_)) (zno)
          refine zV.if_eq (tgt := 216) C dX10_isCommand_191 (by decide) (fun q191 => ?_) (fun q191 => ?_)
          · have n1 := isn q191
            have E9 : rE h h2 r [427, 428] [8] := (E1.trans E2).mono (by simp) (by simp)
            refine zV.ic (v := nI 0) C dX10_isCommand_216 (by decide) ?_
            refine zV.zret C F dX10_isCommand_217 rfl rfl ?_
            first
              | exact ic_s (rdC_3 ec (show shp 109 = _ from rfl) (Or.inr rfl) (Or.inl rfl) (by decide) (by decide) n1 n2 n3) E9 A4 ((E4.f (by decide)).trans ((E3.f (by decide)).trans ((E2.f (by decide)).trans w1))) ((o4 0 (by decide)).trans ((congrFun (E3.r (i := 8) (by decide)) 0).trans (k2.trans (by rw [n1]; rfl)))) (fun _ => k4.trans (by rw [n3]; rfl))
              | exact ic_n (rdC_3n ec (show shp 109 = _ from rfl) (Or.inr rfl) (Or.inl rfl) (by decide) (by decide) n1 n2 n3) E9 A4
              | exact ic_n (rdC_3d ec (show shp 109 = _ from rfl) (Or.inr rfl) (by decide) (by decide) n1 n2) E9 A3
              | exact ic_n (rdC_1n ec (show shp 109 = _ from rfl) (Or.inr rfl) n1) E9 A2
          · obtain ⟨x, n1⟩ := iss q191
            have m2 := E2.m m1
            refine zV.aload_n C dX10_isCommand_194 rfl rfl ?_
            refine zV.bi (v := nI 62) C dX10_isCommand_195 (by decide) ?_
            refine zV.callV (n := 1) C G dX10_isCommand_197 (s_mtakes hzs hst h2 r m2 t _ 62 A2 (by decide)) rfl ⟨cd_X10_takes, lk_X10_233, im_X10_takes, se_X10_X10_takes, in_X10⟩ ⟨⟨by decide, by decide⟩, by decide⟩ rfl rfl rfl m2.1 ⟨rfl, by decide⟩ (zafR (fun h3 ⟨E3, A3⟩ => ?_)) (zno)
            refine zV.if_eq (tgt := 216) C dX10_isCommand_200 (by decide) (fun q200 => ?_) (fun q200 => ?_)
            · have n2 := dcn q200
              rw [if_neg n2] at A3
              have E9 : rE h h3 r [427, 428] [8] := ((E1.trans E2).trans E3).mono (by simp) (by simp)
              refine zV.ic (v := nI 0) C dX10_isCommand_216 (by decide) ?_
              refine zV.zret C F dX10_isCommand_217 rfl rfl ?_
              first
                | exact ic_s (rdC_3 ec (show shp 109 = _ from rfl) (Or.inr rfl) (Or.inl rfl) (by decide) (by decide) n1 n2 n3) E9 A4 ((E4.f (by decide)).trans ((E3.f (by decide)).trans ((E2.f (by decide)).trans w1))) ((o4 0 (by decide)).trans ((congrFun (E3.r (i := 8) (by decide)) 0).trans (k2.trans (by rw [n1]; rfl)))) (fun _ => k4.trans (by rw [n3]; rfl))
                | exact ic_n (rdC_3n ec (show shp 109 = _ from rfl) (Or.inr rfl) (Or.inl rfl) (by decide) (by decide) n1 n2 n3) E9 A4
                | exact ic_n (rdC_3d ec (show shp 109 = _ from rfl) (Or.inr rfl) (by decide) (by decide) n1 n2) E9 A3
                | exact ic_n (rdC_1n ec (show shp 109 = _ from rfl) (Or.inr rfl) n1) E9 A2
            · have n2 := dcy q200
              rw [if_pos n2] at A3
              have m3 := E3.m m2
              refine zV.aload_n C dX10_isCommand_203 rfl rfl ?_
              refine zV.ic (v := nI 1) C dX10_isCommand_204 (by decide) ?_
              refine zV.ic (v := nI 1) C dX10_isCommand_205 (by decide) ?_
              refine zV.callV (n := 2) C G dX10_isCommand_206 (s_mdigits hzs hst h3 r m3 t _ 1 1 A3 (by decide) (by decide)) rfl ⟨cd_X10_digits, lk_X10_230, im_X10_digits, se_X10_X10_digits, in_X10⟩ ⟨⟨by decide, by decide⟩, by decide⟩ rfl rfl rfl m3.1 ⟨rfl, by decide⟩ (zafR (fun h4 ⟨E4, A4, k4, o4⟩ => ?_)) (zno)
              refine zV.if_eq (tgt := 216) C dX10_isCommand_209 (by decide) (fun q209 => ?_) (fun q209 => ?_)
              · have n3 := isn q209
                have E9 : rE h h4 r [427, 428] [8] := (((E1.trans E2).trans E3).trans E4).mono (by simp) (by simp)
                refine zV.ic (v := nI 0) C dX10_isCommand_216 (by decide) ?_
                refine zV.zret C F dX10_isCommand_217 rfl rfl ?_
                first
                  | exact ic_s (rdC_3 ec (show shp 109 = _ from rfl) (Or.inr rfl) (Or.inl rfl) (by decide) (by decide) n1 n2 n3) E9 A4 ((E4.f (by decide)).trans ((E3.f (by decide)).trans ((E2.f (by decide)).trans w1))) ((o4 0 (by decide)).trans ((congrFun (E3.r (i := 8) (by decide)) 0).trans (k2.trans (by rw [n1]; rfl)))) (fun _ => k4.trans (by rw [n3]; rfl))
                  | exact ic_n (rdC_3n ec (show shp 109 = _ from rfl) (Or.inr rfl) (Or.inl rfl) (by decide) (by decide) n1 n2 n3) E9 A4
                  | exact ic_n (rdC_3d ec (show shp 109 = _ from rfl) (Or.inr rfl) (by decide) (by decide) n1 n2) E9 A3
                  | exact ic_n (rdC_1n ec (show shp 109 = _ from rfl) (Or.inr rfl) n1) E9 A2
              · obtain ⟨y, n3⟩ := iss q209
                have E9 : rE h h4 r [427, 428] [8] := (((E1.trans E2).trans E3).trans E4).mono (by simp) (by simp)
                refine zV.ic (v := nI 1) C dX10_isCommand_212 (by decide) ?_
                refine zV.goto (tgt := 217) C dX10_isCommand_213 (by decide) ?_
                refine zV.zret C F dX10_isCommand_217 rfl rfl ?_
                first
                  | exact ic_s (rdC_3 ec (show shp 109 = _ from rfl) (Or.inr rfl) (Or.inl rfl) (by decide) (by decide) n1 n2 n3) E9 A4 ((E4.f (by decide)).trans ((E3.f (by decide)).trans ((E2.f (by decide)).trans w1))) ((o4 0 (by decide)).trans ((congrFun (E3.r (i := 8) (by decide)) 0).trans (k2.trans (by rw [n1]; rfl)))) (fun _ => k4.trans (by rw [n3]; rfl))
                  | exact ic_n (rdC_3n ec (show shp 109 = _ from rfl) (Or.inr rfl) (Or.inl rfl) (by decide) (by decide) n1 n2 n3) E9 A4
                  | exact ic_n (rdC_3d ec (show shp 109 = _ from rfl) (Or.inr rfl) (by decide) (by decide) n1 n2) E9 A3
                  | exact ic_n (rdC_1n ec (show shp 109 = _ from rfl) (Or.inr rfl) n1) E9 A2
        · exact absurd (by decide) q25
      · rw [ec] at z2
        refine zV.ldcS C G dX10_isCommand_11 e91 ?_
        refine zV.aload_n C dX10_isCommand_13 rfl rfl ?_
        refine zV.gR 425 (k := 9) C dX10_isCommand_14 zcl_X10 (by decide) rfl lk_X10_29 (hm.1) rfl (hm.2.2.2.2.2.2.2.1) ?_
        refine zV.aload_n C dX10_isCommand_17 rfl rfl ?_
        refine zV.gIv 427 (k := 11) C dX10_isCommand_18 zcl_X10 (by decide) rfl lk_X10_216 hm.1 rfl (q.2.1) ?_
        refine zV.caldv (j := p) C dX10_isCommand_21 (hm.2.2.2.2.2.2.2.2.2.2.2.2.2.2.2.1.1) (rfl) (Nat.lt_of_lt_of_eq (show p < 60 from z5) (hm.2.2.2.2.2.2.2.2.2.2.2.2.2.2.2.1.2).symm) (by omega) ((q.1.2.2 p 103 z2).1) ?_
        refine zV.callVR (n := 1) C G dX10_isCommand_22 (s_SindexOf hzs hst h q9 q2 [112, 113, 104, 99, 115, 102, 117, 111, 109, 103, 97, 100] hs (by decide) 103 (by omega) (by decide) (by decide)) rfl ⟨cd_J0_indexOf_0f7a4, lk_X10_221, im_J0_indexOf_0f7a4, se_J0_J0_indexOf_0f7a4, in_J0⟩ ⟨⟨by decide, by decide⟩, by decide⟩ rfl rfl rfl (hs.1) (zaf ?_) (zno)
        rw [show ioF 103 [112, 113, 104, 99, 115, 102, 117, 111, 109, 103, 97, 100] 0 = some 9 from rfl]
        show zV X _ _ h 25 _ (.int (nI 9) :: _)
        refine zV.if_ge (tgt := 30) C dX10_isCommand_25 (by decide) (fun q25 => ?_) (fun q25 => ?_)
        · refine zV.aload_n C dX10_isCommand_30 rfl rfl ?_
          refine zV.aload_n C dX10_isCommand_31 rfl rfl ?_
          refine zV.gR 425 (k := 9) C dX10_isCommand_32 zcl_X10 (by decide) rfl lk_X10_29 (hm.1) rfl (hm.2.2.2.2.2.2.2.1) ?_
          refine zV.aload_n C dX10_isCommand_35 rfl rfl ?_
          refine zV.dup C dX10_isCommand_36 rfl ?_
          refine zV.gIv 427 (k := 11) C dX10_isCommand_37 zcl_X10 (by decide) rfl lk_X10_216 hm.1 rfl (q.2.1) ?_
          refine zV.dup_x1 C dX10_isCommand_40 rfl rfl ?_
          refine zV.ic (v := nI 1) C dX10_isCommand_41 (by decide) ?_
          refine zV.iadd C dX10_isCommand_42 ?_
          rw [nI_add]
          refine zV.pI 427 (k := 11) C dX10_isCommand_43 zcl_X10 (by decide) rfl lk_X10_216 rfl hm.1 rfl ⟨rfl, rfl⟩ ?_
          refine zV.caldv (j := p) C dX10_isCommand_46 (hm.2.2.2.2.2.2.2.2.2.2.2.2.2.2.2.1.1) (rfl) (Nat.lt_of_lt_of_eq (show p < 60 from z5) (hm.2.2.2.2.2.2.2.2.2.2.2.2.2.2.2.1.2).symm) (by omega) ((show aI (sI h 427 r (nI (p + 1))) (r + 7) p = nI 103 from (q.1.2.2 p 103 z2).1)) ?_
          refine zV.pI 428 (k := 12) C dX10_isCommand_47 zcl_X10 (by decide) rfl lk_X10_226 rfl hm.1 rfl ⟨rfl, rfl⟩ ?_
          obtain ⟨H1, hH1, E1, A1, w1, m1⟩ := ic_st (c := 103) hm q z1
          rw [← hH1]
          refine zV.aload_n C dX10_isCommand_50 rfl rfl ?_
          refine zV.gIv 428 (k := 12) C dX10_isCommand_51 zcl_X10 (by decide) rfl lk_X10_226 m1.1 rfl (w1) ?_
          refine zV.tIn 218 C dX10_isCommand_54 (by decide) (by decide) (show _ = some 164 from by rfl) (by decide) ?_
          refine zV.aload_n C dX10_isCommand_218 rfl rfl ?_
          refine zV.ic (v := nI 0) C dX10_isCommand_219 (by decide) ?_
          refine zV.ic (v := nI 1) C dX10_isCommand_220 (by decide) ?_
          refine zV.callV (n := 2) C G dX10_isCommand_221 (s_mdigits hzs hst H1 r m1 t _ 0 1 A1 (by decide) (by decide)) rfl ⟨cd_X10_digits, lk_X10_230, im_X10_digits, se_X10_X10_digits, in_X10⟩ ⟨⟨by decide, by decide⟩, by decide⟩ rfl rfl rfl m1.1 ⟨rfl, by decide⟩ (zafR (fun h2 ⟨E2, A2, k2, o2⟩ => ?_)) (zno)
          refine zV.if_eq (tgt := 249) C dX10_isCommand_224 (by decide) (fun q224 => ?_) (fun q224 => ?_)
          · have n1 := isn q224
            have E9 : rE h h2 r [427, 428] [8] := (E1.trans E2).mono (by simp) (by simp)
            refine zV.ic (v := nI 0) C dX10_isCommand_249 (by decide) ?_
            refine zV.zret C F dX10_isCommand_250 rfl rfl ?_
            first
              | exact ic_s (rdC_3 ec (show shp 103 = _ from rfl) (Or.inl rfl) (Or.inl rfl) (by decide) (by decide) n1 n2 n3) E9 A4 ((E4.f (by decide)).trans ((E3.f (by decide)).trans ((E2.f (by decide)).trans w1))) ((o4 0 (by decide)).trans ((congrFun (E3.r (i := 8) (by decide)) 0).trans (k2.trans (by rw [n1]; rfl)))) (fun _ => k4.trans (by rw [n3]; rfl))
              | exact ic_n (rdC_3n ec (show shp 103 = _ from rfl) (Or.inl rfl) (Or.inl rfl) (by decide) (by decide) n1 n2 n3) E9 A4
              | exact ic_n (rdC_3d ec (show shp 103 = _ from rfl) (Or.inl rfl) (by decide) (by decide) n1 n2) E9 A3
              | exact ic_n (rdC_1n ec (show shp 103 = _ from rfl) (Or.inl rfl) n1) E9 A2
          · obtain ⟨x, n1⟩ := iss q224
            have m2 := E2.m m1
            refine zV.aload_n C dX10_isCommand_227 rfl rfl ?_
            refine zV.bi (v := nI 62) C dX10_isCommand_228 (by decide) ?_
            refine zV.callV (n := 1) C G dX10_isCommand_230 (s_mtakes hzs hst h2 r m2 t _ 62 A2 (by decide)) rfl ⟨cd_X10_takes, lk_X10_233, im_X10_takes, se_X10_X10_takes, in_X10⟩ ⟨⟨by decide, by decide⟩, by decide⟩ rfl rfl rfl m2.1 ⟨rfl, by decide⟩ (zafR (fun h3 ⟨E3, A3⟩ => ?_)) (zno)
            refine zV.if_eq (tgt := 249) C dX10_isCommand_233 (by decide) (fun q233 => ?_) (fun q233 => ?_)
            · have n2 := dcn q233
              rw [if_neg n2] at A3
              have E9 : rE h h3 r [427, 428] [8] := ((E1.trans E2).trans E3).mono (by simp) (by simp)
              refine zV.ic (v := nI 0) C dX10_isCommand_249 (by decide) ?_
              refine zV.zret C F dX10_isCommand_250 rfl rfl ?_
              first
                | exact ic_s (rdC_3 ec (show shp 103 = _ from rfl) (Or.inl rfl) (Or.inl rfl) (by decide) (by decide) n1 n2 n3) E9 A4 ((E4.f (by decide)).trans ((E3.f (by decide)).trans ((E2.f (by decide)).trans w1))) ((o4 0 (by decide)).trans ((congrFun (E3.r (i := 8) (by decide)) 0).trans (k2.trans (by rw [n1]; rfl)))) (fun _ => k4.trans (by rw [n3]; rfl))
                | exact ic_n (rdC_3n ec (show shp 103 = _ from rfl) (Or.inl rfl) (Or.inl rfl) (by decide) (by decide) n1 n2 n3) E9 A4
                | exact ic_n (rdC_3d ec (show shp 103 = _ from rfl) (Or.inl rfl) (by decide) (by decide) n1 n2) E9 A3
                | exact ic_n (rdC_1n ec (show shp 103 = _ from rfl) (Or.inl rfl) n1) E9 A2
            · have n2 := dcy q233
              rw [if_pos n2] at A3
              have m3 := E3.m m2
              refine zV.aload_n C dX10_isCommand_236 rfl rfl ?_
              refine zV.ic (v := nI 1) C dX10_isCommand_237 (by decide) ?_
              refine zV.ic (v := nI 1) C dX10_isCommand_238 (by decide) ?_
              refine zV.callV (n := 2) C G dX10_isCommand_239 (s_mdigits hzs hst h3 r m3 t _ 1 1 A3 (by decide) (by decide)) rfl ⟨cd_X10_digits, lk_X10_230, im_X10_digits, se_X10_X10_digits, in_X10⟩ ⟨⟨by decide, by decide⟩, by decide⟩ rfl rfl rfl m3.1 ⟨rfl, by decide⟩ (zafR (fun h4 ⟨E4, A4, k4, o4⟩ => ?_)) (zno)
              refine zV.if_eq (tgt := 249) C dX10_isCommand_242 (by decide) (fun q242 => ?_) (fun q242 => ?_)
              · have n3 := isn q242
                have E9 : rE h h4 r [427, 428] [8] := (((E1.trans E2).trans E3).trans E4).mono (by simp) (by simp)
                refine zV.ic (v := nI 0) C dX10_isCommand_249 (by decide) ?_
                refine zV.zret C F dX10_isCommand_250 rfl rfl ?_
                first
                  | exact ic_s (rdC_3 ec (show shp 103 = _ from rfl) (Or.inl rfl) (Or.inl rfl) (by decide) (by decide) n1 n2 n3) E9 A4 ((E4.f (by decide)).trans ((E3.f (by decide)).trans ((E2.f (by decide)).trans w1))) ((o4 0 (by decide)).trans ((congrFun (E3.r (i := 8) (by decide)) 0).trans (k2.trans (by rw [n1]; rfl)))) (fun _ => k4.trans (by rw [n3]; rfl))
                  | exact ic_n (rdC_3n ec (show shp 103 = _ from rfl) (Or.inl rfl) (Or.inl rfl) (by decide) (by decide) n1 n2 n3) E9 A4
                  | exact ic_n (rdC_3d ec (show shp 103 = _ from rfl) (Or.inl rfl) (by decide) (by decide) n1 n2) E9 A3
                  | exact ic_n (rdC_1n ec (show shp 103 = _ from rfl) (Or.inl rfl) n1) E9 A2
              · obtain ⟨y, n3⟩ := iss q242
                have E9 : rE h h4 r [427, 428] [8] := (((E1.trans E2).trans E3).trans E4).mono (by simp) (by simp)
                refine zV.ic (v := nI 1) C dX10_isCommand_245 (by decide) ?_
                refine zV.goto (tgt := 250) C dX10_isCommand_246 (by decide) ?_
                refine zV.zret C F dX10_isCommand_250 rfl rfl ?_
                first
                  | exact ic_s (rdC_3 ec (show shp 103 = _ from rfl) (Or.inl rfl) (Or.inl rfl) (by decide) (by decide) n1 n2 n3) E9 A4 ((E4.f (by decide)).trans ((E3.f (by decide)).trans ((E2.f (by decide)).trans w1))) ((o4 0 (by decide)).trans ((congrFun (E3.r (i := 8) (by decide)) 0).trans (k2.trans (by rw [n1]; rfl)))) (fun _ => k4.trans (by rw [n3]; rfl))
                  | exact ic_n (rdC_3n ec (show shp 103 = _ from rfl) (Or.inl rfl) (Or.inl rfl) (by decide) (by decide) n1 n2 n3) E9 A4
                  | exact ic_n (rdC_3d ec (show shp 103 = _ from rfl) (Or.inl rfl) (by decide) (by decide) n1 n2) E9 A3
                  | exact ic_n (rdC_1n ec (show shp 103 = _ from rfl) (Or.inl rfl) n1) E9 A2
        · exact absurd (by decide) q25
      · rw [ec] at z2
        refine zV.ldcS C G dX10_isCommand_11 e91 ?_
        refine zV.aload_n C dX10_isCommand_13 rfl rfl ?_
        refine zV.gR 425 (k := 9) C dX10_isCommand_14 zcl_X10 (by decide) rfl lk_X10_29 (hm.1) rfl (hm.2.2.2.2.2.2.2.1) ?_
        refine zV.aload_n C dX10_isCommand_17 rfl rfl ?_
        refine zV.gIv 427 (k := 11) C dX10_isCommand_18 zcl_X10 (by decide) rfl lk_X10_216 hm.1 rfl (q.2.1) ?_
        refine zV.caldv (j := p) C dX10_isCommand_21 (hm.2.2.2.2.2.2.2.2.2.2.2.2.2.2.2.1.1) (rfl) (Nat.lt_of_lt_of_eq (show p < 60 from z5) (hm.2.2.2.2.2.2.2.2.2.2.2.2.2.2.2.1.2).symm) (by omega) ((q.1.2.2 p 97 z2).1) ?_
        refine zV.callVR (n := 1) C G dX10_isCommand_22 (s_SindexOf hzs hst h q9 q2 [112, 113, 104, 99, 115, 102, 117, 111, 109, 103, 97, 100] hs (by decide) 97 (by omega) (by decide) (by decide)) rfl ⟨cd_J0_indexOf_0f7a4, lk_X10_221, im_J0_indexOf_0f7a4, se_J0_J0_indexOf_0f7a4, in_J0⟩ ⟨⟨by decide, by decide⟩, by decide⟩ rfl rfl rfl (hs.1) (zaf ?_) (zno)
        rw [show ioF 97 [112, 113, 104, 99, 115, 102, 117, 111, 109, 103, 97, 100] 0 = some 10 from rfl]
        show zV X _ _ h 25 _ (.int (nI 10) :: _)
        refine zV.if_ge (tgt := 30) C dX10_isCommand_25 (by decide) (fun q25 => ?_) (fun q25 => ?_)
        · refine zV.aload_n C dX10_isCommand_30 rfl rfl ?_
          refine zV.aload_n C dX10_isCommand_31 rfl rfl ?_
          refine zV.gR 425 (k := 9) C dX10_isCommand_32 zcl_X10 (by decide) rfl lk_X10_29 (hm.1) rfl (hm.2.2.2.2.2.2.2.1) ?_
          refine zV.aload_n C dX10_isCommand_35 rfl rfl ?_
          refine zV.dup C dX10_isCommand_36 rfl ?_
          refine zV.gIv 427 (k := 11) C dX10_isCommand_37 zcl_X10 (by decide) rfl lk_X10_216 hm.1 rfl (q.2.1) ?_
          refine zV.dup_x1 C dX10_isCommand_40 rfl rfl ?_
          refine zV.ic (v := nI 1) C dX10_isCommand_41 (by decide) ?_
          refine zV.iadd C dX10_isCommand_42 ?_
          rw [nI_add]
          refine zV.pI 427 (k := 11) C dX10_isCommand_43 zcl_X10 (by decide) rfl lk_X10_216 rfl hm.1 rfl ⟨rfl, rfl⟩ ?_
          refine zV.caldv (j := p) C dX10_isCommand_46 (hm.2.2.2.2.2.2.2.2.2.2.2.2.2.2.2.1.1) (rfl) (Nat.lt_of_lt_of_eq (show p < 60 from z5) (hm.2.2.2.2.2.2.2.2.2.2.2.2.2.2.2.1.2).symm) (by omega) ((show aI (sI h 427 r (nI (p + 1))) (r + 7) p = nI 97 from (q.1.2.2 p 97 z2).1)) ?_
          refine zV.pI 428 (k := 12) C dX10_isCommand_47 zcl_X10 (by decide) rfl lk_X10_226 rfl hm.1 rfl ⟨rfl, rfl⟩ ?_
          obtain ⟨H1, hH1, E1, A1, w1, m1⟩ := ic_st (c := 97) hm q z1
          rw [← hH1]
          refine zV.aload_n C dX10_isCommand_50 rfl rfl ?_
          refine zV.gIv 428 (k := 12) C dX10_isCommand_51 zcl_X10 (by decide) rfl lk_X10_226 m1.1 rfl (w1) ?_
          refine zV.tOut 251 C dX10_isCommand_54 (by decide) (by decide) ?_
          refine zV.aload_n C dX10_isCommand_251 rfl rfl ?_
          refine zV.ic (v := nI 0) C dX10_isCommand_252 (by decide) ?_
          refine zV.ic (v := nI 2) C dX10_isCommand_253 (by decide) ?_
          refine zV.callV (n := 2) C G dX10_isCommand_254 (s_mdigits hzs hst H1 r m1 t _ 0 2 A1 (by decide) (by decide)) rfl ⟨cd_X10_digits, lk_X10_230, im_X10_digits, se_X10_X10_digits, in_X10⟩ ⟨⟨by decide, by decide⟩, by decide⟩ rfl rfl rfl m1.1 ⟨rfl, by decide⟩ (zafR (fun h2 ⟨E2, A2, k2, o2⟩ => ?_)) (zno)
          refine zV.zret C F dX10_isCommand_257 nar_b2 rfl ?_
          have E9 : rE h h2 r [427, 428] [8] := (E1.trans E2).mono (by simp) (by simp)
          rcases n1 : (rdN t 2 (p + 1) none).1 with _ | x
          · exact ic_n (rdC_1n ec (show shp 97 = _ from rfl) (Or.inr rfl) n1) E9 A2
          · exact ic_s (rdC_1 ec (show shp 97 = _ from rfl) (Or.inr rfl) n1) E9 A2 ((E2.f (by decide)).trans w1) (k2.trans (by rw [n1]; rfl)) (fun z => absurd z (by unfold tw; decide))
        · exact absurd (by decide) q25
      · rw [ec] at z2
        refine zV.ldcS C G dX10_isCommand_11 e91 ?_
        refine zV.aload_n C dX10_isCommand_13 rfl rfl ?_
        refine zV.gR 425 (k := 9) C dX10_isCommand_14 zcl_X10 (by decide) rfl lk_X10_29 (hm.1) rfl (hm.2.2.2.2.2.2.2.1) ?_
        refine zV.aload_n C dX10_isCommand_17 rfl rfl ?_
        refine zV.gIv 427 (k := 11) C dX10_isCommand_18 zcl_X10 (by decide) rfl lk_X10_216 hm.1 rfl (q.2.1) ?_
        refine zV.caldv (j := p) C dX10_isCommand_21 (hm.2.2.2.2.2.2.2.2.2.2.2.2.2.2.2.1.1) (rfl) (Nat.lt_of_lt_of_eq (show p < 60 from z5) (hm.2.2.2.2.2.2.2.2.2.2.2.2.2.2.2.1.2).symm) (by omega) ((q.1.2.2 p 100 z2).1) ?_
        refine zV.callVR (n := 1) C G dX10_isCommand_22 (s_SindexOf hzs hst h q9 q2 [112, 113, 104, 99, 115, 102, 117, 111, 109, 103, 97, 100] hs (by decide) 100 (by omega) (by decide) (by decide)) rfl ⟨cd_J0_indexOf_0f7a4, lk_X10_221, im_J0_indexOf_0f7a4, se_J0_J0_indexOf_0f7a4, in_J0⟩ ⟨⟨by decide, by decide⟩, by decide⟩ rfl rfl rfl (hs.1) (zaf ?_) (zno)
        rw [show ioF 100 [112, 113, 104, 99, 115, 102, 117, 111, 109, 103, 97, 100] 0 = some 11 from rfl]
        show zV X _ _ h 25 _ (.int (nI 11) :: _)
        refine zV.if_ge (tgt := 30) C dX10_isCommand_25 (by decide) (fun q25 => ?_) (fun q25 => ?_)
        · refine zV.aload_n C dX10_isCommand_30 rfl rfl ?_
          refine zV.aload_n C dX10_isCommand_31 rfl rfl ?_
          refine zV.gR 425 (k := 9) C dX10_isCommand_32 zcl_X10 (by decide) rfl lk_X10_29 (hm.1) rfl (hm.2.2.2.2.2.2.2.1) ?_
          refine zV.aload_n C dX10_isCommand_35 rfl rfl ?_
          refine zV.dup C dX10_isCommand_36 rfl ?_
          refine zV.gIv 427 (k := 11) C dX10_isCommand_37 zcl_X10 (by decide) rfl lk_X10_216 hm.1 rfl (q.2.1) ?_
          refine zV.dup_x1 C dX10_isCommand_40 rfl rfl ?_
          refine zV.ic (v := nI 1) C dX10_isCommand_41 (by decide) ?_
          refine zV.iadd C dX10_isCommand_42 ?_
          rw [nI_add]
          refine zV.pI 427 (k := 11) C dX10_isCommand_43 zcl_X10 (by decide) rfl lk_X10_216 rfl hm.1 rfl ⟨rfl, rfl⟩ ?_
          refine zV.caldv (j := p) C dX10_isCommand_46 (hm.2.2.2.2.2.2.2.2.2.2.2.2.2.2.2.1.1) (rfl) (Nat.lt_of_lt_of_eq (show p < 60 from z5) (hm.2.2.2.2.2.2.2.2.2.2.2.2.2.2.2.1.2).symm) (by omega) ((show aI (sI h 427 r (nI (p + 1))) (r + 7) p = nI 100 from (q.1.2.2 p 100 z2).1)) ?_
          refine zV.pI 428 (k := 12) C dX10_isCommand_47 zcl_X10 (by decide) rfl lk_X10_226 rfl hm.1 rfl ⟨rfl, rfl⟩ ?_
          obtain ⟨H1, hH1, E1, A1, w1, m1⟩ := ic_st (c := 100) hm q z1
          rw [← hH1]
          refine zV.aload_n C dX10_isCommand_50 rfl rfl ?_
          refine zV.gIv 428 (k := 12) C dX10_isCommand_51 zcl_X10 (by decide) rfl lk_X10_226 m1.1 rfl (w1) ?_
          refine zV.tIn 251 C dX10_isCommand_54 (by decide) (by decide) (show _ = some 197 from by rfl) (by decide) ?_
          refine zV.aload_n C dX10_isCommand_251 rfl rfl ?_
          refine zV.ic (v := nI 0) C dX10_isCommand_252 (by decide) ?_
          refine zV.ic (v := nI 2) C dX10_isCommand_253 (by decide) ?_
          refine zV.callV (n := 2) C G dX10_isCommand_254 (s_mdigits hzs hst H1 r m1 t _ 0 2 A1 (by decide) (by decide)) rfl ⟨cd_X10_digits, lk_X10_230, im_X10_digits, se_X10_X10_digits, in_X10⟩ ⟨⟨by decide, by decide⟩, by decide⟩ rfl rfl rfl m1.1 ⟨rfl, by decide⟩ (zafR (fun h2 ⟨E2, A2, k2, o2⟩ => ?_)) (zno)
          refine zV.zret C F dX10_isCommand_257 nar_b2 rfl ?_
          have E9 : rE h h2 r [427, 428] [8] := (E1.trans E2).mono (by simp) (by simp)
          rcases n1 : (rdN t 2 (p + 1) none).1 with _ | x
          · exact ic_n (rdC_1n ec (show shp 100 = _ from rfl) (Or.inr rfl) n1) E9 A2
          · exact ic_s (rdC_1 ec (show shp 100 = _ from rfl) (Or.inr rfl) n1) E9 A2 ((E2.f (by decide)).trans w1) (k2.trans (by rw [n1]; rfl)) (fun z => absurd z (by unfold tw; decide))
        · exact absurd (by decide) q25
      · refine zV.ldcS C G dX10_isCommand_11 e91 ?_
        refine zV.aload_n C dX10_isCommand_13 rfl rfl ?_
        refine zV.gR 425 (k := 9) C dX10_isCommand_14 zcl_X10 (by decide) rfl lk_X10_29 (hm.1) rfl (hm.2.2.2.2.2.2.2.1) ?_
        refine zV.aload_n C dX10_isCommand_17 rfl rfl ?_
        refine zV.gIv 427 (k := 11) C dX10_isCommand_18 zcl_X10 (by decide) rfl lk_X10_216 hm.1 rfl (q.2.1) ?_
        refine zV.caldv (j := p) C dX10_isCommand_21 (hm.2.2.2.2.2.2.2.2.2.2.2.2.2.2.2.1.1) (rfl) (Nat.lt_of_lt_of_eq (show p < 60 from z5) (hm.2.2.2.2.2.2.2.2.2.2.2.2.2.2.2.1.2).symm) (by omega) ((q.1.2.2 p _ z2).1) ?_
        refine zV.callVR (n := 1) C G dX10_isCommand_22 (s_SindexOf hzs hst h q9 q2 [112, 113, 104, 99, 115, 102, 117, 111, 109, 103, 97, 100] hs (by decide) (nx t p) (by omega) (by decide) (by decide)) rfl ⟨cd_J0_indexOf_0f7a4, lk_X10_221, im_J0_indexOf_0f7a4, se_J0_J0_indexOf_0f7a4, in_J0⟩ ⟨⟨by decide, by decide⟩, by decide⟩ rfl rfl rfl (hs.1) (zaf ?_) (zno)
        rw [ic_out eo]
        show zV X _ _ h 25 _ (.int (-1) :: _)
        refine zV.if_ge (tgt := 30) C dX10_isCommand_25 (by decide) (fun q25 => ?_) (fun q25 => ?_)
        · exact absurd q25 (by decide)
        · refine zV.ic (v := nI 0) C dX10_isCommand_28 (by decide) ?_
          refine zV.zret C F dX10_isCommand_29 rfl rfl ?_
          exact ic_n (rdC_0 (ic_shp eo)) ((rE.refl h r).mono (by simp) (by simp)) q
