/-! the reference: undo; snapshots; input; output -/
/-- what a call answers that may change the state: P of the heap behind it -/
def msP (h : zH) (r : Nat) (A : zAn) (cf : String → Nat) (P : zH → Prop) : Option Value → zH → Prop := fun v h' => v = some (match A with | .inl _ => .int (nI 0) | .inr w => w) ∧ hI h' 435 r = nI (match A with | .inl Ex => cf Ex | .inr _ => 0) ∧ rE h h' r [420, 422, 424, 426, 430, 431, 432, 433, 434, 435] [1, 2, 3, 4, 5, 6, 7] ∧ P h'
theorem msP_r {h h' : zH} {r : Nat} {A : zAn} {cf : String → Nat} {P : zH → Prop} {w : Value} {F B : List Nat} (e : A = .inr w) (e0 : hI h' 435 r = nI 0) (E : rE h h' r F B) (hF : ∀ f ∈ F, f ∈ [420, 422, 424, 426, 430, 431, 432, 433, 434, 435]) (hB : ∀ f ∈ B, f ∈ [1, 2, 3, 4, 5, 6, 7]) (p : P h') : msP h r A cf P (some w) h' := by rw [e]; exact ⟨rfl, e0, E.mono hF hB, p⟩
theorem msP_x {h h' : zH} {r k : Nat} {A : zAn} {cf : String → Nat} {P : zH → Prop} {Ex : String} {F B : List Nat} (e : A = .inl Ex) (ek : cf Ex = k) (e0 : hI h' 435 r = nI k) (E : rE h h' r F B) (hF : ∀ f ∈ F, f ∈ [420, 422, 424, 426, 430, 431, 432, 433, 434, 435]) (hB : ∀ f ∈ B, f ∈ [1, 2, 3, 4, 5, 6, 7]) (p : P h') : msP h r A cf P (some (.int (nI 0))) h' := by rw [e]; exact ⟨rfl, e0.trans (congrArg nI ek.symm), E.mono hF hB, p⟩
theorem nI_sx {n : Nat} : nI (n + 1) - nI 1 = nI n := by rw [← nI_add]; exact Int32.add_sub_cancel _ _
theorem hI2 {h : zH} {r f : Nat} {x v : Int32} (hf : 435 ≠ f) : hI (sI (sI h 435 r x) f r v) 435 r = x := (hI_sI_f hf).trans hI_sI
/-- thrown alone -/
theorem rE_2 {h : zH} {r : Nat} {x y : Int32} : rE h (sI (sI h 435 r x) 435 r y) r [435] [] := (rE.i.trans rE.i).mono (by simp) (by simp)
theorem rSt_2 {h : zH} {r : Nat} {g : zGd} {us : List zGd} {sn : Option zGd} {off rs dt cs : Int32} {t o : List Nat} {x y : Int32} (q : rSt h r g us sn off rs dt cs t o) : rSt (sI (sI h 435 r x) 435 r y) r g us sn off rs dt cs t o := rSt_x q rE_2 (by decide) (by decide)
def unM (h : zH) (r : Nat) (g : zGd) (us : List zGd) (sn : Option zGd) (off rs dt cs : Int32) (t o : List Nat) (h' : zH) : Prop := match us.getLast? with
  | none => rSt h' r g us sn off rs dt cs t o
  | some g' => rSt h' r g' us.dropLast sn off rs dt cs t o
def rsM (h : zH) (r : Nat) (g : zGd) (us : List zGd) (sn : Option zGd) (off rs dt cs : Int32) (t o : List Nat) (h' : zH) : Prop := match sn with
  | none => rSt h' r g us none off rs dt cs t o
  | some s => rSt h' r s [] (some s) off rs dt cs t o
theorem un_m {h : zH} {r m : Nat} {vs : List zGd} {g' : zGd} {g : zGd} {sn : Option zGd} {off rs dt cs : Int32} {t o : List Nat} (q : rSt h r g (vs ++ [g']) sn off rs dt cs t o) (hR : gR m g') : msP h r (unA (vs ++ [g'])) c1 (unM h r g (vs ++ [g']) sn off rs dt cs t o) (some (.int (nI vs.length))) (sRow (sI (sI h 435 r (nI 0)) 420 r (nI vs.length)) (r + 1) (cpF (fun j => aI (sI (sI h 435 r (nI 0)) 420 r (nI vs.length)) (r + 4) (116 * vs.length + j)) (aI (sI (sI h 435 r (nI 0)) 420 r (nI vs.length)) (r + 1)) 116)) := by
  have E : rE h (sRow (sI (sI h 435 r (nI 0)) 420 r (nI vs.length)) (r + 1) (cpF (fun j => aI (sI (sI h 435 r (nI 0)) 420 r (nI vs.length)) (r + 4) (116 * vs.length + j)) (aI (sI (sI h 435 r (nI 0)) 420 r (nI vs.length)) (r + 1)) 116)) r [435, 420] [1] := ((rE.i.trans rE.i).trans rE.a).mono (by simp) (by simp)
  obtain ⟨q1, q2, q3, q4, q5, q6, q7⟩ := q
  refine msP_r (by unfold unA; rw [if_neg (by simp), List.length_append]; rfl) (hI2 (h := h) (r := r) (f := 420) (x := nI 0) (v := nI vs.length) (by decide)) E (by decide) (by decide) ?_
  unfold unM
  rw [List.getLast?_concat, List.dropLast_concat]
  refine ⟨E.m q1, ?_, ⟨hI_sI, by have := q3.2.1; rw [List.length_append] at this; omega, fun k u hk => ?_⟩, rSv_e q4 E (by decide) (by decide), rNm_e q5 E (by decide), rTx_e q6 E (by decide) (by decide), rOt_e q7 E (by decide) (by decide)⟩
  · rw [aI_sRow]
    exact rG_d (q3.2.2 vs.length g' (by rw [List.getElem?_append_right (Nat.le_refl _), Nat.sub_self]; rfl)) hR (fun j hj => cpF_y hj)
  · rw [E.r (by decide)]
    have hl := (List.getElem?_eq_some_iff.mp hk).1
    exact q3.2.2 k u (by rw [List.getElem?_append_left hl]; exact hk)
theorem sv_m {h : zH} {r m : Nat} {g : zGd} {us : List zGd} {sn : Option zGd} {off rs dt cs : Int32} {t o : List Nat} (q : rSt h r g us sn off rs dt cs t o) (hR : gR m g) (hv : aI h (r + 1) 0 = nI (gC g).length) : msP h r (.inr (.int (nI (gC g).length))) c1 (fun h' => rSt h' r g us (some g) off rs dt cs t o) (some (.int (nI (gC g).length))) (sRow (sI (sI h 435 r (nI 0)) 422 r (nI 1)) (r + 5) (cpF (aI (sI (sI h 435 r (nI 0)) 422 r (nI 1)) (r + 1)) (aI (sI (sI h 435 r (nI 0)) 422 r (nI 1)) (r + 5)) 116)) := by
  have E : rE h (sRow (sI (sI h 435 r (nI 0)) 422 r (nI 1)) (r + 5) (cpF (aI (sI (sI h 435 r (nI 0)) 422 r (nI 1)) (r + 1)) (aI (sI (sI h 435 r (nI 0)) 422 r (nI 1)) (r + 5)) 116)) r [435, 422] [5] := ((rE.i.trans rE.i).trans rE.a).mono (by simp) (by simp)
  obtain ⟨q1, q2, q3, q4, q5, q6, q7⟩ := q
  refine msP_r rfl (hI2 (h := h) (r := r) (f := 422) (x := nI 0) (v := nI 1) (by decide)) E (by decide) (by decide) ⟨E.m q1, by rw [E.r (by decide)]; exact q2, rKp_e q3 E (by decide) (by decide), ⟨hI_sI, fun s hs => ?_⟩, rNm_e q5 E (by decide), rTx_e q6 E (by decide) (by decide), rOt_e q7 E (by decide) (by decide)⟩
  cases hs
  rw [aI_sRow]
  exact rG_d q2 hR (fun j hj => cpF_y hj)
theorem rs_m {h : zH} {r m : Nat} {s : zGd} {g : zGd} {us : List zGd} {off rs dt cs : Int32} {t o : List Nat} (q : rSt h r g us (some s) off rs dt cs t o) (hR : gR m s) : msP h r (rsA (some s)) c1 (rsM h r g us (some s) off rs dt cs t o) (some (.int (nI (gC s).length))) (sI (sRow (sI h 435 r (nI 0)) (r + 1) (cpF (aI (sI h 435 r (nI 0)) (r + 5)) (aI (sI h 435 r (nI 0)) (r + 1)) 116)) 420 r (nI 0)) := by
  have E : rE h (sI (sRow (sI h 435 r (nI 0)) (r + 1) (cpF (aI (sI h 435 r (nI 0)) (r + 5)) (aI (sI h 435 r (nI 0)) (r + 1)) 116)) 420 r (nI 0)) r [435, 420] [1] := ((rE.i.trans rE.a).trans rE.i).mono (by simp) (by simp)
  obtain ⟨q1, q2, q3, q4, q5, q6, q7⟩ := q
  refine msP_r rfl (hI2 (h := h) (r := r) (f := 420) (x := nI 0) (v := nI 0) (by decide)) E (by decide) (by decide) ⟨E.m q1, ?_, ⟨hI_sI, Nat.zero_le _, fun k u hk => by cases hk⟩, rSv_e q4 E (by decide) (by decide), rNm_e q5 E (by decide), rTx_e q6 E (by decide) (by decide), rOt_e q7 E (by decide) (by decide)⟩
  rw [show aI (sI (sRow (sI h 435 r (nI 0)) (r + 1) (cpF (aI (sI h 435 r (nI 0)) (r + 5)) (aI (sI h 435 r (nI 0)) (r + 1)) 116)) 420 r (nI 0)) (r + 1) = cpF (aI (sI h 435 r (nI 0)) (r + 5)) (aI (sI h 435 r (nI 0)) (r + 1)) 116 from aI_sRow]
  exact rG_d (q4.2 s rfl) hR (fun j hj => cpF_y hj)
theorem rG_0 {f : Nat → Int32} {g : zGd} (q : rG f g) : f 0 = nI (gC g).length := by
  obtain ⟨cs, hp, -, hf⟩ := q
  exact hf.1.1.trans (congrArg nI hp.length_eq)
set_option maxHeartbeats 4000000 in
set_option maxRecDepth 100000 in
theorem L_mundoE {X : zX} {l : Launch} {E : zG} {rm : Room} (hzs : zS E) (hst : l.stackTraces = false) (C : zC X cX10_undo RX10 2) (G : zGX X l E rm) {h1 : zH} {r : Nat}  (kk : zV X 0 0 h1 62 [(0, .ref r), (1, .int (nI 116))] []) : zV X 0 0 h1 30 [(0, .ref r), (1, .int (nI 116))] [] := by
  
  refine zV.iload_n C dX10_undo_30 rfl ?_
  refine zV.bi (v := nI 116) C dX10_undo_31 (by decide) ?_
  refine zV.icmp_ge (tgt := 62) C dX10_undo_33 (by decide) (fun q33 => ?_) (fun q33 => ?_)
  · exact kk
  · exact absurd (by decide) q33
set_option maxHeartbeats 4000000 in
set_option maxRecDepth 100000 in
theorem L_mundo {X : zX} {l : Launch} {E : zG} {rm : Room} (hzs : zS E) (hst : l.stackTraces = false) (C : zC X cX10_undo RX10 2) (G : zGX X l E rm) {h : zH} {r : Nat}  (hm : zMs h r) {u : Nat} (hu : hI h 420 r = nI u) (hu8 : u < 8) (kk : zV X 0 0 (sRow h (r + 1) (cpF ((fun j => aI h (r + 4) (116 * u + j))) (aI h (r + 1)) 116)) 62 [(0, .ref r), (1, .int (nI 116))] []) : ∀ n k, k + n = 116 → zV X 0 0 (sRow h (r + 1) (cpF ((fun j => aI h (r + 4) (116 * u + j))) (aI h (r + 1)) k)) 30 [(0, .ref r), (1, .int (nI k))] [] := by
  intro n
  induction n with
  | zero =>
    intro k hk
    obtain rfl : k = 116 := by omega
    exact L_mundoE hzs hst C G kk
  | succ n ih =>
    intro k hk
    refine zV.iload_n C dX10_undo_30 rfl ?_
    refine zV.bi (v := nI 116) C dX10_undo_31 (by decide) ?_
    refine zV.icmp_ge (tgt := 62) C dX10_undo_33 (by decide) (fun q33 => ?_) (fun q33 => ?_)
    · exact absurd (nle (by omega) (by decide) q33) (by omega)
    · refine zV.aload_n C dX10_undo_36 rfl rfl ?_
      refine zV.gR 416 (k := 0) C dX10_undo_37 zcl_X10 (by decide) rfl lk_X10_9 (hm.1) rfl (hm.2.1) ?_
      refine zV.iload_n C dX10_undo_40 rfl ?_
      refine zV.aload_n C dX10_undo_41 rfl rfl ?_
      refine zV.gR 419 (k := 3) C dX10_undo_42 zcl_X10 (by decide) rfl lk_X10_19 (hm.1) rfl (hm.2.2.2.2.1) ?_
      refine zV.bi (v := nI 116) C dX10_undo_45 (by decide) ?_
      refine zV.aload_n C dX10_undo_47 rfl rfl ?_
      refine zV.gIv 420 (k := 4) C dX10_undo_48 zcl_X10 (by decide) rfl lk_X10_58 (hm.1) rfl (hu) ?_
      refine zV.imul C dX10_undo_51 ?_
      refine zV.iload_n C dX10_undo_52 rfl ?_
      refine zV.iadd C dX10_undo_53 ?_
      refine zV.ialdv (j := 116 * u + k) C dX10_undo_54 (hm.2.2.2.2.2.2.2.2.2.2.2.2.1.1) (by rw [pk_mul, nI_add]) (Nat.lt_of_lt_of_eq (show 116 * u + k < 928 by omega) (hm.2.2.2.2.2.2.2.2.2.2.2.2.1.2).symm) (by omega) ((show aI (sRow h (r + 1) (cpF ((fun j => aI h (r + 4) (116 * u + j))) (aI h (r + 1)) k)) (r + 4) (116 * u + k) = ((fun j => aI h (r + 4) (116 * u + j))) k from by rw [aI_sRow_a (by omega)])) ?_
      refine zV.iast (j := k) C dX10_undo_55 (hm.2.2.2.2.2.2.2.2.2.1.1) (rfl) (Nat.lt_of_lt_of_eq (show k < 116 by omega) (hm.2.2.2.2.2.2.2.2.2.1.2).symm) (by omega) ?_
      rw [saI_row2, cpF_s]
      refine zV.iinc (lo' := [(0, _), (1, _)]) C dX10_undo_56 rfl (by decide) rfl rfl rfl ?_
      refine zV.goto (tgt := 30) C dX10_undo_59 (by decide) ?_
      rw [inc1]
      exact ih (k + 1) (by omega)
set_option maxHeartbeats 4000000 in
set_option maxRecDepth 100000 in
theorem s_mundoZ {X : zX} {l : Launch} {E : zG} {rm : Room} (hzs : zS E) (hst : l.stackTraces = false) (C : zC X cX10_undo RX10 2) (G : zGX X l E rm) {h : zH} {r u : Nat} {x : Int32} {Qr : Option Value → zH → Prop} {Qx : String → zH → Prop} (F : zF X (some .int) 0 0 Qr Qx) (hm : zMs h r) (hu : hI h 420 r = nI u) (hq : Qr (some (.int (nI u))) h) : zV X 0 0 h 62 [(0, .ref r), (1, .int x)] [] := by
  
  refine zV.aload_n C dX10_undo_62 rfl rfl ?_
  refine zV.gIv 420 (k := 4) C dX10_undo_63 zcl_X10 (by decide) rfl lk_X10_58 (hm.1) rfl (hu) ?_
  refine zV.iret C F dX10_undo_66 rfl ?_
  exact hq
set_option maxHeartbeats 4000000 in
set_option maxRecDepth 100000 in
theorem s_qundo {l : Launch} {E : zG} (hzs : zS E) (hst : l.stackTraces = false) (h : zH) (r m : Nat) (g : zGd) (us : List zGd) (sn : Option zGd) (off rs dt cs : Int32) (t o : List Nat) (q : rSt h r g us sn off rs dt cs t o) (hI_ : rIv m g us sn) : zMet l E yX10_undo cX10_undo 2 (some .int) ({ frames := 1, cells := 0, slots := 0, locals := 21 } : Room) 0 0 [.ref r] h (msP h r (unA us) c1 (unM h r g us sn off rs dt cs t o)) (fun _ _ => False) := by
  refine zM_start hzs hst (by decide) (Nat.le_of_ble_eq_true rfl) (fun X C G F I => ?_)
  show zV X 0 0 _ 0 [(0, _)] []
  refine zV.aload_n C dX10_undo_0 rfl rfl ?_
  refine zV.ic (v := nI 0) C dX10_undo_1 (by decide) ?_
  refine zV.pI 435 (k := 19) C dX10_undo_2 zcl_X10 (by decide) rfl lk_X10_39 rfl q.1.1 rfl ⟨rfl, rfl⟩ ?_
  by_cases e : us = []
  · subst e
    refine zV.aload_n C dX10_undo_5 rfl rfl ?_
    refine zV.gIv 420 (k := 4) C dX10_undo_6 zcl_X10 (by decide) rfl lk_X10_58 q.1.1 rfl ((show hI (sI h 435 r (nI 0)) 420 r = nI 0 from (hI_sI_f (by decide)).trans q.2.2.1.1)) ?_
    refine zV.if_ne (tgt := 18) C dX10_undo_9 (by decide) (fun q9 => ?_) (fun q9 => ?_)
    · exact absurd rfl q9
    · refine zV.aload_n C dX10_undo_12 rfl rfl ?_
      refine zV.ic (v := nI 1) C dX10_undo_13 (by decide) ?_
      refine zV.callV (n := 1) C G dX10_undo_14 (s_mraises hzs hst (sI h 435 r (nI 0)) r q.1 (nI 1)) rfl ⟨cd_X10_raises, lk_X10_54, im_X10_raises, se_X10_X10_raises, in_X10⟩ ⟨⟨by decide, by decide⟩, by decide⟩ rfl rfl rfl q.1.1 ⟨rfl, by decide⟩ (zaf ?_) (zno)
      refine zV.iret C F dX10_undo_17 rfl ?_
      exact msP_x (show unA [] = .inl ISE from rfl) rfl hI_sI rE_2 (by decide) (by decide) (rSt_2 q)
  · obtain ⟨vs, g9, rfl⟩ := last9 e
    have hu8 : vs.length < 8 := by have := q.2.2.1.2.1; rw [List.length_append] at this; exact this
    refine zV.aload_n C dX10_undo_5 rfl rfl ?_
    refine zV.gIv 420 (k := 4) C dX10_undo_6 zcl_X10 (by decide) rfl lk_X10_58 q.1.1 rfl ((show hI (sI h 435 r (nI 0)) 420 r = nI (vs.length + 1) from (hI_sI_f (by decide)).trans (q.2.2.1.1.trans (congrArg nI (by rw [List.length_append]; rfl))))) ?_
    refine zV.if_ne (tgt := 18) C dX10_undo_9 (by decide) (fun q9 => ?_) (fun q9 => ?_)
    · refine zV.aload_n C dX10_undo_18 rfl rfl ?_
      refine zV.dup C dX10_undo_19 rfl ?_
      refine zV.gIv 420 (k := 4) C dX10_undo_20 zcl_X10 (by decide) rfl lk_X10_58 q.1.1 rfl ((show hI (sI h 435 r (nI 0)) 420 r = nI (vs.length + 1) from (hI_sI_f (by decide)).trans (q.2.2.1.1.trans (congrArg nI (by rw [List.length_append]; rfl))))) ?_
      refine zV.ic (v := nI 1) C dX10_undo_23 (by decide) ?_
      refine zV.isub C dX10_undo_24 ?_
      rw [show nI (vs.length + 1) - nI 1 = nI vs.length from nI_sx]
      refine zV.pI 420 (k := 4) C dX10_undo_25 zcl_X10 (by decide) rfl lk_X10_58 rfl q.1.1 rfl ⟨rfl, rfl⟩ ?_
      refine zV.ic (v := nI 0) C dX10_undo_28 (by decide) ?_
      refine zV.istore_n (lo' := [(0, _), (1, _)]) C dX10_undo_29 (by decide) rfl rfl rfl ?_
      have hm1 : zMs (sI (sI h 435 r (nI 0)) 420 r (nI vs.length)) r := q.1
      have z := L_mundo (h := sI (sI h 435 r (nI 0)) 420 r (nI vs.length)) (u := vs.length) hzs hst C G hm1 hI_sI hu8 (s_mundoZ hzs hst C G F hm1 hI_sI (un_m q (hI_.2.1 g9 (by simp)))) 116 0 rfl
      rw [cpF_0, sRow_at rfl] at z
      exact z
    · exact absurd ((n0 (by omega)).mp q9) (by omega)
set_option maxHeartbeats 4000000 in
set_option maxRecDepth 100000 in
theorem L_msaveE {X : zX} {l : Launch} {E : zG} {rm : Room} (hzs : zS E) (hst : l.stackTraces = false) (C : zC X cX10_saveSnapshot RX10 2) (G : zGX X l E rm) {h1 : zH} {r : Nat}  (kk : zV X 0 0 h1 36 [(0, .ref r), (1, .int (nI 116))] []) : zV X 0 0 h1 12 [(0, .ref r), (1, .int (nI 116))] [] := by
  
  refine zV.iload_n C dX10_saveSnapshot_12 rfl ?_
  refine zV.bi (v := nI 116) C dX10_saveSnapshot_13 (by decide) ?_
  refine zV.icmp_ge (tgt := 36) C dX10_saveSnapshot_15 (by decide) (fun q15 => ?_) (fun q15 => ?_)
  · exact kk
  · exact absurd (by decide) q15
set_option maxHeartbeats 4000000 in
set_option maxRecDepth 100000 in
theorem L_msave {X : zX} {l : Launch} {E : zG} {rm : Room} (hzs : zS E) (hst : l.stackTraces = false) (C : zC X cX10_saveSnapshot RX10 2) (G : zGX X l E rm) {h : zH} {r : Nat}  (hm : zMs h r)  (kk : zV X 0 0 (sRow h (r + 5) (cpF (aI h (r + 1)) (aI h (r + 5)) 116)) 36 [(0, .ref r), (1, .int (nI 116))] []) : ∀ n k, k + n = 116 → zV X 0 0 (sRow h (r + 5) (cpF (aI h (r + 1)) (aI h (r + 5)) k)) 12 [(0, .ref r), (1, .int (nI k))] [] := by
  intro n
  induction n with
  | zero =>
    intro k hk
    obtain rfl : k = 116 := by omega
    exact L_msaveE hzs hst C G kk
  | succ n ih =>
    intro k hk
    refine zV.iload_n C dX10_saveSnapshot_12 rfl ?_
    refine zV.bi (v := nI 116) C dX10_saveSnapshot_13 (by decide) ?_
    refine zV.icmp_ge (tgt := 36) C dX10_saveSnapshot_15 (by decide) (fun q15 => ?_) (fun q15 => ?_)
    · exact absurd (nle (by omega) (by decide) q15) (by omega)
    · refine zV.aload_n C dX10_saveSnapshot_18 rfl rfl ?_
      refine zV.gR 421 (k := 5) C dX10_saveSnapshot_19 zcl_X10 (by decide) rfl lk_X10_22 (hm.1) rfl (hm.2.2.2.2.2.1) ?_
      refine zV.iload_n C dX10_saveSnapshot_22 rfl ?_
      refine zV.aload_n C dX10_saveSnapshot_23 rfl rfl ?_
      refine zV.gR 416 (k := 0) C dX10_saveSnapshot_24 zcl_X10 (by decide) rfl lk_X10_9 (hm.1) rfl (hm.2.1) ?_
      refine zV.iload_n C dX10_saveSnapshot_27 rfl ?_
      refine zV.ialdv (j := k) C dX10_saveSnapshot_28 (hm.2.2.2.2.2.2.2.2.2.1.1) (rfl) (Nat.lt_of_lt_of_eq (show k < 116 by omega) (hm.2.2.2.2.2.2.2.2.2.1.2).symm) (by omega) ((show aI (sRow h (r + 5) (cpF (aI h (r + 1)) (aI h (r + 5)) k)) (r + 1) k = (aI h (r + 1)) k from by rw [aI_sRow_a (by omega)])) ?_
      refine zV.iast (j := k) C dX10_saveSnapshot_29 (hm.2.2.2.2.2.2.2.2.2.2.2.2.2.1.1) (rfl) (Nat.lt_of_lt_of_eq (show k < 116 by omega) (hm.2.2.2.2.2.2.2.2.2.2.2.2.2.1.2).symm) (by omega) ?_
      rw [saI_row2, cpF_s]
      refine zV.iinc (lo' := [(0, _), (1, _)]) C dX10_saveSnapshot_30 rfl (by decide) rfl rfl rfl ?_
      refine zV.goto (tgt := 12) C dX10_saveSnapshot_33 (by decide) ?_
      rw [inc1]
      exact ih (k + 1) (by omega)
set_option maxHeartbeats 4000000 in
set_option maxRecDepth 100000 in
theorem s_msaveZ {X : zX} {l : Launch} {E : zG} {rm : Room} (hzs : zS E) (hst : l.stackTraces = false) (C : zC X cX10_saveSnapshot RX10 2) (G : zGX X l E rm) {h : zH} {r u : Nat} {x : Int32} {Qr : Option Value → zH → Prop} {Qx : String → zH → Prop} (F : zF X (some .int) 0 0 Qr Qx) (hm : zMs h r) (hu : aI h (r + 1) 0 = nI u) (hq : Qr (some (.int (nI u))) h) : zV X 0 0 h 36 [(0, .ref r), (1, .int x)] [] := by
  
  refine zV.aload_n C dX10_saveSnapshot_36 rfl rfl ?_
  refine zV.gR 416 (k := 0) C dX10_saveSnapshot_37 zcl_X10 (by decide) rfl lk_X10_9 (hm.1) rfl (hm.2.1) ?_
  refine zV.ic (v := nI 0) C dX10_saveSnapshot_40 (by decide) ?_
  refine zV.ialdv (j := 0) C dX10_saveSnapshot_41 (hm.2.2.2.2.2.2.2.2.2.1.1) (rfl) (Nat.lt_of_lt_of_eq (show 0 < 116 by omega) (hm.2.2.2.2.2.2.2.2.2.1.2).symm) (by omega) (hu) ?_
  refine zV.iret C F dX10_saveSnapshot_42 rfl ?_
  exact hq
set_option maxHeartbeats 4000000 in
set_option maxRecDepth 100000 in
theorem s_qsaveSnapshot {l : Launch} {E : zG} (hzs : zS E) (hst : l.stackTraces = false) (h : zH) (r m : Nat) (g : zGd) (us : List zGd) (sn : Option zGd) (off rs dt cs : Int32) (t o : List Nat) (q : rSt h r g us sn off rs dt cs t o) (hI_ : rIv m g us sn) : zMet l E yX10_saveSnapshot cX10_saveSnapshot 2 (some .int) ({ frames := 0, cells := 0, slots := 0, locals := 0 } : Room) 0 0 [.ref r] h (msP h r (.inr (.int (nI (gC g).length))) c1 (fun h' => rSt h' r g us (some g) off rs dt cs t o)) (fun _ _ => False) := by
  refine zM_start hzs hst (by decide) (Nat.le_of_ble_eq_true rfl) (fun X C G F I => ?_)
  show zV X 0 0 _ 0 [(0, _)] []
  refine zV.aload_n C dX10_saveSnapshot_0 rfl rfl ?_
  refine zV.ic (v := nI 0) C dX10_saveSnapshot_1 (by decide) ?_
  refine zV.pI 435 (k := 19) C dX10_saveSnapshot_2 zcl_X10 (by decide) rfl lk_X10_39 rfl q.1.1 rfl ⟨rfl, rfl⟩ ?_
  refine zV.aload_n C dX10_saveSnapshot_5 rfl rfl ?_
  refine zV.ic (v := nI 1) C dX10_saveSnapshot_6 (by decide) ?_
  refine zV.pI 422 (k := 6) C dX10_saveSnapshot_7 zcl_X10 (by decide) rfl lk_X10_244 rfl q.1.1 rfl ⟨rfl, rfl⟩ ?_
  refine zV.ic (v := nI 0) C dX10_saveSnapshot_10 (by decide) ?_
  refine zV.istore_n (lo' := [(0, _), (1, _)]) C dX10_saveSnapshot_11 (by decide) rfl rfl rfl ?_
  have hm1 : zMs (sI (sI h 435 r (nI 0)) 422 r (nI 1)) r := q.1
  have z := L_msave (h := sI (sI h 435 r (nI 0)) 422 r (nI 1)) hzs hst C G hm1 (s_msaveZ hzs hst C G F hm1 (by rw [aI_sRow_a (by omega)]; exact rG_0 q.2.1) (sv_m q hI_.1 (rG_0 q.2.1))) 116 0 rfl
  rw [cpF_0, sRow_at rfl] at z
  exact z
set_option maxHeartbeats 4000000 in
set_option maxRecDepth 100000 in
theorem L_mrestE {X : zX} {l : Launch} {E : zG} {rm : Room} (hzs : zS E) (hst : l.stackTraces = false) (C : zC X cX10_restoreSnapshot RX10 2) (G : zGX X l E rm) {h1 : zH} {r : Nat}  (kk : zV X 0 0 h1 44 [(0, .ref r), (1, .int (nI 116))] []) : zV X 0 0 h1 20 [(0, .ref r), (1, .int (nI 116))] [] := by
  
  refine zV.iload_n C dX10_restoreSnapshot_20 rfl ?_
  refine zV.bi (v := nI 116) C dX10_restoreSnapshot_21 (by decide) ?_
  refine zV.icmp_ge (tgt := 44) C dX10_restoreSnapshot_23 (by decide) (fun q23 => ?_) (fun q23 => ?_)
  · exact kk
  · exact absurd (by decide) q23
set_option maxHeartbeats 4000000 in
set_option maxRecDepth 100000 in
theorem L_mrest {X : zX} {l : Launch} {E : zG} {rm : Room} (hzs : zS E) (hst : l.stackTraces = false) (C : zC X cX10_restoreSnapshot RX10 2) (G : zGX X l E rm) {h : zH} {r : Nat}  (hm : zMs h r)  (kk : zV X 0 0 (sRow h (r + 1) (cpF (aI h (r + 5)) (aI h (r + 1)) 116)) 44 [(0, .ref r), (1, .int (nI 116))] []) : ∀ n k, k + n = 116 → zV X 0 0 (sRow h (r + 1) (cpF (aI h (r + 5)) (aI h (r + 1)) k)) 20 [(0, .ref r), (1, .int (nI k))] [] := by
  intro n
  induction n with
  | zero =>
    intro k hk
    obtain rfl : k = 116 := by omega
    exact L_mrestE hzs hst C G kk
  | succ n ih =>
    intro k hk
    refine zV.iload_n C dX10_restoreSnapshot_20 rfl ?_
    refine zV.bi (v := nI 116) C dX10_restoreSnapshot_21 (by decide) ?_
    refine zV.icmp_ge (tgt := 44) C dX10_restoreSnapshot_23 (by decide) (fun q23 => ?_) (fun q23 => ?_)
    · exact absurd (nle (by omega) (by decide) q23) (by omega)
    · refine zV.aload_n C dX10_restoreSnapshot_26 rfl rfl ?_
      refine zV.gR 416 (k := 0) C dX10_restoreSnapshot_27 zcl_X10 (by decide) rfl lk_X10_9 (hm.1) rfl (hm.2.1) ?_
      refine zV.iload_n C dX10_restoreSnapshot_30 rfl ?_
      refine zV.aload_n C dX10_restoreSnapshot_31 rfl rfl ?_
      refine zV.gR 421 (k := 5) C dX10_restoreSnapshot_32 zcl_X10 (by decide) rfl lk_X10_22 (hm.1) rfl (hm.2.2.2.2.2.1) ?_
      refine zV.iload_n C dX10_restoreSnapshot_35 rfl ?_
      refine zV.ialdv (j := k) C dX10_restoreSnapshot_36 (hm.2.2.2.2.2.2.2.2.2.2.2.2.2.1.1) (rfl) (Nat.lt_of_lt_of_eq (show k < 116 by omega) (hm.2.2.2.2.2.2.2.2.2.2.2.2.2.1.2).symm) (by omega) ((show aI (sRow h (r + 1) (cpF (aI h (r + 5)) (aI h (r + 1)) k)) (r + 5) k = (aI h (r + 5)) k from by rw [aI_sRow_a (by omega)])) ?_
      refine zV.iast (j := k) C dX10_restoreSnapshot_37 (hm.2.2.2.2.2.2.2.2.2.1.1) (rfl) (Nat.lt_of_lt_of_eq (show k < 116 by omega) (hm.2.2.2.2.2.2.2.2.2.1.2).symm) (by omega) ?_
      rw [saI_row2, cpF_s]
      refine zV.iinc (lo' := [(0, _), (1, _)]) C dX10_restoreSnapshot_38 rfl (by decide) rfl rfl rfl ?_
      refine zV.goto (tgt := 20) C dX10_restoreSnapshot_41 (by decide) ?_
      rw [inc1]
      exact ih (k + 1) (by omega)
set_option maxHeartbeats 4000000 in
set_option maxRecDepth 100000 in
theorem s_mrestZ {X : zX} {l : Launch} {E : zG} {rm : Room} (hzs : zS E) (hst : l.stackTraces = false) (C : zC X cX10_restoreSnapshot RX10 2) (G : zGX X l E rm) {h : zH} {r u : Nat} {x : Int32} {Qr : Option Value → zH → Prop} {Qx : String → zH → Prop} (F : zF X (some .int) 0 0 Qr Qx) (hm : zMs h r) (hu : aI h (r + 1) 0 = nI u) (hq : Qr (some (.int (nI u))) (sI h 420 r (nI 0))) : zV X 0 0 h 44 [(0, .ref r), (1, .int x)] [] := by
  
  refine zV.aload_n C dX10_restoreSnapshot_44 rfl rfl ?_
  refine zV.ic (v := nI 0) C dX10_restoreSnapshot_45 (by decide) ?_
  refine zV.pI 420 (k := 4) C dX10_restoreSnapshot_46 zcl_X10 (by decide) rfl lk_X10_58 rfl (hm.1) rfl ⟨rfl, rfl⟩ ?_
  refine zV.aload_n C dX10_restoreSnapshot_49 rfl rfl ?_
  refine zV.gR 416 (k := 0) C dX10_restoreSnapshot_50 zcl_X10 (by decide) rfl lk_X10_9 (hm.1) rfl (hm.2.1) ?_
  refine zV.ic (v := nI 0) C dX10_restoreSnapshot_53 (by decide) ?_
  refine zV.ialdv (j := 0) C dX10_restoreSnapshot_54 (hm.2.2.2.2.2.2.2.2.2.1.1) (rfl) (Nat.lt_of_lt_of_eq (show 0 < 116 by omega) (hm.2.2.2.2.2.2.2.2.2.1.2).symm) (by omega) (hu) ?_
  refine zV.iret C F dX10_restoreSnapshot_55 rfl ?_
  exact hq
set_option maxHeartbeats 4000000 in
set_option maxRecDepth 100000 in
theorem s_qrestoreSnapshot {l : Launch} {E : zG} (hzs : zS E) (hst : l.stackTraces = false) (h : zH) (r m : Nat) (g : zGd) (us : List zGd) (sn : Option zGd) (off rs dt cs : Int32) (t o : List Nat) (q : rSt h r g us sn off rs dt cs t o) (hI_ : rIv m g us sn) : zMet l E yX10_restoreSnapshot cX10_restoreSnapshot 2 (some .int) ({ frames := 1, cells := 0, slots := 0, locals := 21 } : Room) 0 0 [.ref r] h (msP h r (rsA sn) c1 (rsM h r g us sn off rs dt cs t o)) (fun _ _ => False) := by
  refine zM_start hzs hst (by decide) (Nat.le_of_ble_eq_true rfl) (fun X C G F I => ?_)
  show zV X 0 0 _ 0 [(0, _)] []
  refine zV.aload_n C dX10_restoreSnapshot_0 rfl rfl ?_
  refine zV.ic (v := nI 0) C dX10_restoreSnapshot_1 (by decide) ?_
  refine zV.pI 435 (k := 19) C dX10_restoreSnapshot_2 zcl_X10 (by decide) rfl lk_X10_39 rfl q.1.1 rfl ⟨rfl, rfl⟩ ?_
  rcases sn with _ | s
  · refine zV.aload_n C dX10_restoreSnapshot_5 rfl rfl ?_
    refine zV.gIv 422 (k := 6) C dX10_restoreSnapshot_6 zcl_X10 (by decide) rfl lk_X10_244 q.1.1 rfl ((show hI (sI h 435 r (nI 0)) 422 r = nI 0 from (hI_sI_f (by decide)).trans q.2.2.2.1.1)) ?_
    refine zV.if_ne (tgt := 18) C dX10_restoreSnapshot_9 (by decide) (fun q9 => ?_) (fun q9 => ?_)
    · exact absurd rfl q9
    · refine zV.aload_n C dX10_restoreSnapshot_12 rfl rfl ?_
      refine zV.ic (v := nI 1) C dX10_restoreSnapshot_13 (by decide) ?_
      refine zV.callV (n := 1) C G dX10_restoreSnapshot_14 (s_mraises hzs hst (sI h 435 r (nI 0)) r q.1 (nI 1)) rfl ⟨cd_X10_raises, lk_X10_54, im_X10_raises, se_X10_X10_raises, in_X10⟩ ⟨⟨by decide, by decide⟩, by decide⟩ rfl rfl rfl q.1.1 ⟨rfl, by decide⟩ (zaf ?_) (zno)
      refine zV.iret C F dX10_restoreSnapshot_17 rfl ?_
      exact msP_x (show rsA none = .inl ISE from rfl) rfl hI_sI rE_2 (by decide) (by decide) (rSt_2 q)
  · refine zV.aload_n C dX10_restoreSnapshot_5 rfl rfl ?_
    refine zV.gIv 422 (k := 6) C dX10_restoreSnapshot_6 zcl_X10 (by decide) rfl lk_X10_244 q.1.1 rfl ((show hI (sI h 435 r (nI 0)) 422 r = nI 1 from (hI_sI_f (by decide)).trans q.2.2.2.1.1)) ?_
    refine zV.if_ne (tgt := 18) C dX10_restoreSnapshot_9 (by decide) (fun q9 => ?_) (fun q9 => ?_)
    · refine zV.ic (v := nI 0) C dX10_restoreSnapshot_18 (by decide) ?_
      refine zV.istore_n (lo' := [(0, _), (1, _)]) C dX10_restoreSnapshot_19 (by decide) rfl rfl rfl ?_
      have hm1 : zMs (sI h 435 r (nI 0)) r := q.1
      have z := L_mrest (h := sI h 435 r (nI 0)) hzs hst C G hm1 (s_mrestZ hzs hst C G F hm1 (u := (gC s).length) (by rw [aI_sRow]; exact (cpF_y (by decide)).trans (rG_0 (q.2.2.2.1.2 s rfl))) (rs_m q (hI_.2.2 s rfl))) 116 0 rfl
      rw [cpF_0, sRow_at rfl] at z
      exact z
    · exact absurd q9 (by decide)
def c12' : String → Nat := fun Ex => if Ex = IAE then 1 else 2
theorem inB_f {x a b : Int32} (h : ¬ inB x a b = true) : x < a ∨ b < x := by
  unfold inB at h
  rcases Int32.lt_or_le x a with z | z
  · exact Or.inl z
  · rcases Int32.lt_or_le b x with y | y
    · exact Or.inr y
    · exact absurd (by rw [decide_eq_true z, decide_eq_true y]; rfl) h
theorem inB_o {x a b : Int32} (h : inB x a b = true) : ¬ (x < a ∨ b < x) := by
  unfold inB at h
  obtain ⟨h1, h2⟩ := Bool.and_eq_true_iff.mp h
  intro z
  rcases z with z | z
  · exact Int32.not_le.mpr z (of_decide_eq_true h1)
  · exact Int32.not_le.mpr z (of_decide_eq_true h2)
theorem ai_m {h : zH} {r N : Nat} {g : zGd} {us : List zGd} {sn : Option zGd} {off rs dt cs : Int32} {t o : List Nat} (q : rSt h r g us sn off rs dt cs t o) (hl : t.length < 60) (h1 : 32 ≤ N) (h2 : N ≤ 126) (eA : aiA t (nI N) = .inr (.int (nI (t.length + 1)))) (eT : aiT t (nI N) = t ++ [N]) : msP h r (aiA t (nI N)) c12' (fun h' => rSt h' r g us sn off rs dt cs (aiT t (nI N)) o) (some (.int (nI (t.length + 1)))) (saI (sI (sI h 435 r (nI 0)) 426 r (nI (t.length + 1))) (r + 7) t.length (nI N)) := by
  rw [saI_row]
  have E : rE h (sRow (sI (sI h 435 r (nI 0)) 426 r (nI (t.length + 1))) (r + 7) (fup (aI (sI (sI h 435 r (nI 0)) 426 r (nI (t.length + 1))) (r + 7)) t.length (nI N))) r [435, 426] [7] := ((rE.i.trans rE.i).trans rE.a).mono (by simp) (by simp)
  obtain ⟨q1, q2, q3, q4, q5, q6, q7⟩ := q
  refine msP_r eA (hI2 (h := h) (r := r) (f := 426) (x := nI 0) (v := nI (t.length + 1)) (by decide)) E (by decide) (by decide) ⟨E.m q1, by rw [E.r (by decide)]; exact q2, rKp_e q3 E (by decide) (by decide), rSv_e q4 E (by decide) (by decide), rNm_e q5 E (by decide), ?_, rOt_e q7 E (by decide) (by decide)⟩
  rw [eT]
  refine ⟨hI_sI.trans (congrArg nI (by rw [List.length_append]; rfl)), by rw [List.length_append]; exact hl, fun i c hc => ?_⟩
  rw [aI_sRow]
  by_cases z : i = t.length
  · subst z
    rw [List.getElem?_append_right (Nat.le_refl _), Nat.sub_self] at hc
    cases hc
    exact ⟨if_pos rfl, h1, h2⟩
  · have hl2 := (List.getElem?_eq_some_iff.mp hc).1
    rw [List.length_append] at hl2
    rw [List.getElem?_append_left (by have : [N].length = 1 := rfl; omega)] at hc
    exact ⟨(if_neg z).trans (q6.2.2 i c hc).1, (q6.2.2 i c hc).2⟩
set_option maxHeartbeats 4000000 in
set_option maxRecDepth 100000 in
theorem s_qappendInput {l : Launch} {E : zG} (hzs : zS E) (hst : l.stackTraces = false) (h : zH) (r m : Nat) (g : zGd) (us : List zGd) (sn : Option zGd) (off rs dt cs : Int32) (t o : List Nat) (q : rSt h r g us sn off rs dt cs t o) (hI_ : rIv m g us sn) (x : Int32) : zMet l E yX10_appendInput cX10_appendInput 2 (some .int) ({ frames := 1, cells := 0, slots := 0, locals := 22 } : Room) 0 0 [.ref r, .int x] h (msP h r (aiA t x) c12' (fun h' => rSt h' r g us sn off rs dt cs (aiT t x) o)) (fun _ _ => False) := by
  refine zM_start hzs hst (by decide) (Nat.le_of_ble_eq_true rfl) (fun X C G F I => ?_)
  show zV X 0 0 _ 0 [(0, _), (1, _)] []
  have h60 := q.2.2.2.2.2.1.2.1
  refine zV.aload_n C dX10_appendInput_0 rfl rfl ?_
  refine zV.ic (v := nI 0) C dX10_appendInput_1 (by decide) ?_
  refine zV.pI 435 (k := 19) C dX10_appendInput_2 zcl_X10 (by decide) rfl lk_X10_39 rfl q.1.1 rfl ⟨rfl, rfl⟩ ?_
  refine zV.iload_n C dX10_appendInput_5 rfl ?_
  refine zV.bi (v := nI 32) C dX10_appendInput_6 (by decide) ?_
  refine zV.bi (v := nI 126) C dX10_appendInput_8 (by decide) ?_
  refine zV.callS (n := 3) C G dX10_appendInput_10 (s_min hzs hst (sI h 435 r (nI 0)) x (nI 32) (nI 126)) rfl ⟨cd_X10_in, lk_X10_61, st_X10_in, in_X10⟩ ⟨⟨by decide, by decide⟩, by decide⟩ rfl rfl rfl (zaf ?_) (zno)
  refine zV.if_ne (tgt := 22) C dX10_appendInput_13 (by decide) (fun q13 => ?_) (fun q13 => ?_)
  · have e3 : inB x (nI 32) (nI 126) = true := Bool.of_not_eq_false (fun z => q13 (b2n.mpr z))
    have eo := inB_o e3
    obtain ⟨N, rfl, hN1, hN2⟩ := inB_n (by decide) (by decide) e3
    refine zV.aload_n C dX10_appendInput_22 rfl rfl ?_
    refine zV.gIv 426 (k := 10) C dX10_appendInput_23 zcl_X10 (by decide) rfl lk_X10_213 q.1.1 rfl ((show hI (sI h 435 r (nI 0)) 426 r = nI t.length from (hI_sI_f (by decide)).trans q.2.2.2.2.2.1.1)) ?_
    refine zV.bi (v := nI 60) C dX10_appendInput_26 (by decide) ?_
    refine zV.icmp_ne (tgt := 37) C dX10_appendInput_28 (by decide) (fun q28 => ?_) (fun q28 => ?_)
    · have hl : t.length < 60 := by have := q.2.2.2.2.2.1.2.1; have : t.length ≠ 60 := fun z => q28 (by rw [z]); omega
      refine zV.aload_n C dX10_appendInput_37 rfl rfl ?_
      refine zV.gR 425 (k := 9) C dX10_appendInput_38 zcl_X10 (by decide) rfl lk_X10_29 (q.1.1) rfl (q.1.2.2.2.2.2.2.2.1) ?_
      refine zV.aload_n C dX10_appendInput_41 rfl rfl ?_
      refine zV.dup C dX10_appendInput_42 rfl ?_
      refine zV.gIv 426 (k := 10) C dX10_appendInput_43 zcl_X10 (by decide) rfl lk_X10_213 q.1.1 rfl ((show hI (sI h 435 r (nI 0)) 426 r = nI t.length from (hI_sI_f (by decide)).trans q.2.2.2.2.2.1.1)) ?_
      refine zV.dup_x1 C dX10_appendInput_46 rfl rfl ?_
      refine zV.ic (v := nI 1) C dX10_appendInput_47 (by decide) ?_
      refine zV.iadd C dX10_appendInput_48 ?_
      rw [nI_add]
      refine zV.pI 426 (k := 10) C dX10_appendInput_49 zcl_X10 (by decide) rfl lk_X10_213 rfl q.1.1 rfl ⟨rfl, rfl⟩ ?_
      refine zV.iload_n C dX10_appendInput_52 rfl ?_
      refine zV.cast (j := t.length) C dX10_appendInput_53 (q.1.2.2.2.2.2.2.2.2.2.2.2.2.2.2.2.1.1) (rfl) (Nat.lt_of_lt_of_eq (show t.length < 60 by omega) (q.1.2.2.2.2.2.2.2.2.2.2.2.2.2.2.2.1.2).symm) (by omega) (nar_c N (by omega)).2 ?_
      refine zV.aload_n C dX10_appendInput_54 rfl rfl ?_
      refine zV.gIv 426 (k := 10) C dX10_appendInput_55 zcl_X10 (by decide) rfl lk_X10_213 q.1.1 rfl ((show hI (saI (sI (sI h 435 r (nI 0)) 426 r (nI (t.length + 1))) (r + 7) t.length (nI N)) 426 r = nI (t.length + 1) from hI_sI)) ?_
      refine zV.iret C F dX10_appendInput_58 rfl ?_
      exact ai_m q hl hN1 hN2 ((if_neg eo).trans (if_pos hl)) ((if_neg eo).trans ((if_pos hl).trans (by rw [nI_cl (by omega)])))
    · have hl : ¬ t.length < 60 := by have := neq (by omega) (by decide) q28; omega
      refine zV.aload_n C dX10_appendInput_31 rfl rfl ?_
      refine zV.ic (v := nI 2) C dX10_appendInput_32 (by decide) ?_
      refine zV.callV (n := 1) C G dX10_appendInput_33 (s_mraises hzs hst (sI h 435 r (nI 0)) r q.1 (nI 2)) rfl ⟨cd_X10_raises, lk_X10_54, im_X10_raises, se_X10_X10_raises, in_X10⟩ ⟨⟨by decide, by decide⟩, by decide⟩ rfl rfl rfl q.1.1 ⟨rfl, by decide⟩ (zaf ?_) (zno)
      refine zV.iret C F dX10_appendInput_36 rfl ?_
      exact msP_x (show aiA t (nI N) = .inl ISE from (if_neg eo).trans (if_neg hl)) (show c12' ISE = 2 from by unfold c12'; rw [if_neg (by decide)]) hI_sI rE_2 (by decide) (by decide) (by rw [show aiT t (nI N) = t from (if_neg eo).trans (if_neg hl)]; exact rSt_2 q)
  · have e3 := inB_f (fun z => by rw [b2n.mp q13] at z; cases z)
    refine zV.aload_n C dX10_appendInput_16 rfl rfl ?_
    refine zV.ic (v := nI 1) C dX10_appendInput_17 (by decide) ?_
    refine zV.callV (n := 1) C G dX10_appendInput_18 (s_mraises hzs hst (sI h 435 r (nI 0)) r q.1 (nI 1)) rfl ⟨cd_X10_raises, lk_X10_54, im_X10_raises, se_X10_X10_raises, in_X10⟩ ⟨⟨by decide, by decide⟩, by decide⟩ rfl rfl rfl q.1.1 ⟨rfl, by decide⟩ (zaf ?_) (zno)
    refine zV.iret C F dX10_appendInput_21 rfl ?_
    exact msP_x (show aiA t x = .inl IAE from if_pos e3) rfl hI_sI rE_2 (by decide) (by decide) (by rw [show aiT t x = t from if_pos e3]; exact rSt_2 q)
theorem ouB {o : List Nat} {x : Int32} (ho : o.length ≤ 60) : (inB x (nI 0) (nI o.length - nI 1) = true ∧ ∃ i c, x = nI i ∧ o[i]? = some c ∧ ouA o x = .inr (.int (nI c))) ∨ (inB x (nI 0) (nI o.length - nI 1) = false ∧ ouA o x = .inl IOB) := by
  rcases inB_len (y := x) (n := o.length) (by omega) with ⟨e, q, hq, rfl⟩ | ⟨e, hn⟩
  · exact Or.inl ⟨e, ou_i (by omega) (nI_pos (by omega)) (nI_lt hq (by omega))⟩
  · refine Or.inr ⟨e, ou_n (by omega) ?_⟩
    by_cases z : x < 0
    · exact Or.inl z
    · refine Or.inr (fun y => ?_)
      obtain ⟨i, c, rfl, hc, -⟩ := ou_i (by omega) z y
      exact hn i (List.getElem?_eq_some_iff.mp hc).1 rfl
set_option maxHeartbeats 4000000 in
set_option maxRecDepth 100000 in
theorem s_qoutputAt {l : Launch} {E : zG} (hzs : zS E) (hst : l.stackTraces = false) (h : zH) (r : Nat) (hm : zMs h r) (o : List Nat) (ho : rOt h r o) (x : Int32) : zMet l E yX10_outputAt cX10_outputAt 2 (some .char) ({ frames := 1, cells := 0, slots := 0, locals := 22 } : Room) 0 0 [.ref r, .int x] h (mqQ h r (ouA o x) c1 (.int (nI 97))) (fun _ _ => False) := by
  refine zM_start hzs hst (by decide) (Nat.le_of_ble_eq_true rfl) (fun X C G F I => ?_)
  show zV X 0 0 _ 0 [(0, _), (1, _)] []
  refine zV.aload_n C dX10_outputAt_0 rfl rfl ?_
  refine zV.iload_n C dX10_outputAt_1 rfl ?_
  refine zV.ic (v := nI 0) C dX10_outputAt_2 (by decide) ?_
  refine zV.aload_n C dX10_outputAt_3 rfl rfl ?_
  refine zV.gIv 424 (k := 8) C dX10_outputAt_4 zcl_X10 (by decide) rfl lk_X10_203 hm.1 rfl (ho.1) ?_
  refine zV.ic (v := nI 1) C dX10_outputAt_7 (by decide) ?_
  refine zV.isub C dX10_outputAt_8 ?_
  rcases ouB (x := x) ho.2.1 with ⟨eB, i, c, rfl, hc, eA⟩ | ⟨eB, eA⟩
  · have hi60 : i < 60 := by have := (List.getElem?_eq_some_iff.mp hc).1; have := ho.2.1; omega
    refine zV.callS (n := 3) C G dX10_outputAt_9 (s_min hzs hst h (nI i) (nI 0) (nI o.length - nI 1)) rfl ⟨cd_X10_in, lk_X10_61, st_X10_in, in_X10⟩ ⟨⟨by decide, by decide⟩, by decide⟩ rfl rfl rfl (zaf ?_) (zno)
    rw [eB]
    refine zV.if_eq (tgt := 19) C dX10_outputAt_12 (by decide) (fun q12 => ?_) (fun q12 => ?_)
    · exact absurd q12 (by decide)
    · refine zV.ic (v := nI 0) C dX10_outputAt_15 (by decide) ?_
      refine zV.goto (tgt := 20) C dX10_outputAt_16 (by decide) ?_
      refine zV.pI 435 (k := 19) C dX10_outputAt_20 zcl_X10 (by decide) rfl lk_X10_39 rfl hm.1 rfl ⟨rfl, rfl⟩ ?_
      refine zV.aload_n C dX10_outputAt_23 rfl rfl ?_
      refine zV.gIv 435 (k := 19) C dX10_outputAt_24 zcl_X10 (by decide) rfl lk_X10_39 hm.1 rfl (hI_sI) ?_
      refine zV.if_ne (tgt := 39) C dX10_outputAt_27 (by decide) (fun q27 => ?_) (fun q27 => ?_)
      · exact absurd rfl q27
      · refine zV.aload_n C dX10_outputAt_30 rfl rfl ?_
        refine zV.gR 423 (k := 7) C dX10_outputAt_31 zcl_X10 (by decide) rfl lk_X10_25 (hm.1) rfl (hm.2.2.2.2.2.2.1) ?_
        refine zV.iload_n C dX10_outputAt_34 rfl ?_
        refine zV.caldv (j := i) C dX10_outputAt_35 (hm.2.2.2.2.2.2.2.2.2.2.2.2.2.2.1.1) (rfl) (Nat.lt_of_lt_of_eq hi60 (hm.2.2.2.2.2.2.2.2.2.2.2.2.2.2.1.2).symm) (by omega) ((ho.2.2 i c hc).1) ?_
        refine zV.goto (tgt := 41) C dX10_outputAt_36 (by decide) ?_
        refine zV.zret C F dX10_outputAt_41 (nar_c c (ho.2.2 i c hc).2).1 rfl ?_
        exact mq_r eA
  · refine zV.callS (n := 3) C G dX10_outputAt_9 (s_min hzs hst h x (nI 0) (nI o.length - nI 1)) rfl ⟨cd_X10_in, lk_X10_61, st_X10_in, in_X10⟩ ⟨⟨by decide, by decide⟩, by decide⟩ rfl rfl rfl (zaf ?_) (zno)
    rw [eB]
    refine zV.if_eq (tgt := 19) C dX10_outputAt_12 (by decide) (fun q12 => ?_) (fun q12 => ?_)
    · refine zV.ic (v := nI 1) C dX10_outputAt_19 (by decide) ?_
      refine zV.pI 435 (k := 19) C dX10_outputAt_20 zcl_X10 (by decide) rfl lk_X10_39 rfl hm.1 rfl ⟨rfl, rfl⟩ ?_
      refine zV.aload_n C dX10_outputAt_23 rfl rfl ?_
      refine zV.gIv 435 (k := 19) C dX10_outputAt_24 zcl_X10 (by decide) rfl lk_X10_39 hm.1 rfl (hI_sI) ?_
      refine zV.if_ne (tgt := 39) C dX10_outputAt_27 (by decide) (fun q27 => ?_) (fun q27 => ?_)
      · refine zV.bi (v := nI 97) C dX10_outputAt_39 (by decide) ?_
        refine zV.zret C F dX10_outputAt_41 rfl rfl ?_
        exact mq_x eA rfl
      · exact absurd q27 (by decide)
    · exact absurd rfl q12
