/-! the reference: chairByRust, elderOf -/
set_option maxHeartbeats 4000000 in
set_option maxRecDepth 100000 in
theorem s_qisRustier {l : Launch} {E : zG} (hzs : zS E) (hst : l.stackTraces = false) (h : zH) (r : Nat) (g : zGd) (cs : List zCh) (H : Nat → List Nat) (hm : zMs h r) (hf : rF (aI h (r + 1)) g cs H) (hw : rW g cs H) (hD : gD g ≤ 1000000000) (hsrt : (cs.map chI).Pairwise (· < ·)) (i j : Nat) (c d : zCh) (hc : cs[i]? = some c) (hd : cs[j]? = some d) : zMet l E yX10_isRustier cX10_isRustier 4 (some .boolean) ({ frames := 1, cells := 0, slots := 0, locals := 22 } : Room) 0 0 [.ref r, .int (nI i), .int (nI j)] h (fun v h' => v = some (.int (nI (b2 (chA c d)))) ∧ h' = h) (fun _ _ => False) := by
  refine zM_start hzs hst (by decide) (Nat.le_of_ble_eq_true rfl) (fun X C G F I => ?_)
  show zV X 0 0 _ 0 [(0, _), (1, _), (2, _)] []
  obtain ⟨a1, a2, a3, a4, a5⟩ := hf.1.2 i c hc
  obtain ⟨e1, e2, e3, e4, e5⟩ := hf.1.2 j d hd
  have hi := (List.getElem?_eq_some_iff.mp hc).1
  have hj := (List.getElem?_eq_some_iff.mp hd).1
  have hl := hw.1
  obtain ⟨u1, u2, u3, u4⟩ := hw.2.1 c (List.mem_of_getElem? hc)
  obtain ⟨w1, w2, w3, w4⟩ := hw.2.1 d (List.mem_of_getElem? hd)
  have ix := srt_ix hsrt hc hd
  have hb9 : (big : Nat) = 1000000000 := rfl
  refine zV.aload_n C dX10_isRustier_0 rfl rfl ?_
  refine zV.iload_n C dX10_isRustier_1 rfl ?_
  refine zV.ic (v := nI 2) C dX10_isRustier_2 (by decide) ?_
  refine zV.callV (n := 2) C G dX10_isRustier_3 (s_mof hzs hst h r hm i 2 (by omega) (by decide)) rfl ⟨cd_X10_of, lk_X10_65, im_X10_of, se_X10_X10_of, in_X10⟩ ⟨⟨by decide, by decide⟩, by decide⟩ rfl rfl rfl (hm.1) ⟨rfl, by decide⟩ (zaf ?_) (zno)
  rw [a3]
  refine zV.aload_n C dX10_isRustier_6 rfl rfl ?_
  refine zV.iload_n C dX10_isRustier_7 rfl ?_
  refine zV.ic (v := nI 2) C dX10_isRustier_8 (by decide) ?_
  refine zV.callV (n := 2) C G dX10_isRustier_9 (s_mof hzs hst h r hm j 2 (by omega) (by decide)) rfl ⟨cd_X10_of, lk_X10_65, im_X10_of, se_X10_X10_of, in_X10⟩ ⟨⟨by decide, by decide⟩, by decide⟩ rfl rfl rfl (hm.1) ⟨rfl, by decide⟩ (zaf ?_) (zno)
  rw [e3]
  refine zV.isub C dX10_isRustier_12 ?_
  refine zV.istore_n (lo' := [(0, _), (1, _), (2, _), (3, _)]) C dX10_isRustier_13 (by decide) rfl rfl rfl ?_
  refine zV.iload_n C dX10_isRustier_14 rfl ?_
  refine zV.if_ne (tgt := 32) C dX10_isRustier_15 (by decide) (fun q15 => ?_) (fun q15 => ?_)
  · have r15 := mt (sub_eq0 (by omega) (by omega)).mpr q15
    refine zV.iload_n C dX10_isRustier_32 rfl ?_
    refine zV.if_gt (tgt := 45) C dX10_isRustier_33 (by decide) (fun q33 => ?_) (fun q33 => ?_)
    · first
        | have r33 := (sub_gt0 (a := chD d) (b := chD c) (by omega) (by omega)).mp q33
        | have r33 := (sub_gt0 (a := chR c) (b := chR d) (by omega) (by omega)).mp q33
      refine zV.ic (v := nI 1) C dX10_isRustier_45 (by decide) ?_
      refine zV.goto (tgt := 50) C dX10_isRustier_46 (by decide) ?_
      refine zV.zret C F dX10_isRustier_50 rfl rfl ?_
      refine ⟨?_, rfl⟩
      unfold chA
      first
        | exact retb (by simp; omega)
        | exact retnb (by simp; omega)
    · first
        | have r33 := mt (sub_gt0 (a := chD d) (b := chD c) (by omega) (by omega)).mpr q33
        | have r33 := mt (sub_gt0 (a := chR c) (b := chR d) (by omega) (by omega)).mpr q33
      refine zV.iload_n C dX10_isRustier_36 rfl ?_
      refine zV.if_ne (tgt := 49) C dX10_isRustier_37 (by decide) (fun q37 => ?_) (fun q37 => ?_)
      · first
          | have r37 := mt (sub_eq0 (a := chD d) (b := chD c) (by omega) (by omega)).mpr q37
          | have r37 := mt (sub_eq0 (a := chR c) (b := chR d) (by omega) (by omega)).mpr q37
        refine zV.ic (v := nI 0) C dX10_isRustier_49 (by decide) ?_
        refine zV.zret C F dX10_isRustier_50 rfl rfl ?_
        refine ⟨?_, rfl⟩
        unfold chA
        first
          | exact retb (by simp; omega)
          | exact retnb (by simp; omega)
      · first
          | have r37 := (sub_eq0 (a := chD d) (b := chD c) (by omega) (by omega)).mp q37
          | have r37 := (sub_eq0 (a := chR c) (b := chR d) (by omega) (by omega)).mp q37
        refine zV.iload_n C dX10_isRustier_40 rfl ?_
        refine zV.iload_n C dX10_isRustier_41 rfl ?_
        refine zV.icmp_ge (tgt := 49) C dX10_isRustier_42 (by decide) (fun q42 => ?_) (fun q42 => ?_)
        · have r42 : ¬ i < j := fun z => by have := nle (by omega) (by omega) q42; omega
          refine zV.ic (v := nI 0) C dX10_isRustier_49 (by decide) ?_
          refine zV.zret C F dX10_isRustier_50 rfl rfl ?_
          refine ⟨?_, rfl⟩
          unfold chA
          first
            | exact retb (by simp; omega)
            | exact retnb (by simp; omega)
        · have r42 : i < j := nlt (by omega) (by omega) q42
          refine zV.ic (v := nI 1) C dX10_isRustier_45 (by decide) ?_
          refine zV.goto (tgt := 50) C dX10_isRustier_46 (by decide) ?_
          refine zV.zret C F dX10_isRustier_50 rfl rfl ?_
          refine ⟨?_, rfl⟩
          unfold chA
          first
            | exact retb (by simp; omega)
            | exact retnb (by simp; omega)
  · have r15 := (sub_eq0 (by omega) (by omega)).mp q15
    refine zV.aload_n C dX10_isRustier_18 rfl rfl ?_
    refine zV.iload_n C dX10_isRustier_19 rfl ?_
    refine zV.ic (v := nI 4) C dX10_isRustier_20 (by decide) ?_
    refine zV.callV (n := 2) C G dX10_isRustier_21 (s_mof hzs hst h r hm j 4 (by omega) (by decide)) rfl ⟨cd_X10_of, lk_X10_65, im_X10_of, se_X10_X10_of, in_X10⟩ ⟨⟨by decide, by decide⟩, by decide⟩ rfl rfl rfl (hm.1) ⟨rfl, by decide⟩ (zaf ?_) (zno)
    rw [e5]
    refine zV.aload_n C dX10_isRustier_24 rfl rfl ?_
    refine zV.iload_n C dX10_isRustier_25 rfl ?_
    refine zV.ic (v := nI 4) C dX10_isRustier_26 (by decide) ?_
    refine zV.callV (n := 2) C G dX10_isRustier_27 (s_mof hzs hst h r hm i 4 (by omega) (by decide)) rfl ⟨cd_X10_of, lk_X10_65, im_X10_of, se_X10_X10_of, in_X10⟩ ⟨⟨by decide, by decide⟩, by decide⟩ rfl rfl rfl (hm.1) ⟨rfl, by decide⟩ (zaf ?_) (zno)
    rw [a5]
    refine zV.isub C dX10_isRustier_30 ?_
    refine zV.istore_n (lo' := [(0, _), (1, _), (2, _), (3, _)]) C dX10_isRustier_31 (by decide) rfl rfl rfl ?_
    refine zV.iload_n C dX10_isRustier_32 rfl ?_
    refine zV.if_gt (tgt := 45) C dX10_isRustier_33 (by decide) (fun q33 => ?_) (fun q33 => ?_)
    · first
        | have r33 := (sub_gt0 (a := chD d) (b := chD c) (by omega) (by omega)).mp q33
        | have r33 := (sub_gt0 (a := chR c) (b := chR d) (by omega) (by omega)).mp q33
      refine zV.ic (v := nI 1) C dX10_isRustier_45 (by decide) ?_
      refine zV.goto (tgt := 50) C dX10_isRustier_46 (by decide) ?_
      refine zV.zret C F dX10_isRustier_50 rfl rfl ?_
      refine ⟨?_, rfl⟩
      unfold chA
      first
        | exact retb (by simp; omega)
        | exact retnb (by simp; omega)
    · first
        | have r33 := mt (sub_gt0 (a := chD d) (b := chD c) (by omega) (by omega)).mpr q33
        | have r33 := mt (sub_gt0 (a := chR c) (b := chR d) (by omega) (by omega)).mpr q33
      refine zV.iload_n C dX10_isRustier_36 rfl ?_
      refine zV.if_ne (tgt := 49) C dX10_isRustier_37 (by decide) (fun q37 => ?_) (fun q37 => ?_)
      · first
          | have r37 := mt (sub_eq0 (a := chD d) (b := chD c) (by omega) (by omega)).mpr q37
          | have r37 := mt (sub_eq0 (a := chR c) (b := chR d) (by omega) (by omega)).mpr q37
        refine zV.ic (v := nI 0) C dX10_isRustier_49 (by decide) ?_
        refine zV.zret C F dX10_isRustier_50 rfl rfl ?_
        refine ⟨?_, rfl⟩
        unfold chA
        first
          | exact retb (by simp; omega)
          | exact retnb (by simp; omega)
      · first
          | have r37 := (sub_eq0 (a := chD d) (b := chD c) (by omega) (by omega)).mp q37
          | have r37 := (sub_eq0 (a := chR c) (b := chR d) (by omega) (by omega)).mp q37
        refine zV.iload_n C dX10_isRustier_40 rfl ?_
        refine zV.iload_n C dX10_isRustier_41 rfl ?_
        refine zV.icmp_ge (tgt := 49) C dX10_isRustier_42 (by decide) (fun q42 => ?_) (fun q42 => ?_)
        · have r42 : ¬ i < j := fun z => by have := nle (by omega) (by omega) q42; omega
          refine zV.ic (v := nI 0) C dX10_isRustier_49 (by decide) ?_
          refine zV.zret C F dX10_isRustier_50 rfl rfl ?_
          refine ⟨?_, rfl⟩
          unfold chA
          first
            | exact retb (by simp; omega)
            | exact retnb (by simp; omega)
        · have r42 : i < j := nlt (by omega) (by omega) q42
          refine zV.ic (v := nI 1) C dX10_isRustier_45 (by decide) ?_
          refine zV.goto (tgt := 50) C dX10_isRustier_46 (by decide) ?_
          refine zV.zret C F dX10_isRustier_50 rfl rfl ?_
          refine ⟨?_, rfl⟩
          unfold chA
          first
            | exact retb (by simp; omega)
            | exact retnb (by simp; omega)
set_option maxHeartbeats 4000000 in
set_option maxRecDepth 100000 in
theorem s_qcbrE {X : zX} {l : Launch} {E : zG} {rm : Room} (hzs : zS E) (hst : l.stackTraces = false) (C : zC X cX10_chairByRust RX10 5) (G : zGX X l E rm) {h1 : zH} {r n : Nat} {x1 x2 x3 : Int32} (hm : zMs h1 r) (hv : aI h1 (r + 1) 0 = nI n) (hn : n < 100) (kk : zV X 0 0 h1 58 [(0, .ref r), (1, .int x1), (2, .int x2), (3, .int x3), (4, .int (nI n))] []) : zV X 0 0 h1 22 [(0, .ref r), (1, .int x1), (2, .int x2), (3, .int x3), (4, .int (nI n))] [] := by
  
  refine zV.iload C dX10_chairByRust_22 rfl ?_
  refine zV.aload_n C dX10_chairByRust_24 rfl rfl ?_
  refine zV.gR 416 (k := 0) C dX10_chairByRust_25 zcl_X10 (by decide) rfl lk_X10_9 (hm.1) rfl (hm.2.1) ?_
  refine zV.ic (v := nI 0) C dX10_chairByRust_28 (by decide) ?_
  refine zV.ialdv (j := 0) C dX10_chairByRust_29 (hm.2.2.2.2.2.2.2.2.2.1.1) (rfl) (Nat.lt_of_lt_of_eq (show 0 < 116 by decide) (hm.2.2.2.2.2.2.2.2.2.1.2).symm) (by omega) (hv) ?_
  refine zV.icmp_ge (tgt := 58) C dX10_chairByRust_30 (by decide) (fun q30 => ?_) (fun q30 => ?_)
  · exact kk
  · exact absurd (nI_le (Nat.le_refl n) (by omega)) q30
set_option maxHeartbeats 4000000 in
set_option maxRecDepth 100000 in
theorem L_qcbrI {X : zX} {l : Launch} {E : zG} {rm : Room} (hzs : zS E) (hst : l.stackTraces = false) (C : zC X cX10_chairByRust RX10 5) (G : zGX X l E rm) {x : Int32} {k9 : Nat} {c : zCh} (hr : rm = ({ frames := 2, cells := 0, slots := 0, locals := 45 } : Room)) {h : zH} {r : Nat} {g : zGd} {cs : List zCh} {H : Nat → List Nat} (hm : zMs h r) (hf : rF (aI h (r + 1)) g cs H) (hw : rW g cs H) (hD : gD g ≤ 1000000000) (hsrt : (cs.map chI).Pairwise (· < ·)) (hc : cs[k9]? = some c) {B : Nat} (kk : zV X 0 0 h 58 [(0, .ref r), (1, .int x), (2, .int (nI k9)), (3, .int (nI B)), (4, .int (nI cs.length))] []) : ∀ n q p, q + n = cs.length → p + (cs.drop q).countP (fun d => chA d c) = B → zV X 0 0 h 22 [(0, .ref r), (1, .int x), (2, .int (nI k9)), (3, .int (nI p)), (4, .int (nI q))] [] := by
  subst hr
  have hl := hw.1
  have hk9 := (List.getElem?_eq_some_iff.mp hc).1
  intro n
  induction n with
  | zero =>
    intro q p hq e
    obtain rfl : q = cs.length := by omega
    rw [List.drop_length] at e
    obtain rfl : p = B := e
    exact s_qcbrE hzs hst C G hm hf.1.1 (by omega) kk
  | succ n ih =>
    intro q p hq e
    obtain ⟨d, hd, hdd⟩ := drop_cons (show q < cs.length by omega)
    rw [hdd, List.countP_cons] at e
    refine zV.iload C dX10_chairByRust_22 rfl ?_
    refine zV.aload_n C dX10_chairByRust_24 rfl rfl ?_
    refine zV.gR 416 (k := 0) C dX10_chairByRust_25 zcl_X10 (by decide) rfl lk_X10_9 (hm.1) rfl (hm.2.1) ?_
    refine zV.ic (v := nI 0) C dX10_chairByRust_28 (by decide) ?_
    refine zV.ialdv (j := 0) C dX10_chairByRust_29 (hm.2.2.2.2.2.2.2.2.2.1.1) (rfl) (Nat.lt_of_lt_of_eq (show 0 < 116 by decide) (hm.2.2.2.2.2.2.2.2.2.1.2).symm) (by omega) (hf.1.1) ?_
    refine zV.icmp_ge (tgt := 58) C dX10_chairByRust_30 (by decide) (fun q30 => ?_) (fun q30 => ?_)
    · exact absurd (nle (by omega) (by omega) q30) (by omega)
    · refine zV.iload C dX10_chairByRust_33 rfl ?_
      refine zV.iload_n C dX10_chairByRust_35 rfl ?_
      refine zV.icmp_eq (tgt := 52) C dX10_chairByRust_36 (by decide) (fun q36 => ?_) (fun q36 => ?_)
      · have ek : q = k9 := neq (by omega) (by omega) q36
        refine zV.iinc (lo' := [(0, _), (1, _), (2, _), (3, _), (4, _)]) C dX10_chairByRust_52 rfl (by decide) rfl rfl rfl ?_
        refine zV.goto (tgt := 22) C dX10_chairByRust_55 (by decide) ?_
        simp only [inc1]
        first
          | (have ed : d = c := by rw [ek, hc] at hd; exact (Option.some.inj hd).symm
             rw [ed, if_neg (by rw [chA_i]; decide), Nat.add_zero] at e; exact ih (q + 1) p (by omega) e)
          | (rw [if_neg (by rw [eb]; decide), Nat.add_zero] at e; exact ih (q + 1) p (by omega) e)
          | (rw [if_pos eb] at e; exact ih (q + 1) (p + 1) (by omega) (by omega))
      · have ek : q ≠ k9 := fun z => q36 (by rw [z])
        refine zV.aload_n C dX10_chairByRust_39 rfl rfl ?_
        refine zV.iload C dX10_chairByRust_40 rfl ?_
        refine zV.iload_n C dX10_chairByRust_42 rfl ?_
        refine zV.callV (n := 2) C G dX10_chairByRust_43 (s_qisRustier hzs hst h r g cs H hm hf hw hD hsrt q k9 d c hd hc) rfl ⟨cd_X10_isRustier, lk_X10_200, im_X10_isRustier, se_X10_X10_isRustier, in_X10⟩ ⟨⟨by decide, by decide⟩, by decide⟩ rfl rfl rfl (hm.1) ⟨rfl, by decide⟩ (zaf ?_) (zno)
        refine zV.if_eq (tgt := 52) C dX10_chairByRust_46 (by decide) (fun q46 => ?_) (fun q46 => ?_)
        · have eb : chA d c = false := b2n.mp q46
          refine zV.iinc (lo' := [(0, _), (1, _), (2, _), (3, _), (4, _)]) C dX10_chairByRust_52 rfl (by decide) rfl rfl rfl ?_
          refine zV.goto (tgt := 22) C dX10_chairByRust_55 (by decide) ?_
          simp only [inc1]
          first
            | (have ed : d = c := by rw [ek, hc] at hd; exact (Option.some.inj hd).symm
               rw [ed, if_neg (by rw [chA_i]; decide), Nat.add_zero] at e; exact ih (q + 1) p (by omega) e)
            | (rw [if_neg (by rw [eb]; decide), Nat.add_zero] at e; exact ih (q + 1) p (by omega) e)
            | (rw [if_pos eb] at e; exact ih (q + 1) (p + 1) (by omega) (by omega))
        · have eb : chA d c = true := Bool.of_not_eq_false (fun z => q46 (b2n.mpr z))
          refine zV.iinc (lo' := [(0, _), (1, _), (2, _), (3, _), (4, _)]) C dX10_chairByRust_49 rfl (by decide) rfl rfl rfl ?_
          refine zV.iinc (lo' := [(0, _), (1, _), (2, _), (3, _), (4, _)]) C dX10_chairByRust_52 rfl (by decide) rfl rfl rfl ?_
          refine zV.goto (tgt := 22) C dX10_chairByRust_55 (by decide) ?_
          simp only [inc1]
          first
            | (have ed : d = c := by rw [ek, hc] at hd; exact (Option.some.inj hd).symm
               rw [ed, if_neg (by rw [chA_i]; decide), Nat.add_zero] at e; exact ih (q + 1) p (by omega) e)
            | (rw [if_neg (by rw [eb]; decide), Nat.add_zero] at e; exact ih (q + 1) p (by omega) e)
            | (rw [if_pos eb] at e; exact ih (q + 1) (p + 1) (by omega) (by omega))
set_option maxHeartbeats 4000000 in
set_option maxRecDepth 100000 in
theorem s_qcbrX {X : zX} {l : Launch} {E : zG} {rm : Room} (hzs : zS E) (hst : l.stackTraces = false) (C : zC X cX10_chairByRust RX10 5) (G : zGX X l E rm) {h : zH} {r n : Nat} {A : zAn} {x1 : Int32} {Qx : String → zH → Prop} (hr : rm = ({ frames := 2, cells := 0, slots := 0, locals := 45 } : Room)) (F : zF X (some .int) 0 0 (mqQ h r A c1 (.int (nI 0))) Qx) (hm : zMs h r) (hv : aI (sI h 435 r (nI 0)) (r + 1) 0 = nI n) (hn : n < 100) (eA : A = .inl NSE) : zV X 0 0 (sI h 435 r (nI 0)) 7 [(0, .ref r), (1, .int x1), (2, .int (nI n))] [] := by
  subst hr
  refine zV.iload_n C dX10_chairByRust_7 rfl ?_
  refine zV.aload_n C dX10_chairByRust_8 rfl rfl ?_
  refine zV.gR 416 (k := 0) C dX10_chairByRust_9 zcl_X10 (by decide) rfl lk_X10_9 (hm.1) rfl (hm.2.1) ?_
  refine zV.ic (v := nI 0) C dX10_chairByRust_12 (by decide) ?_
  refine zV.ialdv (j := 0) C dX10_chairByRust_13 (hm.2.2.2.2.2.2.2.2.2.1.1) (rfl) (Nat.lt_of_lt_of_eq (show 0 < 116 by decide) (hm.2.2.2.2.2.2.2.2.2.1.2).symm) (by omega) (hv) ?_
  refine zV.icmp_ge (tgt := 76) C dX10_chairByRust_14 (by decide) (fun q14 => ?_) (fun q14 => ?_)
  · refine zV.aload_n C dX10_chairByRust_76 rfl rfl ?_
    refine zV.ic (v := nI 1) C dX10_chairByRust_77 (by decide) ?_
    refine zV.callV (n := 1) C G dX10_chairByRust_78 (s_mraises hzs hst (sI h 435 r (nI 0)) r hm (nI 1)) rfl ⟨cd_X10_raises, lk_X10_54, im_X10_raises, se_X10_X10_raises, in_X10⟩ ⟨⟨by decide, by decide⟩, by decide⟩ rfl rfl rfl (hm.1) ⟨rfl, by decide⟩ (zaf ?_) (zno)
    refine zV.iret C F dX10_chairByRust_81 rfl ?_
    exact mq_y eA rfl
  · exact absurd (nI_le (Nat.le_refl n) (by omega)) q14
set_option maxHeartbeats 4000000 in
set_option maxRecDepth 100000 in
theorem L_qcbr {X : zX} {l : Launch} {E : zG} {rm : Room} (hzs : zS E) (hst : l.stackTraces = false) (C : zC X cX10_chairByRust RX10 5) (G : zGX X l E rm) {x : Int32} {Qx : String → zH → Prop} {B : Int32} (hr : rm = ({ frames := 2, cells := 0, slots := 0, locals := 45 } : Room)) {h : zH} {r : Nat} {g : zGd} {cs : List zCh} {H : Nat → List Nat} (hm : zMs h r) (hf : rF (aI h (r + 1)) g cs H) (hw : rW g cs H) (hD : gD g ≤ 1000000000) (hsrt : (cs.map chI).Pairwise (· < ·)) (F : zF X (some .int) 0 0 (mqQ h r (elA B) c1 (.int (nI 0))) Qx) : ∀ n k, k + n = cs.length → rkI cs x (cs.drop k) = B → zV X 0 0 (sI h 435 r (nI 0)) 7 [(0, .ref r), (1, .int x), (2, .int (nI k))] [] := by
  subst hr
  have hl := hw.1
  intro n
  induction n with
  | zero =>
    intro k hk e
    obtain rfl : k = cs.length := by omega
    rw [List.drop_length] at e
    exact s_qcbrX hzs hst C G rfl F hm (show aI (sI h 435 r (nI 0)) (r + 1) 0 = nI cs.length from hf.1.1) (by omega) (by rw [← e]; rfl)
  | succ n ih =>
    intro k hk e
    obtain ⟨c, hc, hdd⟩ := drop_cons (show k < cs.length by omega)
    rw [hdd, rkI] at e
    have hcb := (hw.2.1 c (List.mem_of_getElem? hc)).1
    have hb9 : (big : Nat) = 1000000000 := rfl
    refine zV.iload_n C dX10_chairByRust_7 rfl ?_
    refine zV.aload_n C dX10_chairByRust_8 rfl rfl ?_
    refine zV.gR 416 (k := 0) C dX10_chairByRust_9 zcl_X10 (by decide) rfl lk_X10_9 (hm.1) rfl (hm.2.1) ?_
    refine zV.ic (v := nI 0) C dX10_chairByRust_12 (by decide) ?_
    refine zV.ialdv (j := 0) C dX10_chairByRust_13 (hm.2.2.2.2.2.2.2.2.2.1.1) (rfl) (Nat.lt_of_lt_of_eq (show 0 < 116 by decide) (hm.2.2.2.2.2.2.2.2.2.1.2).symm) (by omega) (hf.1.1) ?_
    refine zV.icmp_ge (tgt := 76) C dX10_chairByRust_14 (by decide) (fun q14 => ?_) (fun q14 => ?_)
    · exact absurd (nle (by omega) (by omega) q14) (by omega)
    · refine zV.ic (v := nI 0) C dX10_chairByRust_17 (by decide) ?_
      refine zV.istore_n (lo' := [(0, _), (1, _), (2, _), (3, _)]) C dX10_chairByRust_18 (by decide) rfl rfl rfl ?_
      refine zV.ic (v := nI 0) C dX10_chairByRust_19 (by decide) ?_
      refine zV.istore (lo' := [(0, _), (1, _), (2, _), (3, _), (4, _)]) C dX10_chairByRust_20 (by decide) rfl rfl rfl ?_
      refine L_qcbrI (h := sI h 435 r (nI 0)) (c := c) (B := cs.countP (fun d => chA d c)) hzs hst C G rfl hm hf hw hD hsrt hc ?_ cs.length 0 0 (Nat.zero_add _) (by rw [Nat.zero_add]; rfl)
      refine zV.iload_n C dX10_chairByRust_58 rfl ?_
      refine zV.iload_n C dX10_chairByRust_59 rfl ?_
      refine zV.icmp_ne (tgt := 70) C dX10_chairByRust_60 (by decide) (fun q60 => ?_) (fun q60 => ?_)
      · rw [if_neg q60] at e
        refine zV.iinc (lo' := [(0, _), (1, _), (2, _), (3, _), (4, _)]) C dX10_chairByRust_70 rfl (by decide) rfl rfl rfl ?_
        refine zV.goto (tgt := 7) C dX10_chairByRust_73 (by decide) ?_
        rw [inc1]
        exact zV.sub [0, 1, 2] rfl (ih (k + 1) (by omega) e)
      · rw [if_pos q60] at e
        refine zV.aload_n C dX10_chairByRust_63 rfl rfl ?_
        refine zV.iload_n C dX10_chairByRust_64 rfl ?_
        refine zV.ic (v := nI 0) C dX10_chairByRust_65 (by decide) ?_
        refine zV.callV (n := 2) C G dX10_chairByRust_66 (s_mof hzs hst (sI h 435 r (nI 0)) r hm k 0 (by omega) (by decide)) rfl ⟨cd_X10_of, lk_X10_65, im_X10_of, se_X10_X10_of, in_X10⟩ ⟨⟨by decide, by decide⟩, by decide⟩ rfl rfl rfl (hm.1) ⟨rfl, by decide⟩ (zaf ?_) (zno)
        rw [show aI (sI h 435 r (nI 0)) (r + 1) (56 + 5 * k + 0) = nI (chI c) from (hf.1.2 k c hc).1]
        refine zV.iret C F dX10_chairByRust_69 rfl ?_
        exact mq_r (by rw [← e]; exact if_neg (nI_m1 (by omega)))
set_option maxHeartbeats 4000000 in
set_option maxRecDepth 100000 in
theorem s_qchairByRust {l : Launch} {E : zG} (hzs : zS E) (hst : l.stackTraces = false) (h : zH) (r m : Nat) (g : zGd) (hm : zMs h r) (hg : rG (aI h (r + 1)) g) (hR : gR m g) (hb : m + 3000 ≤ big) (x : Int32) : zMet l E yX10_chairByRust cX10_chairByRust 5 (some .int) ({ frames := 2, cells := 0, slots := 0, locals := 45 } : Room) 0 0 [.ref r, .int x] h (mqQ h r (elA (rkI (gC g) x (gC g))) c1 (.int (nI 0))) (fun _ _ => False) := by
  refine zM_start hzs hst (by decide) (Nat.le_of_ble_eq_true rfl) (fun X C G F I => ?_)
  show zV X 0 0 _ 0 [(0, _), (1, _)] []
  obtain ⟨cs, hp, hsrt, hf⟩ := hg
  have hw := rG_W hR (by omega) hp
  have hN := hR.2.1
  have hls := hf.2.2.1
  refine zV.aload_n C dX10_chairByRust_0 rfl rfl ?_
  refine zV.ic (v := nI 0) C dX10_chairByRust_1 (by decide) ?_
  refine zV.pI 435 (k := 19) C dX10_chairByRust_2 zcl_X10 (by decide) rfl lk_X10_39 rfl hm.1 rfl ⟨rfl, rfl⟩ ?_
  refine zV.ic (v := nI 0) C dX10_chairByRust_5 (by decide) ?_
  refine zV.istore_n (lo' := [(0, _), (1, _), (2, _)]) C dX10_chairByRust_6 (by decide) rfl rfl rfl ?_
  rw [rk_p hp (by have := hw.1; rw [hp.length_eq] at this; omega)] at F
  exact L_qcbr hzs hst C G rfl hm hf hw (by have := hR.1.2.2.2.2.1; have : (big : Nat) = 1000000000 := rfl; omega) hsrt F cs.length 0 (Nat.zero_add _) rfl
def eoI (o : Option (Nat × zCh)) : Int32 := match o with
  | none => -1
  | some q => nI q.1
theorem eldF_s {l k : Nat} {c : zCh} {t : List zCh} {o : Option (Nat × zCh)} : eldF l (c :: t) k o = eldF l t (k + 1) (if chL c = l ∧ (match o with | none => true | some q => chE c q.2) = true then some (k, c) else o) := rfl
theorem chE_lt {c d : zCh} (h : chI d < chI c) : chE c d = true ↔ chR d < chR c := by
  unfold chE
  simp only [Bool.or_eq_true, Bool.and_eq_true, decide_eq_true_eq]
  omega
set_option maxHeartbeats 4000000 in
set_option maxRecDepth 100000 in
theorem s_qelderE {X : zX} {l : Launch} {E : zG} {rm : Room} (hzs : zS E) (hst : l.stackTraces = false) (C : zC X cX10_elderOf RX10 4) (G : zGX X l E rm) {h1 : zH} {r n : Nat} {x1 x2 : Int32} (hm : zMs h1 r) (hv : aI h1 (r + 1) 0 = nI n) (hn : n < 100) (kk : zV X 0 0 h1 69 [(0, .ref r), (1, .int x1), (2, .int x2), (3, .int (nI n))] []) : zV X 0 0 h1 22 [(0, .ref r), (1, .int x1), (2, .int x2), (3, .int (nI n))] [] := by
  
  refine zV.iload_n C dX10_elderOf_22 rfl ?_
  refine zV.aload_n C dX10_elderOf_23 rfl rfl ?_
  refine zV.gR 416 (k := 0) C dX10_elderOf_24 zcl_X10 (by decide) rfl lk_X10_9 (hm.1) rfl (hm.2.1) ?_
  refine zV.ic (v := nI 0) C dX10_elderOf_27 (by decide) ?_
  refine zV.ialdv (j := 0) C dX10_elderOf_28 (hm.2.2.2.2.2.2.2.2.2.1.1) (rfl) (Nat.lt_of_lt_of_eq (show 0 < 116 by decide) (hm.2.2.2.2.2.2.2.2.2.1.2).symm) (by omega) (hv) ?_
  refine zV.icmp_ge (tgt := 69) C dX10_elderOf_29 (by decide) (fun q29 => ?_) (fun q29 => ?_)
  · exact kk
  · exact absurd (nI_le (Nat.le_refl n) (by omega)) q29
set_option maxHeartbeats 4000000 in
set_option maxRecDepth 100000 in
theorem L_qelder {X : zX} {l : Launch} {E : zG} {rm : Room} (hzs : zS E) (hst : l.stackTraces = false) (C : zC X cX10_elderOf RX10 4) (G : zGX X l E rm) {l9 : Nat} (hr : rm = ({ frames := 2, cells := 0, slots := 0, locals := 42 } : Room)) (hl9 : l9 < 6) {h : zH} {r : Nat} {g : zGd} {cs : List zCh} {H : Nat → List Nat} (hm : zMs h r) (hf : rF (aI h (r + 1)) g cs H) (hw : rW g cs H) (hD : gD g ≤ 1000000000) (hsrt : (cs.map chI).Pairwise (· < ·)) {B : Option (Nat × zCh)} (kk : ∀ o, o = B → (∀ b d, o = some (b, d) → cs[b]? = some d) → zV X 0 0 h 69 [(0, .ref r), (1, .int (nI l9)), (2, .int (eoI o)), (3, .int (nI cs.length))] []) : ∀ n k o, k + n = cs.length → eldF l9 (cs.drop k) k o = B → (∀ b d, o = some (b, d) → cs[b]? = some d ∧ b < k) → zV X 0 0 h 22 [(0, .ref r), (1, .int (nI l9)), (2, .int (eoI o)), (3, .int (nI k))] [] := by
  subst hr
  have hl := hw.1
  intro n
  induction n with
  | zero =>
    intro k o hk e ho
    obtain rfl : k = cs.length := by omega
    rw [List.drop_length] at e
    exact s_qelderE hzs hst C G hm hf.1.1 (by omega) (kk o e (fun b d z => (ho b d z).1))
  | succ n ih =>
    intro k o hk e ho
    obtain ⟨c, hc, hdd⟩ := drop_cons (show k < cs.length by omega)
    rw [hdd, eldF_s] at e
    obtain ⟨c1, c2, c3, c4, c5⟩ := hf.1.2 k c hc
    obtain ⟨u1, u2, u3, u4⟩ := hw.2.1 c (List.mem_of_getElem? hc)
    have hb9 : (big : Nat) = 1000000000 := rfl
    rcases o with _ | ⟨b, d⟩
    · show zV X 0 0 h 22 [(0, .ref r), (1, .int (nI l9)), (2, .int (-1)), (3, .int (nI k))] []
      refine zV.iload_n C dX10_elderOf_22 rfl ?_
      refine zV.aload_n C dX10_elderOf_23 rfl rfl ?_
      refine zV.gR 416 (k := 0) C dX10_elderOf_24 zcl_X10 (by decide) rfl lk_X10_9 (hm.1) rfl (hm.2.1) ?_
      refine zV.ic (v := nI 0) C dX10_elderOf_27 (by decide) ?_
      refine zV.ialdv (j := 0) C dX10_elderOf_28 (hm.2.2.2.2.2.2.2.2.2.1.1) (rfl) (Nat.lt_of_lt_of_eq (show 0 < 116 by decide) (hm.2.2.2.2.2.2.2.2.2.1.2).symm) (by omega) (hf.1.1) ?_
      refine zV.icmp_ge (tgt := 69) C dX10_elderOf_29 (by decide) (fun q29 => ?_) (fun q29 => ?_)
      · exact absurd (nle (by omega) (by omega) q29) (by omega)
      · refine zV.aload_n C dX10_elderOf_32 rfl rfl ?_
        refine zV.iload_n C dX10_elderOf_33 rfl ?_
        refine zV.ic (v := nI 1) C dX10_elderOf_34 (by decide) ?_
        refine zV.callV (n := 2) C G dX10_elderOf_35 (s_mof hzs hst h r hm k 1 (by omega) (by decide)) rfl ⟨cd_X10_of, lk_X10_65, im_X10_of, se_X10_X10_of, in_X10⟩ ⟨⟨by decide, by decide⟩, by decide⟩ rfl rfl rfl (hm.1) ⟨rfl, by decide⟩ (zaf ?_) (zno)
        rw [c2]
        refine zV.iload_n C dX10_elderOf_38 rfl ?_
        refine zV.icmp_ne (tgt := 63) C dX10_elderOf_39 (by decide) (fun q39 => ?_) (fun q39 => ?_)
        · have el : ¬ chL c = l9 := fun z => q39 (by rw [z])
          refine zV.iinc (lo' := [(0, _), (1, _), (2, _), (3, _)]) C dX10_elderOf_63 rfl (by decide) rfl rfl rfl ?_
          refine zV.goto (tgt := 22) C dX10_elderOf_66 (by decide) ?_
          rw [inc1]
          first
            | (rw [if_neg (fun z => el z.1)] at e; exact ih (k + 1) _ (by omega) e (fun b d z => ⟨(ho b d z).1, by have := (ho b d z).2; omega⟩))
            | (rw [if_pos ⟨el, rfl⟩] at e; exact ih (k + 1) (some (k, c)) (by omega) e (fun b d z => by cases z; exact ⟨hc, by omega⟩))
            | (rw [if_pos ⟨el, eb⟩] at e; exact ih (k + 1) (some (k, c)) (by omega) e (fun b d z => by cases z; exact ⟨hc, by omega⟩))
            | (rw [if_neg (fun z => eb z.2)] at e; exact ih (k + 1) _ (by omega) e (fun b d z => ⟨(ho b d z).1, by have := (ho b d z).2; omega⟩))
        · have el : chL c = l9 := neq (by omega) (by omega) q39
          refine zV.iload_n C dX10_elderOf_42 rfl ?_
          refine zV.if_lt (tgt := 61) C dX10_elderOf_43 (by decide) (fun q43 => ?_) (fun q43 => ?_)
          · refine zV.iload_n C dX10_elderOf_61 rfl ?_
            refine zV.istore_n (lo' := [(0, _), (1, _), (2, _), (3, _)]) C dX10_elderOf_62 (by decide) rfl rfl rfl ?_
            refine zV.iinc (lo' := [(0, _), (1, _), (2, _), (3, _)]) C dX10_elderOf_63 rfl (by decide) rfl rfl rfl ?_
            refine zV.goto (tgt := 22) C dX10_elderOf_66 (by decide) ?_
            rw [inc1]
            first
              | (rw [if_neg (fun z => el z.1)] at e; exact ih (k + 1) _ (by omega) e (fun b d z => ⟨(ho b d z).1, by have := (ho b d z).2; omega⟩))
              | (rw [if_pos ⟨el, rfl⟩] at e; exact ih (k + 1) (some (k, c)) (by omega) e (fun b d z => by cases z; exact ⟨hc, by omega⟩))
              | (rw [if_pos ⟨el, eb⟩] at e; exact ih (k + 1) (some (k, c)) (by omega) e (fun b d z => by cases z; exact ⟨hc, by omega⟩))
              | (rw [if_neg (fun z => eb z.2)] at e; exact ih (k + 1) _ (by omega) e (fun b d z => ⟨(ho b d z).1, by have := (ho b d z).2; omega⟩))
          · exact absurd (by decide) q43
    · obtain ⟨hbd, hbk⟩ := ho b d rfl
      have hbl := (List.getElem?_eq_some_iff.mp hbd).1
      obtain ⟨d1, d2, d3, d4, d5⟩ := hf.1.2 b d hbd
      obtain ⟨w1, w2, w3, w4⟩ := hw.2.1 d (List.mem_of_getElem? hbd)
      have elt := chE_lt ((srt_ix hsrt hbd hc).mp hbk)
      show zV X 0 0 h 22 [(0, .ref r), (1, .int (nI l9)), (2, .int (nI b)), (3, .int (nI k))] []
      refine zV.iload_n C dX10_elderOf_22 rfl ?_
      refine zV.aload_n C dX10_elderOf_23 rfl rfl ?_
      refine zV.gR 416 (k := 0) C dX10_elderOf_24 zcl_X10 (by decide) rfl lk_X10_9 (hm.1) rfl (hm.2.1) ?_
      refine zV.ic (v := nI 0) C dX10_elderOf_27 (by decide) ?_
      refine zV.ialdv (j := 0) C dX10_elderOf_28 (hm.2.2.2.2.2.2.2.2.2.1.1) (rfl) (Nat.lt_of_lt_of_eq (show 0 < 116 by decide) (hm.2.2.2.2.2.2.2.2.2.1.2).symm) (by omega) (hf.1.1) ?_
      refine zV.icmp_ge (tgt := 69) C dX10_elderOf_29 (by decide) (fun q29 => ?_) (fun q29 => ?_)
      · exact absurd (nle (by omega) (by omega) q29) (by omega)
      · refine zV.aload_n C dX10_elderOf_32 rfl rfl ?_
        refine zV.iload_n C dX10_elderOf_33 rfl ?_
        refine zV.ic (v := nI 1) C dX10_elderOf_34 (by decide) ?_
        refine zV.callV (n := 2) C G dX10_elderOf_35 (s_mof hzs hst h r hm k 1 (by omega) (by decide)) rfl ⟨cd_X10_of, lk_X10_65, im_X10_of, se_X10_X10_of, in_X10⟩ ⟨⟨by decide, by decide⟩, by decide⟩ rfl rfl rfl (hm.1) ⟨rfl, by decide⟩ (zaf ?_) (zno)
        rw [c2]
        refine zV.iload_n C dX10_elderOf_38 rfl ?_
        refine zV.icmp_ne (tgt := 63) C dX10_elderOf_39 (by decide) (fun q39 => ?_) (fun q39 => ?_)
        · have el : ¬ chL c = l9 := fun z => q39 (by rw [z])
          refine zV.iinc (lo' := [(0, _), (1, _), (2, _), (3, _)]) C dX10_elderOf_63 rfl (by decide) rfl rfl rfl ?_
          refine zV.goto (tgt := 22) C dX10_elderOf_66 (by decide) ?_
          rw [inc1]
          first
            | (rw [if_neg (fun z => el z.1)] at e; exact ih (k + 1) _ (by omega) e (fun b d z => ⟨(ho b d z).1, by have := (ho b d z).2; omega⟩))
            | (rw [if_pos ⟨el, rfl⟩] at e; exact ih (k + 1) (some (k, c)) (by omega) e (fun b d z => by cases z; exact ⟨hc, by omega⟩))
            | (rw [if_pos ⟨el, eb⟩] at e; exact ih (k + 1) (some (k, c)) (by omega) e (fun b d z => by cases z; exact ⟨hc, by omega⟩))
            | (rw [if_neg (fun z => eb z.2)] at e; exact ih (k + 1) _ (by omega) e (fun b d z => ⟨(ho b d z).1, by have := (ho b d z).2; omega⟩))
        · have el : chL c = l9 := neq (by omega) (by omega) q39
          refine zV.iload_n C dX10_elderOf_42 rfl ?_
          refine zV.if_lt (tgt := 61) C dX10_elderOf_43 (by decide) (fun q43 => ?_) (fun q43 => ?_)
          · exact absurd q43 (nI_pos (by omega))
          · refine zV.aload_n C dX10_elderOf_46 rfl rfl ?_
            refine zV.iload_n C dX10_elderOf_47 rfl ?_
            refine zV.ic (v := nI 2) C dX10_elderOf_48 (by decide) ?_
            refine zV.callV (n := 2) C G dX10_elderOf_49 (s_mof hzs hst h r hm k 2 (by omega) (by decide)) rfl ⟨cd_X10_of, lk_X10_65, im_X10_of, se_X10_X10_of, in_X10⟩ ⟨⟨by decide, by decide⟩, by decide⟩ rfl rfl rfl (hm.1) ⟨rfl, by decide⟩ (zaf ?_) (zno)
            rw [c3]
            refine zV.aload_n C dX10_elderOf_52 rfl rfl ?_
            refine zV.iload_n C dX10_elderOf_53 rfl ?_
            refine zV.ic (v := nI 2) C dX10_elderOf_54 (by decide) ?_
            refine zV.callV (n := 2) C G dX10_elderOf_55 (s_mof hzs hst h r hm b 2 (by omega) (by decide)) rfl ⟨cd_X10_of, lk_X10_65, im_X10_of, se_X10_X10_of, in_X10⟩ ⟨⟨by decide, by decide⟩, by decide⟩ rfl rfl rfl (hm.1) ⟨rfl, by decide⟩ (zaf ?_) (zno)
            rw [d3]
            refine zV.icmp_le (tgt := 63) C dX10_elderOf_58 (by decide) (fun q58 => ?_) (fun q58 => ?_)
            · have eb : ¬ chE c d = true := fun z => by have := nle (by omega) (by omega) q58; have := elt.mp z; omega
              refine zV.iinc (lo' := [(0, _), (1, _), (2, _), (3, _)]) C dX10_elderOf_63 rfl (by decide) rfl rfl rfl ?_
              refine zV.goto (tgt := 22) C dX10_elderOf_66 (by decide) ?_
              rw [inc1]
              first
                | (rw [if_neg (fun z => el z.1)] at e; exact ih (k + 1) _ (by omega) e (fun b d z => ⟨(ho b d z).1, by have := (ho b d z).2; omega⟩))
                | (rw [if_pos ⟨el, rfl⟩] at e; exact ih (k + 1) (some (k, c)) (by omega) e (fun b d z => by cases z; exact ⟨hc, by omega⟩))
                | (rw [if_pos ⟨el, eb⟩] at e; exact ih (k + 1) (some (k, c)) (by omega) e (fun b d z => by cases z; exact ⟨hc, by omega⟩))
                | (rw [if_neg (fun z => eb z.2)] at e; exact ih (k + 1) _ (by omega) e (fun b d z => ⟨(ho b d z).1, by have := (ho b d z).2; omega⟩))
            · have eb : chE c d = true := elt.mpr (nlt (by omega) (by omega) q58)
              refine zV.iload_n C dX10_elderOf_61 rfl ?_
              refine zV.istore_n (lo' := [(0, _), (1, _), (2, _), (3, _)]) C dX10_elderOf_62 (by decide) rfl rfl rfl ?_
              refine zV.iinc (lo' := [(0, _), (1, _), (2, _), (3, _)]) C dX10_elderOf_63 rfl (by decide) rfl rfl rfl ?_
              refine zV.goto (tgt := 22) C dX10_elderOf_66 (by decide) ?_
              rw [inc1]
              first
                | (rw [if_neg (fun z => el z.1)] at e; exact ih (k + 1) _ (by omega) e (fun b d z => ⟨(ho b d z).1, by have := (ho b d z).2; omega⟩))
                | (rw [if_pos ⟨el, rfl⟩] at e; exact ih (k + 1) (some (k, c)) (by omega) e (fun b d z => by cases z; exact ⟨hc, by omega⟩))
                | (rw [if_pos ⟨el, eb⟩] at e; exact ih (k + 1) (some (k, c)) (by omega) e (fun b d z => by cases z; exact ⟨hc, by omega⟩))
                | (rw [if_neg (fun z => eb z.2)] at e; exact ih (k + 1) _ (by omega) e (fun b d z => ⟨(ho b d z).1, by have := (ho b d z).2; omega⟩))
set_option maxHeartbeats 4000000 in
set_option maxRecDepth 100000 in
theorem s_qelder69 {X : zX} {l : Launch} {E : zG} {rm : Room} (hzs : zS E) (hst : l.stackTraces = false) (C : zC X cX10_elderOf RX10 4) (G : zGX X l E rm) {h : zH} {r : Nat} {o : Option (Nat × zCh)} {A : zAn} {x1 x3 : Int32} {g : zGd} {cs : List zCh} {H : Nat → List Nat} {Qx : String → zH → Prop} (hr : rm = ({ frames := 2, cells := 0, slots := 0, locals := 42 } : Room)) (F : zF X (some .int) 0 0 (mqQ h r A c12 (.int (nI 0))) Qx) (hm : zMs h r) (hf : rF (aI h (r + 1)) g cs H) (hw : rW g cs H) (eA : A = elA (eldI o)) (ho : ∀ b d, o = some (b, d) → cs[b]? = some d) : zV X 0 0 (sI h 435 r (nI 0)) 69 [(0, .ref r), (1, .int x1), (2, .int (eoI o)), (3, .int x3)] [] := by
  subst hr
  have hl := hw.1
  have hb9 : (big : Nat) = 1000000000 := rfl
  rcases o with _ | ⟨b, d⟩
  · show zV X 0 0 (sI h 435 r (nI 0)) 69 [(0, .ref r), (1, .int x1), (2, .int (-1)), (3, .int x3)] []
    refine zV.iload_n C dX10_elderOf_69 rfl ?_
    refine zV.if_ge (tgt := 81) C dX10_elderOf_70 (by decide) (fun q70 => ?_) (fun q70 => ?_)
    · exact absurd q70 (by decide)
    · refine zV.aload_n C dX10_elderOf_73 rfl rfl ?_
      refine zV.ic (v := nI 2) C dX10_elderOf_74 (by decide) ?_
      refine zV.callV (n := 1) C G dX10_elderOf_75 (s_mraises hzs hst (sI h 435 r (nI 0)) r hm (nI 2)) rfl ⟨cd_X10_raises, lk_X10_54, im_X10_raises, se_X10_X10_raises, in_X10⟩ ⟨⟨by decide, by decide⟩, by decide⟩ rfl rfl rfl (hm.1) ⟨rfl, by decide⟩ (zaf ?_) (zno)
      refine zV.goto (tgt := 87) C dX10_elderOf_78 (by decide) ?_
      refine zV.iret C F dX10_elderOf_87 rfl ?_
      exact mq_y (eA.trans rfl) c12_n
  · have hbd := ho b d rfl
    have hbl := (List.getElem?_eq_some_iff.mp hbd).1
    obtain ⟨w1, w2, w3, w4⟩ := hw.2.1 d (List.mem_of_getElem? hbd)
    show zV X 0 0 (sI h 435 r (nI 0)) 69 [(0, .ref r), (1, .int x1), (2, .int (nI b)), (3, .int x3)] []
    refine zV.iload_n C dX10_elderOf_69 rfl ?_
    refine zV.if_ge (tgt := 81) C dX10_elderOf_70 (by decide) (fun q70 => ?_) (fun q70 => ?_)
    · refine zV.aload_n C dX10_elderOf_81 rfl rfl ?_
      refine zV.iload_n C dX10_elderOf_82 rfl ?_
      refine zV.ic (v := nI 0) C dX10_elderOf_83 (by decide) ?_
      refine zV.callV (n := 2) C G dX10_elderOf_84 (s_mof hzs hst (sI h 435 r (nI 0)) r hm b 0 (by omega) (by decide)) rfl ⟨cd_X10_of, lk_X10_65, im_X10_of, se_X10_X10_of, in_X10⟩ ⟨⟨by decide, by decide⟩, by decide⟩ rfl rfl rfl (hm.1) ⟨rfl, by decide⟩ (zaf ?_) (zno)
      rw [show aI (sI h 435 r (nI 0)) (r + 1) (56 + 5 * b + 0) = nI (chI d) from (hf.1.2 b d hbd).1]
      refine zV.iret C F dX10_elderOf_87 rfl ?_
      exact mq_r (eA.trans (if_neg (nI_m1 (show chI d < 2 ^ 31 by omega))))
    · exact absurd (nI_le (Nat.zero_le _) (by omega)) q70
set_option maxHeartbeats 4000000 in
set_option maxRecDepth 100000 in
theorem s_qelderOf {l : Launch} {E : zG} (hzs : zS E) (hst : l.stackTraces = false) (h : zH) (r m : Nat) (g : zGd) (hm : zMs h r) (hg : rG (aI h (r + 1)) g) (hR : gR m g) (hb : m + 3000 ≤ big) (x : Int32) : zMet l E yX10_elderOf cX10_elderOf 4 (some .int) ({ frames := 2, cells := 0, slots := 0, locals := 42 } : Room) 0 0 [.ref r, .int x] h (mqQ h r (lawA x (fun i => elA (eldI (eldF i (gC g) 0 none)))) c12 (.int (nI 0))) (fun _ _ => False) := by
  refine zM_start hzs hst (by decide) (Nat.le_of_ble_eq_true rfl) (fun X C G F I => ?_)
  show zV X 0 0 _ 0 [(0, _), (1, _)] []
  obtain ⟨cs, hp, hsrt, hf⟩ := hg
  have hw := rG_W hR (by omega) hp
  have hN := hR.2.1
  have hls := hf.2.2.1
  rcases e1 : ln x with _ | i
  · refine zV.aload_n C dX10_elderOf_0 rfl rfl ?_
    refine zV.ic (v := nI 0) C dX10_elderOf_1 (by decide) ?_
    refine zV.pI 435 (k := 19) C dX10_elderOf_2 zcl_X10 (by decide) rfl lk_X10_39 rfl hm.1 rfl ⟨rfl, rfl⟩ ?_
    refine zV.iload_n C dX10_elderOf_5 rfl ?_
    refine zV.callS (n := 1) C G dX10_elderOf_6 (s_misLawn hzs hst (sI h 435 r (nI 0)) x) rfl ⟨cd_X10_isLawn, lk_X10_85, st_X10_isLawn, in_X10⟩ ⟨⟨by decide, by decide⟩, by decide⟩ rfl rfl rfl (zaf ?_) (zno)
    rw [e1]
    show zV X _ _ (sI h 435 r (nI 0)) 9 _ (.int (nI 0) :: _)
    refine zV.if_ne (tgt := 18) C dX10_elderOf_9 (by decide) (fun q9 => ?_) (fun q9 => ?_)
    · exact absurd rfl q9
    · refine zV.aload_n C dX10_elderOf_12 rfl rfl ?_
      refine zV.ic (v := nI 1) C dX10_elderOf_13 (by decide) ?_
      refine zV.callV (n := 1) C G dX10_elderOf_14 (s_mraises hzs hst (sI h 435 r (nI 0)) r hm (nI 1)) rfl ⟨cd_X10_raises, lk_X10_54, im_X10_raises, se_X10_X10_raises, in_X10⟩ ⟨⟨by decide, by decide⟩, by decide⟩ rfl rfl rfl (hm.1) ⟨rfl, by decide⟩ (zaf ?_) (zno)
      refine zV.iret C F dX10_elderOf_17 rfl ?_
      exact mq_y (lawA_n e1) c12_1
  · obtain ⟨hi, rfl⟩ := ln_some e1
    refine zV.aload_n C dX10_elderOf_0 rfl rfl ?_
    refine zV.ic (v := nI 0) C dX10_elderOf_1 (by decide) ?_
    refine zV.pI 435 (k := 19) C dX10_elderOf_2 zcl_X10 (by decide) rfl lk_X10_39 rfl hm.1 rfl ⟨rfl, rfl⟩ ?_
    refine zV.iload_n C dX10_elderOf_5 rfl ?_
    refine zV.callS (n := 1) C G dX10_elderOf_6 (s_misLawn hzs hst (sI h 435 r (nI 0)) (nI i)) rfl ⟨cd_X10_isLawn, lk_X10_85, st_X10_isLawn, in_X10⟩ ⟨⟨by decide, by decide⟩, by decide⟩ rfl rfl rfl (zaf ?_) (zno)
    rw [e1]
    show zV X _ _ (sI h 435 r (nI 0)) 9 _ (.int (nI 1) :: _)
    refine zV.if_ne (tgt := 18) C dX10_elderOf_9 (by decide) (fun q9 => ?_) (fun q9 => ?_)
    · refine zV.ic (v := (-1)) C dX10_elderOf_18 (by decide) ?_
      refine zV.istore_n (lo' := [(0, _), (1, _), (2, _)]) C dX10_elderOf_19 (by decide) rfl rfl rfl ?_
      refine zV.ic (v := nI 0) C dX10_elderOf_20 (by decide) ?_
      refine zV.istore_n (lo' := [(0, _), (1, _), (2, _), (3, _)]) C dX10_elderOf_21 (by decide) rfl rfl rfl ?_
      exact L_qelder (h := sI h 435 r (nI 0)) (B := eldF i cs 0 none) hzs hst C G rfl hi hm hf hw (by have := hR.1.2.2.2.2.1; have : (big : Nat) = 1000000000 := rfl; omega) hsrt (fun o e ho => s_qelder69 hzs hst C G rfl F hm hf hw ((lawA_s e1).trans (by rw [eld_p hp ((hp.map chI).nodup_iff.mp hw.2.2.2.2.2.2), e])) ho) cs.length 0 none (Nat.zero_add _) rfl (fun b d z => by cases z)
    · exact absurd q9 (by decide)
