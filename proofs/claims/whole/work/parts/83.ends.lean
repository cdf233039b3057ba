/-! the reference: the end of a change, the twelve changes -/
def ptF (g : Nat → Int32) (b : Nat) (S : Nat → Int32) (k : Nat) : Nat → Int32 := fun j => if b ≤ j ∧ j < b + k then S (j - b) else g j
theorem ptF_0 {g S : Nat → Int32} {b : Nat} : ptF g b S 0 = g := by funext j; exact if_neg (by omega)
theorem ptF_s {g S : Nat → Int32} {b k : Nat} : fup (ptF g b S k) (b + k) (S k) = ptF g b S (k + 1) := by
  funext j
  unfold fup ptF
  by_cases e : j = b + k
  · rw [if_pos e, if_pos (by omega), show j - b = k by omega]
  · rw [if_neg e]
    by_cases e2 : b ≤ j ∧ j < b + k
    · rw [if_pos e2, if_pos (by omega)]
    · rw [if_neg e2, if_neg (by omega)]
theorem rKp_pt {h : zH} {r m : Nat} {us : List zGd} {g0 : zGd} {S : Nat → Int32} (q : rKp h r us) (h8 : us.length < 8) (hU : ∀ u ∈ us, gR m u) (hR : gR m g0) (ht : rG S g0) : rKp (sI (sRow h (r + 4) (ptF (aI h (r + 4)) (116 * us.length) S 116)) 420 r (nI (us.length + 1))) r (us ++ [g0]) := by
  refine ⟨hI_sI.trans (congrArg nI (by rw [List.length_append]; rfl)), by rw [List.length_append]; exact h8, fun k u hk => ?_⟩
  rw [show aI (sI (sRow h (r + 4) (ptF (aI h (r + 4)) (116 * us.length) S 116)) 420 r (nI (us.length + 1))) (r + 4) = ptF (aI h (r + 4)) (116 * us.length) S 116 from aI_sRow]
  by_cases z : k < us.length
  · rw [List.getElem?_append_left z] at hk
    refine rG_d (q.2.2 k u hk) (hU u (List.mem_of_getElem? hk)) (fun j hj => ?_)
    unfold ptF
    exact if_neg (by omega)
  · rw [List.getElem?_append_right (by omega)] at hk
    have z2 : k - us.length = 0 := by have := (List.getElem?_eq_some_iff.mp hk).1; rw [List.length_singleton] at this; omega
    rw [z2] at hk
    cases hk
    obtain rfl : k = us.length := by omega
    refine rG_d ht hR (fun j hj => ?_)
    unfold ptF
    rw [if_pos (by omega), show 116 * us.length + j - 116 * us.length = j by omega]
theorem rKp_sh {h : zH} {r m : Nat} {us : List zGd} (q : rKp h r us) (h8 : us.length = 8) (hU : ∀ u ∈ us, gR m u) : rKp (sI (sRow h (r + 4) (shL (aI h (r + 4)) 0 116 812)) 420 r (nI 7)) r (us.drop 1) := by
  refine ⟨hI_sI.trans (congrArg nI (by rw [List.length_drop, h8])), by rw [List.length_drop]; omega, fun k u hk => ?_⟩
  rw [show aI (sI (sRow h (r + 4) (shL (aI h (r + 4)) 0 116 812)) 420 r (nI 7)) (r + 4) = shL (aI h (r + 4)) 0 116 812 from aI_sRow]
  rw [List.getElem?_drop] at hk
  have hl := (List.getElem?_eq_some_iff.mp hk).1
  refine rG_d (q.2.2 (1 + k) u hk) (hU u (List.mem_of_getElem? hk)) (fun j hj => ?_)
  rw [shL_y (by omega)]
  exact congrArg _ (by omega)
set_option maxHeartbeats 4000000 in
set_option maxRecDepth 100000 in
theorem L_mshiftE {X : zX} {l : Launch} {E : zG} {rm : Room} (hzs : zS E) (hst : l.stackTraces = false) (C : zC X cX10_ends RX10 6) (G : zGX X l E rm) {h1 : zH} {r : Nat} {x1 x2 x3 x4 : Int32} (kk : zV X 0 0 h1 71 [(0, .ref r), (1, .int x1), (2, .int x2), (3, .int x3), (4, .int x4), (5, .int (nI 812))] []) : zV X 0 0 h1 40 [(0, .ref r), (1, .int x1), (2, .int x2), (3, .int x3), (4, .int x4), (5, .int (nI 812))] [] := by
  
  refine zV.iload C dX10_ends_40 rfl ?_
  refine zV.si (v := nI 812) C dX10_ends_42 (by decide) ?_
  refine zV.icmp_ge (tgt := 71) C dX10_ends_45 (by decide) (fun q45 => ?_) (fun q45 => ?_)
  · exact kk
  · exact absurd (by decide) q45
set_option maxHeartbeats 4000000 in
set_option maxRecDepth 100000 in
theorem L_mshift {X : zX} {l : Launch} {E : zG} {rm : Room} (hzs : zS E) (hst : l.stackTraces = false) (C : zC X cX10_ends RX10 6) (G : zGX X l E rm) {h : zH} {r : Nat} {x1 x2 x3 x4 : Int32} (hm : zMs h r) (kk : zV X 0 0 (sRow h (r + 4) (shL (aI h (r + 4)) 0 116 812)) 71 [(0, .ref r), (1, .int x1), (2, .int x2), (3, .int x3), (4, .int x4), (5, .int (nI 812))] []) : ∀ n k, k + n = 812 → zV X 0 0 (sRow h (r + 4) (shL (aI h (r + 4)) 0 116 k)) 40 [(0, .ref r), (1, .int x1), (2, .int x2), (3, .int x3), (4, .int x4), (5, .int (nI k))] [] := by
  intro n
  induction n with
  | zero =>
    intro k hk
    obtain rfl : k = 812 := by omega
    exact L_mshiftE hzs hst C G kk
  | succ n ih =>
    intro k hk
    refine zV.iload C dX10_ends_40 rfl ?_
    refine zV.si (v := nI 812) C dX10_ends_42 (by decide) ?_
    refine zV.icmp_ge (tgt := 71) C dX10_ends_45 (by decide) (fun q45 => ?_) (fun q45 => ?_)
    · exact absurd (nle (by omega) (by decide) q45) (by omega)
    · refine zV.aload_n C dX10_ends_48 rfl rfl ?_
      refine zV.gR 419 (k := 3) C dX10_ends_49 zcl_X10 (by decide) rfl lk_X10_19 (hm.1) rfl (hm.2.2.2.2.1) ?_
      refine zV.iload C dX10_ends_52 rfl ?_
      refine zV.aload_n C dX10_ends_54 rfl rfl ?_
      refine zV.gR 419 (k := 3) C dX10_ends_55 zcl_X10 (by decide) rfl lk_X10_19 (hm.1) rfl (hm.2.2.2.2.1) ?_
      refine zV.bi (v := nI 116) C dX10_ends_58 (by decide) ?_
      refine zV.iload C dX10_ends_60 rfl ?_
      refine zV.iadd C dX10_ends_62 ?_
      refine zV.iald (j := k + 116) C dX10_ends_63 (hm.2.2.2.2.2.2.2.2.2.2.2.2.1.1) (by rw [nI_add, Nat.add_comm]) (Nat.lt_of_lt_of_eq (show k + 116 < 928 by omega) (hm.2.2.2.2.2.2.2.2.2.2.2.2.1.2).symm) (by omega) ?_
      refine zV.iast (j := k) C dX10_ends_64 (hm.2.2.2.2.2.2.2.2.2.2.2.2.1.1) (rfl) (Nat.lt_of_lt_of_eq (show k < 928 by omega) (hm.2.2.2.2.2.2.2.2.2.2.2.2.1.2).symm) (by omega) ?_
      rw [aI_sRow, saI_row2, shL_s (Nat.zero_le _) (by decide)]
      refine zV.iinc (lo' := [(0, _), (1, _), (2, _), (3, _), (4, _), (5, _)]) C dX10_ends_65 rfl (by decide) rfl rfl rfl ?_
      refine zV.goto (tgt := 40) C dX10_ends_68 (by decide) ?_
      rw [inc1]
      exact ih (k + 1) (by omega)
set_option maxHeartbeats 4000000 in
set_option maxRecDepth 100000 in
theorem L_mkeepE {X : zX} {l : Launch} {E : zG} {rm : Room} (hzs : zS E) (hst : l.stackTraces = false) (C : zC X cX10_ends RX10 6) (G : zGX X l E rm) {h1 : zH} {r : Nat} {x1 x2 x3 x4 : Int32} (kk : zV X 0 0 h1 119 [(0, .ref r), (1, .int x1), (2, .int x2), (3, .int x3), (4, .int x4), (5, .int (nI 116))] []) : zV X 0 0 h1 84 [(0, .ref r), (1, .int x1), (2, .int x2), (3, .int x3), (4, .int x4), (5, .int (nI 116))] [] := by
  
  refine zV.iload C dX10_ends_84 rfl ?_
  refine zV.bi (v := nI 116) C dX10_ends_86 (by decide) ?_
  refine zV.icmp_ge (tgt := 119) C dX10_ends_88 (by decide) (fun q88 => ?_) (fun q88 => ?_)
  · exact kk
  · exact absurd (by decide) q88
set_option maxHeartbeats 4000000 in
set_option maxRecDepth 100000 in
theorem L_mkeep {X : zX} {l : Launch} {E : zG} {rm : Room} (hzs : zS E) (hst : l.stackTraces = false) (C : zC X cX10_ends RX10 6) (G : zGX X l E rm) {h : zH} {r u : Nat} {x1 x2 x3 x4 : Int32} (hm : zMs h r) (hu : hI h 420 r = nI u) (hu8 : u < 8) (kk : zV X 0 0 (sRow h (r + 4) (ptF (aI h (r + 4)) (116 * u) (aI h (r + 2)) 116)) 119 [(0, .ref r), (1, .int x1), (2, .int x2), (3, .int x3), (4, .int x4), (5, .int (nI 116))] []) : ∀ n k, k + n = 116 → zV X 0 0 (sRow h (r + 4) (ptF (aI h (r + 4)) (116 * u) (aI h (r + 2)) k)) 84 [(0, .ref r), (1, .int x1), (2, .int x2), (3, .int x3), (4, .int x4), (5, .int (nI k))] [] := by
  intro n
  induction n with
  | zero =>
    intro k hk
    obtain rfl : k = 116 := by omega
    exact L_mkeepE hzs hst C G kk
  | succ n ih =>
    intro k hk
    refine zV.iload C dX10_ends_84 rfl ?_
    refine zV.bi (v := nI 116) C dX10_ends_86 (by decide) ?_
    refine zV.icmp_ge (tgt := 119) C dX10_ends_88 (by decide) (fun q88 => ?_) (fun q88 => ?_)
    · exact absurd (nle (by omega) (by decide) q88) (by omega)
    · refine zV.aload_n C dX10_ends_91 rfl rfl ?_
      refine zV.gR 419 (k := 3) C dX10_ends_92 zcl_X10 (by decide) rfl lk_X10_19 (hm.1) rfl (hm.2.2.2.2.1) ?_
      refine zV.bi (v := nI 116) C dX10_ends_95 (by decide) ?_
      refine zV.aload_n C dX10_ends_97 rfl rfl ?_
      refine zV.gIv 420 (k := 4) C dX10_ends_98 zcl_X10 (by decide) rfl lk_X10_58 (hm.1) rfl (hu) ?_
      refine zV.imul C dX10_ends_101 ?_
      refine zV.iload C dX10_ends_102 rfl ?_
      refine zV.iadd C dX10_ends_104 ?_
      refine zV.aload_n C dX10_ends_105 rfl rfl ?_
      refine zV.gR 417 (k := 1) C dX10_ends_106 zcl_X10 (by decide) rfl lk_X10_13 (hm.1) rfl (hm.2.2.1) ?_
      refine zV.iload C dX10_ends_109 rfl ?_
      refine zV.ialdv (j := k) C dX10_ends_111 (hm.2.2.2.2.2.2.2.2.2.2.1.1) (rfl) (Nat.lt_of_lt_of_eq (show k < 116 by omega) (hm.2.2.2.2.2.2.2.2.2.2.1.2).symm) (by omega) ((show aI (sRow h (r + 4) (ptF (aI h (r + 4)) (116 * u) (aI h (r + 2)) k)) (r + 2) k = aI h (r + 2) k from by rw [aI_sRow_a (by omega)])) ?_
      refine zV.iast (j := 116 * u + k) C dX10_ends_112 (hm.2.2.2.2.2.2.2.2.2.2.2.2.1.1) (by rw [pk_mul, nI_add]) (Nat.lt_of_lt_of_eq (show 116 * u + k < 928 by omega) (hm.2.2.2.2.2.2.2.2.2.2.2.2.1.2).symm) (by omega) ?_
      rw [saI_row2, ptF_s]
      refine zV.iinc (lo' := [(0, _), (1, _), (2, _), (3, _), (4, _), (5, _)]) C dX10_ends_113 rfl (by decide) rfl rfl rfl ?_
      refine zV.goto (tgt := 84) C dX10_ends_116 (by decide) ?_
      rw [inc1]
      exact ih (k + 1) (by omega)
set_option maxHeartbeats 4000000 in
set_option maxRecDepth 100000 in
theorem L_m119 {X : zX} {l : Launch} {E : zG} {rm : Room} (hzs : zS E) (hst : l.stackTraces = false) (C : zC X cX10_ends RX10 6) (G : zGX X l E rm) {h : zH} {r u : Nat} {x1 x2 x3 x4 : Int32} {x5 v : Int32} {Qr : Option Value → zH → Prop} {Qx : String → zH → Prop} (F : zF X (some .int) 0 0 Qr Qx) (hm : zMs h r) (hu : hI h 420 r = nI u) (hv : hI h 434 r = v) (hq : Qr (some (.int v)) (sI h 420 r (nI (u + 1)))) : zV X 0 0 h 119 [(0, .ref r), (1, .int x1), (2, .int x2), (3, .int x3), (4, .int x4), (5, .int x5)] [] := by
  
  refine zV.aload_n C dX10_ends_119 rfl rfl ?_
  refine zV.dup C dX10_ends_120 rfl ?_
  refine zV.gIv 420 (k := 4) C dX10_ends_121 zcl_X10 (by decide) rfl lk_X10_58 (hm.1) rfl (hu) ?_
  refine zV.ic (v := nI 1) C dX10_ends_124 (by decide) ?_
  refine zV.iadd C dX10_ends_125 ?_
  rw [nI_add]
  refine zV.pI 420 (k := 4) C dX10_ends_126 zcl_X10 (by decide) rfl lk_X10_58 rfl (hm.1) rfl ⟨rfl, rfl⟩ ?_
  refine zV.aload_n C dX10_ends_129 rfl rfl ?_
  refine zV.gIv 434 (k := 18) C dX10_ends_130 zcl_X10 (by decide) rfl lk_X10_42 (hm.1) rfl ((show hI (sI h 420 r (nI (u + 1))) 434 r = v from (hI_sI_f (by decide)).trans hv)) ?_
  refine zV.iret C F dX10_ends_133 rfl ?_
  exact hq
set_option maxHeartbeats 4000000 in
set_option maxRecDepth 100000 in
theorem L_m81 {X : zX} {l : Launch} {E : zG} {rm : Room} (hzs : zS E) (hst : l.stackTraces = false) (C : zC X cX10_ends RX10 6) (G : zGX X l E rm) {h : zH} {r u : Nat} {x1 x2 x3 x4 : Int32} {v : Int32} {Qr : Option Value → zH → Prop} {Qx : String → zH → Prop} (F : zF X (some .int) 0 0 Qr Qx) (hm : zMs h r) (hu : hI h 420 r = nI u) (hu8 : u < 8) (hv : hI h 434 r = v) (hq : Qr (some (.int v)) (sI (sRow h (r + 4) (ptF (aI h (r + 4)) (116 * u) (aI h (r + 2)) 116)) 420 r (nI (u + 1)))) : zV X 0 0 h 81 [(0, .ref r), (1, .int x1), (2, .int x2), (3, .int x3), (4, .int x4)] [] := by
  
  refine zV.ic (v := nI 0) C dX10_ends_81 (by decide) ?_
  refine zV.istore (lo' := [(0, _), (1, _), (2, _), (3, _), (4, _), (5, _)]) C dX10_ends_82 (by decide) rfl rfl rfl ?_
  have e := L_mkeep hzs hst C G hm hu hu8 (x1 := x1) (x2 := x2) (x3 := x3) (x4 := x4) (L_m119 hzs hst C G F hm hu hv hq) 116 0 rfl
  rw [ptF_0, sRow_id] at e
  exact e
def edQ (h : zH) (r : Nat) (us : List zGd) (g0 : zGd) (v : Int32) : Option Value → zH → Prop := fun w h' => w = some (.int v) ∧ rE h h' r [420] [4] ∧ rKp h' r (kp us g0)
theorem ends_A {h : zH} {r m : Nat} {us : List zGd} {g0 : zGd} {v : Int32} (q : rKp h r us) (hU : ∀ u ∈ us, gR m u) (ht : rG (aI h (r + 2)) g0) (hR : gR m g0) (h8 : us.length < 8) : edQ h r us g0 v (some (.int v)) (sI (sRow h (r + 4) (ptF (aI h (r + 4)) (116 * us.length) (aI h (r + 2)) 116)) 420 r (nI (us.length + 1))) :=
  ⟨rfl, (rE.a.trans rE.i).mono (by simp) (by simp), by unfold kp; rw [if_pos h8]; exact rKp_pt q h8 hU hR ht⟩
theorem ends_B {h : zH} {r m : Nat} {us : List zGd} {g0 : zGd} {v : Int32} (q : rKp h r us) (hU : ∀ u ∈ us, gR m u) (ht : rG (aI h (r + 2)) g0) (hR : gR m g0) (h8 : us.length = 8) : edQ h r us g0 v (some (.int v)) (sI (sRow (sI (sRow h (r + 4) (shL (aI h (r + 4)) 0 116 812)) 420 r (nI 7)) (r + 4) (ptF (aI (sI (sRow h (r + 4) (shL (aI h (r + 4)) 0 116 812)) 420 r (nI 7)) (r + 4)) (116 * 7) (aI (sI (sRow h (r + 4) (shL (aI h (r + 4)) 0 116 812)) 420 r (nI 7)) (r + 2)) 116)) 420 r (nI (7 + 1))) := by
  have q2 := rKp_sh q h8 hU
  have E1 : rE h (sI (sRow h (r + 4) (shL (aI h (r + 4)) 0 116 812)) 420 r (nI 7)) r [420] [4] := (rE.a.trans rE.i).mono (by simp) (by simp)
  have e7 : (us.drop 1).length = 7 := by rw [List.length_drop, h8]
  have A := ends_A (v := v) q2 (fun u hu => hU u (List.mem_of_mem_drop hu)) (by rw [E1.r (by decide)]; exact ht) hR (by omega)
  rw [e7] at A
  refine ⟨rfl, (E1.trans A.2.1).mono (by simp) (by simp), ?_⟩
  have z := A.2.2
  unfold kp at z ⊢
  rw [if_pos (by omega)] at z
  rw [if_neg (by omega)]
  exact z
set_option maxHeartbeats 4000000 in
set_option maxRecDepth 100000 in
theorem L_m71 {X : zX} {l : Launch} {E : zG} {rm : Room} (hzs : zS E) (hst : l.stackTraces = false) (C : zC X cX10_ends RX10 6) (G : zGX X l E rm) {h : zH} {r : Nat} {x1 x2 x3 x4 : Int32} {x5 v : Int32} {Qr : Option Value → zH → Prop} {Qx : String → zH → Prop} (F : zF X (some .int) 0 0 Qr Qx) (hm : zMs h r) (hu : hI h 420 r = nI 8) (hv : hI h 434 r = v) (hq : Qr (some (.int v)) (sI (sRow (sI h 420 r (nI 7)) (r + 4) (ptF (aI (sI h 420 r (nI 7)) (r + 4)) (116 * 7) (aI (sI h 420 r (nI 7)) (r + 2)) 116)) 420 r (nI (7 + 1)))) : zV X 0 0 h 71 [(0, .ref r), (1, .int x1), (2, .int x2), (3, .int x3), (4, .int x4), (5, .int x5)] [] := by
  
  refine zV.aload_n C dX10_ends_71 rfl rfl ?_
  refine zV.dup C dX10_ends_72 rfl ?_
  refine zV.gIv 420 (k := 4) C dX10_ends_73 zcl_X10 (by decide) rfl lk_X10_58 (hm.1) rfl (hu) ?_
  refine zV.ic (v := nI 1) C dX10_ends_76 (by decide) ?_
  refine zV.isub C dX10_ends_77 ?_
  rw [show nI 8 - nI 1 = nI 7 from by decide]
  refine zV.pI 420 (k := 4) C dX10_ends_78 zcl_X10 (by decide) rfl lk_X10_58 rfl (hm.1) rfl ⟨rfl, rfl⟩ ?_
  exact zV.sub [0, 1, 2, 3, 4] rfl (L_m81 (h := sI h 420 r (nI 7)) hzs hst C G F hm hI_sI (by decide) ((hI_sI_f (by decide)).trans hv) hq)
set_option maxHeartbeats 4000000 in
set_option maxRecDepth 100000 in
theorem s_mends0 {l : Launch} {E : zG} (hzs : zS E) (hst : l.stackTraces = false) (h : zH) (r m : Nat) (us : List zGd) (g0 : zGd) (v a b c : Int32) (hm : zMs h r) (q : rKp h r us) (hU : ∀ u ∈ us, gR m u) (ht : rG (aI h (r + 2)) g0) (hR : gR m g0) (hv : hI h 434 r = v) : zMet l E yX10_ends cX10_ends 6 (some .int) ({ frames := 1, cells := 0, slots := 0, locals := 21 } : Room) 0 0 [.ref r, .int (nI 0), .int a, .int b, .int c] h (edQ h r us g0 v) (fun _ _ => False) := by
  refine zM_start hzs hst (by decide) (Nat.le_of_ble_eq_true rfl) (fun X C G F I => ?_)
  show zV X 0 0 _ 0 [(0, _), (1, _), (2, _), (3, _), (4, _)] []
  refine zV.iload_n C dX10_ends_0 rfl ?_
  refine zV.if_eq (tgt := 28) C dX10_ends_1 (by decide) (fun q1 => ?_) (fun q1 => ?_)
  · refine zV.aload_n C dX10_ends_28 rfl rfl ?_
    refine zV.gIv 420 (k := 4) C dX10_ends_29 zcl_X10 (by decide) rfl lk_X10_58 (hm.1) rfl (q.1) ?_
    refine zV.bi (v := nI 8) C dX10_ends_32 (by decide) ?_
    refine zV.icmp_ne (tgt := 81) C dX10_ends_34 (by decide) (fun q34 => ?_) (fun q34 => ?_)
    · have h8 : us.length < 8 := by have := q.2.1; have : us.length ≠ 8 := fun z => q34 (by rw [z]); omega
      exact L_m81 hzs hst C G F hm q.1 h8 hv (ends_A q hU ht hR h8)
    · have h8 : us.length = 8 := neq (by have := q.2.1; omega) (by decide) q34
      refine zV.ic (v := nI 0) C dX10_ends_37 (by decide) ?_
      refine zV.istore (lo' := [(0, _), (1, _), (2, _), (3, _), (4, _), (5, _)]) C dX10_ends_38 (by decide) rfl rfl rfl ?_
      have e := L_mshift hzs hst C G hm (x1 := nI 0) (x2 := a) (x3 := b) (x4 := c) (L_m71 hzs hst C G F hm (q.1.trans (by rw [h8])) hv (ends_B q hU ht hR h8)) 812 0 rfl
      rw [shL_0, sRow_id] at e
      exact e
  · exact absurd rfl q1
set_option maxHeartbeats 4000000 in
set_option maxRecDepth 100000 in
theorem s_mends1 {l : Launch} {E : zG} (hzs : zS E) (hst : l.stackTraces = false) (h : zH) (r : Nat) (a b c : Int32) (hm : zMs h r) : zMet l E yX10_ends cX10_ends 6 (some .int) ({ frames := 1, cells := 0, slots := 0, locals := 21 } : Room) 0 0 [.ref r, .int (nI 1), .int a, .int b, .int c] h (fun w h' => w = some (.int (nI 0)) ∧ h' = sI h 435 r a) (fun _ _ => False) := by
  refine zM_start hzs hst (by decide) (Nat.le_of_ble_eq_true rfl) (fun X C G F I => ?_)
  show zV X 0 0 _ 0 [(0, _), (1, _), (2, _), (3, _), (4, _)] []
  refine zV.iload_n C dX10_ends_0 rfl ?_
  refine zV.if_eq (tgt := 28) C dX10_ends_1 (by decide) (fun q1 => ?_) (fun q1 => ?_)
  · exact absurd q1 (by decide)
  · refine zV.aload_n C dX10_ends_4 rfl rfl ?_
    refine zV.iload_n C dX10_ends_5 rfl ?_
    refine zV.if_ge (tgt := 14) C dX10_ends_6 (by decide) (fun q6 => ?_) (fun q6 => ?_)
    · refine zV.iload_n C dX10_ends_14 rfl ?_
      refine zV.ic (v := nI 1) C dX10_ends_15 (by decide) ?_
      refine zV.icmp_ne (tgt := 23) C dX10_ends_16 (by decide) (fun q16 => ?_) (fun q16 => ?_)
      · exact absurd rfl q16
      · refine zV.iload_n C dX10_ends_19 rfl ?_
        refine zV.goto (tgt := 24) C dX10_ends_20 (by decide) ?_
        refine zV.callV (n := 1) C G dX10_ends_24 (s_mraises hzs hst h r hm a) rfl ⟨cd_X10_raises, lk_X10_54, im_X10_raises, se_X10_X10_raises, in_X10⟩ ⟨⟨by decide, by decide⟩, by decide⟩ rfl rfl rfl (hm.1) ⟨rfl, by decide⟩ (zaf ?_) (zno)
        refine zV.iret C F dX10_ends_27 rfl ?_
        exact ⟨rfl, rfl⟩
    · exact absurd (by decide) q6
set_option maxHeartbeats 4000000 in
set_option maxRecDepth 100000 in
theorem s_mends2 {l : Launch} {E : zG} (hzs : zS E) (hst : l.stackTraces = false) (h : zH) (r : Nat) (a b c : Int32) (hm : zMs h r) : zMet l E yX10_ends cX10_ends 6 (some .int) ({ frames := 1, cells := 0, slots := 0, locals := 21 } : Room) 0 0 [.ref r, .int (nI 2), .int a, .int b, .int c] h (fun w h' => w = some (.int (nI 0)) ∧ h' = sI h 435 r b) (fun _ _ => False) := by
  refine zM_start hzs hst (by decide) (Nat.le_of_ble_eq_true rfl) (fun X C G F I => ?_)
  show zV X 0 0 _ 0 [(0, _), (1, _), (2, _), (3, _), (4, _)] []
  refine zV.iload_n C dX10_ends_0 rfl ?_
  refine zV.if_eq (tgt := 28) C dX10_ends_1 (by decide) (fun q1 => ?_) (fun q1 => ?_)
  · exact absurd q1 (by decide)
  · refine zV.aload_n C dX10_ends_4 rfl rfl ?_
    refine zV.iload_n C dX10_ends_5 rfl ?_
    refine zV.if_ge (tgt := 14) C dX10_ends_6 (by decide) (fun q6 => ?_) (fun q6 => ?_)
    · refine zV.iload_n C dX10_ends_14 rfl ?_
      refine zV.ic (v := nI 1) C dX10_ends_15 (by decide) ?_
      refine zV.icmp_ne (tgt := 23) C dX10_ends_16 (by decide) (fun q16 => ?_) (fun q16 => ?_)
      · refine zV.iload_n C dX10_ends_23 rfl ?_
        refine zV.callV (n := 1) C G dX10_ends_24 (s_mraises hzs hst h r hm b) rfl ⟨cd_X10_raises, lk_X10_54, im_X10_raises, se_X10_X10_raises, in_X10⟩ ⟨⟨by decide, by decide⟩, by decide⟩ rfl rfl rfl (hm.1) ⟨rfl, by decide⟩ (zaf ?_) (zno)
        refine zV.iret C F dX10_ends_27 rfl ?_
        exact ⟨rfl, rfl⟩
      · exact absurd q16 (by decide)
    · exact absurd (by decide) q6
set_option maxHeartbeats 4000000 in
set_option maxRecDepth 100000 in
theorem s_mends3 {l : Launch} {E : zG} (hzs : zS E) (hst : l.stackTraces = false) (h : zH) (r : Nat) (a b c : Int32) (hm : zMs h r) : zMet l E yX10_ends cX10_ends 6 (some .int) ({ frames := 1, cells := 0, slots := 0, locals := 21 } : Room) 0 0 [.ref r, .int (-1), .int a, .int b, .int c] h (fun w h' => w = some (.int (nI 0)) ∧ h' = sI h 435 r c) (fun _ _ => False) := by
  refine zM_start hzs hst (by decide) (Nat.le_of_ble_eq_true rfl) (fun X C G F I => ?_)
  show zV X 0 0 _ 0 [(0, _), (1, _), (2, _), (3, _), (4, _)] []
  refine zV.iload_n C dX10_ends_0 rfl ?_
  refine zV.if_eq (tgt := 28) C dX10_ends_1 (by decide) (fun q1 => ?_) (fun q1 => ?_)
  · exact absurd q1 (by decide)
  · refine zV.aload_n C dX10_ends_4 rfl rfl ?_
    refine zV.iload_n C dX10_ends_5 rfl ?_
    refine zV.if_ge (tgt := 14) C dX10_ends_6 (by decide) (fun q6 => ?_) (fun q6 => ?_)
    · exact absurd q6 (by decide)
    · refine zV.iload C dX10_ends_9 rfl ?_
      refine zV.goto (tgt := 24) C dX10_ends_11 (by decide) ?_
      refine zV.callV (n := 1) C G dX10_ends_24 (s_mraises hzs hst h r hm c) rfl ⟨cd_X10_raises, lk_X10_54, im_X10_raises, se_X10_X10_raises, in_X10⟩ ⟨⟨by decide, by decide⟩, by decide⟩ rfl rfl rfl (hm.1) ⟨rfl, by decide⟩ (zaf ?_) (zno)
      refine zV.iret C F dX10_ends_27 rfl ?_
      exact ⟨rfl, rfl⟩
