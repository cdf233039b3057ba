/-! the law, call by call -/
set_option maxHeartbeats 4000000 in
set_option maxRecDepth 100000 in
/-- foldedShare -/
theorem L_c48 {X : zX} {l : Launch} {E : zG} (hzs : zS E) (hst : l.stackTraces = false) (C : zC X cL_law RL 9) (G : zGX X l E room_1) {h : zH} {kc ks sq a k L : Nat} {xs : Nat → Int32} (T : zSc E sq L xs) (hk : k < 512) (hi : 4 * k + 4 ≤ L) (hL : L ≤ 2048) (hc : kc + 30 ≤ 604272) (hs : ks + 5806 ≤ 7174744) (S : lwSx a k h) (kk : ∀ h', lwSx a (k + 1) h' → zV X (kc + 30) (ks + 5806) h' 3182 [(0, .retAddr sq), (1, .ref a), (2, .ref (a + 271)), (3, .ref (a + 280)), (4, .ref (a + 281)), (5, .int (nI (4 * k)))] []) : zV X kc ks h 2612 [(0, .retAddr sq), (1, .ref a), (2, .ref (a + 271)), (3, .ref (a + 280)), (4, .ref (a + 281)), (5, .int (nI (4 * k)))] [] := by
  obtain ⟨g, us, sn, off, rs, dt, cs, t, o, S⟩ := S
  have hw := LS_W S hk
  have hb := LS_big hk
  have hR := S.2.2.2.1
  obtain ⟨A, eA⟩ : ∃ A : zAn, A = fsA g := ⟨_, rfl⟩
  have okv : ∀ v, A = .inr v → ∃ w, v = .float w ∧ vf_n64 (FP.f2d w) ∧ Op.cmpValue (FP.dcmp (FP.f2d w) (FP.f2d w)) .l = 0 := by
    intro v e
    rw [eA] at e
    unfold fsA at e
    split at e
    · cases e
    · rename_i ne
      cases e
      have hl := gW_len hw
      have hc9 := List.countP_le_length (p := chF) (l := gC g)
      exact ⟨_, rfl, vfn _ (Nat.lt_succ_of_le hl) (len0 ne) _ (by omega), vfq _ (Nat.lt_succ_of_le hl) (len0 ne) _ (by omega)⟩
  have okx : ∀ Ex, A = .inl Ex → Ex = ARE := by
    intro Ex e
    rw [eA] at e
    unfold fsA at e
    split at e
    · cases e; rfl
    · cases e
  refine zV.aload_n C dL_law_2612 rfl rfl ?_
  refine zV.aload C dL_law_2613 rfl rfl ?_
  refine zV.callSW (n := 2) C G dL_law_2615 (s_LfoldedShare hzs hst h a (a + 281)  A (fun h' => h' = h) (by rw [eA]; exact s_foldedShare hzs hst h a g S.1.1.1 S.1.1.2.1.1 hw) S.1.1.1.1 (fun h1 e => by rw [show h1 = h from e]; exact S.2.1.2) (fun v e => by obtain ⟨w, e1, e2, _⟩ := okv v e; exact ⟨w, e1, e2⟩) okx) rfl ⟨cd_L_foldedShare, lk_L_339, st_L_foldedShare, in_L⟩ ⟨⟨by decide, by decide⟩, by decide⟩ rfl (zRmL rfl (by omega) (by omega)) rfl (zafX (fun r2 h2 q2 => ?_)) (zno)
  obtain ⟨rfl, h1, p1, rfl⟩ := q2
  obtain rfl : h = h1 := Eq.symm p1
  show zV X (kc + 1) (ks + 6) (lwHF A (a + 281) h) 2618 [(0, .retAddr sq), (1, .ref a), (2, .ref (a + 271)), (3, .ref (a + 280)), (4, .ref (a + 281)), (5, .int (nI (4 * k)))] [.int _]
  refine zV.istore (lo' := [(0, .retAddr sq), (1, .ref a), (2, .ref (a + 271)), (3, .ref (a + 280)), (4, .ref (a + 281)), (5, .int (nI (4 * k))), (6, _)]) C dL_law_2618 (by decide) rfl rfl rfl ?_
  have R2 := LS_r S (zXf.refl h a (a + 282)) (zWr_HF (A := A))
  refine zV.aload_n C dL_law_2620 rfl rfl ?_
  refine zV.callV (n := 0) C G dL_law_2621 (s_qfoldedShare hzs hst (lwHF A (a + 281) h) (a + 271) (60000 * k) g R2.1 R2.2.1 hR.1 (by omega)) rfl ⟨cd_X10_foldedShare, lk_L_341, im_X10_foldedShare, se_X10_X10_foldedShare, in_X10⟩ ⟨⟨by decide, by decide⟩, by decide⟩ rfl (zRmL rfl (by omega) (by omega)) rfl R2.1.1 ⟨rfl, by decide⟩ (zafX (fun r3 h3 q3 => ?_)) (zno)
  have q3 : mqQ (lwHF A (a + 281) h) (a + 271) A (fun _ => 1) (.float (FP.i2f (nI 0))) r3 h3 := by rw [eA] at q3 ⊢; exact q3
  obtain ⟨e0, rfl⟩ := q3
  have Sx := LSx_q (v := nI (anC A (fun _ => 1))) S (zWr_HF (A := A))
  obtain ⟨w, rfl⟩ : ∃ w, r3 = some (.float w) := by
    rcases A with Ex | v
    · exact ⟨_, e0⟩
    · obtain ⟨w, ew, _⟩ := okv v rfl; exact ⟨w, by rw [e0]; exact congrArg some ew⟩
  obtain ⟨H9, eH⟩ : ∃ H9, H9 = sI (lwHF A (a + 281) h) 435 (a + 271) (nI (anC A (fun _ => 1))) := ⟨_, rfl⟩
  have e1 : hI H9 435 (a + 271) = nI (anC A (fun _ => 1)) := by rw [eH]; exact hI_sI
  have e2 : nI (anC A (fun _ => 1)) = 0 → aD H9 (a + 281) 0 = FP.f2d w ∧ vf_n64 (FP.f2d w) ∧ Op.cmpValue (FP.dcmp (FP.f2d w) (FP.f2d w)) .l = 0 := by
    intro z
    rcases A with Ex | v
    · exact absurd z (show ¬ nI 1 = 0 by decide)
    · obtain ⟨w9, rfl, ew⟩ := okv v rfl
      cases e0
      rw [eH]
      exact ⟨if_pos ⟨rfl, rfl⟩, ew⟩
  show zV X (kc + 1) (ks + 6) (sI (lwHF A (a + 281) h) 435 (a + 271) (nI (anC A (fun _ => 1)))) 2624 [(0, .retAddr sq), (1, .ref a), (2, .ref (a + 271)), (3, .ref (a + 280)), (4, .ref (a + 281)), (5, .int (nI (4 * k))), (6, .int (nI (anC A (fun _ => 1))))] [.float w]
  rw [← eH]
  have Sx : lwSx a (k + 1) H9 := by rw [eH]; exact Sx
  have hm := LSx_r Sx
  have ho := LSx_od Sx
  have kk := zV.up (kc := kc + 1) (ks := ks + 6) (kc' := kc + 30) (ks' := ks + 5806) (by omega) (by omega) (kk H9 Sx)
  show zV X (kc + 1) (ks + 6) H9 2624 [(0, .retAddr sq), (1, .ref a), (2, .ref (a + 271)), (3, .ref (a + 280)), (4, .ref (a + 281)), (5, .int (nI (4 * k))), (6, .int (nI (anC A (fun _ => 1))))] [.float w]
  clear Sx eH e0
  generalize nI (anC A (fun _ => 1)) = c6 at e1 e2 ⊢
  refine zV.fstore C dL_law_2624 (by decide) (fun _ => rfl) ?_
  refine zV.aload_n C dL_law_2626 rfl rfl ?_
  refine zV.callV (n := 0) C G dL_law_2627 (s_mthrown hzs hst H9 (a + 271) hm) rfl ⟨cd_X10_thrown, lk_L_179, im_X10_thrown, se_X10_X10_thrown, in_X10⟩ ⟨⟨by decide, by decide⟩, by decide⟩ rfl (zRmL rfl (by omega) (by omega)) rfl hm.1 ⟨rfl, by decide⟩ (zaf ?_) (zno)
  refine zV.iload C dL_law_2630 rfl ?_
  refine zV.icmp_eq (tgt := 2637) C dL_law_2632 (by decide) (fun _ => ?_) (fun z => absurd e1 z)
  refine zV.iload C dL_law_2637 rfl ?_
  have kk : zV X (kc + 1) (ks + 6) H9 2675 [(7, .float w), (0, .retAddr sq), (1, .ref a), (2, .ref (a + 271)), (3, .ref (a + 280)), (4, .ref (a + 281)), (5, .int (nI (4 * k))), (6, .int c6)] [] := zV.goto (tgt := 3182) C dL_law_2675 (by decide) (zV.sub [1, 2, 3, 4, 5, 6] rfl kk)
  refine zV.if_ne (tgt := 2675) C dL_law_2639 (by decide) (fun _ => kk) (fun z => ?_)
  refine zV.aload C dL_law_2642 rfl rfl ?_
  refine zV.ic (v := nI 0) C dL_law_2644 (by decide) ?_
  refine zV.dald (j := 0) C dL_law_2645 ho.1 rfl (by rw [ho.2]; decide) (by decide) ?_
  refine zV.fload C dL_law_2646 rfl ?_
  refine zV.f2d C dL_law_2648 (e2 z).2.1 ?_
  refine zV.dcmp C dL_law_2649 ?_
  refine zV.if_eq (tgt := 2675) C dL_law_2650 (by decide) (fun _ => kk) (fun q => absurd ?_ q)
  rw [(e2 z).1]
  exact (e2 z).2.2
set_option maxHeartbeats 4000000 in
set_option maxRecDepth 100000 in
/-- isConsistent -/
theorem L_c49 {X : zX} {l : Launch} {E : zG} (hzs : zS E) (hst : l.stackTraces = false) (C : zC X cL_law RL 9) (G : zGX X l E room_1) {h : zH} {kc ks sq a k L : Nat} {xs : Nat → Int32} (T : zSc E sq L xs) (hk : k < 512) (hi : 4 * k + 4 ≤ L) (hL : L ≤ 2048) (hc : kc + 30 ≤ 604272) (hs : ks + 5806 ≤ 7174744) (S : lwSx a k h) (kk : ∀ h', lwSx a (k + 1) h' → zV X (kc + 30) (ks + 5806) h' 3182 [(0, .retAddr sq), (1, .ref a), (2, .ref (a + 271)), (3, .ref (a + 280)), (4, .ref (a + 281)), (5, .int (nI (4 * k)))] []) : zV X kc ks h 2678 [(0, .retAddr sq), (1, .ref a), (2, .ref (a + 271)), (3, .ref (a + 280)), (4, .ref (a + 281)), (5, .int (nI (4 * k)))] [] := by
  obtain ⟨g, us, sn, off, rs, dt, cs, t, o, S⟩ := S
  have hw := LS_W S hk
  have hb := LS_big hk
  have hR := S.2.2.2.1
  refine zV.aload_n C dL_law_2678 rfl rfl ?_
  refine zV.callV (n := 0) C G dL_law_2679 (s_isConsistent hzs hst h a (a + 282) g us sn off rs dt cs t o S.1.1 hw) rfl ⟨cd_X9_isConsistent, lk_L_342, im_X9_isConsistent, se_X9_X9_isConsistent, in_X9⟩ ⟨⟨by decide, by decide⟩, by decide⟩ rfl (zRmL rfl (by omega) (by omega)) rfl S.1.1.1.1 ⟨rfl, by decide⟩ (zafR (fun h1 p1 => ?_)) (zno)
  have R2 := LS_r S p1.1 zWr_0
  refine zV.aload_n C dL_law_2682 rfl rfl ?_
  refine zV.callV (n := 0) C G dL_law_2683 (s_qisConsistent hzs hst h1 (a + 271) R2.1) rfl ⟨cd_X10_isConsistent, lk_L_346, im_X10_isConsistent, se_X10_X10_isConsistent, in_X10⟩ ⟨⟨by decide, by decide⟩, by decide⟩ rfl (zRmL rfl (by omega) (by omega)) rfl R2.1.1 ⟨rfl, by decide⟩ (zaf ?_) (zno)
  have Sx := LSx_m (v := nI 0) S p1 zWr_0
  refine zV.icmp_eq (tgt := 3182) C dL_law_2686 (by decide) (fun _ => ?_) (fun z => absurd rfl z)
  exact zV.up (kc' := kc + 30) (ks' := ks + 5806) (by omega) (by omega) (kk _ Sx)
set_option maxHeartbeats 4000000 in
set_option maxRecDepth 100000 in
/-- writeLawn -/
theorem L_c50 {X : zX} {l : Launch} {E : zG} (hzs : zS E) (hst : l.stackTraces = false) (C : zC X cL_law RL 9) (G : zGX X l E room_1) {h : zH} {kc ks sq a k L : Nat} {xs : Nat → Int32} (T : zSc E sq L xs) (hk : k < 512) (hi : 4 * k + 4 ≤ L) (hL : L ≤ 2048) (hc : kc + 30 ≤ 604272) (hs : ks + 5806 ≤ 7174744) (S : lwSx a k h) (kk : ∀ h', lwSx a (k + 1) h' → zV X (kc + 30) (ks + 5806) h' 3182 [(0, .retAddr sq), (1, .ref a), (2, .ref (a + 271)), (3, .ref (a + 280)), (4, .ref (a + 281)), (5, .int (nI (4 * k)))] []) : zV X kc ks h 2691 [(0, .retAddr sq), (1, .ref a), (2, .ref (a + 271)), (3, .ref (a + 280)), (4, .ref (a + 281)), (5, .int (nI (4 * k)))] [] := by
  obtain ⟨g, us, sn, off, rs, dt, cs, t, o, S⟩ := S
  have hw := LS_W S hk
  have hb := LS_big hk
  have hR := S.2.2.2.1
  obtain ⟨A, eA⟩ : ∃ A : zAn, A = wlA g (xs (4 * k + 1)) := ⟨_, rfl⟩
  have ok : okA A (fun Ex => Ex = IOB) := by rw [eA]; unfold wlA; exact okA_law rfl (fun l => okA_v)
  have hX9 : gX g ≤ 100000 := by have := S.2.2.2.2.1.1; omega
  have hX8 : gX g ≤ 100000000 := by omega
  refine zV.aload_n C dL_law_2691 rfl rfl ?_
  refine zV.arg (p := 2692) C G T hi hL (c := 1) (by decide) dL_law_2692 dL_law_2693 dL_law_2695 dL_law_2696 dL_law_2697 (by decide) rfl rfl ?_
  refine zV.aload_n C dL_law_2698 rfl rfl ?_
  refine zV.callSW (n := 3) C G dL_law_2699 (s_LwriteLawn hzs hst h a (a + 280) (xs (4 * k + 1)) A (fun h' => zXf h h' a (a + 282) ∧ zXa h' a (a + 282) g us sn off rs dt cs t (wlO g (xs (4 * k + 1)) o)) (by rw [eA]; exact s_writeLawn hzs hst h a (a + 282) (xs (4 * k + 1)) g us sn off rs dt cs t o S.1.1 hw hX8 hR.1.1.2.2.1 S.2.2.1) S.1.1.1.1 (fun h1 p => LS_ob S p.1) ok.1 ok.2) rfl ⟨cd_L_writeLawn, lk_L_347, st_L_writeLawn, in_L⟩ ⟨⟨by decide, by decide⟩, by decide⟩ rfl (zRmL rfl (by omega) (by omega)) rfl (zafX (fun r2 h2 q2 => ?_)) (zno)
  obtain ⟨rfl, h1, p1, rfl⟩ := q2
  show zV X (kc + 30) (ks + 5806) (lwH A (a + 280) h1) 2702 [(0, .retAddr sq), (1, .ref a), (2, .ref (a + 271)), (3, .ref (a + 280)), (4, .ref (a + 281)), (5, .int (nI (4 * k)))] [.int _]
  refine zV.istore (lo' := [(0, .retAddr sq), (1, .ref a), (2, .ref (a + 271)), (3, .ref (a + 280)), (4, .ref (a + 281)), (5, .int (nI (4 * k))), (6, _)]) C dL_law_2702 (by decide) rfl rfl rfl ?_
  have R2 := LS_r S p1.1 (zWr_H (A := A))
  refine zV.aload_n C dL_law_2704 rfl rfl ?_
  refine zV.arg (p := 2705) C G T hi hL (c := 1) (by decide) dL_law_2705 dL_law_2706 dL_law_2708 dL_law_2709 dL_law_2710 (by decide) rfl rfl ?_
  refine zV.callV (n := 1) C G dL_law_2711 (s_qwriteLawn hzs hst (lwH A (a + 280) h1) (a + 271) (60000 * k) g us sn off rs dt cs t o R2 hR.1 (by omega) hX9 (xs (4 * k + 1))) rfl ⟨cd_X10_writeLawn, lk_L_349, im_X10_writeLawn, se_X10_X10_writeLawn, in_X10⟩ ⟨⟨by decide, by decide⟩, by decide⟩ rfl (zRmL rfl (by omega) (by omega)) rfl R2.1.1 ⟨rfl, by decide⟩ (zafX (fun r3 h3 q3 => ?_)) (zno)
  have Sx := LSx_s S p1.1 p1.2 (zWr_H (A := A)) q3
  obtain ⟨e0, e1, e2, _⟩ := q3
  have e1 : hI h3 435 (a + 271) = nI (anC A (fun Ex => 1)) := by rw [eA]; exact e1
  have e0 : r3 = some (anV A (.int (nI 0))) := by rw [eA]; exact e0
  obtain ⟨b, rfl, f1, f2⟩ := fct (d := nI 0) (ob := a + 280) (h1 := h1) ok.1 (fun Ex _ => cfn1 Ex) e0 e1 e2.1.2.2.2.2.2.1
  exact zV.up (kc' := kc + 30) (ks' := ks + 5806) (by omega) (by omega) (L_tail hzs hst C G (p := 2714) dL_law_2714 dL_law_2716 dL_law_2717 dL_law_2720 dL_law_2722 dL_law_2727 dL_law_2729 dL_law_2732 dL_law_2733 dL_law_2734 dL_law_2735 dL_law_2737 dL_law_2738 dL_law_2739 dL_law_2744 (by decide) hc hs (LSx_r Sx) (LSx_ob Sx) f1 f2 (kk _ Sx))
set_option maxHeartbeats 4000000 in
set_option maxRecDepth 100000 in
/-- outputAt -/
theorem L_c51 {X : zX} {l : Launch} {E : zG} (hzs : zS E) (hst : l.stackTraces = false) (C : zC X cL_law RL 9) (G : zGX X l E room_1) {h : zH} {kc ks sq a k L : Nat} {xs : Nat → Int32} (T : zSc E sq L xs) (hk : k < 512) (hi : 4 * k + 4 ≤ L) (hL : L ≤ 2048) (hc : kc + 30 ≤ 604272) (hs : ks + 5806 ≤ 7174744) (S : lwSx a k h) (kk : ∀ h', lwSx a (k + 1) h' → zV X (kc + 30) (ks + 5806) h' 3182 [(0, .retAddr sq), (1, .ref a), (2, .ref (a + 271)), (3, .ref (a + 280)), (4, .ref (a + 281)), (5, .int (nI (4 * k)))] []) : zV X kc ks h 2747 [(0, .retAddr sq), (1, .ref a), (2, .ref (a + 271)), (3, .ref (a + 280)), (4, .ref (a + 281)), (5, .int (nI (4 * k)))] [] := by
  obtain ⟨g, us, sn, off, rs, dt, cs, t, o, S⟩ := S
  have hw := LS_W S hk
  have hb := LS_big hk
  have hR := S.2.2.2.1
  obtain ⟨A, eA⟩ : ∃ A : zAn, A = (ouA o (xs (4 * k + 1))) := ⟨_, rfl⟩
  have ok : okA A (fun Ex => Ex = IOB) := by rw [eA]; exact okA_ou rfl
  refine zV.aload_n C dL_law_2747 rfl rfl ?_
  refine zV.arg (p := 2748) C G T hi hL (c := 1) (by decide) dL_law_2748 dL_law_2749 dL_law_2751 dL_law_2752 dL_law_2753 (by decide) rfl rfl ?_
  refine zV.aload_n C dL_law_2754 rfl rfl ?_
  refine zV.callSW (n := 3) C G dL_law_2755 (s_LoutputAt hzs hst h a (a + 280) (xs (4 * k + 1)) A (fun h' => h' = h) (by rw [eA]; exact s_outputAt hzs hst h a (a + 282) (xs (4 * k + 1)) g us sn off rs dt cs t o S.1.1) S.1.1.1.1 (fun h1 e => by rw [show h1 = h from e]; exact S.2.1.1) ok.1 ok.2) rfl ⟨cd_L_outputAt, lk_L_350, st_L_outputAt, in_L⟩ ⟨⟨by decide, by decide⟩, by decide⟩ rfl (zRmL rfl (by omega) (by omega)) rfl (zafX (fun r2 h2 q2 => ?_)) (zno)
  obtain ⟨rfl, h1, p1, rfl⟩ := q2
  obtain rfl : h = h1 := Eq.symm p1
  show zV X (kc + 1) (ks + 6) (lwH A (a + 280) h) 2758 [(0, .retAddr sq), (1, .ref a), (2, .ref (a + 271)), (3, .ref (a + 280)), (4, .ref (a + 281)), (5, .int (nI (4 * k)))] [.int _]
  refine zV.istore (lo' := [(0, .retAddr sq), (1, .ref a), (2, .ref (a + 271)), (3, .ref (a + 280)), (4, .ref (a + 281)), (5, .int (nI (4 * k))), (6, _)]) C dL_law_2758 (by decide) rfl rfl rfl ?_
  have R2 := LS_r S (zXf.refl h a (a + 282)) (zWr_H (A := A))
  refine zV.aload_n C dL_law_2760 rfl rfl ?_
  refine zV.arg (p := 2761) C G T hi hL (c := 1) (by decide) dL_law_2761 dL_law_2762 dL_law_2764 dL_law_2765 dL_law_2766 (by decide) rfl rfl ?_
  refine zV.callV (n := 1) C G dL_law_2767 (s_qoutputAt hzs hst (lwH A (a + 280) h) (a + 271) R2.1 o R2.2.2.2.2.2.2 (xs (4 * k + 1))) rfl ⟨cd_X10_outputAt, lk_L_352, im_X10_outputAt, se_X10_X10_outputAt, in_X10⟩ ⟨⟨by decide, by decide⟩, by decide⟩ rfl (zRmL rfl (by omega) (by omega)) rfl R2.1.1 ⟨rfl, by decide⟩ (zafX (fun r3 h3 q3 => ?_)) (zno)
  have q3 : mqQ (lwH A (a + 280) h) (a + 271) A (fun Ex => 1) (.int (nI 97)) r3 h3 := by rw [eA] at q3 ⊢; exact q3
  obtain ⟨e0, rfl⟩ := q3
  have Sx := LSx_q (v := nI (anC A (fun Ex => 1))) S (zWr_H (A := A))
  obtain ⟨b, rfl, f1, f2⟩ := fct (d := nI 97) (ob := a + 280) (h1 := h) ok.1 (fun Ex _ => cfn1 Ex) e0 (hI_sI (h := (lwH A (a + 280) h))) rfl
  exact zV.up (kc' := kc + 30) (ks' := ks + 5806) (by omega) (by omega) (L_tail hzs hst C G (p := 2770) dL_law_2770 dL_law_2772 dL_law_2773 dL_law_2776 dL_law_2778 dL_law_2783 dL_law_2785 dL_law_2788 dL_law_2789 dL_law_2790 dL_law_2791 dL_law_2793 dL_law_2794 dL_law_2795 dL_law_2800 (by decide) hc hs (LSx_r Sx) (LSx_ob Sx) f1 f2 (kk _ Sx))
set_option maxHeartbeats 4000000 in
set_option maxRecDepth 100000 in
/-- appendInput -/
theorem L_c52 {X : zX} {l : Launch} {E : zG} (hzs : zS E) (hst : l.stackTraces = false) (C : zC X cL_law RL 9) (G : zGX X l E room_1) {h : zH} {kc ks sq a k L : Nat} {xs : Nat → Int32} (T : zSc E sq L xs) (hk : k < 512) (hi : 4 * k + 4 ≤ L) (hL : L ≤ 2048) (hc : kc + 30 ≤ 604272) (hs : ks + 5806 ≤ 7174744) (S : lwSx a k h) (kk : ∀ h', lwSx a (k + 1) h' → zV X (kc + 30) (ks + 5806) h' 3182 [(0, .retAddr sq), (1, .ref a), (2, .ref (a + 271)), (3, .ref (a + 280)), (4, .ref (a + 281)), (5, .int (nI (4 * k)))] []) : zV X kc ks h 2803 [(0, .retAddr sq), (1, .ref a), (2, .ref (a + 271)), (3, .ref (a + 280)), (4, .ref (a + 281)), (5, .int (nI (4 * k)))] [] := by
  obtain ⟨g, us, sn, off, rs, dt, cs, t, o, S⟩ := S
  have hw := LS_W S hk
  have hb := LS_big hk
  have hR := S.2.2.2.1
  obtain ⟨A, eA⟩ : ∃ A : zAn, A = aiA t ((xs (4 * k + 1)).toUInt32 % 65536).toInt32 := ⟨_, rfl⟩
  have ok : okA A (fun Ex => Ex = IAE ∨ Ex = ISE) := by rw [eA]; exact okA_ai (Or.inl rfl) (Or.inr rfl)
  refine zV.aload_n C dL_law_2803 rfl rfl ?_
  refine zV.arg (p := 2804) C G T hi hL (c := 1) (by decide) dL_law_2804 dL_law_2805 dL_law_2807 dL_law_2808 dL_law_2809 (by decide) rfl rfl ?_
  refine zV.i2c C dL_law_2810 ?_
  refine zV.aload_n C dL_law_2811 rfl rfl ?_
  refine zV.callSW (n := 3) C G dL_law_2812 (s_LappendInput hzs hst h a (a + 280) ((xs (4 * k + 1)).toUInt32 % 65536).toInt32 A (aiP h a (a + 282) ((xs (4 * k + 1)).toUInt32 % 65536).toInt32 g us sn off rs dt cs t o) (by rw [eA]; exact s_appendInput hzs hst h a (a + 282) ((xs (4 * k + 1)).toUInt32 % 65536).toInt32 g us sn off rs dt cs t o S.1.1) S.1.1.1.1 (fun h1 p => LS_ob S p.1) ok.1 ok.2) rfl ⟨cd_L_appendInput, lk_L_353, st_L_appendInput, in_L⟩ ⟨⟨by decide, by decide⟩, by decide⟩ rfl (zRmL rfl (by omega) (by omega)) rfl (zafX (fun r2 h2 q2 => ?_)) (zno)
  obtain ⟨rfl, h1, p1, rfl⟩ := q2
  show zV X (kc + 1) (ks + 6) (lwH A (a + 280) h1) 2815 [(0, .retAddr sq), (1, .ref a), (2, .ref (a + 271)), (3, .ref (a + 280)), (4, .ref (a + 281)), (5, .int (nI (4 * k)))] [.int _]
  refine zV.istore (lo' := [(0, .retAddr sq), (1, .ref a), (2, .ref (a + 271)), (3, .ref (a + 280)), (4, .ref (a + 281)), (5, .int (nI (4 * k))), (6, _)]) C dL_law_2815 (by decide) rfl rfl rfl ?_
  have R2 := LS_r S p1.1 (zWr_H (A := A))
  refine zV.aload_n C dL_law_2817 rfl rfl ?_
  refine zV.arg (p := 2818) C G T hi hL (c := 1) (by decide) dL_law_2818 dL_law_2819 dL_law_2821 dL_law_2822 dL_law_2823 (by decide) rfl rfl ?_
  refine zV.i2c C dL_law_2824 ?_
  refine zV.callV (n := 1) C G dL_law_2825 (s_qappendInput hzs hst (lwH A (a + 280) h1) (a + 271) (60000 * k) g us sn off rs dt cs t o R2 hR ((xs (4 * k + 1)).toUInt32 % 65536).toInt32) rfl ⟨cd_X10_appendInput, lk_L_356, im_X10_appendInput, se_X10_X10_appendInput, in_X10⟩ ⟨⟨by decide, by decide⟩, by decide⟩ rfl (zRmL rfl (by omega) (by omega)) rfl R2.1.1 ⟨rfl, by decide⟩ (zafX (fun r3 h3 q3 => ?_)) (zno)
  have Sx := LSx_s S p1.1 p1.2 (zWr_H (A := A)) q3
  obtain ⟨e0, e1, e2, _⟩ := q3
  have e1 : hI h3 435 (a + 271) = nI (anC A (fun Ex => if Ex = IAE then 1 else 2)) := by rw [eA]; exact e1
  have e0 : r3 = some (anV A (.int (nI 0))) := by rw [eA]; exact e0
  obtain ⟨b, rfl, f1, f2⟩ := fct (d := nI 0) (ob := a + 280) (h1 := h1) ok.1 (fun Ex _ => cfn2 Ex) e0 e1 e2.1.2.2.2.2.2.1
  exact zV.up (kc' := kc + 30) (ks' := ks + 5806) (by omega) (by omega) (L_tail hzs hst C G (p := 2828) dL_law_2828 dL_law_2830 dL_law_2831 dL_law_2834 dL_law_2836 dL_law_2841 dL_law_2843 dL_law_2846 dL_law_2847 dL_law_2848 dL_law_2849 dL_law_2851 dL_law_2852 dL_law_2853 dL_law_2858 (by decide) hc hs (LSx_r Sx) (LSx_ob Sx) f1 f2 (kk _ Sx))
set_option maxHeartbeats 4000000 in
set_option maxRecDepth 100000 in
/-- execute -/
theorem L_c53 {X : zX} {l : Launch} {E : zG} (hzs : zS E) (hst : l.stackTraces = false) (C : zC X cL_law RL 9) (G : zGX X l E room_1) {h : zH} {kc ks sq a k L : Nat} {xs : Nat → Int32} (T : zSc E sq L xs) (hk : k < 512) (hi : 4 * k + 4 ≤ L) (hL : L ≤ 2048) (hc : kc + 30 ≤ 604272) (hs : ks + 5806 ≤ 7174744) (S : lwSx a k h) (kk : ∀ h', lwSx a (k + 1) h' → zV X (kc + 30) (ks + 5806) h' 3182 [(0, .retAddr sq), (1, .ref a), (2, .ref (a + 271)), (3, .ref (a + 280)), (4, .ref (a + 281)), (5, .int (nI (4 * k)))] []) : zV X kc ks h 2861 [(0, .retAddr sq), (1, .ref a), (2, .ref (a + 271)), (3, .ref (a + 280)), (4, .ref (a + 281)), (5, .int (nI (4 * k)))] [] := by
  obtain ⟨g, us, sn, off, rs, dt, cs, t, o, S⟩ := S
  have hw := LS_W S hk
  have hb := LS_big hk
  have hR := S.2.2.2.1
  obtain ⟨A, eA⟩ : ∃ A : zAn, A = exA g t := ⟨_, rfl⟩
  have ok : okA A (fun Ex => Ex = IAE ∨ Ex = ISE ∨ Ex = UOE) := by rw [eA]; exact okA_ex (Or.inl rfl) (Or.inr (Or.inl rfl)) (Or.inr (Or.inr rfl))
  refine zV.aload_n C dL_law_2861 rfl rfl ?_
  refine zV.aload_n C dL_law_2862 rfl rfl ?_
  refine zV.callSW (n := 2) C G dL_law_2863 (s_Lexecute hzs hst h a (a + 280)  A (exP h a (a + 282) g us sn off rs dt cs t o) (by rw [eA]; exact s_execute hzs hst h a (a + 282) (60000 * k) g us sn off rs dt cs t o S.1.1 hR.1 hb) S.1.1.1.1 (fun h1 p => LS_ob S p.1) ok.1 ok.2) rfl ⟨cd_L_execute, lk_L_357, st_L_execute, in_L⟩ ⟨⟨by decide, by decide⟩, by decide⟩ rfl (zRmL rfl (by omega) (by omega)) rfl (zafX (fun r2 h2 q2 => ?_)) (zno)
  obtain ⟨rfl, h1, p1, rfl⟩ := q2
  show zV X (kc + 1) (ks + 6) (lwH A (a + 280) h1) 2866 [(0, .retAddr sq), (1, .ref a), (2, .ref (a + 271)), (3, .ref (a + 280)), (4, .ref (a + 281)), (5, .int (nI (4 * k)))] [.int _]
  refine zV.istore (lo' := [(0, .retAddr sq), (1, .ref a), (2, .ref (a + 271)), (3, .ref (a + 280)), (4, .ref (a + 281)), (5, .int (nI (4 * k))), (6, _)]) C dL_law_2866 (by decide) rfl rfl rfl ?_
  have R2 := LS_r S p1.1 (zWr_H (A := A))
  refine zV.aload_n C dL_law_2868 rfl rfl ?_
  refine zV.callV (n := 0) C G dL_law_2869 (s_qexecute hzs hst (lwH A (a + 280) h1) (a + 271) (60000 * k) g us sn off rs dt cs t o R2 hR hb) rfl ⟨cd_X10_execute, lk_L_360, im_X10_execute, se_X10_X10_execute, in_X10⟩ ⟨⟨by decide, by decide⟩, by decide⟩ rfl (zRmL rfl (by omega) (by omega)) rfl R2.1.1 ⟨rfl, by decide⟩ (zafX (fun r3 h3 q3 => ?_)) (zno)
  have Sx := LSx_ex S p1 (zWr_H (A := A)) q3
  obtain ⟨e0, e1, e2, _⟩ := q3
  have e1 : hI h3 435 (a + 271) = nI (anC A (fun Ex => if Ex = IAE then 1 else if Ex = ISE then 2 else 3)) := by rw [eA]; exact e1
  have e0 : r3 = some (anV A (.int (nI 0))) := by rw [eA]; exact e0
  obtain ⟨b, rfl, f1, f2⟩ := fct (d := nI 0) (ob := a + 280) (h1 := h1) ok.1 (fun Ex _ => cfn3 Ex) e0 e1 e2.1.2.2.2.2.2.1
  exact zV.up (kc' := kc + 30) (ks' := ks + 5806) (by omega) (by omega) (L_tail hzs hst C G (p := 2872) dL_law_2872 dL_law_2874 dL_law_2875 dL_law_2878 dL_law_2880 dL_law_2885 dL_law_2887 dL_law_2890 dL_law_2891 dL_law_2892 dL_law_2893 dL_law_2895 dL_law_2896 dL_law_2897 dL_law_2902 (by decide) hc hs (LSx_r Sx) (LSx_ob Sx) f1 f2 (kk _ Sx))
set_option maxHeartbeats 4000000 in
set_option maxRecDepth 100000 in
/-- syntaxErrorOffset -/
theorem L_c54 {X : zX} {l : Launch} {E : zG} (hzs : zS E) (hst : l.stackTraces = false) (C : zC X cL_law RL 9) (G : zGX X l E room_1) {h : zH} {kc ks sq a k L : Nat} {xs : Nat → Int32} (T : zSc E sq L xs) (hk : k < 512) (hi : 4 * k + 4 ≤ L) (hL : L ≤ 2048) (hc : kc + 30 ≤ 604272) (hs : ks + 5806 ≤ 7174744) (S : lwSx a k h) (kk : ∀ h', lwSx a (k + 1) h' → zV X (kc + 30) (ks + 5806) h' 3182 [(0, .retAddr sq), (1, .ref a), (2, .ref (a + 271)), (3, .ref (a + 280)), (4, .ref (a + 281)), (5, .int (nI (4 * k)))] []) : zV X kc ks h 2905 [(0, .retAddr sq), (1, .ref a), (2, .ref (a + 271)), (3, .ref (a + 280)), (4, .ref (a + 281)), (5, .int (nI (4 * k)))] [] := by
  obtain ⟨g, us, sn, off, rs, dt, cs, t, o, S⟩ := S
  have hw := LS_W S hk
  have hb := LS_big hk
  have hR := S.2.2.2.1
  obtain ⟨A, eA⟩ : ∃ A : zAn, A = (elA off) := ⟨_, rfl⟩
  have ok : okA A (fun Ex => Ex = NSE) := by rw [eA]; exact okA_el rfl
  refine zV.aload_n C dL_law_2905 rfl rfl ?_
  refine zV.aload_n C dL_law_2906 rfl rfl ?_
  refine zV.callSW (n := 2) C G dL_law_2907 (s_LsyntaxErrorOffset hzs hst h a (a + 280)  A (fun h' => h' = h) (by rw [eA]; exact s_syntaxErrorOffset hzs hst h a (a + 282) g us sn off rs dt cs t o S.1.1) S.1.1.1.1 (fun h1 e => by rw [show h1 = h from e]; exact S.2.1.1) ok.1 ok.2) rfl ⟨cd_L_syntaxErrorOffset, lk_L_361, st_L_syntaxErrorOffset, in_L⟩ ⟨⟨by decide, by decide⟩, by decide⟩ rfl (zRmL rfl (by omega) (by omega)) rfl (zafX (fun r2 h2 q2 => ?_)) (zno)
  obtain ⟨rfl, h1, p1, rfl⟩ := q2
  obtain rfl : h = h1 := Eq.symm p1
  show zV X (kc + 1) (ks + 6) (lwH A (a + 280) h) 2910 [(0, .retAddr sq), (1, .ref a), (2, .ref (a + 271)), (3, .ref (a + 280)), (4, .ref (a + 281)), (5, .int (nI (4 * k)))] [.int _]
  refine zV.istore (lo' := [(0, .retAddr sq), (1, .ref a), (2, .ref (a + 271)), (3, .ref (a + 280)), (4, .ref (a + 281)), (5, .int (nI (4 * k))), (6, _)]) C dL_law_2910 (by decide) rfl rfl rfl ?_
  have R2 := LS_r S (zXf.refl h a (a + 282)) (zWr_H (A := A))
  refine zV.aload_n C dL_law_2912 rfl rfl ?_
  refine zV.callV (n := 0) C G dL_law_2913 (s_qsyntaxErrorOffset hzs hst (lwH A (a + 280) h) (a + 271) R2.1 off R2.2.2.2.2.1.1 S.2.2.2.2.2.1) rfl ⟨cd_X10_syntaxErrorOffset, lk_L_363, im_X10_syntaxErrorOffset, se_X10_X10_syntaxErrorOffset, in_X10⟩ ⟨⟨by decide, by decide⟩, by decide⟩ rfl (zRmL rfl (by omega) (by omega)) rfl R2.1.1 ⟨rfl, by decide⟩ (zafX (fun r3 h3 q3 => ?_)) (zno)
  have q3 : mqQ (lwH A (a + 280) h) (a + 271) A (fun Ex => 1) (.int (nI 0)) r3 h3 := by rw [eA] at q3 ⊢; exact q3
  obtain ⟨e0, rfl⟩ := q3
  have Sx := LSx_q (v := nI (anC A (fun Ex => 1))) S (zWr_H (A := A))
  obtain ⟨b, rfl, f1, f2⟩ := fct (d := nI 0) (ob := a + 280) (h1 := h) ok.1 (fun Ex _ => cfn1 Ex) e0 (hI_sI (h := (lwH A (a + 280) h))) rfl
  exact zV.up (kc' := kc + 30) (ks' := ks + 5806) (by omega) (by omega) (L_tail hzs hst C G (p := 2916) dL_law_2916 dL_law_2918 dL_law_2919 dL_law_2922 dL_law_2924 dL_law_2929 dL_law_2931 dL_law_2934 dL_law_2935 dL_law_2936 dL_law_2937 dL_law_2939 dL_law_2940 dL_law_2941 dL_law_2946 (by decide) hc hs (LSx_r Sx) (LSx_ob Sx) f1 f2 (kk _ Sx))
set_option maxHeartbeats 4000000 in
set_option maxRecDepth 100000 in
/-- rejectionReason -/
theorem L_c55 {X : zX} {l : Launch} {E : zG} (hzs : zS E) (hst : l.stackTraces = false) (C : zC X cL_law RL 9) (G : zGX X l E room_1) {h : zH} {kc ks sq a k L : Nat} {xs : Nat → Int32} (T : zSc E sq L xs) (hk : k < 512) (hi : 4 * k + 4 ≤ L) (hL : L ≤ 2048) (hc : kc + 30 ≤ 604272) (hs : ks + 5806 ≤ 7174744) (S : lwSx a k h) (kk : ∀ h', lwSx a (k + 1) h' → zV X (kc + 30) (ks + 5806) h' 3182 [(0, .retAddr sq), (1, .ref a), (2, .ref (a + 271)), (3, .ref (a + 280)), (4, .ref (a + 281)), (5, .int (nI (4 * k)))] []) : zV X kc ks h 2949 [(0, .retAddr sq), (1, .ref a), (2, .ref (a + 271)), (3, .ref (a + 280)), (4, .ref (a + 281)), (5, .int (nI (4 * k)))] [] := by
  obtain ⟨g, us, sn, off, rs, dt, cs, t, o, S⟩ := S
  have hw := LS_W S hk
  have hb := LS_big hk
  have hR := S.2.2.2.1
  obtain ⟨A, eA⟩ : ∃ A : zAn, A = (rjA rs rs) := ⟨_, rfl⟩
  have ok : okA A (fun Ex => Ex = NSE) := by rw [eA]; exact okA_rj rfl
  refine zV.aload_n C dL_law_2949 rfl rfl ?_
  refine zV.aload_n C dL_law_2950 rfl rfl ?_
  refine zV.callSW (n := 2) C G dL_law_2951 (s_LrejectionReason hzs hst h a (a + 280)  A (fun h' => h' = h) (by rw [eA]; exact s_rejectionReason hzs hst h a (a + 282) g us sn off rs dt cs t o S.1.1) S.1.1.1.1 (fun h1 e => by rw [show h1 = h from e]; exact S.2.1.1) ok.1 ok.2) rfl ⟨cd_L_rejectionReason, lk_L_364, st_L_rejectionReason, in_L⟩ ⟨⟨by decide, by decide⟩, by decide⟩ rfl (zRmL rfl (by omega) (by omega)) rfl (zafX (fun r2 h2 q2 => ?_)) (zno)
  obtain ⟨rfl, h1, p1, rfl⟩ := q2
  obtain rfl : h = h1 := Eq.symm p1
  show zV X (kc + 1) (ks + 6) (lwH A (a + 280) h) 2954 [(0, .retAddr sq), (1, .ref a), (2, .ref (a + 271)), (3, .ref (a + 280)), (4, .ref (a + 281)), (5, .int (nI (4 * k)))] [.int _]
  refine zV.istore (lo' := [(0, .retAddr sq), (1, .ref a), (2, .ref (a + 271)), (3, .ref (a + 280)), (4, .ref (a + 281)), (5, .int (nI (4 * k))), (6, _)]) C dL_law_2954 (by decide) rfl rfl rfl ?_
  have R2 := LS_r S (zXf.refl h a (a + 282)) (zWr_H (A := A))
  refine zV.aload_n C dL_law_2956 rfl rfl ?_
  refine zV.callV (n := 0) C G dL_law_2957 (s_qrejectionReason hzs hst (lwH A (a + 280) h) (a + 271) R2.1 rs R2.2.2.2.2.1.2.1) rfl ⟨cd_X10_rejectionReason, lk_L_366, im_X10_rejectionReason, se_X10_X10_rejectionReason, in_X10⟩ ⟨⟨by decide, by decide⟩, by decide⟩ rfl (zRmL rfl (by omega) (by omega)) rfl R2.1.1 ⟨rfl, by decide⟩ (zafX (fun r3 h3 q3 => ?_)) (zno)
  have q3 : mqQ (lwH A (a + 280) h) (a + 271) A (fun Ex => 1) (.int (rs)) r3 h3 := by rw [eA] at q3 ⊢; exact q3
  obtain ⟨e0, rfl⟩ := q3
  have Sx := LSx_q (v := nI (anC A (fun Ex => 1))) S (zWr_H (A := A))
  obtain ⟨b, rfl, f1, f2⟩ := fct (d := rs) (ob := a + 280) (h1 := h) ok.1 (fun Ex _ => cfn1 Ex) e0 (hI_sI (h := (lwH A (a + 280) h))) rfl
  exact zV.up (kc' := kc + 30) (ks' := ks + 5806) (by omega) (by omega) (L_tail hzs hst C G (p := 2960) dL_law_2960 dL_law_2962 dL_law_2963 dL_law_2966 dL_law_2968 dL_law_2973 dL_law_2975 dL_law_2978 dL_law_2979 dL_law_2980 dL_law_2981 dL_law_2983 dL_law_2984 dL_law_2985 dL_law_2990 (by decide) hc hs (LSx_r Sx) (LSx_ob Sx) f1 f2 (kk _ Sx))
set_option maxHeartbeats 4000000 in
set_option maxRecDepth 100000 in
/-- rejectionDetail -/
theorem L_c56 {X : zX} {l : Launch} {E : zG} (hzs : zS E) (hst : l.stackTraces = false) (C : zC X cL_law RL 9) (G : zGX X l E room_1) {h : zH} {kc ks sq a k L : Nat} {xs : Nat → Int32} (T : zSc E sq L xs) (hk : k < 512) (hi : 4 * k + 4 ≤ L) (hL : L ≤ 2048) (hc : kc + 30 ≤ 604272) (hs : ks + 5806 ≤ 7174744) (S : lwSx a k h) (kk : ∀ h', lwSx a (k + 1) h' → zV X (kc + 30) (ks + 5806) h' 3182 [(0, .retAddr sq), (1, .ref a), (2, .ref (a + 271)), (3, .ref (a + 280)), (4, .ref (a + 281)), (5, .int (nI (4 * k)))] []) : zV X kc ks h 2993 [(0, .retAddr sq), (1, .ref a), (2, .ref (a + 271)), (3, .ref (a + 280)), (4, .ref (a + 281)), (5, .int (nI (4 * k)))] [] := by
  obtain ⟨g, us, sn, off, rs, dt, cs, t, o, S⟩ := S
  have hw := LS_W S hk
  have hb := LS_big hk
  have hR := S.2.2.2.1
  obtain ⟨A, eA⟩ : ∃ A : zAn, A = (rjA rs dt) := ⟨_, rfl⟩
  have ok : okA A (fun Ex => Ex = NSE) := by rw [eA]; exact okA_rj rfl
  refine zV.aload_n C dL_law_2993 rfl rfl ?_
  refine zV.aload_n C dL_law_2994 rfl rfl ?_
  refine zV.callSW (n := 2) C G dL_law_2995 (s_LrejectionDetail hzs hst h a (a + 280)  A (fun h' => h' = h) (by rw [eA]; exact s_rejectionDetail hzs hst h a (a + 282) g us sn off rs dt cs t o S.1.1) S.1.1.1.1 (fun h1 e => by rw [show h1 = h from e]; exact S.2.1.1) ok.1 ok.2) rfl ⟨cd_L_rejectionDetail, lk_L_367, st_L_rejectionDetail, in_L⟩ ⟨⟨by decide, by decide⟩, by decide⟩ rfl (zRmL rfl (by omega) (by omega)) rfl (zafX (fun r2 h2 q2 => ?_)) (zno)
  obtain ⟨rfl, h1, p1, rfl⟩ := q2
  obtain rfl : h = h1 := Eq.symm p1
  show zV X (kc + 1) (ks + 6) (lwH A (a + 280) h) 2998 [(0, .retAddr sq), (1, .ref a), (2, .ref (a + 271)), (3, .ref (a + 280)), (4, .ref (a + 281)), (5, .int (nI (4 * k)))] [.int _]
  refine zV.istore (lo' := [(0, .retAddr sq), (1, .ref a), (2, .ref (a + 271)), (3, .ref (a + 280)), (4, .ref (a + 281)), (5, .int (nI (4 * k))), (6, _)]) C dL_law_2998 (by decide) rfl rfl rfl ?_
  have R2 := LS_r S (zXf.refl h a (a + 282)) (zWr_H (A := A))
  refine zV.aload_n C dL_law_3000 rfl rfl ?_
  refine zV.callV (n := 0) C G dL_law_3001 (s_qrejectionDetail hzs hst (lwH A (a + 280) h) (a + 271) R2.1 rs dt R2.2.2.2.2.1.2.1 R2.2.2.2.2.1.2.2.1) rfl ⟨cd_X10_rejectionDetail, lk_L_369, im_X10_rejectionDetail, se_X10_X10_rejectionDetail, in_X10⟩ ⟨⟨by decide, by decide⟩, by decide⟩ rfl (zRmL rfl (by omega) (by omega)) rfl R2.1.1 ⟨rfl, by decide⟩ (zafX (fun r3 h3 q3 => ?_)) (zno)
  have q3 : mqQ (lwH A (a + 280) h) (a + 271) A (fun Ex => 1) (.int (dt)) r3 h3 := by rw [eA] at q3 ⊢; exact q3
  obtain ⟨e0, rfl⟩ := q3
  have Sx := LSx_q (v := nI (anC A (fun Ex => 1))) S (zWr_H (A := A))
  obtain ⟨b, rfl, f1, f2⟩ := fct (d := dt) (ob := a + 280) (h1 := h) ok.1 (fun Ex _ => cfn1 Ex) e0 (hI_sI (h := (lwH A (a + 280) h))) rfl
  exact zV.up (kc' := kc + 30) (ks' := ks + 5806) (by omega) (by omega) (L_tail hzs hst C G (p := 3004) dL_law_3004 dL_law_3006 dL_law_3007 dL_law_3010 dL_law_3012 dL_law_3017 dL_law_3019 dL_law_3022 dL_law_3023 dL_law_3024 dL_law_3025 dL_law_3027 dL_law_3028 dL_law_3029 dL_law_3034 (by decide) hc hs (LSx_r Sx) (LSx_ob Sx) f1 f2 (kk _ Sx))
set_option maxHeartbeats 4000000 in
set_option maxRecDepth 100000 in
/-- causeReason -/
theorem L_c57 {X : zX} {l : Launch} {E : zG} (hzs : zS E) (hst : l.stackTraces = false) (C : zC X cL_law RL 9) (G : zGX X l E room_1) {h : zH} {kc ks sq a k L : Nat} {xs : Nat → Int32} (T : zSc E sq L xs) (hk : k < 512) (hi : 4 * k + 4 ≤ L) (hL : L ≤ 2048) (hc : kc + 30 ≤ 604272) (hs : ks + 5806 ≤ 7174744) (S : lwSx a k h) (kk : ∀ h', lwSx a (k + 1) h' → zV X (kc + 30) (ks + 5806) h' 3182 [(0, .retAddr sq), (1, .ref a), (2, .ref (a + 271)), (3, .ref (a + 280)), (4, .ref (a + 281)), (5, .int (nI (4 * k)))] []) : zV X kc ks h 3037 [(0, .retAddr sq), (1, .ref a), (2, .ref (a + 271)), (3, .ref (a + 280)), (4, .ref (a + 281)), (5, .int (nI (4 * k)))] [] := by
  obtain ⟨g, us, sn, off, rs, dt, cs, t, o, S⟩ := S
  have hw := LS_W S hk
  have hb := LS_big hk
  have hR := S.2.2.2.1
  obtain ⟨A, eA⟩ : ∃ A : zAn, A = (csA rs cs) := ⟨_, rfl⟩
  have ok : okA A (fun Ex => Ex = NSE) := by rw [eA]; exact okA_cs rfl
  refine zV.aload_n C dL_law_3037 rfl rfl ?_
  refine zV.aload_n C dL_law_3038 rfl rfl ?_
  refine zV.callSW (n := 2) C G dL_law_3039 (s_LcauseReason hzs hst h a (a + 280)  A (fun h' => h' = h) (by rw [eA]; exact s_causeReason hzs hst h a (a + 282) g us sn off rs dt cs t o S.1.1) S.1.1.1.1 (fun h1 e => by rw [show h1 = h from e]; exact S.2.1.1) ok.1 ok.2) rfl ⟨cd_L_causeReason, lk_L_370, st_L_causeReason, in_L⟩ ⟨⟨by decide, by decide⟩, by decide⟩ rfl (zRmL rfl (by omega) (by omega)) rfl (zafX (fun r2 h2 q2 => ?_)) (zno)
  obtain ⟨rfl, h1, p1, rfl⟩ := q2
  obtain rfl : h = h1 := Eq.symm p1
  show zV X (kc + 1) (ks + 6) (lwH A (a + 280) h) 3042 [(0, .retAddr sq), (1, .ref a), (2, .ref (a + 271)), (3, .ref (a + 280)), (4, .ref (a + 281)), (5, .int (nI (4 * k)))] [.int _]
  refine zV.istore (lo' := [(0, .retAddr sq), (1, .ref a), (2, .ref (a + 271)), (3, .ref (a + 280)), (4, .ref (a + 281)), (5, .int (nI (4 * k))), (6, _)]) C dL_law_3042 (by decide) rfl rfl rfl ?_
  have R2 := LS_r S (zXf.refl h a (a + 282)) (zWr_H (A := A))
  refine zV.aload_n C dL_law_3044 rfl rfl ?_
  refine zV.callV (n := 0) C G dL_law_3045 (s_qcauseReason hzs hst (lwH A (a + 280) h) (a + 271) R2.1 rs cs R2.2.2.2.2.1.2.2.2 S.2.2.2.2.2.2) rfl ⟨cd_X10_causeReason, lk_L_372, im_X10_causeReason, se_X10_X10_causeReason, in_X10⟩ ⟨⟨by decide, by decide⟩, by decide⟩ rfl (zRmL rfl (by omega) (by omega)) rfl R2.1.1 ⟨rfl, by decide⟩ (zafX (fun r3 h3 q3 => ?_)) (zno)
  have q3 : mqQ (lwH A (a + 280) h) (a + 271) A (fun Ex => 1) (.int (nI 0)) r3 h3 := by rw [eA] at q3 ⊢; exact q3
  obtain ⟨e0, rfl⟩ := q3
  have Sx := LSx_q (v := nI (anC A (fun Ex => 1))) S (zWr_H (A := A))
  obtain ⟨b, rfl, f1, f2⟩ := fct (d := nI 0) (ob := a + 280) (h1 := h) ok.1 (fun Ex _ => cfn1 Ex) e0 (hI_sI (h := (lwH A (a + 280) h))) rfl
  exact zV.up (kc' := kc + 30) (ks' := ks + 5806) (by omega) (by omega) (L_tail hzs hst C G (p := 3048) dL_law_3048 dL_law_3050 dL_law_3051 dL_law_3054 dL_law_3056 dL_law_3061 dL_law_3063 dL_law_3066 dL_law_3067 dL_law_3068 dL_law_3069 dL_law_3071 dL_law_3072 dL_law_3073 dL_law_3078 (by decide) hc hs (LSx_r Sx) (LSx_ob Sx) f1 f2 (kk _ Sx))
set_option maxHeartbeats 4000000 in
set_option maxRecDepth 100000 in
/-- undo -/
theorem L_c58 {X : zX} {l : Launch} {E : zG} (hzs : zS E) (hst : l.stackTraces = false) (C : zC X cL_law RL 9) (G : zGX X l E room_1) {h : zH} {kc ks sq a k L : Nat} {xs : Nat → Int32} (T : zSc E sq L xs) (hk : k < 512) (hi : 4 * k + 4 ≤ L) (hL : L ≤ 2048) (hc : kc + 30 ≤ 604272) (hs : ks + 5806 ≤ 7174744) (S : lwSx a k h) (kk : ∀ h', lwSx a (k + 1) h' → zV X (kc + 30) (ks + 5806) h' 3182 [(0, .retAddr sq), (1, .ref a), (2, .ref (a + 271)), (3, .ref (a + 280)), (4, .ref (a + 281)), (5, .int (nI (4 * k)))] []) : zV X kc ks h 3081 [(0, .retAddr sq), (1, .ref a), (2, .ref (a + 271)), (3, .ref (a + 280)), (4, .ref (a + 281)), (5, .int (nI (4 * k)))] [] := by
  obtain ⟨g, us, sn, off, rs, dt, cs, t, o, S⟩ := S
  have hw := LS_W S hk
  have hb := LS_big hk
  have hR := S.2.2.2.1
  obtain ⟨A, eA⟩ : ∃ A : zAn, A = unA us := ⟨_, rfl⟩
  have ok : okA A (fun Ex => Ex = ISE) := by rw [eA]; exact okA_un rfl
  refine zV.aload_n C dL_law_3081 rfl rfl ?_
  refine zV.aload_n C dL_law_3082 rfl rfl ?_
  refine zV.callSW (n := 2) C G dL_law_3083 (s_Lundo hzs hst h a (a + 280)  A (unP h a (a + 282) g us sn off rs dt cs t o) (by rw [eA]; exact s_undo hzs hst h a (a + 282) g us sn off rs dt cs t o S.1.1) S.1.1.1.1 (fun h1 p => LS_ob S p.1) ok.1 ok.2) rfl ⟨cd_L_undo, lk_L_373, st_L_undo, in_L⟩ ⟨⟨by decide, by decide⟩, by decide⟩ rfl (zRmL rfl (by omega) (by omega)) rfl (zafX (fun r2 h2 q2 => ?_)) (zno)
  obtain ⟨rfl, h1, p1, rfl⟩ := q2
  show zV X (kc + 1) (ks + 6) (lwH A (a + 280) h1) 3086 [(0, .retAddr sq), (1, .ref a), (2, .ref (a + 271)), (3, .ref (a + 280)), (4, .ref (a + 281)), (5, .int (nI (4 * k)))] [.int _]
  refine zV.istore (lo' := [(0, .retAddr sq), (1, .ref a), (2, .ref (a + 271)), (3, .ref (a + 280)), (4, .ref (a + 281)), (5, .int (nI (4 * k))), (6, _)]) C dL_law_3086 (by decide) rfl rfl rfl ?_
  have R2 := LS_r S p1.1 (zWr_H (A := A))
  refine zV.aload_n C dL_law_3088 rfl rfl ?_
  refine zV.callV (n := 0) C G dL_law_3089 (s_qundo hzs hst (lwH A (a + 280) h1) (a + 271) (60000 * k) g us sn off rs dt cs t o R2 hR) rfl ⟨cd_X10_undo, lk_L_375, im_X10_undo, se_X10_X10_undo, in_X10⟩ ⟨⟨by decide, by decide⟩, by decide⟩ rfl (zRmL rfl (by omega) (by omega)) rfl R2.1.1 ⟨rfl, by decide⟩ (zafX (fun r3 h3 q3 => ?_)) (zno)
  have Sx := LSx_un S p1 (zWr_H (A := A)) q3
  obtain ⟨e0, e1, e2, _⟩ := q3
  have e1 : hI h3 435 (a + 271) = nI (anC A (fun Ex => 1)) := by rw [eA]; exact e1
  have e0 : r3 = some (anV A (.int (nI 0))) := by rw [eA]; exact e0
  obtain ⟨b, rfl, f1, f2⟩ := fct (d := nI 0) (ob := a + 280) (h1 := h1) ok.1 (fun Ex _ => cfn1 Ex) e0 e1 e2.1.2.2.2.2.2.1
  exact zV.up (kc' := kc + 30) (ks' := ks + 5806) (by omega) (by omega) (L_tail hzs hst C G (p := 3092) dL_law_3092 dL_law_3094 dL_law_3095 dL_law_3098 dL_law_3100 dL_law_3105 dL_law_3107 dL_law_3110 dL_law_3111 dL_law_3112 dL_law_3113 dL_law_3115 dL_law_3116 dL_law_3117 dL_law_3122 (by decide) hc hs (LSx_r Sx) (LSx_ob Sx) f1 f2 (kk _ Sx))
set_option maxHeartbeats 4000000 in
set_option maxRecDepth 100000 in
/-- saveSnapshot -/
theorem L_c59 {X : zX} {l : Launch} {E : zG} (hzs : zS E) (hst : l.stackTraces = false) (C : zC X cL_law RL 9) (G : zGX X l E room_1) {h : zH} {kc ks sq a k L : Nat} {xs : Nat → Int32} (T : zSc E sq L xs) (hk : k < 512) (hi : 4 * k + 4 ≤ L) (hL : L ≤ 2048) (hc : kc + 30 ≤ 604272) (hs : ks + 5806 ≤ 7174744) (S : lwSx a k h) (kk : ∀ h', lwSx a (k + 1) h' → zV X (kc + 30) (ks + 5806) h' 3182 [(0, .retAddr sq), (1, .ref a), (2, .ref (a + 271)), (3, .ref (a + 280)), (4, .ref (a + 281)), (5, .int (nI (4 * k)))] []) : zV X kc ks h 3125 [(0, .retAddr sq), (1, .ref a), (2, .ref (a + 271)), (3, .ref (a + 280)), (4, .ref (a + 281)), (5, .int (nI (4 * k)))] [] := by
  obtain ⟨g, us, sn, off, rs, dt, cs, t, o, S⟩ := S
  have hw := LS_W S hk
  have hb := LS_big hk
  have hR := S.2.2.2.1
  refine zV.aload_n C dL_law_3125 rfl rfl ?_
  refine zV.callV (n := 0) C G dL_law_3126 (s_saveSnapshot hzs hst h a (a + 282) g us sn off rs dt cs t o S.1.1) rfl ⟨cd_X9_saveSnapshot, lk_L_376, im_X9_saveSnapshot, se_X9_X9_saveSnapshot, in_X9⟩ ⟨⟨by decide, by decide⟩, by decide⟩ rfl (zRmL rfl (by omega) (by omega)) rfl S.1.1.1.1 ⟨rfl, by decide⟩ (zafR (fun h1 p1 => ?_)) (zno)
  have R2 := LS_r S p1.1 zWr_0
  refine zV.aload_n C dL_law_3129 rfl rfl ?_
  refine zV.callV (n := 0) C G dL_law_3130 (s_qsaveSnapshot hzs hst h1 (a + 271) (60000 * k) g us sn off rs dt cs t o R2 hR) rfl ⟨cd_X10_saveSnapshot, lk_L_379, im_X10_saveSnapshot, se_X10_X10_saveSnapshot, in_X10⟩ ⟨⟨by decide, by decide⟩, by decide⟩ rfl (zRmL rfl (by omega) (by omega)) rfl R2.1.1 ⟨rfl, by decide⟩ (zafX (fun r3 h3 q3 => ?_)) (zno)
  have Sx := LSx_sv S p1.1 p1.2 zWr_0 q3
  obtain ⟨rfl, _⟩ := q3
  refine zV.icmp_eq (tgt := 3182) C dL_law_3133 (by decide) (fun _ => ?_) (fun z => absurd rfl z)
  exact zV.up (kc' := kc + 30) (ks' := ks + 5806) (by omega) (by omega) (kk _ Sx)
set_option maxHeartbeats 4000000 in
set_option maxRecDepth 100000 in
/-- restoreSnapshot -/
theorem L_c60 {X : zX} {l : Launch} {E : zG} (hzs : zS E) (hst : l.stackTraces = false) (C : zC X cL_law RL 9) (G : zGX X l E room_1) {h : zH} {kc ks sq a k L : Nat} {xs : Nat → Int32} (T : zSc E sq L xs) (hk : k < 512) (hi : 4 * k + 4 ≤ L) (hL : L ≤ 2048) (hc : kc + 30 ≤ 604272) (hs : ks + 5806 ≤ 7174744) (S : lwSx a k h) (kk : ∀ h', lwSx a (k + 1) h' → zV X (kc + 30) (ks + 5806) h' 3182 [(0, .retAddr sq), (1, .ref a), (2, .ref (a + 271)), (3, .ref (a + 280)), (4, .ref (a + 281)), (5, .int (nI (4 * k)))] []) : zV X kc ks h 3138 [(0, .retAddr sq), (1, .ref a), (2, .ref (a + 271)), (3, .ref (a + 280)), (4, .ref (a + 281)), (5, .int (nI (4 * k)))] [] := by
  obtain ⟨g, us, sn, off, rs, dt, cs, t, o, S⟩ := S
  have hw := LS_W S hk
  have hb := LS_big hk
  have hR := S.2.2.2.1
  obtain ⟨A, eA⟩ : ∃ A : zAn, A = rsA sn := ⟨_, rfl⟩
  have ok : okA A (fun Ex => Ex = ISE) := by rw [eA]; exact okA_rs rfl
  refine zV.aload_n C dL_law_3138 rfl rfl ?_
  refine zV.aload_n C dL_law_3139 rfl rfl ?_
  refine zV.callSW (n := 2) C G dL_law_3140 (s_LrestoreSnapshot hzs hst h a (a + 280)  A (rsP h a (a + 282) g us sn off rs dt cs t o) (by rw [eA]; exact s_restoreSnapshot hzs hst h a (a + 282) g us sn off rs dt cs t o S.1.1) S.1.1.1.1 (fun h1 p => LS_ob S p.1) ok.1 ok.2) rfl ⟨cd_L_restoreSnapshot, lk_L_380, st_L_restoreSnapshot, in_L⟩ ⟨⟨by decide, by decide⟩, by decide⟩ rfl (zRmL rfl (by omega) (by omega)) rfl (zafX (fun r2 h2 q2 => ?_)) (zno)
  obtain ⟨rfl, h1, p1, rfl⟩ := q2
  show zV X (kc + 1) (ks + 6) (lwH A (a + 280) h1) 3143 [(0, .retAddr sq), (1, .ref a), (2, .ref (a + 271)), (3, .ref (a + 280)), (4, .ref (a + 281)), (5, .int (nI (4 * k)))] [.int _]
  refine zV.istore (lo' := [(0, .retAddr sq), (1, .ref a), (2, .ref (a + 271)), (3, .ref (a + 280)), (4, .ref (a + 281)), (5, .int (nI (4 * k))), (6, _)]) C dL_law_3143 (by decide) rfl rfl rfl ?_
  have R2 := LS_r S p1.1 (zWr_H (A := A))
  refine zV.aload_n C dL_law_3145 rfl rfl ?_
  refine zV.callV (n := 0) C G dL_law_3146 (s_qrestoreSnapshot hzs hst (lwH A (a + 280) h1) (a + 271) (60000 * k) g us sn off rs dt cs t o R2 hR) rfl ⟨cd_X10_restoreSnapshot, lk_L_382, im_X10_restoreSnapshot, se_X10_X10_restoreSnapshot, in_X10⟩ ⟨⟨by decide, by decide⟩, by decide⟩ rfl (zRmL rfl (by omega) (by omega)) rfl R2.1.1 ⟨rfl, by decide⟩ (zafX (fun r3 h3 q3 => ?_)) (zno)
  have Sx := LSx_rs S p1 (zWr_H (A := A)) q3
  obtain ⟨e0, e1, e2, _⟩ := q3
  have e1 : hI h3 435 (a + 271) = nI (anC A (fun Ex => 1)) := by rw [eA]; exact e1
  have e0 : r3 = some (anV A (.int (nI 0))) := by rw [eA]; exact e0
  obtain ⟨b, rfl, f1, f2⟩ := fct (d := nI 0) (ob := a + 280) (h1 := h1) ok.1 (fun Ex _ => cfn1 Ex) e0 e1 e2.1.2.2.2.2.2.1
  exact zV.up (kc' := kc + 30) (ks' := ks + 5806) (by omega) (by omega) (L_tail hzs hst C G (p := 3149) dL_law_3149 dL_law_3151 dL_law_3152 dL_law_3155 dL_law_3157 dL_law_3162 dL_law_3164 dL_law_3167 dL_law_3168 dL_law_3169 dL_law_3170 dL_law_3172 dL_law_3173 dL_law_3174 dL_law_3179 (by decide) hc hs (LSx_r Sx) (LSx_ob Sx) f1 f2 (kk _ Sx))
