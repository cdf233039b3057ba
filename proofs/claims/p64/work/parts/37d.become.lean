set_option maxHeartbeats 4000000 in
set_option maxRecDepth 100000 in
theorem L_become {X : zX} {l : Launch} {E : zG} {rm : Room} (hzs : zS E) (hst : l.stackTraces = false) (C : zC X cX3_become RX3 3) (G : zGX X l E rm) {h0 : zH} {b d : Nat} {g : zGd} {Qr : Option Value → zH → Prop} {Qx : String → zH → Prop} (hr : rm = ({ frames := 3, cells := 0, slots := 0, locals := 142 } : Room)) (F : zF X none 0 0 Qr Qx) (hl : (gC g).length ≤ 12) (hd : d + 21 ≤ b ∨ b + 21 ≤ d) (hq : ∀ h', zGa h' b g → zFr h0 h' b → Qr none h') : ∀ n k h, k ≤ 12 → 13 ≤ k + n → zGa h d g → zGm h b g k → zFr h0 h b → zV X 0 0 h 43 [(0, .ref b), (1, .ref d), (2, .int (nI k))] [] := by
  subst hr
  intro n
  induction n with
  | zero => intro k h h1 h2; exact absurd h2 (by omega)
  | succ n ih =>
    intro k h hk hn hg hm f
    refine zV.iload_n C dX3_become_43 rfl ?_
    refine zV.bi (v := nI 12) C dX3_become_44 (by decide) ?_
    refine zV.icmp_ge (tgt := 70) C dX3_become_46 (by decide) (fun q46 => ?_) (fun q46 => ?_)
    · have e : k = 12 := by have := nle (by omega) (by decide) q46; omega
      subst e
      refine zV.aload_n C dX3_become_70 rfl rfl ?_
      refine zV.aload_n C dX3_become_71 rfl rfl ?_
      refine zV.gIv 197 (k := 5) C dX3_become_72 zcl_X3 (by decide) rfl lk_X3_56 (hg.1.1) rfl (rfl) ?_
      refine zV.pI 197 (k := 5) C dX3_become_75 zcl_X3 (by decide) rfl lk_X3_56 rfl (hm.1.1) rfl ⟨rfl, rfl⟩ ?_
      refine zV.aload_n C dX3_become_78 rfl rfl ?_
      refine zV.aload_n C dX3_become_79 rfl rfl ?_
      refine zV.gIv 198 (k := 6) C dX3_become_80 zcl_X3 (by decide) rfl lk_X3_59 (hg.1.1) rfl ((hI_sI_a (by omega)).trans (rfl)) ?_
      refine zV.pI 198 (k := 6) C dX3_become_83 zcl_X3 (by decide) rfl lk_X3_59 rfl (hm.1.1) rfl ⟨rfl, rfl⟩ ?_
      refine zV.aload_n C dX3_become_86 rfl rfl ?_
      refine zV.aload_n C dX3_become_87 rfl rfl ?_
      refine zV.gIv 199 (k := 7) C dX3_become_88 zcl_X3 (by decide) rfl lk_X3_34 (hg.1.1) rfl ((hI_sI_a (by omega)).trans ((hI_sI_a (by omega)).trans (rfl))) ?_
      refine zV.pI 199 (k := 7) C dX3_become_91 zcl_X3 (by decide) rfl lk_X3_34 rfl (hm.1.1) rfl ⟨rfl, rfl⟩ ?_
      refine zV.aload_n C dX3_become_94 rfl rfl ?_
      refine zV.aload_n C dX3_become_95 rfl rfl ?_
      refine zV.gIv 200 (k := 8) C dX3_become_96 zcl_X3 (by decide) rfl lk_X3_62 (hg.1.1) rfl ((hI_sI_a (by omega)).trans ((hI_sI_a (by omega)).trans ((hI_sI_a (by omega)).trans (rfl)))) ?_
      refine zV.pI 200 (k := 8) C dX3_become_99 zcl_X3 (by decide) rfl lk_X3_62 rfl (hm.1.1) rfl ⟨rfl, rfl⟩ ?_
      refine zV.aload_n C dX3_become_102 rfl rfl ?_
      refine zV.aload_n C dX3_become_103 rfl rfl ?_
      refine zV.gIv 201 (k := 9) C dX3_become_104 zcl_X3 (by decide) rfl lk_X3_65 (hg.1.1) rfl ((hI_sI_a (by omega)).trans ((hI_sI_a (by omega)).trans ((hI_sI_a (by omega)).trans ((hI_sI_a (by omega)).trans (rfl))))) ?_
      refine zV.pI 201 (k := 9) C dX3_become_107 zcl_X3 (by decide) rfl lk_X3_65 rfl (hm.1.1) rfl ⟨rfl, rfl⟩ ?_
      refine zV.aload_n C dX3_become_110 rfl rfl ?_
      refine zV.aload_n C dX3_become_111 rfl rfl ?_
      refine zV.gIv 202 (k := 10) C dX3_become_112 zcl_X3 (by decide) rfl lk_X3_68 (hg.1.1) rfl ((hI_sI_a (by omega)).trans ((hI_sI_a (by omega)).trans ((hI_sI_a (by omega)).trans ((hI_sI_a (by omega)).trans ((hI_sI_a (by omega)).trans (rfl)))))) ?_
      refine zV.pI 202 (k := 10) C dX3_become_115 zcl_X3 (by decide) rfl lk_X3_68 rfl (hm.1.1) rfl ⟨rfl, rfl⟩ ?_
      refine zV.aload_n C dX3_become_118 rfl rfl ?_
      refine zV.aload_n C dX3_become_119 rfl rfl ?_
      refine zV.gIv 203 (k := 11) C dX3_become_120 zcl_X3 (by decide) rfl lk_X3_71 (hg.1.1) rfl ((hI_sI_a (by omega)).trans ((hI_sI_a (by omega)).trans ((hI_sI_a (by omega)).trans ((hI_sI_a (by omega)).trans ((hI_sI_a (by omega)).trans ((hI_sI_a (by omega)).trans (rfl))))))) ?_
      refine zV.pI 203 (k := 11) C dX3_become_123 zcl_X3 (by decide) rfl lk_X3_71 rfl (hm.1.1) rfl ⟨rfl, rfl⟩ ?_
      refine zV.vret C F dX3_become_126 rfl ?_
      obtain ⟨y1, y2⟩ := bc9 hm hg hl
      exact hq _ y1 (f.trans y2)
    · have h12 : k < 12 := nlt (by omega) (by decide) q46
      have kb := zCs_k hm.1 hm.2.2.2.2.2.1 h12
      have kd := zGa_k hg h12
      refine zV.aload_n C dX3_become_49 rfl rfl ?_
      refine zV.gR 195 (k := 3) C dX3_become_50 zcl_X3 (by decide) rfl lk_X3_30 (hm.1.1) rfl (hm.1.2.2.2.2.1) ?_
      refine zV.iload_n C dX3_become_53 rfl ?_
      refine zV.aaldC (j := k) C dX3_become_54 (hm.1.2.2.2.2.2.2.2.2.1.1) (rfl) (Nat.lt_of_lt_of_eq h12 (hm.1.2.2.2.2.2.2.2.2.1.2).symm) (by omega) (hm.2.2.2.2.2.1.1 k h12).1 ?_
      refine zV.aload_n C dX3_become_55 rfl rfl ?_
      refine zV.gR 195 (k := 3) C dX3_become_56 zcl_X3 (by decide) rfl lk_X3_30 (hg.1.1) rfl (hg.1.2.2.2.2.1) ?_
      refine zV.iload_n C dX3_become_59 rfl ?_
      refine zV.aaldC (j := k) C dX3_become_60 (hg.1.2.2.2.2.2.2.2.2.1.1) (rfl) (Nat.lt_of_lt_of_eq h12 (hg.1.2.2.2.2.2.2.2.2.1.2).symm) (by omega) (zGa_a hg h12) ?_
      refine zV.callV (n := 1) C G dX3_become_61 (s_Chair_become hzs hst h (cA h b k) (cA h d k) kb kd (zGa_f hg h12)) rfl ⟨cd_X0_become, lk_X3_53, im_X0_become, se_X0_X0_become, in_X0⟩ ⟨⟨by decide, by decide⟩, by decide⟩ rfl rfl rfl kb ⟨rfl, by decide⟩ (zafv ?_) (zno)
      refine zV.iinc (lo' := [(0, _), (1, _), (2, _)]) C dX3_become_64 rfl (by decide) rfl rfl rfl ?_
      refine zV.goto (tgt := 43) C dX3_become_67 (by decide) ?_
      rw [inc1]
      have cb := (hm.2.2.2.2.2.1.1 k h12).2
      have f9 : zFr h (chCopy h (cA h b k) (cA h d k)) b := chCopy_fr (by omega) (by omega)
      exact ih (k + 1) _ (by omega) (by omega) (zGa_else hg hl f9 hd) (zGm_step hm h12 hg hl hd) (f.trans f9)
set_option maxHeartbeats 4000000 in
set_option maxRecDepth 100000 in
theorem s_become {l : Launch} {E : zG} (hzs : zS E) (hst : l.stackTraces = false) (h : zH) (b d : Nat) (g : zGd) (hb : zGt h b) (hg : zGa h d g) (hl : (gC g).length ≤ 12) (hd : d + 21 ≤ b ∨ b + 21 ≤ d) : zMet l E yX3_become cX3_become 3 none ({ frames := 3, cells := 0, slots := 0, locals := 142 } : Room) 0 0 [.ref b, .ref d] h (fun r h' => r = none ∧ zGa h' b g ∧ zFr h h' b) (fun _ _ => False) := by
  refine zM_start hzs hst (by decide) (Nat.le_of_ble_eq_true rfl) (fun X C G F I => ?_)
  show zV X 0 0 _ 0 [(0, _), (1, _)] []
  refine zV.aload_n C dX3_become_0 rfl rfl ?_
  refine zV.gR 192 (k := 0) C dX3_become_1 zcl_X3 (by decide) rfl lk_X3_12 (hb.1.1) rfl (hb.1.2.1) ?_
  refine zV.aload_n C dX3_become_4 rfl rfl ?_
  refine zV.gR 192 (k := 0) C dX3_become_5 zcl_X3 (by decide) rfl lk_X3_12 (hg.1.1) rfl (hg.1.2.1) ?_
  refine zV.callV (n := 1) C G dX3_become_8 (s_Paths_become hzs hst h (b + 1) (d + 1) hb.1.2.2.2.2.2.1 hg.1.2.2.2.2.2.1) rfl ⟨cd_X8_become, lk_X3_43, im_X8_become, se_X8_X8_become, in_X8⟩ ⟨⟨by decide, by decide⟩, by decide⟩ rfl rfl rfl (hb.1.2.2.2.2.2.1.1) ⟨rfl, by decide⟩ (zafv ?_) (zno)
  refine zV.aload_n C dX3_become_11 rfl rfl ?_
  refine zV.gR 193 (k := 1) C dX3_become_12 zcl_X3 (by decide) rfl lk_X3_21 (hb.1.1) rfl (hb.1.2.2.1) ?_
  refine zV.aload_n C dX3_become_15 rfl rfl ?_
  refine zV.gR 193 (k := 1) C dX3_become_16 zcl_X3 (by decide) rfl lk_X3_21 (hg.1.1) rfl (hg.1.2.2.1) ?_
  refine zV.callV (n := 1) C G dX3_become_19 (s_LawnRow_become hzs hst _ (b + 4) (d + 4) hb.1.2.2.2.2.2.2.1 hg.1.2.2.2.2.2.2.1) rfl ⟨cd_X7_become, lk_X3_47, im_X7_become, se_X7_X7_become, in_X7⟩ ⟨⟨by decide, by decide⟩, by decide⟩ rfl rfl rfl (hb.1.2.2.2.2.2.2.1.1) ⟨rfl, by decide⟩ (zafv ?_) (zno)
  refine zV.aload_n C dX3_become_22 rfl rfl ?_
  refine zV.gR 194 (k := 2) C dX3_become_23 zcl_X3 (by decide) rfl lk_X3_25 (hb.1.1) rfl (hb.1.2.2.2.1) ?_
  refine zV.aload_n C dX3_become_26 rfl rfl ?_
  refine zV.gR 194 (k := 2) C dX3_become_27 zcl_X3 (by decide) rfl lk_X3_25 (hg.1.1) rfl (hg.1.2.2.2.1) ?_
  refine zV.callV (n := 1) C G dX3_become_30 (s_LawnRow_become hzs hst _ (b + 6) (d + 6) hb.1.2.2.2.2.2.2.2.1 hg.1.2.2.2.2.2.2.2.1) rfl ⟨cd_X7_become, lk_X3_47, im_X7_become, se_X7_X7_become, in_X7⟩ ⟨⟨by decide, by decide⟩, by decide⟩ rfl rfl rfl (hb.1.2.2.2.2.2.2.2.1.1) ⟨rfl, by decide⟩ (zafv ?_) (zno)
  refine zV.aload_n C dX3_become_33 rfl rfl ?_
  refine zV.aload_n C dX3_become_34 rfl rfl ?_
  refine zV.gIv 196 (k := 4) C dX3_become_35 zcl_X3 (by decide) rfl lk_X3_50 (hg.1.1) rfl ((hI_sI_f (h := sRow h (b + 1 + 2) (va_cpy (aI h (d + 1 + 2)) (aI h (b + 1 + 2)) 0 0 6)) (f := 353) (a := b + 1) (g := 196) (b := d) (v := hI h 353 (d + 1)) (by decide))) ?_
  refine zV.pI 196 (k := 4) C dX3_become_38 zcl_X3 (by decide) rfl lk_X3_50 rfl (hb.1.1) rfl ⟨rfl, rfl⟩ ?_
  refine zV.ic (v := nI 0) C dX3_become_41 (by decide) ?_
  refine zV.istore_n (lo' := [(0, _), (1, _), (2, _)]) C dX3_become_42 (by decide) rfl rfl rfl ?_
  obtain ⟨m0, f0⟩ := bc0 hb hg hl hd
  have e5 : aI (sI (sRow h (b + 3) (va_cpy (aI h (d + 3)) (aI h (b + 3)) 0 0 6)) 353 (b + 1) (hI h 353 (d + 1))) (d + 5) = aI h (d + 5) := if_neg (by omega)
  have e5b : aI (sI (sRow h (b + 3) (va_cpy (aI h (d + 3)) (aI h (b + 3)) 0 0 6)) 353 (b + 1) (hI h 353 (d + 1))) (b + 5) = aI h (b + 5) := if_neg (by omega)
  have e7 : aI (sRow (sI (sRow h (b + 3) (va_cpy (aI h (d + 3)) (aI h (b + 3)) 0 0 6)) 353 (b + 1) (hI h 353 (d + 1))) (b + 5) (va_cpy (aI h (d + 5)) (aI h (b + 5)) 0 0 6)) (d + 7) = aI h (d + 7) := (if_neg (by omega)).trans (if_neg (by omega))
  have e7b : aI (sRow (sI (sRow h (b + 3) (va_cpy (aI h (d + 3)) (aI h (b + 3)) 0 0 6)) 353 (b + 1) (hI h 353 (d + 1))) (b + 5) (va_cpy (aI h (d + 5)) (aI h (b + 5)) 0 0 6)) (b + 7) = aI h (b + 7) := (if_neg (by omega)).trans (if_neg (by omega))
  have k2 := L_become (h0 := h) hzs hst C G rfl F hl hd (fun h' q f => ⟨rfl, q, f⟩) 13 0 (bcH h b d) (by omega) (by omega) (zGa_else hg hl f0 hd) m0 f0
  show zV X 0 0 (sI (sRow (sRow (sI (sRow h (b + 3) (va_cpy (aI h (d + 3)) (aI h (b + 3)) 0 0 6)) 353 (b + 1) (hI h 353 (d + 1))) (b + 5) (va_cpy (aI (sI (sRow h (b + 3) (va_cpy (aI h (d + 3)) (aI h (b + 3)) 0 0 6)) 353 (b + 1) (hI h 353 (d + 1))) (d + 5)) (aI (sI (sRow h (b + 3) (va_cpy (aI h (d + 3)) (aI h (b + 3)) 0 0 6)) 353 (b + 1) (hI h 353 (d + 1))) (b + 5)) 0 0 6)) (b + 7) (va_cpy (aI (sRow (sI (sRow h (b + 3) (va_cpy (aI h (d + 3)) (aI h (b + 3)) 0 0 6)) 353 (b + 1) (hI h 353 (d + 1))) (b + 5) (va_cpy (aI (sI (sRow h (b + 3) (va_cpy (aI h (d + 3)) (aI h (b + 3)) 0 0 6)) 353 (b + 1) (hI h 353 (d + 1))) (d + 5)) (aI (sI (sRow h (b + 3) (va_cpy (aI h (d + 3)) (aI h (b + 3)) 0 0 6)) 353 (b + 1) (hI h 353 (d + 1))) (b + 5)) 0 0 6)) (d + 7)) (aI (sRow (sI (sRow h (b + 3) (va_cpy (aI h (d + 3)) (aI h (b + 3)) 0 0 6)) 353 (b + 1) (hI h 353 (d + 1))) (b + 5) (va_cpy (aI (sI (sRow h (b + 3) (va_cpy (aI h (d + 3)) (aI h (b + 3)) 0 0 6)) 353 (b + 1) (hI h 353 (d + 1))) (d + 5)) (aI (sI (sRow h (b + 3) (va_cpy (aI h (d + 3)) (aI h (b + 3)) 0 0 6)) 353 (b + 1) (hI h 353 (d + 1))) (b + 5)) 0 0 6)) (b + 7)) 0 0 6)) 196 b (hI h 196 d)) 43 _ _
  rw [e5, e5b, e7, e7b]
  exact k2
