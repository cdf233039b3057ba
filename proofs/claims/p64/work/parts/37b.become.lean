set_option maxHeartbeats 4000000 in
set_option maxRecDepth 100000 in
theorem L_pass {X : zX} {l : Launch} {E : zG} {rm : Room} (hzs : zS E) (hst : l.stackTraces = false) (C : zC X cX3_pass RX3 4) (G : zGX X l E rm) {h0 : zH} {b N m c0 : Nat} {g0 : zGd} {Qr : Option Value → zH → Prop} {Qx : String → zH → Prop} (hr : rm = ({ frames := 3, cells := 0, slots := 0, locals := 69 } : Room)) (F : zF X (some .int) 0 0 Qr Qx) (hN : N ≤ 100) (hm : m + 3000 ≤ big) (hq0 : gQ m g0) (hc0 : c0 ≤ gF g0) (hq : ∀ h', zGa h' b (days g0 N) → zFr h0 h' b → Qr (some (.int (nI (gF (days g0 N) - c0)))) h') : ∀ n k h, k ≤ N → N + 1 ≤ k + n → zGa h b (days g0 k) → zFr h0 h b → zV X 0 0 h 7 [(0, .ref b), (1, .int (nI N)), (2, .int (nI c0)), (3, .int (nI k))] [] := by
  subst hr
  intro n
  induction n with
  | zero => intro k h h1 h2; exact absurd h2 (by omega)
  | succ n ih =>
    intro k h hk hn hg f
    have qk := days_Q hq0 k
    have bb : big = 1000000000 := rfl
    refine zV.iload_n C dX3_pass_7 rfl ?_
    refine zV.iload_n C dX3_pass_8 rfl ?_
    refine zV.icmp_ge (tgt := 22) C dX3_pass_9 (by decide) (fun q9 => ?_) (fun q9 => ?_)
    · have e : k = N := by have := nle (by omega) (by omega) q9; omega
      subst e
      refine zV.aload_n C dX3_pass_22 rfl rfl ?_
      refine zV.gIv 200 (k := 8) C dX3_pass_23 zcl_X3 (by decide) rfl lk_X3_62 (hg.1.1) rfl (((zGa_n hg).2.2.2.2.1)) ?_
      refine zV.iload_n C dX3_pass_26 rfl ?_
      refine zV.isub C dX3_pass_27 ?_
      rw [show nI (gF (days g0 k)) - nI c0 = nI (gF (days g0 k) - c0) from pk_sub (Nat.le_trans hc0 (days_P g0 k).2.2.2.2.2.2)]
      refine zV.iret C F dX3_pass_28 rfl ?_
      exact hq h hg f
    · have hkN : k < N := nlt (by omega) (by omega) q9
      refine zV.aload_n C dX3_pass_12 rfl rfl ?_
      refine zV.callV (n := 0) C G dX3_pass_13 (s_passOneDay hzs hst h b (days g0 k) hg (gQ_W qk (by omega)) qk.2.1) rfl ⟨cd_X3_passOneDay, lk_X3_165, im_X3_passOneDay, se_X3_X3_passOneDay, in_X3⟩ ⟨⟨by decide, by decide⟩, by decide⟩ rfl rfl rfl (hg.1.1) ⟨rfl, by decide⟩ (zafRv (fun h9 ⟨hg9, f9⟩ => ?_)) (zno)
      refine zV.iinc (lo' := [(0, _), (1, _), (2, _), (3, _)]) C dX3_pass_16 rfl (by decide) rfl rfl rfl ?_
      refine zV.goto (tgt := 7) C dX3_pass_19 (by decide) ?_
      rw [inc1]
      exact ih (k + 1) h9 (by omega) (by omega) hg9 (f.trans f9)
set_option maxHeartbeats 4000000 in
set_option maxRecDepth 100000 in
theorem s_pass {l : Launch} {E : zG} (hzs : zS E) (hst : l.stackTraces = false) (h : zH) (b : Nat) (g : zGd) (N m : Nat) (hN : N ≤ 100) (hg : zGa h b g) (hq0 : gQ m g) (hm : m + 3000 ≤ big) : zMet l E yX3_pass cX3_pass 4 (some .int) ({ frames := 3, cells := 0, slots := 0, locals := 69 } : Room) 0 0 [.ref b, .int (nI N)] h (fun r h' => r = some (.int (nI (gF (days g N) - gF g))) ∧ zGa h' b (days g N) ∧ zFr h h' b) (fun _ _ => False) := by
  refine zM_start hzs hst (by decide) (Nat.le_of_ble_eq_true rfl) (fun X C G F I => ?_)
  show zV X 0 0 _ 0 [(0, _), (1, _)] []
  refine zV.aload_n C dX3_pass_0 rfl rfl ?_
  refine zV.gIv 200 (k := 8) C dX3_pass_1 zcl_X3 (by decide) rfl lk_X3_62 (hg.1.1) rfl (((zGa_n hg).2.2.2.2.1)) ?_
  refine zV.istore_n (lo' := [(0, _), (1, _), (2, _)]) C dX3_pass_4 (by decide) rfl rfl rfl ?_
  refine zV.ic (v := nI 0) C dX3_pass_5 (by decide) ?_
  refine zV.istore_n (lo' := [(0, _), (1, _), (2, _), (3, _)]) C dX3_pass_6 (by decide) rfl rfl rfl ?_
  exact L_pass (h0 := h) hzs hst C G rfl F hN hm hq0 (Nat.le_refl _) (fun h1 q f => ⟨rfl, q, f⟩) (N + 1) 0 h (by omega) (by omega) (show zGa h b (days g 0) from hg) (zFr.refl h b)
