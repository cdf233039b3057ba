/-! Garden: questions about its chairs -/
theorem nI_m1 {k : Nat} (hk : k < 2 ^ 31) : ¬ nI k = -1 := by
  intro e
  have h1 := congrArg Int32.toInt e
  rw [show (nI k).toInt = (k : Int) from nI_toInt hk] at h1
  exact absurd h1 (by show ¬ (k : Int) = -1; omega)
theorem b2n {x : Bool} : nI (b2 x) = 0 ↔ x = false := by cases x <;> decide
theorem hsz_take {cs : List zCh} {k : Nat} {c : zCh} (h : cs[k]? = some c) (l : Nat) : hsz (cs.take (k + 1)) l = hsz (cs.take k) l + (if chL c = l then 1 else 0) := by
  unfold hsz
  rw [List.take_add_one, h, List.countP_append]
  by_cases e : chL c = l <;> simp [e]
theorem cnt_cons {p : zCh → Bool} {c : zCh} {t : List zCh} : (c :: t).countP p = t.countP p + (if p c = true then 1 else 0) := List.countP_cons
/-- the sum of the rust -/
def rsum : List zCh → Nat
  | [] => 0
  | c :: t => chR c + rsum t
theorem rsum_le {cs : List zCh} (h : ∀ c ∈ cs, chR c ≤ 11) : rsum cs ≤ 11 * cs.length := by
  induction cs with
  | nil => exact Nat.le_refl 0
  | cons c t ih =>
    have h1 := ih (fun d hd => h d (List.mem_cons_of_mem _ hd))
    have h2 := h c List.mem_cons_self
    rw [rsum, List.length_cons]
    omega
set_option maxHeartbeats 4000000 in
set_option maxRecDepth 100000 in
theorem L_indexOf {X : zX} {l : Launch} {E : zG} {rm : Room} (hzs : zS E) (hst : l.stackTraces = false) (C : zC X cX3_indexOf RX3 3) (G : zGX X l E rm) {h : zH} {b : Nat} {g : zGd} {x : Int32} {Qr : Option Value → zH → Prop} {Qx : String → zH → Prop} (hr : rm = ({ frames := 0, cells := 0, slots := 0, locals := 0 } : Room)) (F : zF X (some .int) 0 0 Qr Qx) (hg : zGa h b g) (hw : gW g) : ∀ n k, k ≤ (gC g).length → (gC g).length + 1 ≤ k + n → Qr (some (.int (oI (ixF x ((gC g).drop k) k)))) h → zV X 0 0 h 2 [(0, .ref b), (1, .int x), (2, .int (nI k))] [] := by
  subst hr
  have hl := gW_len hw
  have hB := gW_b hw
  intro n
  induction n with
  | zero => intro k h1 h2; exact absurd h2 (by omega)
  | succ n ih =>
    intro k hk hn hq
    refine zV.iload_n C dX3_indexOf_2 rfl ?_
    refine zV.aload_n C dX3_indexOf_3 rfl rfl ?_
    refine zV.gIv 196 (k := 4) C dX3_indexOf_4 zcl_X3 (by decide) rfl lk_X3_50 (hg.1.1) rfl ((zGa_len hg)) ?_
    refine zV.icmp_ge (tgt := 31) C dX3_indexOf_7 (by decide) (fun q7 => ?_) (fun q7 => ?_)
    · have e : k = (gC g).length := by have := nle (by omega) (by omega) q7; omega
      subst e
      rw [List.drop_length] at hq
      refine zV.ic (v := (-1)) C dX3_indexOf_31 (by decide) ?_
      refine zV.iret C F dX3_indexOf_32 rfl ?_
      exact hq
    · have hkl : k < (gC g).length := nlt (by omega) (by omega) q7
      obtain ⟨c, hc, hd⟩ := drop_cons hkl
      rw [hd] at hq
      have h12 : k < 12 := by omega
      obtain ⟨c1, c2, c3, c4, c5⟩ := zGa_c hg hc
      obtain ⟨b1, b2, b3, b4⟩ := gW_cb hw hc
      refine zV.aload_n C dX3_indexOf_10 rfl rfl ?_
      refine zV.gR 195 (k := 3) C dX3_indexOf_11 zcl_X3 (by decide) rfl lk_X3_30 (hg.1.1) rfl (hg.1.2.2.2.2.1) ?_
      refine zV.iload_n C dX3_indexOf_14 rfl ?_
      refine zV.aaldC (j := k) C dX3_indexOf_15 (hg.1.2.2.2.2.2.2.2.2.1.1) (rfl) (Nat.lt_of_lt_of_eq h12 (hg.1.2.2.2.2.2.2.2.2.1.2).symm) (by omega) (zGa_a hg h12) ?_
      refine zV.gNIv 128 (k := 0) C dX3_indexOf_16 zcl_X0 (by decide) rfl lk_X3_110 (zGa_k hg h12) rfl (c1) ?_
      refine zV.iload_n C dX3_indexOf_19 rfl ?_
      refine zV.icmp_ne (tgt := 25) C dX3_indexOf_20 (by decide) (fun q20 => ?_) (fun q20 => ?_)
      · rw [ixF, if_neg q20] at hq
        refine zV.iinc (lo' := [(0, _), (1, _), (2, _)]) C dX3_indexOf_25 rfl (by decide) rfl rfl rfl ?_
        refine zV.goto (tgt := 2) C dX3_indexOf_28 (by decide) ?_
        rw [inc1]
        exact ih (k + 1) (by omega) (by omega) hq
      · rw [ixF, if_pos q20] at hq
        refine zV.iload_n C dX3_indexOf_23 rfl ?_
        refine zV.iret C F dX3_indexOf_24 rfl ?_
        exact hq
set_option maxHeartbeats 4000000 in
set_option maxRecDepth 100000 in
theorem s_indexOf {l : Launch} {E : zG} (hzs : zS E) (hst : l.stackTraces = false) (h : zH) (b : Nat) (g : zGd) (x : Int32) (hg : zGa h b g) (hw : gW g) : zMet l E yX3_indexOf cX3_indexOf 3 (some .int) ({ frames := 0, cells := 0, slots := 0, locals := 0 } : Room) 0 0 [.ref b, .int x] h (fun r h' => r = some (.int (oI (ixF x (gC g) 0))) ∧ h' = h) (fun _ _ => False) := by
  refine zM_start hzs hst (by decide) (Nat.le_of_ble_eq_true rfl) (fun X C G F I => ?_)
  show zV X 0 0 _ 0 [(0, _), (1, _)] []
  refine zV.ic (v := nI 0) C dX3_indexOf_0 (by decide) ?_
  refine zV.istore_n (lo' := [(0, _), (1, _), (2, _)]) C dX3_indexOf_1 (by decide) rfl rfl rfl ?_
  exact L_indexOf hzs hst C G rfl F hg hw ((gC g).length + 1) 0 (by omega) (by omega) ⟨rfl, rfl⟩
set_option maxHeartbeats 4000000 in
set_option maxRecDepth 100000 in
theorem s_find {l : Launch} {E : zG} (hzs : zS E) (hst : l.stackTraces = false) (h : zH) (b : Nat) (g : zGd) (x : Int32) (hg : zGa h b g) (hw : gW g) : zMet l E yX3_find cX3_find 3 (some (.object "ChairMigration$Chair")) ({ frames := 1, cells := 0, slots := 0, locals := 22 } : Room) 0 0 [.ref b, .int x] h (fun r h' => r = some (zfo h b (ixF x (gC g) 0)) ∧ h' = h) (fun _ _ => False) := by
  refine zM_start hzs hst (by decide) (Nat.le_of_ble_eq_true rfl) (fun X C G F I => ?_)
  show zV X 0 0 _ 0 [(0, _), (1, _)] []
  refine zV.aload_n C dX3_find_0 rfl rfl ?_
  refine zV.iload_n C dX3_find_1 rfl ?_
  refine zV.callV (n := 1) C G dX3_find_2 (s_indexOf hzs hst h b g x hg hw) rfl ⟨cd_X3_indexOf, lk_X3_129, im_X3_indexOf, se_X3_X3_indexOf, in_X3⟩ ⟨⟨by decide, by decide⟩, by decide⟩ rfl rfl rfl (hg.1.1) ⟨rfl, by decide⟩ (zaf ?_) (zno)
  refine zV.istore_n (lo' := [(0, _), (1, _), (2, _)]) C dX3_find_5 (by decide) rfl rfl rfl ?_
  rcases hix : ixF x (gC g) 0 with _ | k
  · refine zV.iload_n C dX3_find_6 rfl ?_
    refine zV.ic (v := (-1)) C dX3_find_7 (by decide) ?_
    refine zV.icmp_ne (tgt := 15) C dX3_find_8 (by decide) (fun q8 => ?_) (fun q8 => ?_)
    · exact absurd rfl q8
    · refine zV.null C dX3_find_11 ?_
      refine zV.goto (tgt := 21) C dX3_find_12 (by decide) ?_
      refine zV.aret C F dX3_find_21 (Or.inl ⟨_, rfl⟩) rfl rfl ?_
      exact ⟨by rw [hix]; rfl, rfl⟩
  · obtain ⟨c, hc, hx1, hkl⟩ := ix_some hix
    have h12 : k < 12 := Nat.lt_of_lt_of_le hkl (gW_len hw)
    refine zV.iload_n C dX3_find_6 rfl ?_
    refine zV.ic (v := (-1)) C dX3_find_7 (by decide) ?_
    refine zV.icmp_ne (tgt := 15) C dX3_find_8 (by decide) (fun q8 => ?_) (fun q8 => ?_)
    · refine zV.aload_n C dX3_find_15 rfl rfl ?_
      refine zV.gR 195 (k := 3) C dX3_find_16 zcl_X3 (by decide) rfl lk_X3_30 (hg.1.1) rfl (hg.1.2.2.2.2.1) ?_
      refine zV.iload_n C dX3_find_19 rfl ?_
      refine zV.aaldC (j := k) C dX3_find_20 (hg.1.2.2.2.2.2.2.2.2.1.1) (rfl) (Nat.lt_of_lt_of_eq h12 (hg.1.2.2.2.2.2.2.2.2.1.2).symm) (by omega) (zGa_a hg h12) ?_
      refine zV.aret C F dX3_find_21 (Or.inl ⟨_, rfl⟩) rfl rfl ?_
      exact ⟨by rw [hix]; rfl, rfl⟩
    · exact absurd q8 (nI_m1 (by omega))
set_option maxHeartbeats 4000000 in
set_option maxRecDepth 100000 in
theorem L_placeInHerd {X : zX} {l : Launch} {E : zG} {rm : Room} (hzs : zS E) (hst : l.stackTraces = false) (C : zC X cX3_placeInHerd RX3 4) (G : zGX X l E rm) {h : zH} {b : Nat} {g : zGd} {j : Nat} {c0 : zCh} {Qr : Option Value → zH → Prop} {Qx : String → zH → Prop} (hr : rm = ({ frames := 0, cells := 0, slots := 0, locals := 0 } : Room)) (F : zF X (some .int) 0 0 Qr Qx) (hg : zGa h b g) (hw : gW g) (hc0 : (gC g)[j]? = some c0) (hq : Qr (some (.int (nI (hsz ((gC g).take j) (chL c0))))) h) : ∀ n k, k ≤ j → j + 1 ≤ k + n → zV X 0 0 h 4 [(0, .ref b), (1, .ref (cA h b j)), (2, .int (nI (hsz ((gC g).take k) (chL c0)))), (3, .int (nI k))] [] := by
  subst hr
  have hl := gW_len hw
  have hjl : j < (gC g).length := (List.getElem?_eq_some_iff.mp hc0).1
  have hj12 : j < 12 := by omega
  obtain ⟨d1, d2, d3, d4, d5⟩ := zGa_c hg hc0
  obtain ⟨e1, e2, e3, e4⟩ := gW_cb hw hc0
  intro n
  induction n with
  | zero => intro k h1 h2; exact absurd h2 (by omega)
  | succ n ih =>
    intro k hk hn
    obtain ⟨c, hc, hd⟩ := drop_cons (show k < (gC g).length by omega)
    have h12 : k < 12 := by omega
    obtain ⟨c1, c2, c3, c4, c5⟩ := zGa_c hg hc
    obtain ⟨b1, b2, b3, b4⟩ := gW_cb hw hc
    refine zV.iload_n C dX3_placeInHerd_4 rfl ?_
    refine zV.aload_n C dX3_placeInHerd_5 rfl rfl ?_
    refine zV.gIv 196 (k := 4) C dX3_placeInHerd_6 zcl_X3 (by decide) rfl lk_X3_50 (hg.1.1) rfl ((zGa_len hg)) ?_
    refine zV.icmp_ge (tgt := 47) C dX3_placeInHerd_9 (by decide) (fun q9 => ?_) (fun q9 => ?_)
    · exact absurd (nle (by omega) (by omega) q9) (by omega)
    · refine zV.aload_n C dX3_placeInHerd_12 rfl rfl ?_
      refine zV.gR 195 (k := 3) C dX3_placeInHerd_13 zcl_X3 (by decide) rfl lk_X3_30 (hg.1.1) rfl (hg.1.2.2.2.2.1) ?_
      refine zV.iload_n C dX3_placeInHerd_16 rfl ?_
      refine zV.aaldC (j := k) C dX3_placeInHerd_17 (hg.1.2.2.2.2.2.2.2.2.1.1) (rfl) (Nat.lt_of_lt_of_eq h12 (hg.1.2.2.2.2.2.2.2.2.1.2).symm) (by omega) (zGa_a hg h12) ?_
      refine zV.aload_n C dX3_placeInHerd_18 rfl rfl ?_
      refine zV.acmp_eq (rx := some (cA h b k)) (ry := some (cA h b j)) (tgt := 47) C dX3_placeInHerd_19 (by decide) (fun q19 => ?_) (fun q19 => ?_)
      · have e := zGa_inj hg h12 hj12 (Option.some.inj q19)
        subst e
        refine zV.iload_n C dX3_placeInHerd_47 rfl ?_
        refine zV.iret C F dX3_placeInHerd_48 rfl ?_
        exact hq
      · have hkj : k ≠ j := fun e => q19 (by rw [e])
        refine zV.aload_n C dX3_placeInHerd_22 rfl rfl ?_
        refine zV.gR 195 (k := 3) C dX3_placeInHerd_23 zcl_X3 (by decide) rfl lk_X3_30 (hg.1.1) rfl (hg.1.2.2.2.2.1) ?_
        refine zV.iload_n C dX3_placeInHerd_26 rfl ?_
        refine zV.aaldC (j := k) C dX3_placeInHerd_27 (hg.1.2.2.2.2.2.2.2.2.1.1) (rfl) (Nat.lt_of_lt_of_eq h12 (hg.1.2.2.2.2.2.2.2.2.1.2).symm) (by omega) (zGa_a hg h12) ?_
        refine zV.gNIv 129 (k := 1) C dX3_placeInHerd_28 zcl_X0 (by decide) rfl lk_X3_113 (zGa_k hg h12) rfl (c2) ?_
        refine zV.aload_n C dX3_placeInHerd_31 rfl rfl ?_
        refine zV.gNIv 129 (k := 1) C dX3_placeInHerd_32 zcl_X0 (by decide) rfl lk_X3_113 (zGa_k hg hj12) rfl (d2) ?_
        refine zV.icmp_ne (tgt := 41) C dX3_placeInHerd_35 (by decide) (fun q35 => ?_) (fun q35 => ?_)
        · have ht : hsz ((gC g).take k) (chL c0) = hsz ((gC g).take (k + 1)) (chL c0) := by rw [hsz_take hc, if_neg (fun z => q35 (by rw [z]))]; rfl
          refine zV.iinc (lo' := [(0, _), (1, _), (2, _), (3, _)]) C dX3_placeInHerd_41 rfl (by decide) rfl rfl rfl ?_
          refine zV.goto (tgt := 4) C dX3_placeInHerd_44 (by decide) ?_
          simp only [inc1]
          rw [ht]
          exact ih (k + 1) (by omega) (by omega)
        · have ht : hsz ((gC g).take k) (chL c0) + 1 = hsz ((gC g).take (k + 1)) (chL c0) := by rw [hsz_take hc, if_pos ((neqn (by omega) (by omega)).mp q35)]
          refine zV.iinc (lo' := [(0, _), (1, _), (2, _), (3, _)]) C dX3_placeInHerd_38 rfl (by decide) rfl rfl rfl ?_
          refine zV.iinc (lo' := [(0, _), (1, _), (2, _), (3, _)]) C dX3_placeInHerd_41 rfl (by decide) rfl rfl rfl ?_
          refine zV.goto (tgt := 4) C dX3_placeInHerd_44 (by decide) ?_
          simp only [inc1]
          rw [ht]
          exact ih (k + 1) (by omega) (by omega)
set_option maxHeartbeats 4000000 in
set_option maxRecDepth 100000 in
theorem s_placeInHerd {l : Launch} {E : zG} (hzs : zS E) (hst : l.stackTraces = false) (h : zH) (b : Nat) (g : zGd) (j : Nat) (c0 : zCh) (hc0 : (gC g)[j]? = some c0) (hg : zGa h b g) (hw : gW g) : zMet l E yX3_placeInHerd cX3_placeInHerd 4 (some .int) ({ frames := 0, cells := 0, slots := 0, locals := 0 } : Room) 0 0 [.ref b, .ref (cA h b j)] h (fun r h' => r = some (.int (nI (hsz ((gC g).take j) (chL c0)))) ∧ h' = h) (fun _ _ => False) := by
  refine zM_start hzs hst (by decide) (Nat.le_of_ble_eq_true rfl) (fun X C G F I => ?_)
  show zV X 0 0 _ 0 [(0, _), (1, _)] []
  refine zV.ic (v := nI 0) C dX3_placeInHerd_0 (by decide) ?_
  refine zV.istore_n (lo' := [(0, _), (1, _), (2, _)]) C dX3_placeInHerd_1 (by decide) rfl rfl rfl ?_
  refine zV.ic (v := nI 0) C dX3_placeInHerd_2 (by decide) ?_
  refine zV.istore_n (lo' := [(0, _), (1, _), (2, _), (3, _)]) C dX3_placeInHerd_3 (by decide) rfl rfl rfl ?_
  exact L_placeInHerd hzs hst C G rfl F hg hw hc0 ⟨rfl, rfl⟩ (j + 1) 0 (by omega) (by omega)
set_option maxHeartbeats 4000000 in
set_option maxRecDepth 100000 in
theorem L_findInHerd {X : zX} {l : Launch} {E : zG} {rm : Room} (hzs : zS E) (hst : l.stackTraces = false) (C : zC X cX3_findInHerd RX3 5) (G : zGX X l E rm) {h : zH} {b : Nat} {g : zGd} {l9 : Nat} {y : Int32} (hl9 : l9 < 6) {Qr : Option Value → zH → Prop} {Qx : String → zH → Prop} (hr : rm = ({ frames := 0, cells := 0, slots := 0, locals := 0 } : Room)) (F : zF X (some (.object "ChairMigration$Chair")) 0 0 Qr Qx) (hg : zGa h b g) (hw : gW g) : ∀ n k p9, k ≤ (gC g).length → (gC g).length + 1 ≤ k + n → Qr (some (zfo h b (fdH l9 y ((gC g).drop k) p9 k))) h → zV X 0 0 h 5 [(0, .ref b), (1, .int (nI l9)), (2, .int y), (3, .int (nI p9)), (4, .int (nI k))] [] := by
  subst hr
  have hl := gW_len hw
  have hB := gW_b hw
  intro n
  induction n with
  | zero => intro k p9 h1 h2; exact absurd h2 (by omega)
  | succ n ih =>
    intro k p9 hk hn hq
    refine zV.iload C dX3_findInHerd_5 rfl ?_
    refine zV.aload_n C dX3_findInHerd_7 rfl rfl ?_
    refine zV.gIv 196 (k := 4) C dX3_findInHerd_8 zcl_X3 (by decide) rfl lk_X3_50 (hg.1.1) rfl ((zGa_len hg)) ?_
    refine zV.icmp_ge (tgt := 50) C dX3_findInHerd_11 (by decide) (fun q11 => ?_) (fun q11 => ?_)
    · have e : k = (gC g).length := by have := nle (by omega) (by omega) q11; omega
      subst e
      rw [List.drop_length] at hq
      refine zV.null C dX3_findInHerd_50 ?_
      refine zV.aret C F dX3_findInHerd_51 (Or.inl ⟨_, rfl⟩) rfl rfl ?_
      exact hq
    · have hkl : k < (gC g).length := nlt (by omega) (by omega) q11
      obtain ⟨c, hc, hd⟩ := drop_cons hkl
      rw [hd] at hq
      have h12 : k < 12 := by omega
      obtain ⟨c1, c2, c3, c4, c5⟩ := zGa_c hg hc
      obtain ⟨b1, b2, b3, b4⟩ := gW_cb hw hc
      refine zV.aload_n C dX3_findInHerd_14 rfl rfl ?_
      refine zV.gR 195 (k := 3) C dX3_findInHerd_15 zcl_X3 (by decide) rfl lk_X3_30 (hg.1.1) rfl (hg.1.2.2.2.2.1) ?_
      refine zV.iload C dX3_findInHerd_18 rfl ?_
      refine zV.aaldC (j := k) C dX3_findInHerd_20 (hg.1.2.2.2.2.2.2.2.2.1.1) (rfl) (Nat.lt_of_lt_of_eq h12 (hg.1.2.2.2.2.2.2.2.2.1.2).symm) (by omega) (zGa_a hg h12) ?_
      refine zV.gNIv 129 (k := 1) C dX3_findInHerd_21 zcl_X0 (by decide) rfl lk_X3_113 (zGa_k hg h12) rfl (c2) ?_
      refine zV.iload_n C dX3_findInHerd_24 rfl ?_
      refine zV.icmp_ne (tgt := 44) C dX3_findInHerd_25 (by decide) (fun q25 => ?_) (fun q25 => ?_)
      · rw [fdH, if_neg (fun z => q25 (by rw [z]))] at hq
        refine zV.iinc (lo' := [(0, _), (1, _), (2, _), (3, _), (4, _)]) C dX3_findInHerd_44 rfl (by decide) rfl rfl rfl ?_
        refine zV.goto (tgt := 5) C dX3_findInHerd_47 (by decide) ?_
        simp only [inc1]
        exact ih (k + 1) _ (by omega) (by omega) hq
      · rw [fdH, if_pos ((neqn (by omega) (by omega)).mp q25)] at hq
        refine zV.iload_n C dX3_findInHerd_28 rfl ?_
        refine zV.iload_n C dX3_findInHerd_29 rfl ?_
        refine zV.icmp_ne (tgt := 41) C dX3_findInHerd_30 (by decide) (fun q30 => ?_) (fun q30 => ?_)
        · rw [if_neg q30] at hq
          refine zV.iinc (lo' := [(0, _), (1, _), (2, _), (3, _), (4, _)]) C dX3_findInHerd_41 rfl (by decide) rfl rfl rfl ?_
          refine zV.iinc (lo' := [(0, _), (1, _), (2, _), (3, _), (4, _)]) C dX3_findInHerd_44 rfl (by decide) rfl rfl rfl ?_
          refine zV.goto (tgt := 5) C dX3_findInHerd_47 (by decide) ?_
          simp only [inc1]
          exact ih (k + 1) _ (by omega) (by omega) hq
        · rw [if_pos q30] at hq
          refine zV.aload_n C dX3_findInHerd_33 rfl rfl ?_
          refine zV.gR 195 (k := 3) C dX3_findInHerd_34 zcl_X3 (by decide) rfl lk_X3_30 (hg.1.1) rfl (hg.1.2.2.2.2.1) ?_
          refine zV.iload C dX3_findInHerd_37 rfl ?_
          refine zV.aaldC (j := k) C dX3_findInHerd_39 (hg.1.2.2.2.2.2.2.2.2.1.1) (rfl) (Nat.lt_of_lt_of_eq h12 (hg.1.2.2.2.2.2.2.2.2.1.2).symm) (by omega) (zGa_a hg h12) ?_
          refine zV.aret C F dX3_findInHerd_40 (Or.inl ⟨_, rfl⟩) rfl rfl ?_
          exact hq
set_option maxHeartbeats 4000000 in
set_option maxRecDepth 100000 in
theorem s_findInHerd {l : Launch} {E : zG} (hzs : zS E) (hst : l.stackTraces = false) (h : zH) (b : Nat) (g : zGd) (l9 : Nat) (y : Int32) (hl9 : l9 < 6) (hg : zGa h b g) (hw : gW g) : zMet l E yX3_findInHerd cX3_findInHerd 5 (some (.object "ChairMigration$Chair")) ({ frames := 0, cells := 0, slots := 0, locals := 0 } : Room) 0 0 [.ref b, .int (nI l9), .int y] h (fun r h' => r = some (zfo h b (fdH l9 y (gC g) 0 0)) ∧ h' = h) (fun _ _ => False) := by
  refine zM_start hzs hst (by decide) (Nat.le_of_ble_eq_true rfl) (fun X C G F I => ?_)
  show zV X 0 0 _ 0 [(0, _), (1, _), (2, _)] []
  refine zV.ic (v := nI 0) C dX3_findInHerd_0 (by decide) ?_
  refine zV.istore_n (lo' := [(0, _), (1, _), (2, _), (3, _)]) C dX3_findInHerd_1 (by decide) rfl rfl rfl ?_
  refine zV.ic (v := nI 0) C dX3_findInHerd_2 (by decide) ?_
  refine zV.istore (lo' := [(0, _), (1, _), (2, _), (3, _), (4, _)]) C dX3_findInHerd_3 (by decide) rfl rfl rfl ?_
  exact L_findInHerd hzs hst C G hl9 rfl F hg hw ((gC g).length + 1) 0 0 (by omega) (by omega) ⟨rfl, rfl⟩
def idO (cs : List zCh) (o : Option Nat) : Int32 := match o with
  | none => -1
  | some k => match cs[k]? with
    | none => -1
    | some c => nI (chI c)
set_option maxHeartbeats 4000000 in
set_option maxRecDepth 100000 in
theorem s_idInHerd {l : Launch} {E : zG} (hzs : zS E) (hst : l.stackTraces = false) (h : zH) (b : Nat) (g : zGd) (l9 : Nat) (y : Int32) (hl9 : l9 < 6) (hg : zGa h b g) (hw : gW g) : zMet l E yX3_idInHerd cX3_idInHerd 4 (some .int) ({ frames := 1, cells := 0, slots := 0, locals := 24 } : Room) 0 0 [.ref b, .int (nI l9), .int y] h (fun r h' => r = some (.int (idO (gC g) (fdH l9 y (gC g) 0 0))) ∧ h' = h) (fun _ _ => False) := by
  refine zM_start hzs hst (by decide) (Nat.le_of_ble_eq_true rfl) (fun X C G F I => ?_)
  show zV X 0 0 _ 0 [(0, _), (1, _), (2, _)] []
  refine zV.aload_n C dX3_idInHerd_0 rfl rfl ?_
  refine zV.iload_n C dX3_idInHerd_1 rfl ?_
  refine zV.iload_n C dX3_idInHerd_2 rfl ?_
  refine zV.callV (n := 2) C G dX3_idInHerd_3 (s_findInHerd hzs hst h b g l9 y hl9 hg hw) rfl ⟨cd_X3_findInHerd, lk_X3_177, im_X3_findInHerd, se_X3_X3_findInHerd, in_X3⟩ ⟨⟨by decide, by decide⟩, by decide⟩ rfl rfl rfl (hg.1.1) ⟨rfl, by decide⟩ (zaf ?_) (zno)
  rcases hix : fdH l9 y (gC g) 0 0 with _ | k
  · refine zV.astore_n (lo' := [(0, _), (1, _), (2, _), (3, _)]) C dX3_idInHerd_6 rfl (by decide) rfl rfl rfl ?_
    refine zV.aload_n C dX3_idInHerd_7 rfl rfl ?_
    refine zV.ifnonnull (tgt := 15) C dX3_idInHerd_8 (by decide) rfl (fun q8 => ?_) (fun q8 => ?_)
    · exact absurd rfl q8
    · refine zV.ic (v := (-1)) C dX3_idInHerd_11 (by decide) ?_
      refine zV.goto (tgt := 19) C dX3_idInHerd_12 (by decide) ?_
      refine zV.iret C F dX3_idInHerd_19 rfl ?_
      exact ⟨by rw [hix]; rfl, rfl⟩
  · obtain ⟨c, hc, hx1, hkl⟩ := fd_some hix
    have h12 : k < 12 := Nat.lt_of_lt_of_le hkl (gW_len hw)
    obtain ⟨c1, c2, c3, c4, c5⟩ := zGa_c hg hc
    refine zV.astore_n (lo' := [(0, _), (1, _), (2, _), (3, _)]) C dX3_idInHerd_6 rfl (by decide) rfl rfl rfl ?_
    refine zV.aload_n C dX3_idInHerd_7 rfl rfl ?_
    refine zV.ifnonnull (tgt := 15) C dX3_idInHerd_8 (by decide) rfl (fun q8 => ?_) (fun q8 => ?_)
    · refine zV.aload_n C dX3_idInHerd_15 rfl rfl ?_
      refine zV.gNIv 128 (k := 0) C dX3_idInHerd_16 zcl_X0 (by decide) rfl lk_X3_110 (zGa_k hg h12) rfl (c1) ?_
      refine zV.iret C F dX3_idInHerd_19 rfl ?_
      exact ⟨by rw [hix]; unfold idO; simp only [hc], rfl⟩
    · exact absurd q8 (by intro z; cases z)
set_option maxHeartbeats 4000000 in
set_option maxRecDepth 100000 in
theorem L_countChairsOn {X : zX} {l : Launch} {E : zG} {rm : Room} (hzs : zS E) (hst : l.stackTraces = false) (C : zC X cX3_countChairsOn RX3 4) (G : zGX X l E rm) {h : zH} {b : Nat} {g : zGd} {l9 : Nat} (hl9 : l9 < 6) {Qr : Option Value → zH → Prop} {Qx : String → zH → Prop} (hr : rm = ({ frames := 0, cells := 0, slots := 0, locals := 0 } : Room)) (F : zF X (some .int) 0 0 Qr Qx) (hg : zGa h b g) (hw : gW g) : ∀ n k p9, k ≤ (gC g).length → (gC g).length + 1 ≤ k + n → Qr (some (.int (nI (p9 + ((gC g).drop k).countP (fun c => decide (chL c = l9)))))) h → zV X 0 0 h 4 [(0, .ref b), (1, .int (nI l9)), (2, .int (nI p9)), (3, .int (nI k))] [] := by
  subst hr
  have hl := gW_len hw
  have hB := gW_b hw
  intro n
  induction n with
  | zero => intro k p9 h1 h2; exact absurd h2 (by omega)
  | succ n ih =>
    intro k p9 hk hn hq
    refine zV.iload_n C dX3_countChairsOn_4 rfl ?_
    refine zV.aload_n C dX3_countChairsOn_5 rfl rfl ?_
    refine zV.gIv 196 (k := 4) C dX3_countChairsOn_6 zcl_X3 (by decide) rfl lk_X3_50 (hg.1.1) rfl ((zGa_len hg)) ?_
    refine zV.icmp_ge (tgt := 34) C dX3_countChairsOn_9 (by decide) (fun q9 => ?_) (fun q9 => ?_)
    · have e : k = (gC g).length := by have := nle (by omega) (by omega) q9; omega
      subst e
      rw [List.drop_length] at hq
      refine zV.iload_n C dX3_countChairsOn_34 rfl ?_
      refine zV.iret C F dX3_countChairsOn_35 rfl ?_
      exact hq
    · have hkl : k < (gC g).length := nlt (by omega) (by omega) q9
      obtain ⟨c, hc, hd⟩ := drop_cons hkl
      rw [hd] at hq
      have h12 : k < 12 := by omega
      obtain ⟨c1, c2, c3, c4, c5⟩ := zGa_c hg hc
      obtain ⟨b1, b2, b3, b4⟩ := gW_cb hw hc
      refine zV.aload_n C dX3_countChairsOn_12 rfl rfl ?_
      refine zV.gR 195 (k := 3) C dX3_countChairsOn_13 zcl_X3 (by decide) rfl lk_X3_30 (hg.1.1) rfl (hg.1.2.2.2.2.1) ?_
      refine zV.iload_n C dX3_countChairsOn_16 rfl ?_
      refine zV.aaldC (j := k) C dX3_countChairsOn_17 (hg.1.2.2.2.2.2.2.2.2.1.1) (rfl) (Nat.lt_of_lt_of_eq h12 (hg.1.2.2.2.2.2.2.2.2.1.2).symm) (by omega) (zGa_a hg h12) ?_
      refine zV.gNIv 129 (k := 1) C dX3_countChairsOn_18 zcl_X0 (by decide) rfl lk_X3_113 (zGa_k hg h12) rfl (c2) ?_
      refine zV.iload_n C dX3_countChairsOn_21 rfl ?_
      refine zV.icmp_ne (tgt := 28) C dX3_countChairsOn_22 (by decide) (fun q22 => ?_) (fun q22 => ?_)
      · rw [cnt_cons, if_neg (fun z => q22 (by rw [of_decide_eq_true z]))] at hq
        refine zV.iinc (lo' := [(0, _), (1, _), (2, _), (3, _)]) C dX3_countChairsOn_28 rfl (by decide) rfl rfl rfl ?_
        refine zV.goto (tgt := 4) C dX3_countChairsOn_31 (by decide) ?_
        simp only [inc1]
        
        exact ih (k + 1) _ (by omega) (by omega) hq
      · rw [cnt_cons, if_pos (decide_eq_true ((neqn (by omega) (by omega)).mp q22)), Nat.add_comm (List.countP _ _) 1, ← Nat.add_assoc] at hq
        refine zV.iinc (lo' := [(0, _), (1, _), (2, _), (3, _)]) C dX3_countChairsOn_25 rfl (by decide) rfl rfl rfl ?_
        refine zV.iinc (lo' := [(0, _), (1, _), (2, _), (3, _)]) C dX3_countChairsOn_28 rfl (by decide) rfl rfl rfl ?_
        refine zV.goto (tgt := 4) C dX3_countChairsOn_31 (by decide) ?_
        simp only [inc1]
        
        exact ih (k + 1) _ (by omega) (by omega) hq
set_option maxHeartbeats 4000000 in
set_option maxRecDepth 100000 in
theorem s_countChairsOn {l : Launch} {E : zG} (hzs : zS E) (hst : l.stackTraces = false) (h : zH) (b : Nat) (g : zGd) (l9 : Nat) (hl9 : l9 < 6) (hg : zGa h b g) (hw : gW g) : zMet l E yX3_countChairsOn cX3_countChairsOn 4 (some .int) ({ frames := 0, cells := 0, slots := 0, locals := 0 } : Room) 0 0 [.ref b, .int (nI l9)] h (fun r h' => r = some (.int (nI ((gC g).countP (fun c => decide (chL c = l9))))) ∧ h' = h) (fun _ _ => False) := by
  refine zM_start hzs hst (by decide) (Nat.le_of_ble_eq_true rfl) (fun X C G F I => ?_)
  show zV X 0 0 _ 0 [(0, _), (1, _)] []
  refine zV.ic (v := nI 0) C dX3_countChairsOn_0 (by decide) ?_
  refine zV.istore_n (lo' := [(0, _), (1, _), (2, _)]) C dX3_countChairsOn_1 (by decide) rfl rfl rfl ?_
  refine zV.ic (v := nI 0) C dX3_countChairsOn_2 (by decide) ?_
  refine zV.istore_n (lo' := [(0, _), (1, _), (2, _), (3, _)]) C dX3_countChairsOn_3 (by decide) rfl rfl rfl ?_
  exact L_countChairsOn hzs hst C G hl9 rfl F hg hw ((gC g).length + 1) 0 0 (by omega) (by omega) ⟨by rw [Nat.zero_add]; rfl, rfl⟩
theorem chGr_iff {h : zH} {a l : Nat} {c : zCh} (q : chAt h a c) (hl : l < 6) (hc : chL c < 6) : (hI h 129 a = nI l ∧ hI h 132 a = 0) ↔ chGr l c = true := by
  rw [q.2.1, q.2.2.2.2, b2n, neqn (by omega) (by omega)]
  unfold chGr
  cases chF c <;> simp
theorem chGr_v {h : zH} {a l : Nat} {c : zCh} (q : chAt h a c) (hl : l < 6) (hc : chL c < 6) : Value.int (nI (if hI h 129 a = nI l ∧ hI h 132 a = 0 then 1 else 0)) = .int (nI (b2 (chGr l c))) := Option.some.inj (ifc (chGr_iff q hl hc))
set_option maxHeartbeats 4000000 in
set_option maxRecDepth 100000 in
theorem L_countGrazingOn {X : zX} {l : Launch} {E : zG} {rm : Room} (hzs : zS E) (hst : l.stackTraces = false) (C : zC X cX3_countGrazingOn RX3 4) (G : zGX X l E rm) {h : zH} {b : Nat} {g : zGd} {l9 : Nat} (hl9 : l9 < 6) {Qr : Option Value → zH → Prop} {Qx : String → zH → Prop} (hr : rm = ({ frames := 1, cells := 0, slots := 0, locals := 21 } : Room)) (F : zF X (some .int) 0 0 Qr Qx) (hg : zGa h b g) (hw : gW g) : ∀ n k p9, k ≤ (gC g).length → (gC g).length + 1 ≤ k + n → Qr (some (.int (nI (p9 + ((gC g).drop k).countP (chGr l9))))) h → zV X 0 0 h 4 [(0, .ref b), (1, .int (nI l9)), (2, .int (nI p9)), (3, .int (nI k))] [] := by
  subst hr
  have hl := gW_len hw
  have hB := gW_b hw
  intro n
  induction n with
  | zero => intro k p9 h1 h2; exact absurd h2 (by omega)
  | succ n ih =>
    intro k p9 hk hn hq
    refine zV.iload_n C dX3_countGrazingOn_4 rfl ?_
    refine zV.aload_n C dX3_countGrazingOn_5 rfl rfl ?_
    refine zV.gIv 196 (k := 4) C dX3_countGrazingOn_6 zcl_X3 (by decide) rfl lk_X3_50 (hg.1.1) rfl ((zGa_len hg)) ?_
    refine zV.icmp_ge (tgt := 34) C dX3_countGrazingOn_9 (by decide) (fun q9 => ?_) (fun q9 => ?_)
    · have e : k = (gC g).length := by have := nle (by omega) (by omega) q9; omega
      subst e
      rw [List.drop_length] at hq
      refine zV.iload_n C dX3_countGrazingOn_34 rfl ?_
      refine zV.iret C F dX3_countGrazingOn_35 rfl ?_
      exact hq
    · have hkl : k < (gC g).length := nlt (by omega) (by omega) q9
      obtain ⟨c, hc, hd⟩ := drop_cons hkl
      rw [hd] at hq
      have h12 : k < 12 := by omega
      obtain ⟨c1, c2, c3, c4, c5⟩ := zGa_c hg hc
      obtain ⟨b1, b2, b3, b4⟩ := gW_cb hw hc
      refine zV.aload_n C dX3_countGrazingOn_12 rfl rfl ?_
      refine zV.gR 195 (k := 3) C dX3_countGrazingOn_13 zcl_X3 (by decide) rfl lk_X3_30 (hg.1.1) rfl (hg.1.2.2.2.2.1) ?_
      refine zV.iload_n C dX3_countGrazingOn_16 rfl ?_
      refine zV.aaldC (j := k) C dX3_countGrazingOn_17 (hg.1.2.2.2.2.2.2.2.2.1.1) (rfl) (Nat.lt_of_lt_of_eq h12 (hg.1.2.2.2.2.2.2.2.2.1.2).symm) (by omega) (zGa_a hg h12) ?_
      refine zV.iload_n C dX3_countGrazingOn_18 rfl ?_
      refine zV.callV (n := 1) C G dX3_countGrazingOn_19 (s_Chair_grazesOn hzs hst h (cA h b k) (nI l9) (zGa_k hg h12)) rfl ⟨cd_X0_grazesOn, lk_X3_161, im_X0_grazesOn, se_X0_X0_grazesOn, in_X0⟩ ⟨⟨by decide, by decide⟩, by decide⟩ rfl rfl rfl (zGa_k hg h12) ⟨rfl, by decide⟩ (zafe (chGr_v (zGa_c hg hc) hl9 b2) ?_) (zno)
      refine zV.if_eq (tgt := 28) C dX3_countGrazingOn_22 (by decide) (fun q22 => ?_) (fun q22 => ?_)
      · rw [cnt_cons, if_neg (fun z => by rw [b2n.mp q22] at z; cases z)] at hq
        refine zV.iinc (lo' := [(0, _), (1, _), (2, _), (3, _)]) C dX3_countGrazingOn_28 rfl (by decide) rfl rfl rfl ?_
        refine zV.goto (tgt := 4) C dX3_countGrazingOn_31 (by decide) ?_
        simp only [inc1]
        
        exact ih (k + 1) _ (by omega) (by omega) hq
      · rw [cnt_cons, if_pos (Bool.of_not_eq_false (fun z => q22 (b2n.mpr z))), Nat.add_comm (List.countP _ _) 1, ← Nat.add_assoc] at hq
        refine zV.iinc (lo' := [(0, _), (1, _), (2, _), (3, _)]) C dX3_countGrazingOn_25 rfl (by decide) rfl rfl rfl ?_
        refine zV.iinc (lo' := [(0, _), (1, _), (2, _), (3, _)]) C dX3_countGrazingOn_28 rfl (by decide) rfl rfl rfl ?_
        refine zV.goto (tgt := 4) C dX3_countGrazingOn_31 (by decide) ?_
        simp only [inc1]
        
        exact ih (k + 1) _ (by omega) (by omega) hq
set_option maxHeartbeats 4000000 in
set_option maxRecDepth 100000 in
theorem s_countGrazingOn {l : Launch} {E : zG} (hzs : zS E) (hst : l.stackTraces = false) (h : zH) (b : Nat) (g : zGd) (l9 : Nat) (hl9 : l9 < 6) (hg : zGa h b g) (hw : gW g) : zMet l E yX3_countGrazingOn cX3_countGrazingOn 4 (some .int) ({ frames := 1, cells := 0, slots := 0, locals := 21 } : Room) 0 0 [.ref b, .int (nI l9)] h (fun r h' => r = some (.int (nI ((gC g).countP (chGr l9)))) ∧ h' = h) (fun _ _ => False) := by
  refine zM_start hzs hst (by decide) (Nat.le_of_ble_eq_true rfl) (fun X C G F I => ?_)
  show zV X 0 0 _ 0 [(0, _), (1, _)] []
  refine zV.ic (v := nI 0) C dX3_countGrazingOn_0 (by decide) ?_
  refine zV.istore_n (lo' := [(0, _), (1, _), (2, _)]) C dX3_countGrazingOn_1 (by decide) rfl rfl rfl ?_
  refine zV.ic (v := nI 0) C dX3_countGrazingOn_2 (by decide) ?_
  refine zV.istore_n (lo' := [(0, _), (1, _), (2, _), (3, _)]) C dX3_countGrazingOn_3 (by decide) rfl rfl rfl ?_
  exact L_countGrazingOn hzs hst C G hl9 rfl F hg hw ((gC g).length + 1) 0 0 (by omega) (by omega) ⟨by rw [Nat.zero_add]; rfl, rfl⟩
set_option maxHeartbeats 4000000 in
set_option maxRecDepth 100000 in
theorem L_countFolded {X : zX} {l : Launch} {E : zG} {rm : Room} (hzs : zS E) (hst : l.stackTraces = false) (C : zC X cX3_countFolded RX3 3) (G : zGX X l E rm) {h : zH} {b : Nat} {g : zGd}  {Qr : Option Value → zH → Prop} {Qx : String → zH → Prop} (hr : rm = ({ frames := 0, cells := 0, slots := 0, locals := 0 } : Room)) (F : zF X (some .int) 0 0 Qr Qx) (hg : zGa h b g) (hw : gW g) : ∀ n k p9, k ≤ (gC g).length → (gC g).length + 1 ≤ k + n → Qr (some (.int (nI (p9 + ((gC g).drop k).countP chF)))) h → zV X 0 0 h 4 [(0, .ref b), (1, .int (nI p9)), (2, .int (nI k))] [] := by
  subst hr
  have hl := gW_len hw
  have hB := gW_b hw
  intro n
  induction n with
  | zero => intro k p9 h1 h2; exact absurd h2 (by omega)
  | succ n ih =>
    intro k p9 hk hn hq
    refine zV.iload_n C dX3_countFolded_4 rfl ?_
    refine zV.aload_n C dX3_countFolded_5 rfl rfl ?_
    refine zV.gIv 196 (k := 4) C dX3_countFolded_6 zcl_X3 (by decide) rfl lk_X3_50 (hg.1.1) rfl ((zGa_len hg)) ?_
    refine zV.icmp_ge (tgt := 33) C dX3_countFolded_9 (by decide) (fun q9 => ?_) (fun q9 => ?_)
    · have e : k = (gC g).length := by have := nle (by omega) (by omega) q9; omega
      subst e
      rw [List.drop_length] at hq
      refine zV.iload_n C dX3_countFolded_33 rfl ?_
      refine zV.iret C F dX3_countFolded_34 rfl ?_
      exact hq
    · have hkl : k < (gC g).length := nlt (by omega) (by omega) q9
      obtain ⟨c, hc, hd⟩ := drop_cons hkl
      rw [hd] at hq
      have h12 : k < 12 := by omega
      obtain ⟨c1, c2, c3, c4, c5⟩ := zGa_c hg hc
      obtain ⟨b1, b2, b3, b4⟩ := gW_cb hw hc
      refine zV.aload_n C dX3_countFolded_12 rfl rfl ?_
      refine zV.gR 195 (k := 3) C dX3_countFolded_13 zcl_X3 (by decide) rfl lk_X3_30 (hg.1.1) rfl (hg.1.2.2.2.2.1) ?_
      refine zV.iload_n C dX3_countFolded_16 rfl ?_
      refine zV.aaldC (j := k) C dX3_countFolded_17 (hg.1.2.2.2.2.2.2.2.2.1.1) (rfl) (Nat.lt_of_lt_of_eq h12 (hg.1.2.2.2.2.2.2.2.2.1.2).symm) (by omega) (zGa_a hg h12) ?_
      refine zV.gNIv 132 (k := 4) C dX3_countFolded_18 zcl_X0 (by decide) rfl lk_X3_122 (zGa_k hg h12) rfl (c5) ?_
      refine zV.if_eq (tgt := 27) C dX3_countFolded_21 (by decide) (fun q21 => ?_) (fun q21 => ?_)
      · rw [cnt_cons, if_neg (fun z => by rw [b2n.mp q21] at z; cases z)] at hq
        refine zV.iinc (lo' := [(0, _), (1, _), (2, _)]) C dX3_countFolded_27 rfl (by decide) rfl rfl rfl ?_
        refine zV.goto (tgt := 4) C dX3_countFolded_30 (by decide) ?_
        simp only [inc1]
        
        exact ih (k + 1) _ (by omega) (by omega) hq
      · rw [cnt_cons, if_pos (Bool.of_not_eq_false (fun z => q21 (b2n.mpr z))), Nat.add_comm (List.countP _ _) 1, ← Nat.add_assoc] at hq
        refine zV.iinc (lo' := [(0, _), (1, _), (2, _)]) C dX3_countFolded_24 rfl (by decide) rfl rfl rfl ?_
        refine zV.iinc (lo' := [(0, _), (1, _), (2, _)]) C dX3_countFolded_27 rfl (by decide) rfl rfl rfl ?_
        refine zV.goto (tgt := 4) C dX3_countFolded_30 (by decide) ?_
        simp only [inc1]
        
        exact ih (k + 1) _ (by omega) (by omega) hq
set_option maxHeartbeats 4000000 in
set_option maxRecDepth 100000 in
theorem s_countFolded {l : Launch} {E : zG} (hzs : zS E) (hst : l.stackTraces = false) (h : zH) (b : Nat) (g : zGd)  (hg : zGa h b g) (hw : gW g) : zMet l E yX3_countFolded cX3_countFolded 3 (some .int) ({ frames := 0, cells := 0, slots := 0, locals := 0 } : Room) 0 0 [.ref b] h (fun r h' => r = some (.int (nI ((gC g).countP chF))) ∧ h' = h) (fun _ _ => False) := by
  refine zM_start hzs hst (by decide) (Nat.le_of_ble_eq_true rfl) (fun X C G F I => ?_)
  show zV X 0 0 _ 0 [(0, _)] []
  refine zV.ic (v := nI 0) C dX3_countFolded_0 (by decide) ?_
  refine zV.istore_n (lo' := [(0, _), (1, _)]) C dX3_countFolded_1 (by decide) rfl rfl rfl ?_
  refine zV.ic (v := nI 0) C dX3_countFolded_2 (by decide) ?_
  refine zV.istore_n (lo' := [(0, _), (1, _), (2, _)]) C dX3_countFolded_3 (by decide) rfl rfl rfl ?_
  exact L_countFolded hzs hst C G rfl F hg hw ((gC g).length + 1) 0 0 (by omega) (by omega) ⟨by rw [Nat.zero_add]; rfl, rfl⟩
set_option maxHeartbeats 4000000 in
set_option maxRecDepth 100000 in
theorem L_sumOfRust {X : zX} {l : Launch} {E : zG} {rm : Room} (hzs : zS E) (hst : l.stackTraces = false) (C : zC X cX3_sumOfRust RX3 3) (G : zGX X l E rm) {h : zH} {b : Nat} {g : zGd}  {Qr : Option Value → zH → Prop} {Qx : String → zH → Prop} (hr : rm = ({ frames := 0, cells := 0, slots := 0, locals := 0 } : Room)) (F : zF X (some .int) 0 0 Qr Qx) (hg : zGa h b g) (hw : gW g) : ∀ n k p9, k ≤ (gC g).length → (gC g).length + 1 ≤ k + n → Qr (some (.int (nI (p9 + rsum ((gC g).drop k))))) h → zV X 0 0 h 4 [(0, .ref b), (1, .int (nI p9)), (2, .int (nI k))] [] := by
  subst hr
  have hl := gW_len hw
  have hB := gW_b hw
  intro n
  induction n with
  | zero => intro k p9 h1 h2; exact absurd h2 (by omega)
  | succ n ih =>
    intro k p9 hk hn hq
    refine zV.iload_n C dX3_sumOfRust_4 rfl ?_
    refine zV.aload_n C dX3_sumOfRust_5 rfl rfl ?_
    refine zV.gIv 196 (k := 4) C dX3_sumOfRust_6 zcl_X3 (by decide) rfl lk_X3_50 (hg.1.1) rfl ((zGa_len hg)) ?_
    refine zV.icmp_ge (tgt := 30) C dX3_sumOfRust_9 (by decide) (fun q9 => ?_) (fun q9 => ?_)
    · have e : k = (gC g).length := by have := nle (by omega) (by omega) q9; omega
      subst e
      rw [List.drop_length] at hq
      refine zV.iload_n C dX3_sumOfRust_30 rfl ?_
      refine zV.iret C F dX3_sumOfRust_31 rfl ?_
      exact hq
    · have hkl : k < (gC g).length := nlt (by omega) (by omega) q9
      obtain ⟨c, hc, hd⟩ := drop_cons hkl
      rw [hd] at hq
      have h12 : k < 12 := by omega
      obtain ⟨c1, c2, c3, c4, c5⟩ := zGa_c hg hc
      obtain ⟨b1, b2, b3, b4⟩ := gW_cb hw hc
      refine zV.iload_n C dX3_sumOfRust_12 rfl ?_
      refine zV.aload_n C dX3_sumOfRust_13 rfl rfl ?_
      refine zV.gR 195 (k := 3) C dX3_sumOfRust_14 zcl_X3 (by decide) rfl lk_X3_30 (hg.1.1) rfl (hg.1.2.2.2.2.1) ?_
      refine zV.iload_n C dX3_sumOfRust_17 rfl ?_
      refine zV.aaldC (j := k) C dX3_sumOfRust_18 (hg.1.2.2.2.2.2.2.2.2.1.1) (rfl) (Nat.lt_of_lt_of_eq h12 (hg.1.2.2.2.2.2.2.2.2.1.2).symm) (by omega) (zGa_a hg h12) ?_
      refine zV.gNIv 130 (k := 2) C dX3_sumOfRust_19 zcl_X0 (by decide) rfl lk_X3_116 (zGa_k hg h12) rfl (c3) ?_
      refine zV.iadd C dX3_sumOfRust_22 ?_
      refine zV.istore_n (lo' := [(0, _), (1, _), (2, _)]) C dX3_sumOfRust_23 (by decide) rfl rfl rfl ?_
      refine zV.iinc (lo' := [(0, _), (1, _), (2, _)]) C dX3_sumOfRust_24 rfl (by decide) rfl rfl rfl ?_
      refine zV.goto (tgt := 4) C dX3_sumOfRust_27 (by decide) ?_
      simp only [inc1, nI_add]
      rw [rsum, ← Nat.add_assoc] at hq
      exact ih (k + 1) _ (by omega) (by omega) hq
set_option maxHeartbeats 4000000 in
set_option maxRecDepth 100000 in
theorem s_sumOfRust {l : Launch} {E : zG} (hzs : zS E) (hst : l.stackTraces = false) (h : zH) (b : Nat) (g : zGd)  (hg : zGa h b g) (hw : gW g) : zMet l E yX3_sumOfRust cX3_sumOfRust 3 (some .int) ({ frames := 0, cells := 0, slots := 0, locals := 0 } : Room) 0 0 [.ref b] h (fun r h' => r = some (.int (nI (rsum (gC g)))) ∧ h' = h) (fun _ _ => False) := by
  refine zM_start hzs hst (by decide) (Nat.le_of_ble_eq_true rfl) (fun X C G F I => ?_)
  show zV X 0 0 _ 0 [(0, _)] []
  refine zV.ic (v := nI 0) C dX3_sumOfRust_0 (by decide) ?_
  refine zV.istore_n (lo' := [(0, _), (1, _)]) C dX3_sumOfRust_1 (by decide) rfl rfl rfl ?_
  refine zV.ic (v := nI 0) C dX3_sumOfRust_2 (by decide) ?_
  refine zV.istore_n (lo' := [(0, _), (1, _), (2, _)]) C dX3_sumOfRust_3 (by decide) rfl rfl rfl ?_
  exact L_sumOfRust hzs hst C G rfl F hg hw ((gC g).length + 1) 0 0 (by omega) (by omega) ⟨by rw [Nat.zero_add]; rfl, rfl⟩
