/-! Garden: further questions -/
theorem zOkl_sub {n : Nat} {lo : List (Nat × Value)} (h : zOkl n lo) : ∀ q ∈ lo, okV n q.2 := by
  induction lo with
  | nil => intro q hq; exact absurd hq (by simp)
  | cons a t ih =>
    intro q hq
    rcases List.mem_cons.mp hq with rfl | hq
    · exact h.1
    · exact ih h.2 q hq
/-- fewer locals are known -/
theorem zV.sub {X : zX} {kc ks : Nat} {h : zH} {pc : Nat} {lo lo' : List (Nat × Value)} {st : List Value} (ps : List Nat) (hs : ps.filterMap (fun i => lo[i]?) = lo') (k : zV X kc ks h pc lo' st) : zV X kc ks h pc lo st := by
  obtain ⟨p, l, e, R, s, m, args, below, meth, c, E, ad0, n0, Z⟩ := X
  have key : ∀ q ∈ lo', q ∈ lo := fun q hq => by
    subst hs
    obtain ⟨i, _, hi⟩ := List.mem_filterMap.mp hq
    exact List.mem_of_getElem? hi
  intro ad H rl ls e1 e2 w S ol os hl
  refine k ad H rl ls e1 e2 w S (zOkl_of (fun q hq => zOkl_sub ol q (key q hq))) os ⟨hl.1, hl.2.1, fun q hq => ?_⟩
  obtain ⟨a, ha, rfl⟩ := List.mem_map.mp hq
  exact hl.2.2 _ (List.mem_map.mpr ⟨a, key a ha, rfl⟩)
theorem chE_iff {h : zH} {a b : Nat} {c d : zCh} (p : chAt h a c) (q : chAt h b d) (h1 : chI c < 1000000000) (h2 : chI d < 1000000000) (h3 : chR c ≤ 11) (h4 : chR d ≤ 11) : (hI h 130 b < hI h 130 a ∨ (hI h 130 a = hI h 130 b ∧ hI h 128 a < hI h 128 b)) ↔ chE c d = true := by
  rw [p.1, q.1, p.2.2.1, q.2.2.1, nI_ltI (by omega) (by omega), nI_ltI (by omega) (by omega), neqn (by omega) (by omega)]
  unfold chE
  simp
theorem chA_iff {h : zH} {a b : Nat} {c d : zCh} (p : chAt h a c) (q : chAt h b d) (h1 : chI c < 1000000000) (h2 : chI d < 1000000000) (h3 : chR c ≤ 11) (h4 : chR d ≤ 11) (h5 : chD c ≤ 1000000000) (h6 : chD d ≤ 1000000000) : (hI h 130 b < hI h 130 a ∨ (hI h 130 a = hI h 130 b ∧ (hI h 131 a < hI h 131 b ∨ (hI h 131 a = hI h 131 b ∧ hI h 128 a < hI h 128 b)))) ↔ chA c d = true := by
  rw [p.1, q.1, p.2.2.1, q.2.2.1, p.2.2.2.1, q.2.2.2.1, nI_ltI (by omega) (by omega), nI_ltI (by omega) (by omega), neqn (by omega) (by omega), nI_ltI (by omega) (by omega), neqn (by omega) (by omega)]
  unfold chA
  simp
theorem vb2 {p : Prop} [Decidable p] {x : Bool} (h : p ↔ x = true) : Value.int (nI (if p then 1 else 0)) = .int (nI (b2 x)) := Option.some.inj (ifc h)
/-- the eldest on the lawn l: its place, and itself -/
def eldF (l : Nat) : List zCh → Nat → Option (Nat × zCh) → Option (Nat × zCh)
  | [], _, o => o
  | c :: t, k, o => eldF l t (k + 1) (if chL c = l ∧ (match o with | none => true | some q => chE c q.2) = true then some (k, c) else o)
def eldI (o : Option (Nat × zCh)) : Int32 := match o with
  | none => -1
  | some q => nI (chI q.2)
def zfq (h : zH) (b : Nat) (o : Option (Nat × zCh)) : Value := match o with
  | none => .null
  | some q => .ref (cA h b q.1)
set_option maxHeartbeats 4000000 in
set_option maxRecDepth 100000 in
theorem s_comingSeason {l : Launch} {E : zG} (hzs : zS E) (hst : l.stackTraces = false) (h : zH) (b : Nat) (g : zGd)  (hg : zGa h b g) (hw : gW g) : zMet l E yX3_comingSeason cX3_comingSeason 1 (some .int) ({ frames := 0, cells := 0, slots := 0, locals := 0 } : Room) 0 0 [.ref b] h (fun r h' => r = some (.int (nI (gD g / 5 % 4))) ∧ h' = h) (fun _ _ => False) := by
  refine zM_start hzs hst (by decide) (Nat.le_of_ble_eq_true rfl) (fun X C G F I => ?_)
  show zV X 0 0 _ 0 [(0, _)] []
  refine zV.aload_n C dX3_comingSeason_0 rfl rfl ?_
  refine zV.gIv 198 (k := 6) C dX3_comingSeason_1 zcl_X3 (by decide) rfl lk_X3_59 (hg.1.1) rfl ((zGa_n hg).2.2.1) ?_
  have hB := gW_b hw
  refine zV.ic (v := nI 5) C dX3_comingSeason_4 (by decide) ?_
  refine zV.idiv C dX3_comingSeason_5 (by decide) ?_
  rw [pk_div (by omega) (by decide) (by decide)]
  refine zV.ic (v := nI 4) C dX3_comingSeason_6 (by decide) ?_
  refine zV.irem C dX3_comingSeason_7 (by decide) ?_
  rw [pk_rem (by omega) (by decide) (by decide)]
  refine zV.iret C F dX3_comingSeason_8 rfl ?_
  exact ⟨rfl, rfl⟩
set_option maxHeartbeats 4000000 in
set_option maxRecDepth 100000 in
theorem L_idOfElder {X : zX} {l : Launch} {E : zG} {rm : Room} (hzs : zS E) (hst : l.stackTraces = false) (C : zC X cX3_idOfElder RX3 5) (G : zGX X l E rm) {h : zH} {b : Nat} {g : zGd} {l9 : Nat} (hl9 : l9 < 6) {Qr : Option Value → zH → Prop} {Qx : String → zH → Prop} (hr : rm = ({ frames := 1, cells := 0, slots := 0, locals := 21 } : Room)) (F : zF X (some .int) 0 0 Qr Qx) (hg : zGa h b g) (hw : gW g) : ∀ n k o, k ≤ (gC g).length → (gC g).length + 1 ≤ k + n → (∀ j d, o = some (j, d) → (gC g)[j]? = some d) → Qr (some (.int (eldI (eldF l9 ((gC g).drop k) k o)))) h → zV X 0 0 h 4 [(0, .ref b), (1, .int (nI l9)), (2, zfq h b o), (3, .int (nI k))] [] := by
  subst hr
  have hl := gW_len hw
  have hB := gW_b hw
  intro n
  induction n with
  | zero => intro k o h1 h2; exact absurd h2 (by omega)
  | succ n ih =>
    intro k o hk hn ho hq
    rcases o with _ | ⟨j, d⟩
    · show zV X 0 0 h 4 [(0, .ref b), (1, .int (nI l9)), (2, .null), (3, .int (nI k))] []
      refine zV.iload_n C dX3_idOfElder_4 rfl ?_
      refine zV.aload_n C dX3_idOfElder_5 rfl rfl ?_
      refine zV.gIv 196 (k := 4) C dX3_idOfElder_6 zcl_X3 (by decide) rfl lk_X3_50 (hg.1.1) rfl ((zGa_len hg)) ?_
      refine zV.icmp_ge (tgt := 51) C dX3_idOfElder_9 (by decide) (fun q9 => ?_) (fun q9 => ?_)
      · have e : k = (gC g).length := by have := nle (by omega) (by omega) q9; omega
        subst e
        rw [List.drop_length] at hq
        refine zV.aload_n C dX3_idOfElder_51 rfl rfl ?_
        refine zV.ifnonnull (tgt := 59) C dX3_idOfElder_52 (by decide) rfl (fun q52 => ?_) (fun q52 => ?_)
        · exact absurd rfl q52
        · refine zV.ic (v := (-1)) C dX3_idOfElder_55 (by decide) ?_
          refine zV.goto (tgt := 63) C dX3_idOfElder_56 (by decide) ?_
          refine zV.iret C F dX3_idOfElder_63 rfl ?_
          exact hq
      · have hkl : k < (gC g).length := nlt (by omega) (by omega) q9
        obtain ⟨c, hc, hd⟩ := drop_cons hkl
        rw [hd] at hq
        have h12 : k < 12 := by omega
        obtain ⟨c1, c2, c3, c4, c5⟩ := zGa_c hg hc
        obtain ⟨b1, b2, b3, b4⟩ := gW_cb hw hc
        refine zV.aload_n C dX3_idOfElder_12 rfl rfl ?_
        refine zV.gR 195 (k := 3) C dX3_idOfElder_13 zcl_X3 (by decide) rfl lk_X3_30 (hg.1.1) rfl (hg.1.2.2.2.2.1) ?_
        refine zV.iload_n C dX3_idOfElder_16 rfl ?_
        refine zV.aaldC (j := k) C dX3_idOfElder_17 (hg.1.2.2.2.2.2.2.2.2.1.1) (rfl) (Nat.lt_of_lt_of_eq h12 (hg.1.2.2.2.2.2.2.2.2.1.2).symm) (by omega) (zGa_a hg h12) ?_
        refine zV.astore (lo' := [(0, _), (1, _), (2, _), (3, _), (4, _)]) C dX3_idOfElder_18 rfl (by decide) rfl rfl rfl ?_
        refine zV.aload C dX3_idOfElder_20 rfl rfl ?_
        refine zV.gNIv 129 (k := 1) C dX3_idOfElder_22 zcl_X0 (by decide) rfl lk_X3_113 (zGa_k hg h12) rfl (c2) ?_
        refine zV.iload_n C dX3_idOfElder_25 rfl ?_
        refine zV.icmp_ne (tgt := 45) C dX3_idOfElder_26 (by decide) (fun q26 => ?_) (fun q26 => ?_)
        · rw [eldF, if_neg (fun z => q26 (by rw [z.1]))] at hq
          refine zV.iinc (lo' := [(0, _), (1, _), (2, _), (3, _), (4, _)]) C dX3_idOfElder_45 rfl (by decide) rfl rfl rfl ?_
          refine zV.goto (tgt := 4) C dX3_idOfElder_48 (by decide) ?_
          rw [inc1]
          first
            | exact zV.sub [0, 1, 2, 3] rfl (ih (k + 1) (some (k, c)) (by omega) (by omega) (fun j9 d9 z => by cases z; exact hc) hq)
            | exact zV.sub [0, 1, 2, 3] rfl (ih (k + 1) none (by omega) (by omega) (fun j9 d9 z => by cases z) hq)
            | exact zV.sub [0, 1, 2, 3] rfl (ih (k + 1) (some (j, d)) (by omega) (by omega) ho hq)
        · have hcl : chL c = l9 := (neqn (by omega) (by omega)).mp q26
          refine zV.aload_n C dX3_idOfElder_29 rfl rfl ?_
          refine zV.ifnull (tgt := 42) C dX3_idOfElder_30 (by decide) rfl (fun q30 => ?_) (fun q30 => ?_)
          · rw [eldF, if_pos ⟨hcl, rfl⟩] at hq
            refine zV.aload C dX3_idOfElder_42 rfl rfl ?_
            refine zV.astore_n (lo' := [(0, _), (1, _), (2, _), (3, _), (4, _)]) C dX3_idOfElder_44 rfl (by decide) rfl rfl rfl ?_
            refine zV.iinc (lo' := [(0, _), (1, _), (2, _), (3, _), (4, _)]) C dX3_idOfElder_45 rfl (by decide) rfl rfl rfl ?_
            refine zV.goto (tgt := 4) C dX3_idOfElder_48 (by decide) ?_
            rw [inc1]
            first
              | exact zV.sub [0, 1, 2, 3] rfl (ih (k + 1) (some (k, c)) (by omega) (by omega) (fun j9 d9 z => by cases z; exact hc) hq)
              | exact zV.sub [0, 1, 2, 3] rfl (ih (k + 1) none (by omega) (by omega) (fun j9 d9 z => by cases z) hq)
              | exact zV.sub [0, 1, 2, 3] rfl (ih (k + 1) (some (j, d)) (by omega) (by omega) ho hq)
          · exact absurd rfl q30
    · show zV X 0 0 h 4 [(0, .ref b), (1, .int (nI l9)), (2, .ref (cA h b j)), (3, .int (nI k))] []
      have hd0 := ho j d rfl
      have hjl := (List.getElem?_eq_some_iff.mp hd0).1
      have hj12 : j < 12 := by omega
      obtain ⟨d1, d2, d3, d4, d5⟩ := zGa_c hg hd0
      obtain ⟨e1, e2, e3, e4⟩ := gW_cb hw hd0
      refine zV.iload_n C dX3_idOfElder_4 rfl ?_
      refine zV.aload_n C dX3_idOfElder_5 rfl rfl ?_
      refine zV.gIv 196 (k := 4) C dX3_idOfElder_6 zcl_X3 (by decide) rfl lk_X3_50 (hg.1.1) rfl ((zGa_len hg)) ?_
      refine zV.icmp_ge (tgt := 51) C dX3_idOfElder_9 (by decide) (fun q9 => ?_) (fun q9 => ?_)
      · have e : k = (gC g).length := by have := nle (by omega) (by omega) q9; omega
        subst e
        rw [List.drop_length] at hq
        refine zV.aload_n C dX3_idOfElder_51 rfl rfl ?_
        refine zV.ifnonnull (tgt := 59) C dX3_idOfElder_52 (by decide) rfl (fun q52 => ?_) (fun q52 => ?_)
        · refine zV.aload_n C dX3_idOfElder_59 rfl rfl ?_
          refine zV.gNIv 128 (k := 0) C dX3_idOfElder_60 zcl_X0 (by decide) rfl lk_X3_110 (zGa_k hg hj12) rfl (d1) ?_
          refine zV.iret C F dX3_idOfElder_63 rfl ?_
          exact hq
        · exact absurd q52 (by intro z; cases z)
      · have hkl : k < (gC g).length := nlt (by omega) (by omega) q9
        obtain ⟨c, hc, hd⟩ := drop_cons hkl
        rw [hd] at hq
        have h12 : k < 12 := by omega
        obtain ⟨c1, c2, c3, c4, c5⟩ := zGa_c hg hc
        obtain ⟨b1, b2, b3, b4⟩ := gW_cb hw hc
        refine zV.aload_n C dX3_idOfElder_12 rfl rfl ?_
        refine zV.gR 195 (k := 3) C dX3_idOfElder_13 zcl_X3 (by decide) rfl lk_X3_30 (hg.1.1) rfl (hg.1.2.2.2.2.1) ?_
        refine zV.iload_n C dX3_idOfElder_16 rfl ?_
        refine zV.aaldC (j := k) C dX3_idOfElder_17 (hg.1.2.2.2.2.2.2.2.2.1.1) (rfl) (Nat.lt_of_lt_of_eq h12 (hg.1.2.2.2.2.2.2.2.2.1.2).symm) (by omega) (zGa_a hg h12) ?_
        refine zV.astore (lo' := [(0, _), (1, _), (2, _), (3, _), (4, _)]) C dX3_idOfElder_18 rfl (by decide) rfl rfl rfl ?_
        refine zV.aload C dX3_idOfElder_20 rfl rfl ?_
        refine zV.gNIv 129 (k := 1) C dX3_idOfElder_22 zcl_X0 (by decide) rfl lk_X3_113 (zGa_k hg h12) rfl (c2) ?_
        refine zV.iload_n C dX3_idOfElder_25 rfl ?_
        refine zV.icmp_ne (tgt := 45) C dX3_idOfElder_26 (by decide) (fun q26 => ?_) (fun q26 => ?_)
        · rw [eldF, if_neg (fun z => q26 (by rw [z.1]))] at hq
          refine zV.iinc (lo' := [(0, _), (1, _), (2, _), (3, _), (4, _)]) C dX3_idOfElder_45 rfl (by decide) rfl rfl rfl ?_
          refine zV.goto (tgt := 4) C dX3_idOfElder_48 (by decide) ?_
          rw [inc1]
          first
            | exact zV.sub [0, 1, 2, 3] rfl (ih (k + 1) (some (k, c)) (by omega) (by omega) (fun j9 d9 z => by cases z; exact hc) hq)
            | exact zV.sub [0, 1, 2, 3] rfl (ih (k + 1) none (by omega) (by omega) (fun j9 d9 z => by cases z) hq)
            | exact zV.sub [0, 1, 2, 3] rfl (ih (k + 1) (some (j, d)) (by omega) (by omega) ho hq)
        · have hcl : chL c = l9 := (neqn (by omega) (by omega)).mp q26
          refine zV.aload_n C dX3_idOfElder_29 rfl rfl ?_
          refine zV.ifnull (tgt := 42) C dX3_idOfElder_30 (by decide) rfl (fun q30 => ?_) (fun q30 => ?_)
          · exact absurd q30 (by intro z; cases z)
          · refine zV.aload C dX3_idOfElder_33 rfl rfl ?_
            refine zV.aload_n C dX3_idOfElder_35 rfl rfl ?_
            refine zV.callV (n := 1) C G dX3_idOfElder_36 (s_Chair_isElderThan hzs hst h (cA h b k) (cA h b j) (zGa_k hg h12) (zGa_k hg hj12)) rfl ⟨cd_X0_isElderThan, lk_X3_181, im_X0_isElderThan, se_X0_X0_isElderThan, in_X0⟩ ⟨⟨by decide, by decide⟩, by decide⟩ rfl rfl rfl (zGa_k hg h12) ⟨rfl, by decide⟩ (zafe (vb2 (chE_iff (zGa_c hg hc) (zGa_c hg hd0) b1 e1 b3 e3)) ?_) (zno)
            refine zV.if_eq (tgt := 45) C dX3_idOfElder_39 (by decide) (fun q39 => ?_) (fun q39 => ?_)
            · rw [eldF, if_neg (fun z => by rw [b2n.mp q39] at z; cases z.2)] at hq
              refine zV.iinc (lo' := [(0, _), (1, _), (2, _), (3, _), (4, _)]) C dX3_idOfElder_45 rfl (by decide) rfl rfl rfl ?_
              refine zV.goto (tgt := 4) C dX3_idOfElder_48 (by decide) ?_
              rw [inc1]
              first
                | exact zV.sub [0, 1, 2, 3] rfl (ih (k + 1) (some (k, c)) (by omega) (by omega) (fun j9 d9 z => by cases z; exact hc) hq)
                | exact zV.sub [0, 1, 2, 3] rfl (ih (k + 1) none (by omega) (by omega) (fun j9 d9 z => by cases z) hq)
                | exact zV.sub [0, 1, 2, 3] rfl (ih (k + 1) (some (j, d)) (by omega) (by omega) ho hq)
            · rw [eldF, if_pos ⟨hcl, Bool.of_not_eq_false (fun z => q39 (b2n.mpr z))⟩] at hq
              refine zV.aload C dX3_idOfElder_42 rfl rfl ?_
              refine zV.astore_n (lo' := [(0, _), (1, _), (2, _), (3, _), (4, _)]) C dX3_idOfElder_44 rfl (by decide) rfl rfl rfl ?_
              refine zV.iinc (lo' := [(0, _), (1, _), (2, _), (3, _), (4, _)]) C dX3_idOfElder_45 rfl (by decide) rfl rfl rfl ?_
              refine zV.goto (tgt := 4) C dX3_idOfElder_48 (by decide) ?_
              rw [inc1]
              first
                | exact zV.sub [0, 1, 2, 3] rfl (ih (k + 1) (some (k, c)) (by omega) (by omega) (fun j9 d9 z => by cases z; exact hc) hq)
                | exact zV.sub [0, 1, 2, 3] rfl (ih (k + 1) none (by omega) (by omega) (fun j9 d9 z => by cases z) hq)
                | exact zV.sub [0, 1, 2, 3] rfl (ih (k + 1) (some (j, d)) (by omega) (by omega) ho hq)
set_option maxHeartbeats 4000000 in
set_option maxRecDepth 100000 in
theorem s_idOfElder {l : Launch} {E : zG} (hzs : zS E) (hst : l.stackTraces = false) (h : zH) (b : Nat) (g : zGd) (l9 : Nat) (hl9 : l9 < 6) (hg : zGa h b g) (hw : gW g) : zMet l E yX3_idOfElder cX3_idOfElder 5 (some .int) ({ frames := 1, cells := 0, slots := 0, locals := 21 } : Room) 0 0 [.ref b, .int (nI l9)] h (fun r h' => r = some (.int (eldI (eldF l9 (gC g) 0 none))) ∧ h' = h) (fun _ _ => False) := by
  refine zM_start hzs hst (by decide) (Nat.le_of_ble_eq_true rfl) (fun X C G F I => ?_)
  show zV X 0 0 _ 0 [(0, _), (1, _)] []
  refine zV.null C dX3_idOfElder_0 ?_
  refine zV.astore_n (lo' := [(0, _), (1, _), (2, _)]) C dX3_idOfElder_1 rfl (by decide) rfl rfl rfl ?_
  refine zV.ic (v := nI 0) C dX3_idOfElder_2 (by decide) ?_
  refine zV.istore_n (lo' := [(0, _), (1, _), (2, _), (3, _)]) C dX3_idOfElder_3 (by decide) rfl rfl rfl ?_
  exact L_idOfElder hzs hst C G hl9 rfl F hg hw ((gC g).length + 1) 0 none (by omega) (by omega) (fun j d z => by cases z) ⟨rfl, rfl⟩
