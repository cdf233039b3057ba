/-! what a change makes and answers -/
theorem grs_X {g : zGd} {s : Nat} : ∀ n, gX (grs g s n) = gX g
  | 0 => rfl
  | n + 1 => by
    rw [show grs g s (n + 1) = grz (grs g s n) n s from rfl]
    unfold grz
    rw [p_X_Z, p_X_S, p_X_C]
    exact grs_X n
theorem days_X {g : zGd} : ∀ n, gX (days g n) = gX g
  | 0 => rfl
  | n + 1 => by
    rw [show days g (n + 1) = dayO (days g n) from rfl]
    generalize hd : days g n = d
    unfold dayO col
    rw [p_X_D, p_X_F, p_X_C, grs_X, ← hd]
    exact days_X n
theorem opHd_X {i j : Nat} : ∀ (n : Nat) (g : zGd), gX (opHd i j n g) = gX g
  | 0, _ => rfl
  | n + 1, g => by
    rw [opHd]
    split
    · rfl
    · rename_i k e
      rw [opHd_X n]
      unfold opMk
      split
      · rfl
      · unfold opMv
        rw [p_X_M, p_X_C]
theorem ap_X {g : zGd} {d : Nat} {x y : Int32} : gX (ap g d x y).1 ≤ gX g + 1 := by
  unfold ap
  have hLL : ∀ f : Nat → Nat → zGd × Int32, (∀ i j, gX (f i j).1 ≤ gX g + 1) → gX (aLL g x y f).1 ≤ gX g + 1 := by
    intro f hf
    unfold aLL
    split
    · exact Nat.le_succ _
    · split
      · exact Nat.le_succ _
      · exact hf _ _
  have hL : ∀ (z : Int32) (f : Nat → zGd × Int32), (∀ i, gX (f i).1 ≤ gX g + 1) → gX (aL g z f).1 ≤ gX g + 1 := by
    intro z f hf
    unfold aL
    split
    · exact Nat.le_succ _
    · exact hf _
  have hK : ∀ f : Nat → zCh → zGd × Int32, (∀ k c, gX (f k c).1 ≤ gX g + 1) → gX (aK g x f).1 ≤ gX g + 1 := by
    intro f hf
    unfold aK
    split
    · exact Nat.le_succ _
    · exact hf _ _
  by_cases h1 : d = 112
  · rw [if_pos h1]; refine hLL _ (fun i j => ?_); show gX (pvN g i j) ≤ _; unfold pvN; rw [p_X_N]; exact Nat.le_succ _
  rw [if_neg h1]
  by_cases h2 : d = 113
  · rw [if_pos h2]; refine hLL _ (fun i j => ?_); show gX (dgN g i j) ≤ _; unfold dgN; rw [p_X_N]; exact Nat.le_succ _
  rw [if_neg h2]
  by_cases h3 : d = 104
  · rw [if_pos h3]; refine hL _ _ (fun i => ?_); show gX (opSh g i _) ≤ _; unfold opSh; rw [p_X_S]; exact Nat.le_succ _
  rw [if_neg h3]
  by_cases h4 : d = 99
  · rw [if_pos h4]; refine hL _ _ (fun i => ?_); show gX (opSt g i _) ≤ _; unfold opSt; rw [p_X_X]; exact Nat.le_refl _
  rw [if_neg h4]
  by_cases h5 : d = 115
  · rw [if_pos h5]; refine hK _ (fun i c => ?_); show gX (opSc g i) ≤ _; unfold opSc; rw [p_X_U, p_X_C]; exact Nat.le_succ _
  rw [if_neg h5]
  by_cases h6 : d = 102
  · rw [if_pos h6]; refine hK _ (fun i c => ?_); show gX (opFo g i c true) ≤ _; unfold opFo; rw [p_X_C]; exact Nat.le_succ _
  rw [if_neg h6]
  by_cases h7 : d = 117
  · rw [if_pos h7]; refine hK _ (fun i c => ?_); show gX (opFo g i c false) ≤ _; unfold opFo; rw [p_X_C]; exact Nat.le_succ _
  rw [if_neg h7]
  by_cases h8 : d = 111
  · rw [if_pos h8]; refine hK _ (fun i c => ?_); show gX (opOi g i c) ≤ _; unfold opOi; rw [p_X_O, p_X_C]; exact Nat.le_succ _
  rw [if_neg h8]
  by_cases h9 : d = 109
  · rw [if_pos h9]; refine hK _ (fun i c => ?_); refine hL _ _ (fun j => ?_); show gX (opMv g i c j) ≤ _; unfold opMv; rw [p_X_M, p_X_C]; exact Nat.le_succ _
  rw [if_neg h9]
  by_cases h10 : d = 103
  · rw [if_pos h10]; refine hLL _ (fun i j => ?_); show gX (opHd i j (mgN g i j) g) ≤ _; rw [opHd_X]; exact Nat.le_succ _
  rw [if_neg h10]
  by_cases h11 : d = 97
  · rw [if_pos h11]; show gX (gwO g _) ≤ _; rw [p_X_O]; exact Nat.le_succ _
  rw [if_neg h11]
  show gX (days g _) ≤ _
  rw [days_X]; exact Nat.le_succ _
/-- the reasons -/
theorem jd_r {g : zGd} {d : Nat} {x y : Int32} (h : (jd g d x y).1 = 3) : 1 ≤ (jd g d x y).2.1 ∧ (jd g d x y).2.1 ≤ 10 := by
  have e : ∀ J : zJ, (J.1 ≠ 3 ∨ (1 ≤ J.2.1 ∧ J.2.1 ≤ 10)) → J.1 = 3 → 1 ≤ J.2.1 ∧ J.2.1 ≤ 10 := fun J q z => q.elim (fun n => absurd z n) id
  refine e _ ?_ h
  clear h e
  unfold jd
  split
  · unfold jPv; (repeat' split) <;> first | exact Or.inr ⟨Nat.le_of_ble_eq_true rfl, Nat.le_of_ble_eq_true rfl⟩ | exact Or.inl (fun z => by cases z)
  split
  · unfold jDg; (repeat' split) <;> first | exact Or.inr ⟨Nat.le_of_ble_eq_true rfl, Nat.le_of_ble_eq_true rfl⟩ | exact Or.inl (fun z => by cases z)
  split
  · unfold jSh; (repeat' split) <;> first | exact Or.inr ⟨Nat.le_of_ble_eq_true rfl, Nat.le_of_ble_eq_true rfl⟩ | exact Or.inl (fun z => by cases z)
  split
  · unfold jCm; (repeat' split) <;> first | exact Or.inr ⟨Nat.le_of_ble_eq_true rfl, Nat.le_of_ble_eq_true rfl⟩ | exact Or.inl (fun z => by cases z)
  split
  · unfold jSc; (repeat' split) <;> first | exact Or.inr ⟨Nat.le_of_ble_eq_true rfl, Nat.le_of_ble_eq_true rfl⟩ | exact Or.inl (fun z => by cases z)
  split
  · unfold jFo; (repeat' split) <;> first | exact Or.inr ⟨Nat.le_of_ble_eq_true rfl, Nat.le_of_ble_eq_true rfl⟩ | exact Or.inl (fun z => by cases z)
  split
  · unfold jUn; (repeat' split) <;> first | exact Or.inr ⟨Nat.le_of_ble_eq_true rfl, Nat.le_of_ble_eq_true rfl⟩ | exact Or.inl (fun z => by cases z)
  split
  · unfold jOi; (repeat' split) <;> first | exact Or.inr ⟨Nat.le_of_ble_eq_true rfl, Nat.le_of_ble_eq_true rfl⟩ | exact Or.inl (fun z => by cases z)
  split
  · unfold jMv; (repeat' split) <;> first | exact Or.inr ⟨Nat.le_of_ble_eq_true rfl, Nat.le_of_ble_eq_true rfl⟩ | exact Or.inl (fun z => by cases z)
  split
  · unfold jMg; (repeat' split) <;> first | exact Or.inr ⟨Nat.le_of_ble_eq_true rfl, Nat.le_of_ble_eq_true rfl⟩ | exact Or.inl (fun z => by cases z)
  split
  · unfold jAo; (repeat' split) <;> first | exact Or.inr ⟨Nat.le_of_ble_eq_true rfl, Nat.le_of_ble_eq_true rfl⟩ | exact Or.inl (fun z => by cases z)
  · unfold jDy; (repeat' split) <;> first | exact Or.inr ⟨Nat.le_of_ble_eq_true rfl, Nat.le_of_ble_eq_true rfl⟩ | exact Or.inl (fun z => by cases z)
theorem pfC_X {g : zGd} {cs : List (Nat × Nat × Nat)} : gX (pfC g cs).2.1 ≤ gX g + cs.length := by
  induction cs generalizing g with
  | nil => exact Nat.le_refl _
  | cons c ks ih =>
    by_cases e : (jd g c.1 (nI c.2.1) (nI c.2.2)).1 = 0
    · rw [pfC_t e]
      have h1 := ih (g := (ap g c.1 (nI c.2.1) (nI c.2.2)).1)
      have h2 := ap_X (g := g) (d := c.1) (x := nI c.2.1) (y := nI c.2.2)
      have h3 : (c :: ks).length = ks.length + 1 := rfl
      show gX (pfC (ap g c.1 (nI c.2.1) (nI c.2.2)).1 ks).2.1 ≤ _
      omega
    · rw [pfC_f e]; exact Nat.le_add_right _ _
theorem pfC_R {m : Nat} {g : zGd} {cs : List (Nat × Nat × Nat)} (hD : ∀ c ∈ cs, isD c.1) (q : gR m g) : gR (m + 600 * cs.length) (pfC g cs).2.1 := by
  induction cs generalizing g m with
  | nil => exact gR_mono q (Nat.le_add_right _ _)
  | cons c ks ih =>
    by_cases e : (jd g c.1 (nI c.2.1) (nI c.2.2)).1 = 0
    · rw [pfC_t e]
      have h1 := ih (m := m + 600) (g := (ap g c.1 (nI c.2.1) (nI c.2.2)).1) (fun x hx => hD x (List.mem_cons_of_mem _ hx)) (ap_R (hD c List.mem_cons_self) q e)
      have h3 : (c :: ks).length = ks.length + 1 := rfl
      exact gR_mono h1 (by omega)
    · rw [pfC_f e]; exact gR_mono q (Nat.le_add_right _ _)
theorem pfC_r {g : zGd} {cs : List (Nat × Nat × Nat)} (h : (pfC g cs).2.2.1 = 3) : 1 ≤ (pfC g cs).2.2.2.1 ∧ (pfC g cs).2.2.2.1 ≤ 10 := by
  induction cs generalizing g with
  | nil => cases h
  | cons c ks ih =>
    by_cases e : (jd g c.1 (nI c.2.1) (nI c.2.2)).1 = 0
    · rw [pfC_t e] at h ⊢
      exact ih h
    · rw [pfC_f e] at h ⊢
      exact jd_r h
theorem kp_mem {us : List zGd} {g u : zGd} (h : u ∈ kp us g) : u ∈ us ∨ u = g := by
  unfold kp at h
  rcases List.mem_append.mp h with q | q
  · split at q
    · exact Or.inl q
    · exact Or.inl (List.mem_of_mem_drop q)
  · exact Or.inr (List.mem_singleton.mp q)
theorem aLL_n {g : zGd} {x y : Int32} {f : Nat → Nat → zGd × Int32} {i j : Nat} (e1 : ln x = some i) (e2 : ln y = some j) (h : ∃ k, k < 2 ^ 31 ∧ (f i j).2 = nI k) : ∃ k, k < 2 ^ 31 ∧ (aLL g x y f).2 = nI k := by rw [aLL_e e1 e2]; exact h
theorem aL_n {g : zGd} {x : Int32} {f : Nat → zGd × Int32} {i : Nat} (e1 : ln x = some i) (h : ∃ k, k < 2 ^ 31 ∧ (f i).2 = nI k) : ∃ k, k < 2 ^ 31 ∧ (aL g x f).2 = nI k := by rw [aL_e e1]; exact h
theorem aK_n {g : zGd} {x : Int32} {f : Nat → zCh → zGd × Int32} {k : Nat} {c : zCh} (e1 : kc g x = some (k, c)) (h : ∃ k9, k9 < 2 ^ 31 ∧ (f k c).2 = nI k9) : ∃ k, k < 2 ^ 31 ∧ (aK g x f).2 = nI k := by rw [aK_e e1]; exact h
/-- a change answers no negative number -/
theorem ap_n {m d : Nat} {g : zGd} {x y : Int32} (hd : isD d) (q : gR m g) (hb : m + 3000 ≤ big) (h0 : (jd g d x y).1 = 0) : ∃ k, k < 2 ^ 31 ∧ (ap g d x y).2 = nI k := by
  have hw : gW g := gW_of q.1.1 q.1.2.2.2 (Nat.le_trans (Nat.le_add_right _ _) hb)
  have hB : m + 3000 ≤ 1000000000 := hb
  have hP := gPt_15 q.2
  have hX := (gW_b hw).1
  have hL := gW_len hw
  have hc : ∀ {k c}, kc g x = some (k, c) → chL c < 6 ∧ chR c ≤ 11 := fun e => by
    have := gW_c hw (kc_some e).2.1
    exact ⟨this.2.1, this.2.2.1⟩
  have R := ap_R hd q h0
  have z : (ap g d x y).2 = (ap g d x y).2 := rfl
  rcases hd with rfl | rfl | rfl | rfl | rfl | rfl | rfl | rfl | rfl | rfl | rfl | rfl
  · obtain ⟨i, j, e1, e2, -⟩ := j0Pv h0
    exact aLL_n e1 e2 ⟨gP g + 1, by omega, rfl⟩
  · obtain ⟨i, j, e1, e2, -⟩ := j0Dg h0
    exact aLL_n e1 e2 ⟨gP g - 1, by omega, rfl⟩
  · obtain ⟨i, s, e1, h6, -⟩ := j0Sh h0
    exact aL_n e1 ⟨gS g i, by have := hw.2.2.2.1 i h6; omega, rfl⟩
  · obtain ⟨i, s, e1, h6, -⟩ := j0Cm h0
    exact aL_n e1 ⟨gX g, by omega, rfl⟩
  · obtain ⟨k, c, e1⟩ := j0Sc h0
    exact aK_n e1 ⟨chR c, by have := hc e1; omega, rfl⟩
  · obtain ⟨k, c, e1, -⟩ := j0Fo h0
    exact aK_n e1 ⟨_, (by
      refine Nat.lt_of_le_of_lt List.countP_le_length ?_
      show ((gC g).set k (wF c true)).length < 2 ^ 31
      rw [List.length_set]; omega), rfl⟩
  · obtain ⟨k, c, e1, -⟩ := j0Un h0
    exact aK_n e1 ⟨_, (by
      refine Nat.lt_of_le_of_lt List.countP_le_length ?_
      show ((gC g).set k (wF c false)).length < 2 ^ 31
      rw [List.length_set]; omega), rfl⟩
  · obtain ⟨k, c, e1, -⟩ := j0Oi h0
    exact aK_n e1 ⟨chR c - 3, by have := hc e1; omega, rfl⟩
  · obtain ⟨k, c, j, e1, e2, -⟩ := j0Mv h0
    exact aK_n e1 (aL_n e2 ⟨chL c, by have := hc e1; omega, rfl⟩)
  · obtain ⟨i, j, e1, e2, -⟩ := j0Mg h0
    exact aLL_n e1 e2 ⟨mgN g i j, by unfold mgN; omega, rfl⟩
  · obtain ⟨n, rfl, h1, h2, h3⟩ := j0Ao hw.2.2.2.2.1 h0
    exact ⟨gO g + (nI n).toNatClampNeg, by rw [nI_cl (by omega)]; omega, rfl⟩
  · exact ⟨gF (days g x.toNatClampNeg) - gF g, by
      have h9 : gF (days g x.toNatClampNeg) ≤ m + 600 := R.1.2.2.2.2.2.1
      omega, rfl⟩
/-- after a call that may have changed the garden; v: what it answered -/
def chsP (h : zH) (a lo m : Nat) (g : zGd) (us : List zGd) (sn : Option zGd) (v : Int32) (h' : zH) : Prop := zXf h h' a lo ∧ ((¬ v < 0 ∧ ∃ g', gR (m + 20000) g' ∧ gX g' ≤ gX g + 31 ∧ ∃ off rs dt cs o, zXa h' a lo g' (kp us g) sn off rs dt cs [] o) ∨ (v < 0 ∧ ∃ off rs dt cs o, zXa h' a lo g us sn off rs dt cs [] o))
theorem chg_s {h h' : zH} {a lo m d : Nat} {x y : Int32} {g : zGd} {us : List zGd} {sn : Option zGd} {off rs dt cs : Int32} {o : List Nat} {cf : String → Int32} (hd : isD d) (hR : gR m g) (hb : m + 3000 ≤ big) (hc : ∀ Ex, cf Ex < 0) (p : chgP h a lo d x y g us sn off rs dt cs [] o h') : chsP h a lo m g us sn (anI (chgA g d x y) cf) h' := by
  refine ⟨p.1, ?_⟩
  have p2 := p.2
  by_cases e : (jd g d x y).1 = 0
  · rw [if_pos e] at p2
    refine Or.inl ⟨?_, _, gR_mono (ap_R hd hR e) (by omega), Nat.le_trans ap_X (by omega), _, _, _, _, _, p2⟩
    obtain ⟨k, hk, ek⟩ := ap_n hd hR hb e
    rw [show chgA g d x y = .inr (.int (ap g d x y).2) from if_pos e]
    show ¬ (ap g d x y).2 < 0
    rw [ek]
    exact nI_pos hk
  · rw [if_neg e] at p2
    refine Or.inr ⟨?_, ?_⟩
    · have h1 : ∃ Ex, chgA g d x y = .inl Ex := by
        unfold chgA
        rw [if_neg e]
        split
        · exact ⟨_, rfl⟩
        · split <;> exact ⟨_, rfl⟩
      obtain ⟨Ex, e2⟩ := h1
      rw [e2]
      exact hc Ex
    · split at p2
      · exact ⟨_, _, _, _, _, p2⟩
      · exact ⟨_, _, _, _, _, p2⟩
theorem exec_s {h h' : zH} {a lo m : Nat} {g : zGd} {us : List zGd} {sn : Option zGd} {off rs dt cs : Int32} {t o : List Nat} {cf : String → Int32} (ht : t.length ≤ 60) (hR : gR m g) (hc : ∀ Ex, cf Ex < 0) (p : exP h a lo g us sn off rs dt cs t o h') : chsP h a lo m g us sn (anI (q_execute g t) cf) h' := by
  refine ⟨p.1, ?_⟩
  have p2 := p.2
  have hD := rdS_D ht 61 0 [] (Nat.zero_le _) (Nat.zero_le _) (fun c hc => by cases hc)
  unfold q_execute exA
  rcases e : rdS t 61 0 [] with ⟨_ | p9, K9⟩
  · rw [e] at p2 hD
    dsimp only at p2 hD ⊢
    by_cases e1 : (pfC g K9).1 < K9.length
    · rw [if_pos e1] at p2 ⊢
      refine Or.inr ⟨?_, ?_⟩
      · split <;> exact hc _
      · split at p2
        · exact ⟨_, _, _, _, _, p2⟩
        · exact ⟨_, _, _, _, _, p2⟩
    · rw [if_neg e1] at p2 ⊢
      refine Or.inl ⟨?_, _, gR_mono (pfC_R hD.1 hR) (by omega), Nat.le_trans pfC_X (by omega), _, _, _, _, _, p2⟩
      have h9 := (pfC_v (g := g) hD.1).2
      exact nI_pos (by omega)
  · rw [e] at p2
    exact Or.inr ⟨hc _, _, _, _, _, _, p2⟩
theorem cf1 (Ex : String) : (fun _ : String => (-1001 : Int32)) Ex < 0 := by
  show (-1001 : Int32) < 0
  decide
theorem cf2 {x : String} (Ex : String) : (fun Ex => if Ex = x then -1001 else -1002 : String → Int32) Ex < 0 := by
  show (if Ex = x then (-1001 : Int32) else -1002) < 0
  split <;> decide
theorem cf3 {x y : String} (Ex : String) : (fun Ex => if Ex = x then -1001 else if Ex = y then -1002 else -1003 : String → Int32) Ex < 0 := by
  show (if Ex = x then (-1001 : Int32) else if Ex = y then -1002 else -1003) < 0
  split
  · decide
  · split <;> decide
/-- what changes owes at its end -/
def chsQ (h : zH) (a lo m : Nat) (g : zGd) (us : List zGd) (sn : Option zGd) : Option Value → zH → Prop := fun r h' => zXf h h' a lo ∧ ((r = some (.int 1) ∧ ∃ g', gR (m + 20000) g' ∧ gX g' ≤ gX g + 31 ∧ ∃ off rs dt cs o, zXa h' a lo g' (kp us g) sn off rs dt cs [] o) ∨ (r = some (.int 0) ∧ ∃ off rs dt cs o, zXa h' a lo g us sn off rs dt cs [] o))
theorem chs_1 {h h' : zH} {a lo m : Nat} {g : zGd} {us : List zGd} {sn : Option zGd} {v : Int32} (p : chsP h a lo m g us sn v h') (hv : ¬ v < 0) : chsQ h a lo m g us sn (some (.int (nI 1))) h' := ⟨p.1, Or.inl ⟨rfl, (p.2.resolve_right (fun z => hv z.1)).2⟩⟩
theorem chs_0 {h h' : zH} {a lo m : Nat} {g : zGd} {us : List zGd} {sn : Option zGd} {v : Int32} (p : chsP h a lo m g us sn v h') (hv : v < 0) : chsQ h a lo m g us sn (some (.int (nI 0))) h' := ⟨p.1, Or.inr ⟨rfl, (p.2.resolve_left (fun z => z.1 hv)).2⟩⟩
