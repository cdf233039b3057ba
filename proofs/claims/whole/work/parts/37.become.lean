/-! Garden: days, become, init -/
theorem gV_bd {m : Nat} {g : zGd} (v : gV m g) : gX g ≤ m ∧ gD g ≤ m ∧ gF g ≤ m ∧ gU g ≤ m ∧ gM g ≤ m ∧ gZ g ≤ m := v
theorem grz_Z {g : zGd} {l s : Nat} : gZ (grz g l s) ≤ gZ g + (gC g).countP (chGr l) ∧ gX (grz g l s) = gX g ∧ gD (grz g l s) = gD g ∧ gF (grz g l s) = gF g ∧ gU (grz g l s) = gU g ∧ gM (grz g l s) = gM g ∧ (gC (grz g l s)).length = (gC g).length ∧ gO (grz g l s) = gO g ∧ gP (grz g l s) = gP g ∧ gN (grz g l s) = gN g ∧ ∀ j, hsz (gC (grz g l s)) j = hsz (gC g) j := by
  obtain ⟨i1, i2, i3, i4, i5, i6⟩ := grC_all (l := l) (wOf_le s) (t := gC g) (s := gS g l)
  exact ⟨Nat.add_le_add_left i5 _, rfl, rfl, rfl, rfl, rfl, i4, rfl, rfl, rfl, fun j => hsz_mapL i2 j⟩
theorem cnt_gr_hsz (cs : List zCh) (l : Nat) : cs.countP (chGr l) ≤ hsz cs l := List.countP_mono_left (fun c _ h => decide_eq_true (chGr_L h))
theorem grs_Z {g : zGd} {s : Nat} (h5 : ∀ j, j < 6 → hsz (gC g) j ≤ 5) : ∀ k, k ≤ 6 → gZ (grs g s k) ≤ gZ g + 5 * k ∧ gX (grs g s k) = gX g ∧ gD (grs g s k) = gD g ∧ gF (grs g s k) = gF g ∧ gU (grs g s k) = gU g ∧ gM (grs g s k) = gM g ∧ (gC (grs g s k)).length = (gC g).length ∧ gO (grs g s k) = gO g ∧ gP (grs g s k) = gP g ∧ gN (grs g s k) = gN g ∧ ∀ j, hsz (gC (grs g s k)) j = hsz (gC g) j
  | 0, _ => ⟨Nat.le_refl _, rfl, rfl, rfl, rfl, rfl, rfl, rfl, rfl, rfl, fun _ => rfl⟩
  | k + 1, hk => by
    obtain ⟨a1, a2, a3, a4, a5, a6, a7, a8, a9, a10, a11⟩ := grs_Z (g := g) (s := s) h5 k (by omega)
    obtain ⟨b1, b2, b3, b4, b5, b6, b7, b8, b9, b10, b11⟩ := grz_Z (g := grs g s k) (l := k) (s := s)
    have c1 := cnt_gr_hsz (gC (grs g s k)) k
    have c2 := h5 k (by omega)
    rw [a11] at c1
    refine ⟨?_, b2.trans a2, b3.trans a3, b4.trans a4, b5.trans a5, b6.trans a6, b7.trans a7, b8.trans a8, b9.trans a9, b10.trans a10, fun j => (b11 j).trans (a11 j)⟩
    show gZ (grz (grs g s k) k s) ≤ _
    omega
/-- what a day keeps of the garden, and how the counters grow -/
def gH (g : zGd) : Prop := ∀ j, j < 6 → hsz (gC g) j ≤ 5
theorem day_V {m : Nat} {g : zGd} (v : gV m g) (hl : (gC g).length ≤ 12) (h5 : gH g) : gV (m + 30) (dayO g) := by
  obtain ⟨v1, v2, v3, v4, v5, v6⟩ := v
  obtain ⟨a1, a2, a3, a4, a5, a6, a7, a8, a9, a10, a11⟩ := grs_Z (g := g) (s := gD g / 5 % 4) h5 6 (Nat.le_refl _)
  refine ⟨?_, ?_, ?_, ?_, ?_, ?_⟩
  · show gX (grs g (gD g / 5 % 4) 6) ≤ _; omega
  · show gD g + 1 ≤ _; omega
  · show gF (grs g (gD g / 5 % 4) 6) + ((gC (grs g (gD g / 5 % 4) 6)).length - _) ≤ _; omega
  · show gU (grs g (gD g / 5 % 4) 6) ≤ _; omega
  · show gM (grs g (gD g / 5 % 4) 6) ≤ _; omega
  · show gZ (grs g (gD g / 5 % 4) 6) ≤ _; omega
theorem day_W {g : zGd} (w : gW0 g) (h9 : g9 g) : gW0 (dayO g) ∧ g9 (dayO g) := by
  have k6 := (gK_grs (s := gD g / 5 % 4) w h9 6).1
  have c := gW0_list k6 (cs := (gC (grs g (gD g / 5 % 4) 6)).filter stay) List.filter_sublist
  have hD : gD (grs g (gD g / 5 % 4) 6) = gD g := rfl
  obtain ⟨w1, w2, w3, w4, w5, w6⟩ := c
  refine ⟨⟨fun d hd => ?_, w2, w3, w4, w5, w6⟩, fun d hd => ?_⟩
  · have q := w1 d hd
    refine ⟨q.1, q.2.1, q.2.2.1, ?_⟩
    have q4 : chD d ≤ gD (grs g (gD g / 5 % 4) 6) := q.2.2.2
    show chD d ≤ gD g + 1
    omega
  · exact of_decide_eq_true (List.mem_filter.mp (show d ∈ (gC (grs g (gD g / 5 % 4) 6)).filter stay from hd)).2
theorem day_H {g : zGd} (h5 : gH g) : gH (dayO g) := by
  intro j hj
  obtain ⟨a1, a2, a3, a4, a5, a6, a7, a8, a9, a10, a11⟩ := grs_Z (g := g) (s := gD g / 5 % 4) h5 6 (Nat.le_refl _)
  have h1 := hsz_filter (gC (grs g (gD g / 5 % 4) 6)) j
  have h2 := h5 j hj
  rw [a11] at h1
  exact Nat.le_trans h1 h2
/-- what holds between the calls, but for the paths; m bounds the counters -/
def gQ (m : Nat) (g : zGd) : Prop := gW0 g ∧ g9 g ∧ gH g ∧ gV m g
theorem gQ_W {m : Nat} {g : zGd} (q : gQ m g) (hm : m ≤ big) : gW g := gW_of q.1 q.2.2.2 hm
theorem gQ_mono {m n : Nat} {g : zGd} (q : gQ m g) (h : m ≤ n) : gQ n g := ⟨q.1, q.2.1, q.2.2.1, gV_mono q.2.2.2 h⟩
theorem day_Q {m : Nat} {g : zGd} (q : gQ m g) : gQ (m + 30) (dayO g) := ⟨(day_W q.1 q.2.1).1, (day_W q.1 q.2.1).2, day_H q.2.2.1, day_V q.2.2.2 q.1.2.2.1 q.2.2.1⟩
theorem days_Q {m : Nat} {g : zGd} (q : gQ m g) : ∀ n, gQ (m + 30 * n) (days g n)
  | 0 => q
  | n + 1 => by
    have := day_Q (days_Q q n)
    rw [show m + 30 * n + 30 = m + 30 * (n + 1) by omega] at this
    exact this
theorem day_P (g : zGd) : gN (dayO g) = gN g ∧ gP (dayO g) = gP g ∧ gO (dayO g) = gO g ∧ gX (dayO g) = gX g ∧ gU (dayO g) = gU g ∧ gM (dayO g) = gM g := ⟨rfl, rfl, rfl, rfl, rfl, rfl⟩
theorem days_P (g : zGd) : ∀ n, gN (days g n) = gN g ∧ gP (days g n) = gP g ∧ gO (days g n) = gO g ∧ gX (days g n) = gX g ∧ gU (days g n) = gU g ∧ gM (days g n) = gM g ∧ gF g ≤ gF (days g n)
  | 0 => ⟨rfl, rfl, rfl, rfl, rfl, rfl, Nat.le_refl _⟩
  | n + 1 => by
    obtain ⟨a1, a2, a3, a4, a5, a6, a7⟩ := days_P g n
    exact ⟨a1, a2, a3, a4, a5, a6, Nat.le_trans a7 (Nat.le_add_right _ _)⟩
set_option maxHeartbeats 4000000 in
set_option maxRecDepth 100000 in
theorem L_pass {X : zX} {l : Launch} {E : zG} {rm : Room} (hzs : zS E) (hst : l.stackTraces = false) (C : zC X cX3_pass RX3 4) (G : zGX X l E rm) {h0 : zH} {b N m c0 : Nat} {g0 : zGd} {Qr : Option Value → zH → Prop} {Qx : String → zH → Prop} (hr : rm = ({ frames := 3, cells := 0, slots := 0, locals := 69 } : Room)) (F : zF X (some .int) 0 0 Qr Qx) (hN : N ≤ 100) (hm : m + 3000 ≤ big) (hq0 : gQ m g0) (hc0 : c0 ≤ gF g0) (hq : ∀ h', zGa h' b (days g0 N) → zFr h0 h' b → Qr (some (.int (nI (gF (days g0 N) - c0)))) h') : ∀ n k h, k ≤ N → N + 1 ≤ k + n → zGa h b (days g0 k) → zFr h0 h b → zV X 0 0 h 7 [(0, .ref b), (1, .int (nI N)), (2, .int (nI c0)), (3, .int (nI k))] [] := by
  subst hr
  intro n
  induction n with
  | zero => intro k h h1 h2; exact absurd h2 (by omega)
  | succ n ih =>
    intro k h hk hn hg f
    have qk := days_Q hq0 k
    have bb : big = 1000000000 := rfl
    refine zV.iload_n C dX3_pass_7 rfl ?_
    refine zV.iload_n C dX3_pass_8 rfl ?_
    refine zV.icmp_ge (tgt := 22) C dX3_pass_9 (by decide) (fun q9 => ?_) (fun q9 => ?_)
    · have e : k = N := by have := nle (by omega) (by omega) q9; omega
      subst e
      refine zV.aload_n C dX3_pass_22 rfl rfl ?_
      refine zV.gIv 200 (k := 8) C dX3_pass_23 zcl_X3 (by decide) rfl lk_X3_62 (hg.1.1) rfl (((zGa_n hg).2.2.2.2.1)) ?_
      refine zV.iload_n C dX3_pass_26 rfl ?_
      refine zV.isub C dX3_pass_27 ?_
      rw [show nI (gF (days g0 k)) - nI c0 = nI (gF (days g0 k) - c0) from pk_sub (Nat.le_trans hc0 (days_P g0 k).2.2.2.2.2.2)]
      refine zV.iret C F dX3_pass_28 rfl ?_
      exact hq h hg f
    · have hkN : k < N := nlt (by omega) (by omega) q9
      refine zV.aload_n C dX3_pass_12 rfl rfl ?_
      refine zV.callV (n := 0) C G dX3_pass_13 (s_passOneDay hzs hst h b (days g0 k) hg (gQ_W qk (by omega)) qk.2.1) rfl ⟨cd_X3_passOneDay, lk_X3_165, im_X3_passOneDay, se_X3_X3_passOneDay, in_X3⟩ ⟨⟨by decide, by decide⟩, by decide⟩ rfl rfl rfl (hg.1.1) ⟨rfl, by decide⟩ (zafRv (fun h9 ⟨hg9, f9⟩ => ?_)) (zno)
      refine zV.iinc (lo' := [(0, _), (1, _), (2, _), (3, _)]) C dX3_pass_16 rfl (by decide) rfl rfl rfl ?_
      refine zV.goto (tgt := 7) C dX3_pass_19 (by decide) ?_
      rw [inc1]
      exact ih (k + 1) h9 (by omega) (by omega) hg9 (f.trans f9)
set_option maxHeartbeats 4000000 in
set_option maxRecDepth 100000 in
theorem s_pass {l : Launch} {E : zG} (hzs : zS E) (hst : l.stackTraces = false) (h : zH) (b : Nat) (g : zGd) (N m : Nat) (hN : N ≤ 100) (hg : zGa h b g) (hq0 : gQ m g) (hm : m + 3000 ≤ big) : zMet l E yX3_pass cX3_pass 4 (some .int) ({ frames := 3, cells := 0, slots := 0, locals := 69 } : Room) 0 0 [.ref b, .int (nI N)] h (fun r h' => r = some (.int (nI (gF (days g N) - gF g))) ∧ zGa h' b (days g N) ∧ zFr h h' b) (fun _ _ => False) := by
  refine zM_start hzs hst (by decide) (Nat.le_of_ble_eq_true rfl) (fun X C G F I => ?_)
  show zV X 0 0 _ 0 [(0, _), (1, _)] []
  refine zV.aload_n C dX3_pass_0 rfl rfl ?_
  refine zV.gIv 200 (k := 8) C dX3_pass_1 zcl_X3 (by decide) rfl lk_X3_62 (hg.1.1) rfl (((zGa_n hg).2.2.2.2.1)) ?_
  refine zV.istore_n (lo' := [(0, _), (1, _), (2, _)]) C dX3_pass_4 (by decide) rfl rfl rfl ?_
  refine zV.ic (v := nI 0) C dX3_pass_5 (by decide) ?_
  refine zV.istore_n (lo' := [(0, _), (1, _), (2, _), (3, _)]) C dX3_pass_6 (by decide) rfl rfl rfl ?_
  exact L_pass (h0 := h) hzs hst C G rfl F hN hm hq0 (Nat.le_refl _) (fun h1 q f => ⟨rfl, q, f⟩) (N + 1) 0 h (by omega) (by omega) (show zGa h b (days g 0) from hg) (zFr.refl h b)
/-- a garden that may be written over -/
def zGt (h : zH) (b : Nat) : Prop := zGs h b ∧ zCs h b []
theorem zGa_t {h : zH} {b : Nat} {g : zGd} (q : zGa h b g) : zGt h b := ⟨q.1, zCs_list (zGa_cs q) (fun k c hc => by cases k <;> cases hc)⟩
theorem zGt_fr {h h' : zH} {b d : Nat} (q : zGt h d) (f : zFr h h' b) (hd : d + 21 ≤ b ∨ b + 21 ≤ d) : zGt h' d := by
  obtain ⟨f1, f2, f3, f4, f5, f6, f7, f8⟩ := f
  exact ⟨zGs_same q.1 f2 f3 f4, zCs_same q.2 (fun k => (f8 _ k (by omega)).2) (fun f k hk => f7 _ _ (by have := q.2.1 k hk; omega)) (fun _ _ => trivial) (Nat.zero_le _)⟩
theorem chCopy_ne {h : zH} {a c f x : Nat} (q : x ≠ a) : hI (chCopy h a c) f x = hI h f x := (hI_sI_a q).trans ((hI_sI_a q).trans ((hI_sI_a q).trans ((hI_sI_a q).trans (hI_sI_a q))))
theorem chCopy_0 {h : zH} {a c : Nat} : hI (chCopy h a c) 128 a = hI h 128 c := (hI_sI_f (by decide)).trans ((hI_sI_f (by decide)).trans ((hI_sI_f (by decide)).trans ((hI_sI_f (by decide)).trans hI_sI)))
theorem chCopy_1 {h : zH} {a c : Nat} : hI (chCopy h a c) 129 a = hI h 129 c := (hI_sI_f (by decide)).trans ((hI_sI_f (by decide)).trans ((hI_sI_f (by decide)).trans hI_sI))
theorem chCopy_2 {h : zH} {a c : Nat} : hI (chCopy h a c) 130 a = hI h 130 c := (hI_sI_f (by decide)).trans ((hI_sI_f (by decide)).trans hI_sI)
theorem chCopy_3 {h : zH} {a c : Nat} : hI (chCopy h a c) 131 a = hI h 131 c := (hI_sI_f (by decide)).trans hI_sI
theorem chCopy_4 {h : zH} {a c : Nat} : hI (chCopy h a c) 132 a = hI h 132 c := hI_sI
theorem chCopy_fr {h : zH} {a c b : Nat} (h1 : b ≤ a) (h2 : a < b + 21) : zFr h (chCopy h a c) b := (((((zFr.refl h b).sI h1 h2).sI h1 h2).sI h1 h2).sI h1 h2).sI h1 h2
theorem zCs_put2 {h h' : zH} {b k : Nat} {cs cs' : List zCh} (q : zCs h b cs) (hk : k < 12) (hl : cs'.length ≤ 12) (h1 : ∀ k, aR h' (b + 8) k = aR h (b + 8) k) (h2 : ∀ f a, a ≠ cA h b k → hI h' f a = hI h f a) (h3 : hI h' 132 (cA h b k) = nI 0 ∨ hI h' 132 (cA h b k) = nI 1) (h4 : ∀ (j : Nat) (d : zCh), j ≠ k → cs'[j]? = some d → cs[j]? = some d) (h5 : ∀ (d : zCh), cs'[k]? = some d → chAt h' (cA h b k) d) : zCs h' b cs' := by
  have e : ∀ k, cA h' b k = cA h b k := fun k => cA_same (h1 k)
  refine ⟨fun k hk => ?_, fun i j hi hj z => ?_, fun j c hc => ?_, fun j hj => ?_⟩
  · rw [e k, h1 k]; exact q.1 k hk
  · rw [e, e] at z; exact q.2.1 i j hi hj z
  · have hj : j < 12 := Nat.lt_of_lt_of_le (List.getElem?_eq_some_iff.mp hc).1 hl
    rw [e j]
    by_cases z : j = k
    · subst z
      exact h5 c hc
    · exact chAt_same (fun f => h2 f _ (fun y => z (q.2.1 j k hj hk y))) (q.2.2.1 j c (h4 j c z hc))
  · rw [e j]
    by_cases z : j = k
    · subst z
      exact h3
    · rw [h2 132 _ (fun y => z (q.2.1 j k hj hk y))]; exact q.2.2.2 j hj
/-- the garden b once k chairs are copied -/
def zGm (h : zH) (b : Nat) (g : zGd) (k : Nat) : Prop := zGs h b ∧ zPa h (b + 1) (gN g) ∧ hI h 353 (b + 1) = nI (gP g) ∧ (∀ j, j < 6 → aI h (b + 5) j = nI (gS g j)) ∧ (∀ j, j < 6 → aI h (b + 7) j = nI (hsz (gC g) j)) ∧ zCs h b ((gC g).take k) ∧ hI h 196 b = nI (gC g).length
theorem zGm_step {h : zH} {b d k : Nat} {g : zGd} (q : zGm h b g k) (hk : k < 12) (hg : zGa h d g) (hl : (gC g).length ≤ 12) (hd : d + 21 ≤ b ∨ b + 21 ≤ d) : zGm (chCopy h (cA h b k) (cA h d k)) b g (k + 1) := by
  obtain ⟨q1, q2, q3, q4, q5, q6, q7⟩ := q
  have cb := (q6.1 k hk).2
  refine ⟨q1, q2, (chCopy_ne (by omega)).trans q3, q4, q5, zCs_put2 q6 hk (by rw [List.length_take]; omega) (fun _ => rfl) (fun f a z => chCopy_ne z) (by rw [chCopy_4]; exact zGa_f hg hk) (fun j c z w => ?_) (fun c w => ?_), (chCopy_ne (by omega)).trans q7⟩
  · rw [List.getElem?_take] at w ⊢
    split at w
    · rw [if_pos (by omega)]; exact w
    · cases w
  · rw [List.getElem?_take, if_pos (by omega)] at w
    obtain ⟨c1, c2, c3, c4, c5⟩ := zGa_c hg w
    exact ⟨chCopy_0.trans c1, chCopy_1.trans c2, chCopy_2.trans c3, chCopy_3.trans c4, chCopy_4.trans c5⟩
theorem cpy6 {f g : Nat → Int32} {j : Nat} (hj : j < 6) : va_cpy f g 0 0 6 j = f j := by
  unfold va_cpy
  rw [if_pos ⟨by omega, by omega⟩]
  congr 1
  omega
def bcH (h : zH) (b d : Nat) : zH := sI (sRow (sRow (sI (sRow h (b + 3) (va_cpy (aI h (d + 3)) (aI h (b + 3)) 0 0 6)) 353 (b + 1) (hI h 353 (d + 1))) (b + 5) (va_cpy (aI h (d + 5)) (aI h (b + 5)) 0 0 6)) (b + 7) (va_cpy (aI h (d + 7)) (aI h (b + 7)) 0 0 6)) 196 b (hI h 196 d)
theorem bc0 {h : zH} {b d : Nat} {g : zGd} (hb : zGt h b) (hg : zGa h d g) (hl : (gC g).length ≤ 12) (hd : d + 21 ≤ b ∨ b + 21 ≤ d) : zGm (bcH h b d) b g 0 ∧ zFr h (bcH h b d) b := by
  have f : zFr h (bcH h b d) b := (((((zFr.refl h b).sRow (by omega) (by omega)).sI (by omega) (by omega)).sRow (by omega) (by omega)).sRow (by omega) (by omega)).sI (by omega) (by omega)
  have e3 : ∀ j, j < 6 → aI (bcH h b d) (b + 3) j = aI h (d + 3) j := fun j hj => by
    show (if b + 3 = b + 7 then _ else if b + 3 = b + 5 then _ else if b + 3 = b + 3 then va_cpy (aI h (d + 3)) (aI h (b + 3)) 0 0 6 else _) j = _
    rw [if_neg (by omega), if_neg (by omega), if_pos rfl, cpy6 hj]
  have e5 : ∀ j, j < 6 → aI (bcH h b d) (b + 5) j = aI h (d + 5) j := fun j hj => by
    show (if b + 5 = b + 7 then _ else if b + 5 = b + 5 then va_cpy (aI h (d + 5)) (aI h (b + 5)) 0 0 6 else _) j = _
    rw [if_neg (by omega), if_pos rfl, cpy6 hj]
  have e7 : ∀ j, j < 6 → aI (bcH h b d) (b + 7) j = aI h (d + 7) j := fun j hj => by
    show (if b + 7 = b + 7 then va_cpy (aI h (d + 7)) (aI h (b + 7)) 0 0 6 else _) j = _
    rw [if_pos rfl, cpy6 hj]
  have p := zGa_pa hg
  refine ⟨⟨hb.1, ⟨hb.1.2.2.2.2.2.1, fun j hj => ⟨(e3 j hj).trans (p.2 j hj).1, (p.2 j hj).2⟩⟩, ?_, fun j hj => (e5 j hj).trans (zGa_s hg j hj), fun j hj => (e7 j hj).trans (zGa_h hg j hj), ?_, hI_sI.trans (zGa_len hg)⟩, f⟩
  · exact ((hI_sI_a (by omega)).trans hI_sI).trans (zGa_p hg)
  · rw [List.take_zero]
    refine zCs_same hb.2 (fun _ => rfl) (fun f k hk => ?_) (fun _ _ => trivial) (Nat.zero_le _)
    have := hb.2.1 k hk
    exact (hI_sI_a (by omega)).trans (hI_sI_a (by omega))
theorem bc9 {h : zH} {b d : Nat} {g : zGd} (q : zGm h b g 12) (hg : zGa h d g) (hl : (gC g).length ≤ 12) : zGa (sI (sI (sI (sI (sI (sI (sI h 197 b (hI h 197 d)) 198 b (hI h 198 d)) 199 b (hI h 199 d)) 200 b (hI h 200 d)) 201 b (hI h 201 d)) 202 b (hI h 202 d)) 203 b (hI h 203 d)) b g ∧ zFr h (sI (sI (sI (sI (sI (sI (sI h 197 b (hI h 197 d)) 198 b (hI h 198 d)) 199 b (hI h 199 d)) 200 b (hI h 200 d)) 201 b (hI h 201 d)) 202 b (hI h 202 d)) 203 b (hI h 203 d)) b := by
  have n := zGa_n hg
  have ht : (gC g).take 12 = gC g := List.take_of_length_le hl
  refine ⟨⟨q.1, q.2.1, ?_, q.2.2.2.1, q.2.2.2.2.1, ?_, ?_⟩, (((((((zFr.refl h b).sI (by omega) (by omega)).sI (by omega) (by omega)).sI (by omega) (by omega)).sI (by omega) (by omega)).sI (by omega) (by omega)).sI (by omega) (by omega)).sI (by omega) (by omega)⟩
  · exact (hI_sI_a (by omega)).trans ((hI_sI_a (by omega)).trans ((hI_sI_a (by omega)).trans ((hI_sI_a (by omega)).trans ((hI_sI_a (by omega)).trans ((hI_sI_a (by omega)).trans ((hI_sI_a (by omega)).trans (q.2.2.1)))))))
  · have c := q.2.2.2.2.2.1
    rw [ht] at c
    refine zCs_same c (fun _ => rfl) (fun f k hk => ?_) (fun _ _ => trivial) hl
    have := c.1 k hk
    exact (hI_sI_a (by omega)).trans ((hI_sI_a (by omega)).trans ((hI_sI_a (by omega)).trans ((hI_sI_a (by omega)).trans ((hI_sI_a (by omega)).trans ((hI_sI_a (by omega)).trans ((hI_sI_a (by omega)).trans (rfl)))))))
  · exact ⟨((hI_sI_f (by decide)).trans ((hI_sI_f (by decide)).trans ((hI_sI_f (by decide)).trans ((hI_sI_f (by decide)).trans ((hI_sI_f (by decide)).trans ((hI_sI_f (by decide)).trans ((hI_sI_f (by decide)).trans (q.2.2.2.2.2.2)))))))), ((hI_sI_f (by decide)).trans ((hI_sI_f (by decide)).trans ((hI_sI_f (by decide)).trans ((hI_sI_f (by decide)).trans ((hI_sI_f (by decide)).trans ((hI_sI_f (by decide)).trans (hI_sI.trans n.2.1))))))), ((hI_sI_f (by decide)).trans ((hI_sI_f (by decide)).trans ((hI_sI_f (by decide)).trans ((hI_sI_f (by decide)).trans ((hI_sI_f (by decide)).trans (hI_sI.trans n.2.2.1)))))), ((hI_sI_f (by decide)).trans ((hI_sI_f (by decide)).trans ((hI_sI_f (by decide)).trans ((hI_sI_f (by decide)).trans (hI_sI.trans n.2.2.2.1))))), ((hI_sI_f (by decide)).trans ((hI_sI_f (by decide)).trans ((hI_sI_f (by decide)).trans (hI_sI.trans n.2.2.2.2.1)))), ((hI_sI_f (by decide)).trans ((hI_sI_f (by decide)).trans (hI_sI.trans n.2.2.2.2.2.1))), ((hI_sI_f (by decide)).trans (hI_sI.trans n.2.2.2.2.2.2.1)), (hI_sI.trans n.2.2.2.2.2.2.2)⟩
set_option maxHeartbeats 4000000 in
set_option maxRecDepth 100000 in
theorem L_become {X : zX} {l : Launch} {E : zG} {rm : Room} (hzs : zS E) (hst : l.stackTraces = false) (C : zC X cX3_become RX3 3) (G : zGX X l E rm) {h0 : zH} {b d : Nat} {g : zGd} {Qr : Option Value → zH → Prop} {Qx : String → zH → Prop} (hr : rm = ({ frames := 3, cells := 0, slots := 0, locals := 142 } : Room)) (F : zF X none 0 0 Qr Qx) (hl : (gC g).length ≤ 12) (hd : d + 21 ≤ b ∨ b + 21 ≤ d) (hq : ∀ h', zGa h' b g → zFr h0 h' b → Qr none h') : ∀ n k h, k ≤ 12 → 13 ≤ k + n → zGa h d g → zGm h b g k → zFr h0 h b → zV X 0 0 h 43 [(0, .ref b), (1, .ref d), (2, .int (nI k))] [] := by
  subst hr
  intro n
  induction n with
  | zero => intro k h h1 h2; exact absurd h2 (by omega)
  | succ n ih =>
    intro k h hk hn hg hm f
    refine zV.iload_n C dX3_become_43 rfl ?_
    refine zV.bi (v := nI 12) C dX3_become_44 (by decide) ?_
    refine zV.icmp_ge (tgt := 70) C dX3_become_46 (by decide) (fun q46 => ?_) (fun q46 => ?_)
    · have e : k = 12 := by have := nle (by omega) (by decide) q46; omega
      subst e
      refine zV.aload_n C dX3_become_70 rfl rfl ?_
      refine zV.aload_n C dX3_become_71 rfl rfl ?_
      refine zV.gIv 197 (k := 5) C dX3_become_72 zcl_X3 (by decide) rfl lk_X3_56 (hg.1.1) rfl (rfl) ?_
      refine zV.pI 197 (k := 5) C dX3_become_75 zcl_X3 (by decide) rfl lk_X3_56 rfl (hm.1.1) rfl ⟨rfl, rfl⟩ ?_
      refine zV.aload_n C dX3_become_78 rfl rfl ?_
      refine zV.aload_n C dX3_become_79 rfl rfl ?_
      refine zV.gIv 198 (k := 6) C dX3_become_80 zcl_X3 (by decide) rfl lk_X3_59 (hg.1.1) rfl ((hI_sI_a (by omega)).trans (rfl)) ?_
      refine zV.pI 198 (k := 6) C dX3_become_83 zcl_X3 (by decide) rfl lk_X3_59 rfl (hm.1.1) rfl ⟨rfl, rfl⟩ ?_
      refine zV.aload_n C dX3_become_86 rfl rfl ?_
      refine zV.aload_n C dX3_become_87 rfl rfl ?_
      refine zV.gIv 199 (k := 7) C dX3_become_88 zcl_X3 (by decide) rfl lk_X3_34 (hg.1.1) rfl ((hI_sI_a (by omega)).trans ((hI_sI_a (by omega)).trans (rfl))) ?_
      refine zV.pI 199 (k := 7) C dX3_become_91 zcl_X3 (by decide) rfl lk_X3_34 rfl (hm.1.1) rfl ⟨rfl, rfl⟩ ?_
      refine zV.aload_n C dX3_become_94 rfl rfl ?_
      refine zV.aload_n C dX3_become_95 rfl rfl ?_
      refine zV.gIv 200 (k := 8) C dX3_become_96 zcl_X3 (by decide) rfl lk_X3_62 (hg.1.1) rfl ((hI_sI_a (by omega)).trans ((hI_sI_a (by omega)).trans ((hI_sI_a (by omega)).trans (rfl)))) ?_
      refine zV.pI 200 (k := 8) C dX3_become_99 zcl_X3 (by decide) rfl lk_X3_62 rfl (hm.1.1) rfl ⟨rfl, rfl⟩ ?_
      refine zV.aload_n C dX3_become_102 rfl rfl ?_
      refine zV.aload_n C dX3_become_103 rfl rfl ?_
      refine zV.gIv 201 (k := 9) C dX3_become_104 zcl_X3 (by decide) rfl lk_X3_65 (hg.1.1) rfl ((hI_sI_a (by omega)).trans ((hI_sI_a (by omega)).trans ((hI_sI_a (by omega)).trans ((hI_sI_a (by omega)).trans (rfl))))) ?_
      refine zV.pI 201 (k := 9) C dX3_become_107 zcl_X3 (by decide) rfl lk_X3_65 rfl (hm.1.1) rfl ⟨rfl, rfl⟩ ?_
      refine zV.aload_n C dX3_become_110 rfl rfl ?_
      refine zV.aload_n C dX3_become_111 rfl rfl ?_
      refine zV.gIv 202 (k := 10) C dX3_become_112 zcl_X3 (by decide) rfl lk_X3_68 (hg.1.1) rfl ((hI_sI_a (by omega)).trans ((hI_sI_a (by omega)).trans ((hI_sI_a (by omega)).trans ((hI_sI_a (by omega)).trans ((hI_sI_a (by omega)).trans (rfl)))))) ?_
      refine zV.pI 202 (k := 10) C dX3_become_115 zcl_X3 (by decide) rfl lk_X3_68 rfl (hm.1.1) rfl ⟨rfl, rfl⟩ ?_
      refine zV.aload_n C dX3_become_118 rfl rfl ?_
      refine zV.aload_n C dX3_become_119 rfl rfl ?_
      refine zV.gIv 203 (k := 11) C dX3_become_120 zcl_X3 (by decide) rfl lk_X3_71 (hg.1.1) rfl ((hI_sI_a (by omega)).trans ((hI_sI_a (by omega)).trans ((hI_sI_a (by omega)).trans ((hI_sI_a (by omega)).trans ((hI_sI_a (by omega)).trans ((hI_sI_a (by omega)).trans (rfl))))))) ?_
      refine zV.pI 203 (k := 11) C dX3_become_123 zcl_X3 (by decide) rfl lk_X3_71 rfl (hm.1.1) rfl ⟨rfl, rfl⟩ ?_
      refine zV.vret C F dX3_become_126 rfl ?_
      obtain ⟨y1, y2⟩ := bc9 hm hg hl
      exact hq _ y1 (f.trans y2)
    · have h12 : k < 12 := nlt (by omega) (by decide) q46
      have kb := zCs_k hm.1 hm.2.2.2.2.2.1 h12
      have kd := zGa_k hg h12
      refine zV.aload_n C dX3_become_49 rfl rfl ?_
      refine zV.gR 195 (k := 3) C dX3_become_50 zcl_X3 (by decide) rfl lk_X3_30 (hm.1.1) rfl (hm.1.2.2.2.2.1) ?_
      refine zV.iload_n C dX3_become_53 rfl ?_
      refine zV.aaldC (j := k) C dX3_become_54 (hm.1.2.2.2.2.2.2.2.2.1.1) (rfl) (Nat.lt_of_lt_of_eq h12 (hm.1.2.2.2.2.2.2.2.2.1.2).symm) (by omega) (hm.2.2.2.2.2.1.1 k h12).1 ?_
      refine zV.aload_n C dX3_become_55 rfl rfl ?_
      refine zV.gR 195 (k := 3) C dX3_become_56 zcl_X3 (by decide) rfl lk_X3_30 (hg.1.1) rfl (hg.1.2.2.2.2.1) ?_
      refine zV.iload_n C dX3_become_59 rfl ?_
      refine zV.aaldC (j := k) C dX3_become_60 (hg.1.2.2.2.2.2.2.2.2.1.1) (rfl) (Nat.lt_of_lt_of_eq h12 (hg.1.2.2.2.2.2.2.2.2.1.2).symm) (by omega) (zGa_a hg h12) ?_
      refine zV.callV (n := 1) C G dX3_become_61 (s_Chair_become hzs hst h (cA h b k) (cA h d k) kb kd (zGa_f hg h12)) rfl ⟨cd_X0_become, lk_X3_53, im_X0_become, se_X0_X0_become, in_X0⟩ ⟨⟨by decide, by decide⟩, by decide⟩ rfl rfl rfl kb ⟨rfl, by decide⟩ (zafv ?_) (zno)
      refine zV.iinc (lo' := [(0, _), (1, _), (2, _)]) C dX3_become_64 rfl (by decide) rfl rfl rfl ?_
      refine zV.goto (tgt := 43) C dX3_become_67 (by decide) ?_
      rw [inc1]
      have cb := (hm.2.2.2.2.2.1.1 k h12).2
      have f9 : zFr h (chCopy h (cA h b k) (cA h d k)) b := chCopy_fr (by omega) (by omega)
      exact ih (k + 1) _ (by omega) (by omega) (zGa_else hg hl f9 hd) (zGm_step hm h12 hg hl hd) (f.trans f9)
set_option maxHeartbeats 4000000 in
set_option maxRecDepth 100000 in
theorem s_become {l : Launch} {E : zG} (hzs : zS E) (hst : l.stackTraces = false) (h : zH) (b d : Nat) (g : zGd) (hb : zGt h b) (hg : zGa h d g) (hl : (gC g).length ≤ 12) (hd : d + 21 ≤ b ∨ b + 21 ≤ d) : zMet l E yX3_become cX3_become 3 none ({ frames := 3, cells := 0, slots := 0, locals := 142 } : Room) 0 0 [.ref b, .ref d] h (fun r h' => r = none ∧ zGa h' b g ∧ zFr h h' b) (fun _ _ => False) := by
  refine zM_start hzs hst (by decide) (Nat.le_of_ble_eq_true rfl) (fun X C G F I => ?_)
  show zV X 0 0 _ 0 [(0, _), (1, _)] []
  refine zV.aload_n C dX3_become_0 rfl rfl ?_
  refine zV.gR 192 (k := 0) C dX3_become_1 zcl_X3 (by decide) rfl lk_X3_12 (hb.1.1) rfl (hb.1.2.1) ?_
  refine zV.aload_n C dX3_become_4 rfl rfl ?_
  refine zV.gR 192 (k := 0) C dX3_become_5 zcl_X3 (by decide) rfl lk_X3_12 (hg.1.1) rfl (hg.1.2.1) ?_
  refine zV.callV (n := 1) C G dX3_become_8 (s_Paths_become hzs hst h (b + 1) (d + 1) hb.1.2.2.2.2.2.1 hg.1.2.2.2.2.2.1) rfl ⟨cd_X8_become, lk_X3_43, im_X8_become, se_X8_X8_become, in_X8⟩ ⟨⟨by decide, by decide⟩, by decide⟩ rfl rfl rfl (hb.1.2.2.2.2.2.1.1) ⟨rfl, by decide⟩ (zafv ?_) (zno)
  refine zV.aload_n C dX3_become_11 rfl rfl ?_
  refine zV.gR 193 (k := 1) C dX3_become_12 zcl_X3 (by decide) rfl lk_X3_21 (hb.1.1) rfl (hb.1.2.2.1) ?_
  refine zV.aload_n C dX3_become_15 rfl rfl ?_
  refine zV.gR 193 (k := 1) C dX3_become_16 zcl_X3 (by decide) rfl lk_X3_21 (hg.1.1) rfl (hg.1.2.2.1) ?_
  refine zV.callV (n := 1) C G dX3_become_19 (s_LawnRow_become hzs hst _ (b + 4) (d + 4) hb.1.2.2.2.2.2.2.1 hg.1.2.2.2.2.2.2.1) rfl ⟨cd_X7_become, lk_X3_47, im_X7_become, se_X7_X7_become, in_X7⟩ ⟨⟨by decide, by decide⟩, by decide⟩ rfl rfl rfl (hb.1.2.2.2.2.2.2.1.1) ⟨rfl, by decide⟩ (zafv ?_) (zno)
  refine zV.aload_n C dX3_become_22 rfl rfl ?_
  refine zV.gR 194 (k := 2) C dX3_become_23 zcl_X3 (by decide) rfl lk_X3_25 (hb.1.1) rfl (hb.1.2.2.2.1) ?_
  refine zV.aload_n C dX3_become_26 rfl rfl ?_
  refine zV.gR 194 (k := 2) C dX3_become_27 zcl_X3 (by decide) rfl lk_X3_25 (hg.1.1) rfl (hg.1.2.2.2.1) ?_
  refine zV.callV (n := 1) C G dX3_become_30 (s_LawnRow_become hzs hst _ (b + 6) (d + 6) hb.1.2.2.2.2.2.2.2.1 hg.1.2.2.2.2.2.2.2.1) rfl ⟨cd_X7_become, lk_X3_47, im_X7_become, se_X7_X7_become, in_X7⟩ ⟨⟨by decide, by decide⟩, by decide⟩ rfl rfl rfl (hb.1.2.2.2.2.2.2.2.1.1) ⟨rfl, by decide⟩ (zafv ?_) (zno)
  refine zV.aload_n C dX3_become_33 rfl rfl ?_
  refine zV.aload_n C dX3_become_34 rfl rfl ?_
  refine zV.gIv 196 (k := 4) C dX3_become_35 zcl_X3 (by decide) rfl lk_X3_50 (hg.1.1) rfl ((hI_sI_a (by omega))) ?_
  refine zV.pI 196 (k := 4) C dX3_become_38 zcl_X3 (by decide) rfl lk_X3_50 rfl (hb.1.1) rfl ⟨rfl, rfl⟩ ?_
  refine zV.ic (v := nI 0) C dX3_become_41 (by decide) ?_
  refine zV.istore_n (lo' := [(0, _), (1, _), (2, _)]) C dX3_become_42 (by decide) rfl rfl rfl ?_
  obtain ⟨m0, f0⟩ := bc0 hb hg hl hd
  have e5 : aI (sI (sRow h (b + 3) (va_cpy (aI h (d + 3)) (aI h (b + 3)) 0 0 6)) 353 (b + 1) (hI h 353 (d + 1))) (d + 5) = aI h (d + 5) := if_neg (by omega)
  have e5b : aI (sI (sRow h (b + 3) (va_cpy (aI h (d + 3)) (aI h (b + 3)) 0 0 6)) 353 (b + 1) (hI h 353 (d + 1))) (b + 5) = aI h (b + 5) := if_neg (by omega)
  have e7 : aI (sRow (sI (sRow h (b + 3) (va_cpy (aI h (d + 3)) (aI h (b + 3)) 0 0 6)) 353 (b + 1) (hI h 353 (d + 1))) (b + 5) (va_cpy (aI h (d + 5)) (aI h (b + 5)) 0 0 6)) (d + 7) = aI h (d + 7) := (if_neg (by omega)).trans (if_neg (by omega))
  have e7b : aI (sRow (sI (sRow h (b + 3) (va_cpy (aI h (d + 3)) (aI h (b + 3)) 0 0 6)) 353 (b + 1) (hI h 353 (d + 1))) (b + 5) (va_cpy (aI h (d + 5)) (aI h (b + 5)) 0 0 6)) (b + 7) = aI h (b + 7) := (if_neg (by omega)).trans (if_neg (by omega))
  have k2 := L_become (h0 := h) hzs hst C G rfl F hl hd (fun h' q f => ⟨rfl, q, f⟩) 13 0 (bcH h b d) (by omega) (by omega) (zGa_else hg hl f0 hd) m0 f0
  unfold bcH at k2
  rw [← e7, ← e7b, ← e5, ← e5b] at k2
  exact k2
