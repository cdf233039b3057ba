/-! ChairMigration: the day of a collapse, routes, means -/
/-- the first of the days k, k + 1, .. (n of them) on which the chair is gone -/
def cdF (g : zGd) (x : Int32) : Nat → Nat → Option Nat
  | 0, _ => none
  | n + 1, k => if ixF x (gC (days g k)) 0 = none then some k else cdF g x n (k + 1)
def opA (o : Option Nat) : zAn := match o with
  | none => .inl NSE
  | some k => .inr (.int (nI k))
def cdA (g : zGd) (x : Int32) : zAn := chQ g x (fun _ _ => opA (cdF g x 100 1))
theorem cdF_z {g : zGd} {x : Int32} {n k : Nat} (e : ixF x (gC (days g k)) 0 = none) : cdF g x (n + 1) k = some k := if_pos e
theorem cdF_s {g : zGd} {x : Int32} {n k j : Nat} (e : ixF x (gC (days g k)) 0 = some j) : cdF g x (n + 1) k = cdF g x n (k + 1) := if_neg (fun z => by rw [e] at z; cases z)
set_option maxHeartbeats 4000000 in
set_option maxRecDepth 100000 in
theorem L_collapseDay {X : zX} {l : Launch} {E : zG} {rm : Room} (hzs : zS E) (hst : l.stackTraces = false) (C : zC X cX9_collapseDay RX9 3) (G : zGX X l E rm) {h0 : zH} {a lo m : Nat} {x : Int32} {g : zGd} {us : List zGd} {sn : Option zGd} {off rs dt cs : Int32} {t o : List Nat} {A : zAn} (hr : rm = ({ frames := 7, cells := 2, slots := 12, locals := 164 } : Room)) (F : zF X (some .int) 2 12 (sQ9 h0 A (sm9 h0 a lo g us sn off rs dt cs t o)) (sX9 h0 A (sm9 h0 a lo g us sn off rs dt cs t o))) (hm : m + 3300 ≤ big) (hq0 : gQ m g) : ∀ n k h, k ≤ 100 → 101 ≤ k + n → A = opA (cdF g x (100 - k) (k + 1)) → zXf h0 h a lo → zXa h a lo g us sn off rs dt cs t o → zGa h (a + 22) (days g k) → zV X 1 6 h 19 [(0, .ref a), (1, .int x), (2, .int (nI (k + 1)))] [] := by
  subst hr
  intro n
  induction n with
  | zero => intro k h h1 h2; exact absurd h2 (by omega)
  | succ n ih =>
    intro k h hk hn eA f q gk
    have qk := days_Q hq0 k
    have qk1 := days_Q hq0 (k + 1)
    have bb : big = 1000000000 := rfl
    obtain ⟨hx, ⟨hg, hf, hb⟩, hs, hH, hI, hJ, hin, hou, hn, hlo, hl9⟩ := id q
    refine zV.iload_n C dX9_collapseDay_19 rfl ?_
    refine zV.bi (v := nI 100) C dX9_collapseDay_20 (by decide) ?_
    refine zV.icmp_gt (tgt := 51) C dX9_collapseDay_22 (by decide) (fun q22 => ?_) (fun q22 => ?_)
    · have e9 : 100 < k + 1 := nlt (by omega) (by omega) (Int32.not_le.mpr q22)
      have e8 : k = 100 := by omega
      subst e8
      exact zV.throwX _ C G dX9_collapseDay_51 dX9_collapseDay_54 dX9_collapseDay_55 dX9_collapseDay_57 dX9_collapseDay_60 hz_nse lk_X9_99 in_java_util_NoSuchElementException hs_201 hp_nse zUW rfl (zVX.out C F (⟨eA, f, q⟩) ⟨by decide, by decide⟩)
    · have e9 : k + 1 ≤ 100 := nle (by omega) (by omega) (Int32.not_lt.mp q22)
      rw [show 100 - k = (99 - k) + 1 from by omega] at eA
      refine zV.aload_n C dX9_collapseDay_25 rfl rfl ?_
      refine zV.gR 385 (k := 1) C dX9_collapseDay_26 zcl_X9 (by decide) rfl lk_X9_16 (hx.1) rfl (hx.2.2.1) ?_
      refine zV.callV (n := 0) C G dX9_collapseDay_29 (s_passOneDay hzs hst h (a + 22) (days g k) gk (gQ_W qk (by omega)) qk.2.1) rfl ⟨cd_X3_passOneDay, lk_X9_198, im_X3_passOneDay, se_X3_X3_passOneDay, in_X3⟩ ⟨⟨by decide, by decide⟩, by decide⟩ rfl rfl rfl gk.1.1 ⟨rfl, by decide⟩ (zafRv (fun h9 ⟨hg9, f9⟩ => ?_)) (zno)
      have q := zXa_f q f9.q (zGa_t hg9)
      clear hx hg hf hb hs hH hI hJ hin hou hn
      obtain ⟨hx, ⟨hg, hf, hb⟩, hs, hH, hI, hJ, hin, hou, hn, hlo2, hl92⟩ := id q
      rcases hix : ixF x (gC (days g (k + 1))) 0 with _ | j
      · refine zV.aload_n C dX9_collapseDay_32 rfl rfl ?_
        refine zV.gR 385 (k := 1) C dX9_collapseDay_33 zcl_X9 (by decide) rfl lk_X9_16 (hx.1) rfl (hx.2.2.1) ?_
        refine zV.iload_n C dX9_collapseDay_36 rfl ?_
        refine zV.callV (n := 1) C G dX9_collapseDay_37 (s_find hzs hst h9 (a + 22) (days g (k + 1)) x hg9 (gQ_W qk1 (by omega))) rfl ⟨cd_X3_find, lk_X9_124, im_X3_find, se_X3_X3_find, in_X3⟩ ⟨⟨by decide, by decide⟩, by decide⟩ rfl rfl rfl hg9.1.1 ⟨rfl, by decide⟩ (zafe (congrArg (zfo h9 (a + 22)) hix) ?_) (zno)
        refine zV.ifnonnull (tgt := 45) C dX9_collapseDay_40 (by decide) rfl (fun q40 => ?_) (fun q40 => ?_)
        · exact absurd rfl q40
        · refine zV.iload_n C dX9_collapseDay_43 rfl ?_
          refine zV.iret C F dX9_collapseDay_44 rfl ?_
          exact sQ_of (eA.trans (by rw [cdF_z hix]; rfl)) ⟨f.trans (zXf.q f9.q (by omega) (by omega)), q⟩
      · refine zV.aload_n C dX9_collapseDay_32 rfl rfl ?_
        refine zV.gR 385 (k := 1) C dX9_collapseDay_33 zcl_X9 (by decide) rfl lk_X9_16 (hx.1) rfl (hx.2.2.1) ?_
        refine zV.iload_n C dX9_collapseDay_36 rfl ?_
        refine zV.callV (n := 1) C G dX9_collapseDay_37 (s_find hzs hst h9 (a + 22) (days g (k + 1)) x hg9 (gQ_W qk1 (by omega))) rfl ⟨cd_X3_find, lk_X9_124, im_X3_find, se_X3_X3_find, in_X3⟩ ⟨⟨by decide, by decide⟩, by decide⟩ rfl rfl rfl hg9.1.1 ⟨rfl, by decide⟩ (zafe (congrArg (zfo h9 (a + 22)) hix) ?_) (zno)
        show zV X 1 6 h9 40 _ (.ref (cA h9 (a + 22) j) :: _)
        refine zV.ifnonnull (tgt := 45) C dX9_collapseDay_40 (by decide) rfl (fun q40 => ?_) (fun q40 => ?_)
        · refine zV.iinc (lo' := [(0, _), (1, _), (2, _)]) C dX9_collapseDay_45 rfl (by decide) rfl rfl rfl ?_
          refine zV.goto (tgt := 19) C dX9_collapseDay_48 (by decide) ?_
          rw [inc1]
          exact ih (k + 1) h9 (by omega) (by omega) (eA.trans (by rw [cdF_s hix, show 100 - (k + 1) = 99 - k from by omega])) (f.trans (zXf.q f9.q (by omega) (by omega))) q hg9
        · exact absurd q40 (by intro z; cases z)
set_option maxHeartbeats 4000000 in
set_option maxRecDepth 100000 in
theorem s_collapseDay {l : Launch} {E : zG} (hzs : zS E) (hst : l.stackTraces = false) (h : zH) (a lo m : Nat) (x : Int32) (g : zGd) (us : List zGd) (sn : Option zGd) (off rs dt cs : Int32) (t o : List Nat) (q : zXa h a lo g us sn off rs dt cs t o) (hq : gQ m g) (hm : m + 3300 ≤ big) : zMet l E yX9_collapseDay cX9_collapseDay 3 (some .int) ({ frames := 7, cells := 2, slots := 12, locals := 164 } : Room) 2 12 [.ref a, .int x] h (sQ9 h (cdA g x) (sm9 h a lo g us sn off rs dt cs t o)) (sX9 h (cdA g x) (sm9 h a lo g us sn off rs dt cs t o)) := by
  refine zM_start hzs hst (by decide) (Nat.le_of_ble_eq_true rfl) (fun X C G F I => ?_)
  show zV X 0 0 _ 0 [(0, _), (1, _)] []
  obtain ⟨hx, ⟨hg, hf, hb⟩, hs, hH, hI, hJ, hin, hou, hn, hlo, hl9⟩ := id q
  have hw := gQ_W hq (by omega : m ≤ big)
  rcases e1 : kc g x with _ | ⟨k, c⟩
  · refine zV.aload_n C dX9_collapseDay_0 rfl rfl ?_
    refine zV.iload_n C dX9_collapseDay_1 rfl ?_
    refine zV.callV (n := 1) C G dX9_collapseDay_2 (s_demandChair hzs hst h a g x hx hg hw) rfl ⟨cd_X9_demandChair, lk_X9_128, im_X9_demandChair, se_X9_X9_demandChair, in_X9⟩ ⟨⟨by decide, by decide⟩, by decide⟩ rfl rfl rfl hx.1 ⟨rfl, by decide⟩ (zdeA (chA9_n e1)) (zxS C F (chA9_n e1) (chQ_n e1) ⟨zXf.refl h a lo, q⟩ ⟨by decide, by decide⟩)
  · refine zV.aload_n C dX9_collapseDay_0 rfl rfl ?_
    refine zV.iload_n C dX9_collapseDay_1 rfl ?_
    refine zV.callV (n := 1) C G dX9_collapseDay_2 (s_demandChair hzs hst h a g x hx hg hw) rfl ⟨cd_X9_demandChair, lk_X9_128, im_X9_demandChair, se_X9_X9_demandChair, in_X9⟩ ⟨⟨by decide, by decide⟩, by decide⟩ rfl rfl rfl hx.1 ⟨rfl, by decide⟩ (zafA (chA9_s e1) ?_) (znoA (chA9_s e1))
    refine zV.pop C dX9_collapseDay_5 rfl ?_
    refine zV.aload_n C dX9_collapseDay_6 rfl rfl ?_
    refine zV.gR 385 (k := 1) C dX9_collapseDay_7 zcl_X9 (by decide) rfl lk_X9_16 (hx.1) rfl (hx.2.2.1) ?_
    refine zV.aload_n C dX9_collapseDay_10 rfl rfl ?_
    refine zV.gR 384 (k := 0) C dX9_collapseDay_11 zcl_X9 (by decide) rfl lk_X9_10 (hx.1) rfl (hx.2.1) ?_
    refine zV.callV (n := 1) C G dX9_collapseDay_14 (s_become hzs hst h (a + 22) (a + 1) g hf hg hl9 (by omega)) rfl ⟨cd_X3_become, lk_X9_191, im_X3_become, se_X3_X3_become, in_X3⟩ ⟨⟨by decide, by decide⟩, by decide⟩ rfl rfl rfl hf.1.1 ⟨rfl, by decide⟩ (zafRv (fun h9 ⟨g7, f7⟩ => ?_)) (zno)
    have q := zXa_f q f7.q (zGa_t g7)
    clear hx hg hf hb hs hH hI hJ hin hou hn
    obtain ⟨hx, ⟨hg, hf, hb⟩, hs, hH, hI, hJ, hin, hou, hn, hlo2, hl92⟩ := id q
    refine zV.ic (v := nI 1) C dX9_collapseDay_17 (by decide) ?_
    refine zV.istore_n (lo' := [(0, _), (1, _), (2, _)]) C dX9_collapseDay_18 (by decide) rfl rfl rfl ?_
    exact L_collapseDay (h0 := h) hzs hst C G rfl F hm hq 101 0 h9 (by omega) (by omega) (chQ_s e1) (zXf.q f7.q (by omega) (by omega)) q g7
/-- n steps from c towards j -/
def rtF (nb : Nat → Nat) (j : Nat) : Nat → Nat → Nat
  | 0, c => c
  | n + 1, c => rtF nb j n (nxt nb c j)
def rtA (nb : Nat → Nat) (i j : Nat) (p : Int32) : zAn := if p < 0 ∨ oI (far nb i j) < p then .inl NSE else .inr (.int (nI (rtF nb j p.toNatClampNeg i)))
theorem nxF_lt {nb : Nat → Nat} {i j : Nat} {v : Int32} (hi : i < 6) : ∀ n k, k + n ≤ 6 → nxF nb i j v n k < 6
  | 0, _, _ => hi
  | n + 1, k, h => by
    rw [nxF]
    split
    · omega
    · exact nxF_lt hi n (k + 1) (by omega)
theorem nxt_lt {nb : Nat → Nat} {i j : Nat} (hi : i < 6) : nxt nb i j < 6 := nxF_lt hi 6 0 (by omega)
theorem rt_p {nb : Nat → Nat} {i j : Nat} {p : Int32} (h1 : ¬ p < 0) (h2 : p ≤ oI (far nb i j)) : ∃ n, n ≤ 5 ∧ p = nI n := by
  rcases e : far nb i j with _ | d
  · rw [e] at h2
    exact absurd (Int32.lt_of_le_of_lt (show p ≤ -1 from h2) (by decide)) h1
  · rw [e] at h2
    have := (far_some e).1
    obtain ⟨n, h3, h4⟩ := nI_of2 (n := d) (x := p) (nI_toInt (by omega)) h1 h2
    exact ⟨n, by omega, h4⟩
set_option maxHeartbeats 4000000 in
set_option maxRecDepth 100000 in
theorem L_routeAt {X : zX} {l : Launch} {E : zG} {rm : Room} (hzs : zS E) (hst : l.stackTraces = false) (C : zC X cX9_routeAt RX9 7) (G : zGX X l E rm) {h : zH} {a i j N : Nat} {g : zGd} {v : Int32} {Qr : Option Value → zH → Prop} {Qx : String → zH → Prop} (hr : rm = ({ frames := 7, cells := 3, slots := 18, locals := 115 } : Room)) (F : zF X (some .int) 3 18 Qr Qx) (hN : N ≤ 5) (hj : j < 6) (hx : zXs h a) (hg : zGa h (a + 1) g) (hw : gW g) : ∀ n k c, k ≤ N → N + 1 ≤ k + n → c < 6 → Qr (some (.int (nI (rtF (gN g) j (N - k) c)))) h → zV X 2 12 h 48 [(0, .ref a), (1, .int (nI i)), (2, .int (nI j)), (3, .int (nI N)), (4, .int v), (5, .int (nI c)), (6, .int (nI k))] [] := by
  subst hr
  intro n
  induction n with
  | zero => intro k c h1 h2; exact absurd h2 (by omega)
  | succ n ih =>
    intro k c hk hn hc hq
    refine zV.iload C dX9_routeAt_48 rfl ?_
    refine zV.iload_n C dX9_routeAt_50 rfl ?_
    refine zV.icmp_ge (tgt := 75) C dX9_routeAt_51 (by decide) (fun q51 => ?_) (fun q51 => ?_)
    · have e : k = N := by have := nle (by omega) (by omega) q51; omega
      subst e
      refine zV.iload C dX9_routeAt_75 rfl ?_
      refine zV.iret C F dX9_routeAt_77 rfl ?_
      rw [Nat.sub_self] at hq
      exact hq
    · have e : k < N := nlt (by omega) (by omega) q51
      refine zV.aload_n C dX9_routeAt_54 rfl rfl ?_
      refine zV.gR 384 (k := 0) C dX9_routeAt_55 zcl_X9 (by decide) rfl lk_X9_10 (hx.1) rfl (hx.2.1) ?_
      refine zV.gNR 192 (k := 0) C dX9_routeAt_58 zcl_X3 (by decide) rfl lk_X9_74 (hg.1.1) rfl (hg.1.2.1) ?_
      refine zV.iload C dX9_routeAt_61 rfl ?_
      refine zV.iload_n C dX9_routeAt_63 rfl ?_
      refine zV.callV (n := 2) C G dX9_routeAt_64 (s_Paths_nextTowards hzs hst h (a + 1 + 1) c j (gN g) hc hj (zGa_pa hg)) rfl ⟨cd_X8_nextTowards, lk_X9_106, im_X8_nextTowards, se_X8_X8_nextTowards, in_X8⟩ ⟨⟨by decide, by decide⟩, by decide⟩ rfl rfl rfl (hg.1.2.2.2.2.2.1.1) ⟨rfl, by decide⟩ (zaf ?_) (zno)
      refine zV.istore (lo' := [(0, _), (1, _), (2, _), (3, _), (4, _), (5, _), (6, _)]) C dX9_routeAt_67 (by decide) rfl rfl rfl ?_
      refine zV.iinc (lo' := [(0, _), (1, _), (2, _), (3, _), (4, _), (5, _), (6, _)]) C dX9_routeAt_69 rfl (by decide) rfl rfl rfl ?_
      refine zV.goto (tgt := 48) C dX9_routeAt_72 (by decide) ?_
      rw [inc1]
      exact ih (k + 1) (nxt (gN g) c j) (by omega) (by omega) (nxt_lt hc) (by rw [show N - k = (N - (k + 1)) + 1 from by omega] at hq; exact hq)
set_option maxHeartbeats 4000000 in
set_option maxRecDepth 100000 in
theorem s_routeAt {l : Launch} {E : zG} (hzs : zS E) (hst : l.stackTraces = false) (h : zH) (a : Nat) (g : zGd) (x y p : Int32) (hx : zXs h a) (hg : zGa h (a + 1) g) (hw : gW g) : zMet l E yX9_routeAt cX9_routeAt 7 (some .int) ({ frames := 7, cells := 3, slots := 18, locals := 115 } : Room) 3 18 [.ref a, .int x, .int y, .int p] h (aQ h (lawA x (fun i => lawA y (fun j => rtA (gN g) i j p)))) (aX h (lawA x (fun i => lawA y (fun j => rtA (gN g) i j p)))) := by
  refine zM_start hzs hst (by decide) (Nat.le_of_ble_eq_true rfl) (fun X C G F I => ?_)
  show zV X 0 0 _ 0 [(0, _), (1, _), (2, _), (3, _)] []
  rcases e1 : ln x with _ | i
  · refine zV.iload_n C dX9_routeAt_0 rfl ?_
    refine zV.callS (n := 1) C G dX9_routeAt_1 (s_demandLawn hzs hst h x) rfl ⟨cd_X9_demandLawn, lk_X9_70, st_X9_demandLawn, in_X9⟩ ⟨⟨by decide, by decide⟩, by decide⟩ rfl rfl rfl (dl_no e1) (dl_x C F (lawA_n e1) ⟨by decide, by decide⟩)
  · obtain ⟨hi, rfl⟩ := ln_some e1
    rcases e2 : ln y with _ | j
    · refine zV.iload_n C dX9_routeAt_0 rfl ?_
      refine zV.callS (n := 1) C G dX9_routeAt_1 (s_demandLawn hzs hst h (nI i)) rfl ⟨cd_X9_demandLawn, lk_X9_70, st_X9_demandLawn, in_X9⟩ ⟨⟨by decide, by decide⟩, by decide⟩ rfl rfl rfl (dl_ok ?_) (dl_nx e1)
      refine zV.iload_n C dX9_routeAt_4 rfl ?_
      refine zV.callS (n := 1) C G dX9_routeAt_5 (s_demandLawn hzs hst h y) rfl ⟨cd_X9_demandLawn, lk_X9_70, st_X9_demandLawn, in_X9⟩ ⟨⟨by decide, by decide⟩, by decide⟩ rfl rfl rfl (dl_no e2) (dl_x C F ((lawA_s e1).trans (lawA_n e2)) ⟨by decide, by decide⟩)
    · obtain ⟨hj, rfl⟩ := ln_some e2
      refine zV.iload_n C dX9_routeAt_0 rfl ?_
      refine zV.callS (n := 1) C G dX9_routeAt_1 (s_demandLawn hzs hst h (nI i)) rfl ⟨cd_X9_demandLawn, lk_X9_70, st_X9_demandLawn, in_X9⟩ ⟨⟨by decide, by decide⟩, by decide⟩ rfl rfl rfl (dl_ok ?_) (dl_nx e1)
      refine zV.iload_n C dX9_routeAt_4 rfl ?_
      refine zV.callS (n := 1) C G dX9_routeAt_5 (s_demandLawn hzs hst h (nI j)) rfl ⟨cd_X9_demandLawn, lk_X9_70, st_X9_demandLawn, in_X9⟩ ⟨⟨by decide, by decide⟩, by decide⟩ rfl rfl rfl (dl_ok ?_) (dl_nx e2)
      refine zV.aload_n C dX9_routeAt_8 rfl rfl ?_
      refine zV.gR 384 (k := 0) C dX9_routeAt_9 zcl_X9 (by decide) rfl lk_X9_10 (hx.1) rfl (hx.2.1) ?_
      refine zV.gNR 192 (k := 0) C dX9_routeAt_12 zcl_X3 (by decide) rfl lk_X9_74 (hg.1.1) rfl (hg.1.2.1) ?_
      refine zV.iload_n C dX9_routeAt_15 rfl ?_
      refine zV.iload_n C dX9_routeAt_16 rfl ?_
      refine zV.callV (n := 2) C G dX9_routeAt_17 (s_Paths_stepsBetween hzs hst h (a + 1 + 1) i j (gN g) hi hj (zGa_pa hg)) rfl ⟨cd_X8_stepsBetween, lk_X9_84, im_X8_stepsBetween, se_X8_X8_stepsBetween, in_X8⟩ ⟨⟨by decide, by decide⟩, by decide⟩ rfl rfl rfl (hg.1.2.2.2.2.2.1.1) ⟨rfl, by decide⟩ (zaf ?_) (zno)
      refine zV.istore (lo' := [(0, _), (1, _), (2, _), (3, _), (4, _)]) C dX9_routeAt_20 (by decide) rfl rfl rfl ?_
      refine zV.iload_n C dX9_routeAt_22 rfl ?_
      refine zV.if_lt (tgt := 32) C dX9_routeAt_23 (by decide) (fun q23 => ?_) (fun q23 => ?_)
      · exact zV.throwX _ C G dX9_routeAt_32 dX9_routeAt_35 dX9_routeAt_36 dX9_routeAt_38 dX9_routeAt_41 hz_nse lk_X9_99 in_java_util_NoSuchElementException hs_101 hp_nse zUW rfl (zVX.out C F (⟨(lawA_s e1).trans ((lawA_s e2).trans (if_pos (by first | exact Or.inl q23 | exact Or.inr (Int32.not_le.mp q29)))), rfl⟩) ⟨by decide, by decide⟩)
      · refine zV.iload_n C dX9_routeAt_26 rfl ?_
        refine zV.iload C dX9_routeAt_27 rfl ?_
        refine zV.icmp_le (tgt := 42) C dX9_routeAt_29 (by decide) (fun q29 => ?_) (fun q29 => ?_)
        · have e7 : rtA (gN g) i j p = .inr (.int (nI (rtF (gN g) j p.toNatClampNeg i))) := if_neg (by intro z; rcases z with z | z; exact q23 z; exact Int32.not_le.mpr z q29)
          obtain ⟨N, hN, rfl⟩ := rt_p q23 q29
          rw [nI_cl (by omega)] at e7
          refine zV.iload_n C dX9_routeAt_42 rfl ?_
          refine zV.istore (lo' := [(0, _), (1, _), (2, _), (3, _), (4, _), (5, _)]) C dX9_routeAt_43 (by decide) rfl rfl rfl ?_
          refine zV.ic (v := nI 0) C dX9_routeAt_45 (by decide) ?_
          refine zV.istore (lo' := [(0, _), (1, _), (2, _), (3, _), (4, _), (5, _), (6, _)]) C dX9_routeAt_46 (by decide) rfl rfl rfl ?_
          exact L_routeAt hzs hst C G rfl F hN hj hx hg hw (N + 1) 0 i (by omega) (by omega) hi (aQ_of ((lawA_s e1).trans ((lawA_s e2).trans e7)))
        · exact zV.throwX _ C G dX9_routeAt_32 dX9_routeAt_35 dX9_routeAt_36 dX9_routeAt_38 dX9_routeAt_41 hz_nse lk_X9_99 in_java_util_NoSuchElementException hs_101 hp_nse zUW rfl (zVX.out C F (⟨(lawA_s e1).trans ((lawA_s e2).trans (if_pos (by first | exact Or.inl q23 | exact Or.inr (Int32.not_le.mp q29)))), rfl⟩) ⟨by decide, by decide⟩)
