/-! the law: a garden made -/
theorem grs_O {g : zGd} {s : Nat} : ∀ n, gO (grs g s n) = gO g
  | 0 => rfl
  | n + 1 => by
    rw [show grs g s (n + 1) = grz (grs g s n) n s from rfl]
    unfold grz
    rw [p_O_Z, p_O_S, p_O_C]
    exact grs_O n
theorem days_O {g : zGd} : ∀ n, gO (days g n) = gO g
  | 0 => rfl
  | n + 1 => by
    rw [show days g (n + 1) = dayO (days g n) from rfl]
    generalize hd : days g n = d
    unfold dayO col
    rw [p_O_D, p_O_F, p_O_C, grs_O, ← hd]
    exact days_O n
theorem ap_O {g : zGd} {d : Nat} {x y : Int32} (h : d = 112 ∨ d = 104 ∨ d = 99 ∨ d = 102 ∨ d = 100) : gO (ap g d x y).1 = gO g := by
  have hLL : ∀ f : Nat → Nat → zGd × Int32, (∀ i j, gO (f i j).1 = gO g) → gO (aLL g x y f).1 = gO g := by
    intro f hf
    unfold aLL
    split
    · rfl
    · split
      · rfl
      · exact hf _ _
  have hL : ∀ (z : Int32) (f : Nat → zGd × Int32), (∀ i, gO (f i).1 = gO g) → gO (aL g z f).1 = gO g := by
    intro z f hf
    unfold aL
    split
    · rfl
    · exact hf _
  have hK : ∀ f : Nat → zCh → zGd × Int32, (∀ k c, gO (f k c).1 = gO g) → gO (aK g x f).1 = gO g := by
    intro f hf
    unfold aK
    split
    · rfl
    · exact hf _ _
  rcases h with rfl | rfl | rfl | rfl | rfl
  · exact hLL _ (fun i j => (by show gO (pvN g i j) = _; unfold pvN; rw [p_O_N]))
  · exact hL _ _ (fun i => (by show gO (opSh g i _) = _; unfold opSh; rw [p_O_S]))
  · exact hL _ _ (fun i => (by show gO (opSt g i _) = _; unfold opSt; rw [p_O_X, p_O_C]))
  · exact hK _ (fun i c => (by show gO (opFo g i c true) = _; unfold opFo; rw [p_O_C]))
  · exact days_O _
theorem jd_112 {g : zGd} {i j : Nat} (hi : i < 6) (hj : j < 6) (hij : i ≠ j) : (jd g 112 (nI i) (nI j)).1 = 0 ∨ (jd g 112 (nI i) (nI j)).1 = 3 := by
  show (jPv g (nI i) (nI j)).1 = 0 ∨ (jPv g (nI i) (nI j)).1 = 3
  unfold jPv
  rw [ln_n i hi, ln_n j hj]
  dsimp only
  rw [if_neg hij]
  split
  · exact Or.inr rfl
  · exact Or.inl rfl
theorem jd_99 {g : zGd} {i r : Nat} (hi : i < 6) (hr : r < 10) : (jd g 99 (nI i) (nI r)).1 = 0 ∨ (jd g 99 (nI i) (nI r)).1 = 3 := by
  show (jCm g (nI i) (nI r)).1 = 0 ∨ (jCm g (nI i) (nI r)).1 = 3
  unfold jCm
  rw [ln_n i hi]
  dsimp only
  rw [if_neg (nI_pos (by omega)), if_pos (nI_le (show r ≤ 9 by omega) (by decide))]
  split
  · exact Or.inr rfl
  · split
    · exact Or.inr rfl
    · exact Or.inl rfl
theorem jd_104 {g : zGd} {i r : Nat} (hi : i < 6) (hr : r < 21) : (jd g 104 (nI i) (nI r)).1 = 0 := by
  show (jSh (nI i) (nI r)).1 = 0
  unfold jSh
  rw [ln_n i hi]
  dsimp only
  rw [if_neg (nI_pos (by omega)), if_pos (nI_le (show r ≤ 20 by omega) (by decide))]
theorem jd_100 {g : zGd} {n : Nat} (h1 : 1 ≤ n) (h2 : n ≤ 20) : (jd g 100 (nI n) 0).1 = 0 := by
  show (jDy (nI n)).1 = 0
  unfold jDy dyB
  rw [show decide (nI n < nI 1) = false from decide_eq_false (nI_nlt h1 (by omega)), show decide (nI n ≤ nI 20) = true from decide_eq_true (nI_le h2 (by decide))]
  rfl
theorem vne {k : Nat} (hk : k < 2 ^ 31) : nI k ≠ -1001 ∧ nI k ≠ -1002 := ⟨fun z => nI_pos hk (by rw [z]; decide), fun z => nI_pos hk (by rw [z]; decide)⟩
theorem anI_0 {g : zGd} {d : Nat} {x y : Int32} {cf : String → Int32} (h : (jd g d x y).1 = 0) : anI (chgA g d x y) cf = (ap g d x y).2 := by
  rw [show chgA g d x y = .inr (.int (ap g d x y).2) from if_pos h]; rfl
theorem anI_1 {g : zGd} {d : Nat} {x y : Int32} {cf : String → Int32} (h : (jd g d x y).1 = 1) : anI (chgA g d x y) cf = cf IOB := by
  unfold chgA
  rw [if_neg (by rw [h]; decide), if_pos h]; rfl
theorem anI_2 {g : zGd} {d : Nat} {x y : Int32} {cf : String → Int32} (h : (jd g d x y).1 = 2) : anI (chgA g d x y) cf = cf IAE := by
  unfold chgA
  rw [if_neg (by rw [h]; decide), if_neg (by rw [h]; decide), if_pos h]; rfl
theorem anI_3 {g : zGd} {d : Nat} {x y : Int32} {cf : String → Int32} (h : (jd g d x y).1 = 3) : anI (chgA g d x y) cf = cf UOE := by
  unfold chgA
  rw [if_neg (by rw [h]; decide), if_neg (by rw [h]; decide), if_neg (by rw [h]; decide)]; rfl
theorem chg_12 {m d : Nat} {g : zGd} {x y : Int32} (hd : isD d) (q : gR m g) (hb : m + 3000 ≤ big) (h : (jd g d x y).1 = 0 ∨ (jd g d x y).1 = 3) : anI (chgA g d x y) (fun Ex => if Ex = IOB then -1001 else if Ex = IAE then -1002 else -1003) ≠ -1001 ∧ anI (chgA g d x y) (fun Ex => if Ex = IOB then -1001 else if Ex = IAE then -1002 else -1003) ≠ -1002 := by
  rcases h with h | h
  · obtain ⟨k, hk, e⟩ := ap_n hd q hb h
    rw [anI_0 h, e]
    exact vne hk
  · rw [anI_3 h]
    exact ⟨by decide, by decide⟩
theorem chg_pos {m d : Nat} {g : zGd} {x y : Int32} {cf : String → Int32} (hd : isD d) (q : gR m g) (hb : m + 3000 ≤ big) (h : (jd g d x y).1 = 0) : ¬ anI (chgA g d x y) cf < 0 := by
  obtain ⟨k, hk, e⟩ := ap_n hd q hb h
  rw [anI_0 h, e]
  exact nI_pos hk
/-- a garden made by c changes, nothing in the input, no rejection by a command -/
def mkS (h0 h : zH) (a lo c : Nat) : Prop := zXf h0 h a lo ∧ ∃ g us off rs dt cs o, zXa h a lo g us none off rs dt cs [] o ∧ gR (600 * c) g ∧ gX g ≤ c ∧ gO g = 3 ∧ rs ≠ nI 11
theorem mkS_mono {h0 h : zH} {a lo c d : Nat} (S : mkS h0 h a lo c) (e : c ≤ d) : mkS h0 h a lo d := by
  obtain ⟨f, g, us, off, rs, dt, cs, o, q, hR, hX, hO, h11⟩ := S
  exact ⟨f, g, us, off, rs, dt, cs, o, q, gR_mono hR (by omega), by omega, hO, h11⟩
theorem mk_c {h0 h h' : zH} {a lo c d : Nat} {x y : Int32} {g : zGd} {us : List zGd} {off rs dt cs : Int32} {o : List Nat} (hd : isD d) (ho : d = 112 ∨ d = 104 ∨ d = 99 ∨ d = 102 ∨ d = 100) (f : zXf h0 h a lo) (hR : gR (600 * c) g) (hX : gX g ≤ c) (hO : gO g = 3) (h11 : rs ≠ nI 11) (p : chgP h a lo d x y g us none off rs dt cs [] o h') : mkS h0 h' a lo (c + 1) := by
  refine ⟨f.trans p.1, ?_⟩
  have p2 := p.2
  by_cases e : (jd g d x y).1 = 0
  · rw [if_pos e] at p2
    exact ⟨_, _, _, _, _, _, _, p2, gR_mono (ap_R hd hR e) (by omega), Nat.le_trans ap_X (by omega), (ap_O ho).trans hO, h11⟩
  · rw [if_neg e] at p2
    by_cases e3 : (jd g d x y).1 = 3
    · rw [if_pos e3] at p2
      have h9 := jd_r e3
      exact ⟨_, _, _, _, _, _, _, p2, gR_mono hR (by omega), by omega, hO, fun z => absurd (nI_ne (a := (jd g d x y).2.1) (b := 11) (by omega) (by decide) (by omega)) (fun w => w z)⟩
    · rw [if_neg e3] at p2
      exact ⟨_, _, _, _, _, _, _, p2, gR_mono hR (by omega), by omega, hO, h11⟩
theorem fold_1 {g : zGd} {x : Int32} {m : Nat} (q : gR m g) (hb : m + 3000 ≤ big) (h : anI (chgA g 102 x 0) (fun Ex => if Ex = IOB then -1001 else -1002) = -1001) : kc g x = none ∧ (jd g 102 x 0).1 = 1 := by
  rcases e : kc g x with _ | ⟨k, c⟩
  · refine ⟨rfl, ?_⟩
    show (jFo g x).1 = 1
    unfold jFo
    rw [e]
  · exfalso
    have h9 : (jd g 102 x 0).1 = 0 ∨ (jd g 102 x 0).1 = 3 := by
      show (jFo g x).1 = 0 ∨ (jFo g x).1 = 3
      unfold jFo
      rw [e]
      dsimp only
      split
      · exact Or.inr rfl
      · exact Or.inl rfl
    rcases h9 with h9 | h9
    · exact chg_pos isD_102 q hb h9 (by rw [h]; decide)
    · rw [anI_3 h9] at h
      exact absurd h (by decide)
theorem chgP_1 {h h' : zH} {a lo d : Nat} {x y : Int32} {g : zGd} {us : List zGd} {sn : Option zGd} {off rs dt cs : Int32} {t o : List Nat} (e : (jd g d x y).1 = 1 ∨ (jd g d x y).1 = 2) (p : chgP h a lo d x y g us sn off rs dt cs t o h') : zXf h h' a lo ∧ zXa h' a lo g us sn off rs dt cs t o := by
  refine ⟨p.1, ?_⟩
  have p2 := p.2
  rw [if_neg (by omega), if_neg (by omega)] at p2
  exact p2
theorem zafW {X : zX} {kc ks : Nat} {h2 : zH} {pc : Nat} {lo : List (Nat × Value)} {rest : List Value} {n : Nat} (k : ∀ w, zV X kc ks h2 pc lo (.int w :: rest)) : ∀ (r : Option Value) (h' : zH), ((∃ w, r = some (.int w)) ∧ h' = h2) → n ≤ hN h' → zV X kc ks h' pc lo (r.toList ++ rest) := fun r h' q _ => by
  obtain ⟨⟨w, rfl⟩, rfl⟩ := q
  exact k w
set_option maxHeartbeats 4000000 in
set_option maxRecDepth 100000 in
theorem L_mk1 {X : zX} {l : Launch} {E : zG} {rm : Room} (hzs : zS E) (hst : l.stackTraces = false) (C : zC X cL_makes RL 6) (G : zGX X l E rm) {sq L : Nat} {xs : Nat → Int32} (T : zSc E sq L xs) (hL : L ≤ 260) {h0 : zH} {a lo : Nat} {K KS : Nat} (hr : rm = ({ frames := 9, cells := 40, slots := 240, locals := 254 } : Room)) (hK : K ≤ 40) (hKS : KS ≤ 240) : ∀ n k c (h : zH) kc ks, k + n = 6 → c + n ≤ 100 → kc + n ≤ K → ks + 6 * n ≤ KS → mkS h0 h a lo c → (∀ h', mkS h0 h' a lo (c + n) → zV X K KS h' 69 [(0, .ref a), (1, .retAddr sq)] []) → zV X kc ks h 2 [(0, .ref a), (1, .retAddr sq), (2, .int (nI k))] [] := by
  subst hr
  intro n
  induction n with
  | zero =>
    intro k c h kc ks hk hc h1 h2 S kk
    obtain rfl : k = 6 := by omega
    refine zV.iload_n C dL_makes_2 rfl ?_
    refine zV.bi (v := nI 6) C dL_makes_3 (by decide) ?_
    refine zV.icmp_ge (tgt := 69) C dL_makes_5 (by decide) (fun q5 => ?_) (fun q5 => ?_)
    · exact zV.up (by omega) (by omega) (zV.sub [0, 1] rfl (kk h S))
    · exact absurd (nI_le (Nat.le_refl 6) (by decide)) q5
  | succ n ih =>
    intro k c h kc ks hk hc h1 h2 S kk
    obtain ⟨f, g, us, off, rs, dt, cs, o, q, hR, hX, hO, h11⟩ := S
    have hb := (show 600 * c + 3000 ≤ 1000000000 by omega)
    have hb : 600 * c + 3000 ≤ big := hb
    have hw : gW g := gW_of hR.1.1 hR.1.2.2.2 (Nat.le_trans (Nat.le_add_right _ _) hb)
    refine zV.iload_n C dL_makes_2 rfl ?_
    refine zV.bi (v := nI 6) C dL_makes_3 (by decide) ?_
    refine zV.icmp_ge (tgt := 69) C dL_makes_5 (by decide) (fun q5 => ?_) (fun q5 => ?_)
    · exact absurd (nle (by omega) (by omega) q5) (by omega)
    · refine zV.aload_n C dL_makes_8 rfl rfl ?_
      refine zV.iload_n C dL_makes_9 rfl ?_
      refine zV.callS (n := 2) C G dL_makes_10 (s_at hzs hst _ sq L _ xs T hL (by omega)) rfl ⟨cd_L_at, lk_L_201, st_L_at, in_L⟩ ⟨⟨by decide, by decide⟩, by decide⟩ rfl (zRm_v 40 240 rfl rfl rfl (by omega) (by omega)) rfl (zafW (fun w => ?_)) (zno)
      refine zV.istore_n (lo' := [(0, _), (1, _), (2, _), (3, _)]) C dL_makes_13 (by decide) rfl rfl rfl ?_
      refine zV.iload_n C dL_makes_14 rfl ?_
      refine zV.bi (v := nI 6) C dL_makes_15 (by decide) ?_
      refine zV.callS (n := 2) C G dL_makes_17 (s_some hzs hst _ _ _ (by decide) (by decide)) rfl ⟨cd_L_some, lk_L_205, st_L_some, in_L⟩ ⟨⟨by decide, by decide⟩, by decide⟩ rfl (zRm_v 40 240 rfl rfl rfl (by omega) (by omega)) rfl (zafS (fun j hj => ?_)) (zno)
      refine zV.istore (lo' := [(0, _), (1, _), (2, _), (3, _), (4, _)]) C dL_makes_20 (by decide) rfl rfl rfl ?_
      refine zV.aload_n C dL_makes_22 rfl rfl ?_
      refine zV.iload C dL_makes_23 rfl ?_
      refine zV.iload C dL_makes_25 rfl ?_
      refine zV.ic (v := nI 1) C dL_makes_27 (by decide) ?_
      refine zV.iadd C dL_makes_28 ?_
      refine zV.iload_n C dL_makes_29 rfl ?_
      refine zV.ic (v := nI 3) C dL_makes_30 (by decide) ?_
      refine zV.ishr C dL_makes_31 ?_
      refine zV.ic (v := nI 5) C dL_makes_32 (by decide) ?_
      refine zV.callS (n := 2) C G dL_makes_33 (s_some hzs hst _ _ _ (by decide) (by decide)) rfl ⟨cd_L_some, lk_L_205, st_L_some, in_L⟩ ⟨⟨by decide, by decide⟩, by decide⟩ rfl (zRm_v 40 240 rfl rfl rfl (by omega) (by omega)) rfl (zafS (fun i hi => ?_)) (zno)
      refine zV.iadd C dL_makes_36 ?_
      refine zV.bi (v := nI 6) C dL_makes_37 (by decide) ?_
      refine zV.irem C dL_makes_39 (by decide) ?_
      rw [show nI j + nI 1 = nI (j + 1) from nI_add j 1, show nI (j + 1) + nI i = nI (j + 1 + i) from nI_add _ _, pk_rem (a := j + 1 + i) (d := 6) (by omega) (by decide) (by decide)]
      refine zV.callSW (n := 3) C G dL_makes_40 (w_addPath hzs hst q hR hb _ _) rfl ⟨cd_L_addPath, lk_L_208, st_L_addPath, in_L⟩ ⟨⟨by decide, by decide⟩, by decide⟩ rfl (zRm_v 40 240 rfl rfl rfl (by omega) (by omega)) rfl (zafC (fun h9 p9 => ?_)) (zno)
      have S9 := mk_c isD_112 (by decide) f hR hX hO h11 p9
      have v9 := chg_12 isD_112 hR hb (jd_112 (g := g) hj (Nat.mod_lt (j + 1 + i) (by decide)) (by omega))
      refine zV.istore (lo' := [(0, _), (1, _), (2, _), (3, _), (4, _), (5, _)]) C dL_makes_43 (by decide) rfl rfl rfl ?_
      refine zV.iload C dL_makes_45 rfl ?_
      refine zV.si (v := (-1001)) C dL_makes_47 (by decide) ?_
      refine zV.icmp_eq (tgt := 61) C dL_makes_50 (by decide) (fun q50 => ?_) (fun q50 => ?_)
      · exact absurd q50 v9.1
      · refine zV.iload C dL_makes_53 rfl ?_
        refine zV.si (v := (-1002)) C dL_makes_55 (by decide) ?_
        refine zV.icmp_ne (tgt := 63) C dL_makes_58 (by decide) (fun q58 => ?_) (fun q58 => ?_)
        · refine zV.iinc (lo' := [(0, _), (1, _), (2, _), (3, _), (4, _), (5, _)]) C dL_makes_63 rfl (by decide) rfl rfl rfl ?_
          refine zV.goto (tgt := 2) C dL_makes_66 (by decide) ?_
          rw [show nI k + Int32.ofInt 1 = nI (k + 1) from nI_add k 1]
          exact zV.sub [0, 1, 2] rfl (ih (k + 1) (c + 1) h9 _ _ (by omega) (by omega) (by omega) (by omega) S9 (fun h' s' => kk h' (mkS_mono s' (by omega))))
        · exact absurd q58 v9.2
set_option maxHeartbeats 4000000 in
set_option maxRecDepth 100000 in
theorem L_mk2 {X : zX} {l : Launch} {E : zG} {rm : Room} (hzs : zS E) (hst : l.stackTraces = false) (C : zC X cL_makes RL 6) (G : zGX X l E rm) {sq L : Nat} {xs : Nat → Int32} (T : zSc E sq L xs) (hL : L ≤ 260) {h0 : zH} {a lo : Nat} {K KS : Nat} (hr : rm = ({ frames := 9, cells := 40, slots := 240, locals := 254 } : Room)) (hK : K ≤ 40) (hKS : KS ≤ 240) : ∀ n k c (h : zH) kc ks, k + n = 6 → c + n ≤ 100 → kc + n ≤ K → ks + 6 * n ≤ KS → mkS h0 h a lo c → (∀ h', mkS h0 h' a lo (c + n) → zV X K KS h' 106 [(0, .ref a), (1, .retAddr sq)] []) → zV X kc ks h 71 [(0, .ref a), (1, .retAddr sq), (2, .int (nI k))] [] := by
  subst hr
  intro n
  induction n with
  | zero =>
    intro k c h kc ks hk hc h1 h2 S kk
    obtain rfl : k = 6 := by omega
    refine zV.iload_n C dL_makes_71 rfl ?_
    refine zV.bi (v := nI 6) C dL_makes_72 (by decide) ?_
    refine zV.icmp_ge (tgt := 106) C dL_makes_74 (by decide) (fun q74 => ?_) (fun q74 => ?_)
    · exact zV.up (by omega) (by omega) (zV.sub [0, 1] rfl (kk h S))
    · exact absurd (nI_le (Nat.le_refl 6) (by decide)) q74
  | succ n ih =>
    intro k c h kc ks hk hc h1 h2 S kk
    obtain ⟨f, g, us, off, rs, dt, cs, o, q, hR, hX, hO, h11⟩ := S
    have hb := (show 600 * c + 3000 ≤ 1000000000 by omega)
    have hb : 600 * c + 3000 ≤ big := hb
    have hw : gW g := gW_of hR.1.1 hR.1.2.2.2 (Nat.le_trans (Nat.le_add_right _ _) hb)
    refine zV.iload_n C dL_makes_71 rfl ?_
    refine zV.bi (v := nI 6) C dL_makes_72 (by decide) ?_
    refine zV.icmp_ge (tgt := 106) C dL_makes_74 (by decide) (fun q74 => ?_) (fun q74 => ?_)
    · exact absurd (nle (by omega) (by omega) q74) (by omega)
    · refine zV.aload_n C dL_makes_77 rfl rfl ?_
      refine zV.iload_n C dL_makes_78 rfl ?_
      refine zV.aload_n C dL_makes_79 rfl rfl ?_
      refine zV.bi (v := nI 6) C dL_makes_80 (by decide) ?_
      refine zV.iload_n C dL_makes_82 rfl ?_
      refine zV.iadd C dL_makes_83 ?_
      rw [show nI 6 + nI k = nI (6 + k) from nI_add 6 k]
      refine zV.callS (n := 2) C G dL_makes_84 (s_at hzs hst _ sq L _ xs T hL (by omega)) rfl ⟨cd_L_at, lk_L_201, st_L_at, in_L⟩ ⟨⟨by decide, by decide⟩, by decide⟩ rfl (zRm_v 40 240 rfl rfl rfl (by omega) (by omega)) rfl (zafW (fun w => ?_)) (zno)
      refine zV.bi (v := nI 21) C dL_makes_87 (by decide) ?_
      refine zV.callS (n := 2) C G dL_makes_89 (s_some hzs hst _ _ _ (by decide) (by decide)) rfl ⟨cd_L_some, lk_L_205, st_L_some, in_L⟩ ⟨⟨by decide, by decide⟩, by decide⟩ rfl (zRm_v 40 240 rfl rfl rfl (by omega) (by omega)) rfl (zafS (fun j hj => ?_)) (zno)
      refine zV.callSW (n := 3) C G dL_makes_92 (w_setShade hzs hst q hR hb _ _) rfl ⟨cd_L_setShade, lk_L_211, st_L_setShade, in_L⟩ ⟨⟨by decide, by decide⟩, by decide⟩ rfl (zRm_v 40 240 rfl rfl rfl (by omega) (by omega)) rfl (zafC (fun h9 p9 => ?_)) (zno)
      have S9 := mk_c isD_104 (by decide) f hR hX hO h11 p9
      have v9 := chg_pos (cf := (fun Ex => if Ex = IOB then -1001 else -1002)) isD_104 hR hb (jd_104 (g := g) (show k < 6 by omega) hj)
      refine zV.if_ge (tgt := 100) C dL_makes_95 (by decide) (fun q95 => ?_) (fun q95 => ?_)
      · refine zV.iinc (lo' := [(0, _), (1, _), (2, _)]) C dL_makes_100 rfl (by decide) rfl rfl rfl ?_
        refine zV.goto (tgt := 71) C dL_makes_103 (by decide) ?_
        rw [show nI k + Int32.ofInt 1 = nI (k + 1) from nI_add k 1]
        exact zV.sub [0, 1, 2] rfl (ih (k + 1) (c + 1) h9 _ _ (by omega) (by omega) (by omega) (by omega) S9 (fun h' s' => kk h' (mkS_mono s' (by omega))))
      · exact absurd (Int32.not_lt.mp v9) q95
set_option maxHeartbeats 4000000 in
set_option maxRecDepth 100000 in
theorem L_mk3 {X : zX} {l : Launch} {E : zG} {rm : Room} (hzs : zS E) (hst : l.stackTraces = false) (C : zC X cL_makes RL 6) (G : zGX X l E rm) {sq L : Nat} {xs : Nat → Int32} (T : zSc E sq L xs) (hL : L ≤ 260) {h0 : zH} {a lo : Nat} {K KS : Nat} (hr : rm = ({ frames := 9, cells := 40, slots := 240, locals := 254 } : Room)) (hK : K ≤ 40) (hKS : KS ≤ 240) : ∀ n k c (h : zH) kc ks, k + n = 11 → c + n ≤ 100 → kc + n ≤ K → ks + 6 * n ≤ KS → mkS h0 h a lo c → (∀ h', mkS h0 h' a lo (c + n) → zV X K KS h' 169 [(0, .ref a), (1, .retAddr sq)] []) → zV X kc ks h 108 [(0, .ref a), (1, .retAddr sq), (2, .int (nI k))] [] := by
  subst hr
  intro n
  induction n with
  | zero =>
    intro k c h kc ks hk hc h1 h2 S kk
    obtain rfl : k = 11 := by omega
    refine zV.iload_n C dL_makes_108 rfl ?_
    refine zV.bi (v := nI 11) C dL_makes_109 (by decide) ?_
    refine zV.icmp_ge (tgt := 169) C dL_makes_111 (by decide) (fun q111 => ?_) (fun q111 => ?_)
    · exact zV.up (by omega) (by omega) (zV.sub [0, 1] rfl (kk h S))
    · exact absurd (nI_le (Nat.le_refl 11) (by decide)) q111
  | succ n ih =>
    intro k c h kc ks hk hc h1 h2 S kk
    obtain ⟨f, g, us, off, rs, dt, cs, o, q, hR, hX, hO, h11⟩ := S
    have hb := (show 600 * c + 3000 ≤ 1000000000 by omega)
    have hb : 600 * c + 3000 ≤ big := hb
    have hw : gW g := gW_of hR.1.1 hR.1.2.2.2 (Nat.le_trans (Nat.le_add_right _ _) hb)
    refine zV.iload_n C dL_makes_108 rfl ?_
    refine zV.bi (v := nI 11) C dL_makes_109 (by decide) ?_
    refine zV.icmp_ge (tgt := 169) C dL_makes_111 (by decide) (fun q111 => ?_) (fun q111 => ?_)
    · exact absurd (nle (by omega) (by omega) q111) (by omega)
    · refine zV.aload_n C dL_makes_114 rfl rfl ?_
      refine zV.aload_n C dL_makes_115 rfl rfl ?_
      refine zV.bi (v := nI 12) C dL_makes_116 (by decide) ?_
      refine zV.iload_n C dL_makes_118 rfl ?_
      refine zV.iadd C dL_makes_119 ?_
      rw [show nI 12 + nI k = nI (12 + k) from nI_add 12 k]
      refine zV.callS (n := 2) C G dL_makes_120 (s_at hzs hst _ sq L _ xs T hL (by omega)) rfl ⟨cd_L_at, lk_L_201, st_L_at, in_L⟩ ⟨⟨by decide, by decide⟩, by decide⟩ rfl (zRm_v 40 240 rfl rfl rfl (by omega) (by omega)) rfl (zafW (fun w => ?_)) (zno)
      refine zV.bi (v := nI 6) C dL_makes_123 (by decide) ?_
      refine zV.callS (n := 2) C G dL_makes_125 (s_some hzs hst _ _ _ (by decide) (by decide)) rfl ⟨cd_L_some, lk_L_205, st_L_some, in_L⟩ ⟨⟨by decide, by decide⟩, by decide⟩ rfl (zRm_v 40 240 rfl rfl rfl (by omega) (by omega)) rfl (zafS (fun j hj => ?_)) (zno)
      refine zV.aload_n C dL_makes_128 rfl rfl ?_
      refine zV.bi (v := nI 12) C dL_makes_129 (by decide) ?_
      refine zV.iload_n C dL_makes_131 rfl ?_
      refine zV.iadd C dL_makes_132 ?_
      rw [show nI 12 + nI k = nI (12 + k) from nI_add 12 k]
      refine zV.callS (n := 2) C G dL_makes_133 (s_at hzs hst _ sq L _ xs T hL (by omega)) rfl ⟨cd_L_at, lk_L_201, st_L_at, in_L⟩ ⟨⟨by decide, by decide⟩, by decide⟩ rfl (zRm_v 40 240 rfl rfl rfl (by omega) (by omega)) rfl (zafW (fun w => ?_)) (zno)
      refine zV.ic (v := nI 4) C dL_makes_136 (by decide) ?_
      refine zV.ishr C dL_makes_137 ?_
      refine zV.bi (v := nI 10) C dL_makes_138 (by decide) ?_
      refine zV.callS (n := 2) C G dL_makes_140 (s_some hzs hst _ _ _ (by decide) (by decide)) rfl ⟨cd_L_some, lk_L_205, st_L_some, in_L⟩ ⟨⟨by decide, by decide⟩, by decide⟩ rfl (zRm_v 40 240 rfl rfl rfl (by omega) (by omega)) rfl (zafS (fun i hi => ?_)) (zno)
      refine zV.callSW (n := 3) C G dL_makes_143 (w_addChair hzs hst q hR hb _ _) rfl ⟨cd_L_addChair, lk_L_213, st_L_addChair, in_L⟩ ⟨⟨by decide, by decide⟩, by decide⟩ rfl (zRm_v 40 240 rfl rfl rfl (by omega) (by omega)) rfl (zafC (fun h9 p9 => ?_)) (zno)
      have S9 := mk_c isD_99 (by decide) f hR hX hO h11 p9
      have v9 := chg_12 isD_99 hR hb (jd_99 (g := g) hj hi)
      refine zV.istore_n (lo' := [(0, _), (1, _), (2, _), (3, _)]) C dL_makes_146 (by decide) rfl rfl rfl ?_
      refine zV.iload_n C dL_makes_147 rfl ?_
      refine zV.si (v := (-1001)) C dL_makes_148 (by decide) ?_
      refine zV.icmp_eq (tgt := 161) C dL_makes_151 (by decide) (fun q151 => ?_) (fun q151 => ?_)
      · exact absurd q151 v9.1
      · refine zV.iload_n C dL_makes_154 rfl ?_
        refine zV.si (v := (-1002)) C dL_makes_155 (by decide) ?_
        refine zV.icmp_ne (tgt := 163) C dL_makes_158 (by decide) (fun q158 => ?_) (fun q158 => ?_)
        · refine zV.iinc (lo' := [(0, _), (1, _), (2, _), (3, _)]) C dL_makes_163 rfl (by decide) rfl rfl rfl ?_
          refine zV.goto (tgt := 108) C dL_makes_166 (by decide) ?_
          rw [show nI k + Int32.ofInt 1 = nI (k + 1) from nI_add k 1]
          exact zV.sub [0, 1, 2] rfl (ih (k + 1) (c + 1) h9 _ _ (by omega) (by omega) (by omega) (by omega) S9 (fun h' s' => kk h' (mkS_mono s' (by omega))))
        · exact absurd q158 v9.2
set_option maxHeartbeats 4000000 in
set_option maxRecDepth 100000 in
theorem L_mk4 {X : zX} {l : Launch} {E : zG} {rm : Room} (hzs : zS E) (hst : l.stackTraces = false) (C : zC X cL_makes RL 6) (G : zGX X l E rm) {sq L : Nat} {xs : Nat → Int32} (T : zSc E sq L xs) (hL : L ≤ 260) {h0 : zH} {a lo : Nat} {K KS : Nat} (hr : rm = ({ frames := 9, cells := 40, slots := 240, locals := 254 } : Room)) (hK : K ≤ 40) (hKS : KS ≤ 240) : ∀ n k c (h : zH) kc ks, k + n = 3 → c + n ≤ 100 → kc + n ≤ K → ks + 6 * n ≤ KS → mkS h0 h a lo c → (∀ h', mkS h0 h' a lo (c + n) → zV X K KS h' 221 [(0, .ref a), (1, .retAddr sq)] []) → zV X kc ks h 171 [(0, .ref a), (1, .retAddr sq), (2, .int (nI k))] [] := by
  subst hr
  intro n
  induction n with
  | zero =>
    intro k c h kc ks hk hc h1 h2 S kk
    obtain rfl : k = 3 := by omega
    refine zV.iload_n C dL_makes_171 rfl ?_
    refine zV.ic (v := nI 3) C dL_makes_172 (by decide) ?_
    refine zV.icmp_ge (tgt := 221) C dL_makes_173 (by decide) (fun q173 => ?_) (fun q173 => ?_)
    · exact zV.up (by omega) (by omega) (zV.sub [0, 1] rfl (kk h S))
    · exact absurd (nI_le (Nat.le_refl 3) (by decide)) q173
  | succ n ih =>
    intro k c h kc ks hk hc h1 h2 S kk
    obtain ⟨f, g, us, off, rs, dt, cs, o, q, hR, hX, hO, h11⟩ := S
    have hb := (show 600 * c + 3000 ≤ 1000000000 by omega)
    have hb : 600 * c + 3000 ≤ big := hb
    have hw : gW g := gW_of hR.1.1 hR.1.2.2.2 (Nat.le_trans (Nat.le_add_right _ _) hb)
    refine zV.iload_n C dL_makes_171 rfl ?_
    refine zV.ic (v := nI 3) C dL_makes_172 (by decide) ?_
    refine zV.icmp_ge (tgt := 221) C dL_makes_173 (by decide) (fun q173 => ?_) (fun q173 => ?_)
    · exact absurd (nle (by omega) (by omega) q173) (by omega)
    · refine zV.aload_n C dL_makes_176 rfl rfl ?_
      refine zV.bi (v := nI 23) C dL_makes_177 (by decide) ?_
      refine zV.iload_n C dL_makes_179 rfl ?_
      refine zV.iadd C dL_makes_180 ?_
      rw [show nI 23 + nI k = nI (23 + k) from nI_add 23 k]
      refine zV.callS (n := 2) C G dL_makes_181 (s_at hzs hst _ sq L _ xs T hL (by omega)) rfl ⟨cd_L_at, lk_L_201, st_L_at, in_L⟩ ⟨⟨by decide, by decide⟩, by decide⟩ rfl (zRm_v 40 240 rfl rfl rfl (by omega) (by omega)) rfl (zafW (fun w => ?_)) (zno)
      refine zV.bi (v := nI 8) C dL_makes_184 (by decide) ?_
      refine zV.callS (n := 2) C G dL_makes_186 (s_some hzs hst _ _ _ (by decide) (by decide)) rfl ⟨cd_L_some, lk_L_205, st_L_some, in_L⟩ ⟨⟨by decide, by decide⟩, by decide⟩ rfl (zRm_v 40 240 rfl rfl rfl (by omega) (by omega)) rfl (zafS (fun j hj => ?_)) (zno)
      refine zV.istore_n (lo' := [(0, _), (1, _), (2, _), (3, _)]) C dL_makes_189 (by decide) rfl rfl rfl ?_
      refine zV.aload_n C dL_makes_190 rfl rfl ?_
      refine zV.iload_n C dL_makes_191 rfl ?_
      refine zV.callSW (n := 2) C G dL_makes_192 (w_fold hzs hst q hR hb _) rfl ⟨cd_L_fold, lk_L_215, st_L_fold, in_L⟩ ⟨⟨by decide, by decide⟩, by decide⟩ rfl (zRm_v 40 240 rfl rfl rfl (by omega) (by omega)) rfl (zafC (fun h9 p9 => ?_)) (zno)
      have S9 := mk_c isD_102 (by decide) f hR hX hO h11 p9
      refine zV.istore (lo' := [(0, _), (1, _), (2, _), (3, _), (4, _)]) C dL_makes_195 (by decide) rfl rfl rfl ?_
      refine zV.iload C dL_makes_197 rfl ?_
      refine zV.si (v := (-1001)) C dL_makes_199 (by decide) ?_
      refine zV.icmp_ne (tgt := 215) C dL_makes_202 (by decide) (fun q202 => ?_) (fun q202 => ?_)
      · refine zV.iinc (lo' := [(0, _), (1, _), (2, _), (3, _), (4, _)]) C dL_makes_215 rfl (by decide) rfl rfl rfl ?_
        refine zV.goto (tgt := 171) C dL_makes_218 (by decide) ?_
        rw [show nI k + Int32.ofInt 1 = nI (k + 1) from nI_add k 1]
        exact zV.sub [0, 1, 2] rfl (ih (k + 1) (c + 1) h9 _ _ (by omega) (by omega) (by omega) (by omega) S9 (fun h' s' => kk h' (mkS_mono s' (by omega))))
      · obtain ⟨k9, j9⟩ := fold_1 hR hb q202
        obtain ⟨f9, q9⟩ := chgP_1 (Or.inl j9) p9
        refine zV.aload_n C dL_makes_205 rfl rfl ?_
        refine zV.iload_n C dL_makes_206 rfl ?_
        refine zV.callV (n := 1) C G dL_makes_207 (s_exists hzs hst h9 a g _ q9.1 q9.2.1.1 hw) rfl ⟨cd_X9_exists, lk_L_217, im_X9_exists, se_X9_X9_exists, in_X9⟩ ⟨⟨by decide, by decide⟩, by decide⟩ rfl (zRm_v 40 240 rfl rfl rfl (by omega) (by omega)) rfl q9.1.1 ⟨rfl, by decide⟩ (zaf ?_) (zno)
        refine zV.if_eq (tgt := 215) C dL_makes_210 (by decide) (fun q210 => ?_) (fun q210 => ?_)
        · refine zV.iinc (lo' := [(0, _), (1, _), (2, _), (3, _), (4, _)]) C dL_makes_215 rfl (by decide) rfl rfl rfl ?_
          refine zV.goto (tgt := 171) C dL_makes_218 (by decide) ?_
          rw [show nI k + Int32.ofInt 1 = nI (k + 1) from nI_add k 1]
          exact zV.sub [0, 1, 2] rfl (ih (k + 1) (c + 1) h9 _ _ (by omega) (by omega) (by omega) (by omega) S9 (fun h' s' => kk h' (mkS_mono s' (by omega))))
        · exact absurd (by rw [k9]; rfl) q210
set_option maxHeartbeats 4000000 in
set_option maxRecDepth 100000 in
theorem s_makes {l : Launch} {E : zG} (hzs : zS E) (hst : l.stackTraces = false) (h : zH) (a lo : Nat) (sq L : Nat) (xs : Nat → Int32) (T : zSc E sq L xs) (hL : L ≤ 260) (S : mkS h h a lo 0) : zMet l E yL_makes cL_makes 6 (some .boolean) ({ frames := 9, cells := 40, slots := 240, locals := 254 } : Room) 40 240 [.ref a, .retAddr sq] h (fun r h' => r = some (.int 1) ∧ mkS h h' a lo 27) (fun _ _ => False) := by
  refine zM_start hzs hst (by decide) (Nat.le_of_ble_eq_true rfl) (fun X C G F I => ?_)
  show zV X 0 0 _ 0 [(0, _), (1, _)] []
  refine zV.ic (v := nI 0) C dL_makes_0 (by decide) ?_
  refine zV.istore_n (lo' := [(0, _), (1, _), (2, _)]) C dL_makes_1 (by decide) rfl rfl rfl ?_
  refine L_mk1 hzs hst C G T hL rfl (K := 6) (KS := 36) (by decide) (by decide) 6 0 0 h _ _ rfl (by decide) (by decide) (by decide) S (fun h1 S1 => ?_)
  refine zV.ic (v := nI 0) C dL_makes_69 (by decide) ?_
  refine zV.istore_n (lo' := [(0, _), (1, _), (2, _)]) C dL_makes_70 (by decide) rfl rfl rfl ?_
  refine L_mk2 hzs hst C G T hL rfl (K := 12) (KS := 72) (by decide) (by decide) 6 0 6 h1 _ _ rfl (by decide) (by decide) (by decide) S1 (fun h2 S2 => ?_)
  refine zV.ic (v := nI 0) C dL_makes_106 (by decide) ?_
  refine zV.istore_n (lo' := [(0, _), (1, _), (2, _)]) C dL_makes_107 (by decide) rfl rfl rfl ?_
  refine L_mk3 hzs hst C G T hL rfl (K := 23) (KS := 138) (by decide) (by decide) 11 0 12 h2 _ _ rfl (by decide) (by decide) (by decide) S2 (fun h3 S3 => ?_)
  refine zV.ic (v := nI 0) C dL_makes_169 (by decide) ?_
  refine zV.istore_n (lo' := [(0, _), (1, _), (2, _)]) C dL_makes_170 (by decide) rfl rfl rfl ?_
  refine L_mk4 hzs hst C G T hL rfl (K := 26) (KS := 156) (by decide) (by decide) 3 0 23 h3 _ _ rfl (by decide) (by decide) (by decide) S3 (fun h4 S4 => ?_)
  refine zV.aload_n C dL_makes_221 rfl rfl ?_
  refine zV.bi (v := nI 26) C dL_makes_222 (by decide) ?_
  refine zV.callS (n := 2) C G dL_makes_224 (s_at hzs hst _ sq L _ xs T hL (by omega)) rfl ⟨cd_L_at, lk_L_201, st_L_at, in_L⟩ ⟨⟨by decide, by decide⟩, by decide⟩ rfl rfl rfl (zafW (fun w => ?_)) (zno)
  refine zV.ic (v := nI 1) C dL_makes_227 (by decide) ?_
  refine zV.iand C dL_makes_228 ?_
  refine zV.if_eq (tgt := 254) C dL_makes_229 (by decide) (fun q229 => ?_) (fun q229 => ?_)
  · refine zV.ic (v := nI 1) C dL_makes_254 (by decide) ?_
    refine zV.goto (tgt := 259) C dL_makes_255 (by decide) ?_
    refine zV.zret C F dL_makes_259 rfl rfl ?_
    first | exact ⟨rfl, S9⟩ | exact ⟨rfl, mkS_mono S4 (by decide)⟩
  · refine zV.aload_n C dL_makes_232 rfl rfl ?_
    refine zV.ic (v := nI 1) C dL_makes_233 (by decide) ?_
    refine zV.aload_n C dL_makes_234 rfl rfl ?_
    refine zV.bi (v := nI 26) C dL_makes_235 (by decide) ?_
    refine zV.callS (n := 2) C G dL_makes_237 (s_at hzs hst _ sq L _ xs T hL (by omega)) rfl ⟨cd_L_at, lk_L_201, st_L_at, in_L⟩ ⟨⟨by decide, by decide⟩, by decide⟩ rfl rfl rfl (zafW (fun w => ?_)) (zno)
    refine zV.ic (v := nI 2) C dL_makes_240 (by decide) ?_
    refine zV.ishr C dL_makes_241 ?_
    refine zV.bi (v := nI 9) C dL_makes_242 (by decide) ?_
    refine zV.callS (n := 2) C G dL_makes_244 (s_some hzs hst _ _ _ (by decide) (by decide)) rfl ⟨cd_L_some, lk_L_205, st_L_some, in_L⟩ ⟨⟨by decide, by decide⟩, by decide⟩ rfl rfl rfl (zafS (fun j hj => ?_)) (zno)
    refine zV.iadd C dL_makes_247 ?_
    rw [show nI 1 + nI j = nI (1 + j) from nI_add 1 j]
    obtain ⟨f, g, us, off, rs, dt, cs, o, q, hR, hX, hO, h11⟩ := S4
    refine zV.callSW (n := 2) C G dL_makes_248 (w_passDays hzs hst q hR (show 600 * 26 + 3000 ≤ 1000000000 by decide) _) rfl ⟨cd_L_passDays, lk_L_220, st_L_passDays, in_L⟩ ⟨⟨by decide, by decide⟩, by decide⟩ rfl rfl rfl (zafC (fun h9 p9 => ?_)) (zno)
    have S9 := mk_c isD_100 (by decide) f hR hX hO h11 p9
    have v9 := chg_pos (cf := (fun _ => -1001)) isD_100 hR (show 600 * 26 + 3000 ≤ 1000000000 by decide) (jd_100 (g := g) (n := 1 + j) (by omega) (by omega))
    refine zV.if_lt (tgt := 258) C dL_makes_251 (by decide) (fun q251 => ?_) (fun q251 => ?_)
    · exact absurd q251 v9
    · refine zV.ic (v := nI 1) C dL_makes_254 (by decide) ?_
      refine zV.goto (tgt := 259) C dL_makes_255 (by decide) ?_
      refine zV.zret C F dL_makes_259 rfl rfl ?_
      first | exact ⟨rfl, S9⟩ | exact ⟨rfl, mkS_mono S4 (by decide)⟩
