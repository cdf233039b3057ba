/-! what is known of the answers -/
theorem ch_inj {cs : List zCh} (nd : (cs.map chI).Nodup) {c d : zCh} (h1 : d ∈ cs) (h2 : c ∈ cs) (e : chI d = chI c) : d = c := by
  induction cs with
  | nil => cases h1
  | cons a t ih =>
    rw [List.map_cons, List.nodup_cons] at nd
    rcases List.mem_cons.mp h1 with e1 | h3
    · rcases List.mem_cons.mp h2 with e2 | h4
      · rw [e1, e2]
      · exact absurd (List.mem_map.mpr ⟨c, h4, e.symm.trans (congrArg chI e1)⟩) nd.1
    · rcases List.mem_cons.mp h2 with e2 | h4
      · exact absurd (List.mem_map.mpr ⟨d, h3, e.trans (congrArg chI e2)⟩) nd.1
      · exact ih nd.2 h3 h4
theorem chA_t {a b c : zCh} (h1 : chA a b = true) (h2 : chA b c = true) : chA a c = true := by
  unfold chA at *
  simp only [Bool.or_eq_true, Bool.and_eq_true, decide_eq_true_eq] at *
  omega
theorem chA_i {a : zCh} : chA a a = false := by unfold chA; simp
theorem chA_o {a b : zCh} (h : chI a ≠ chI b) : chA a b = true ∨ chA b a = true := by
  unfold chA
  simp only [Bool.or_eq_true, Bool.and_eq_true, decide_eq_true_eq]
  omega
theorem cnt_lt {p q : zCh → Bool} {l : List zCh} {c : zCh} (hpq : ∀ d, p d = true → q d = true) (hc : c ∈ l) (h1 : ¬ p c = true) (h2 : q c = true) : l.countP p < l.countP q := by
  induction l with
  | nil => cases hc
  | cons d t ih =>
    rw [List.countP_cons, List.countP_cons]
    have hm : t.countP p ≤ t.countP q := List.countP_mono_left (fun x _ => hpq x)
    rcases List.mem_cons.mp hc with rfl | hc
    · rw [if_neg h1, if_pos h2]; omega
    · have := ih hc
      by_cases z : p d = true
      · rw [if_pos z, if_pos (hpq d z)]; omega
      · rw [if_neg z]; omega
theorem rk_inj {l : List zCh} {c d : zCh} (hc : c ∈ l) (hd : d ∈ l) (e : l.countP (fun z => chA z c) = l.countP (fun z => chA z d)) : chI c = chI d := by
  by_cases h : chI c = chI d
  · exact h
  · rcases chA_o h with z | z
    · have := cnt_lt (p := fun x => chA x c) (q := fun x => chA x d) (fun x hx => chA_t hx z) hc (by show ¬ chA c c = true; rw [chA_i]; decide) z
      omega
    · have := cnt_lt (p := fun x => chA x d) (q := fun x => chA x c) (fun x hx => chA_t hx z) hd (by show ¬ chA d d = true; rw [chA_i]; decide) z
      omega
theorem rkI_n {cs : List zCh} {x : Int32} : ∀ {ds : List zCh}, (∀ c ∈ ds, nI (cs.countP (fun d => chA d c)) ≠ x) → rkI cs x ds = -1
  | [], _ => rfl
  | c :: t, h => by rw [rkI, if_neg (h c List.mem_cons_self)]; exact rkI_n (fun d hd => h d (List.mem_cons_of_mem _ hd))
theorem rkI_s {cs : List zCh} {x : Int32} {c : zCh} : ∀ {ds : List zCh}, c ∈ ds → nI (cs.countP (fun d => chA d c)) = x → (∀ d ∈ ds, nI (cs.countP (fun z => chA z d)) = x → chI d = chI c) → rkI cs x ds = nI (chI c)
  | [], h, _, _ => by cases h
  | a :: t, h, e, u => by
    rw [rkI]
    by_cases z : nI (cs.countP (fun d => chA d a)) = x
    · rw [if_pos z, u a List.mem_cons_self z]
    · rw [if_neg z]
      rcases List.mem_cons.mp h with rfl | h
      · exact absurd e z
      · exact rkI_s h e (fun d hd => u d (List.mem_cons_of_mem _ hd))
theorem ln_6 : ln (nI 6) = none := by decide
theorem ln_m : ln (-1) = none := by decide
theorem ixF_n {x : Int32} : ∀ {t : List zCh} {k : Nat}, (∀ c ∈ t, nI (chI c) ≠ x) → ixF x t k = none
  | [], _, _ => rfl
  | c :: t, k, h => by rw [ixF, if_neg (h c List.mem_cons_self)]; exact ixF_n (fun d hd => h d (List.mem_cons_of_mem _ hd))
theorem ixF_e {x : Int32} : ∀ {t : List zCh} {k : Nat}, ixF x t k = none → ∀ c ∈ t, nI (chI c) ≠ x
  | [], _, _, c, hc => by cases hc
  | c :: t, k, h, d, hd => by
    rw [ixF] at h
    split at h
    · cases h
    · rename_i e
      rcases List.mem_cons.mp hd with rfl | hd
      · exact e
      · exact ixF_e h d hd
theorem kc_no {g : zGd} {x : Int32} (h : ∀ c ∈ gC g, nI (chI c) ≠ x) : kc g x = none := by
  unfold kc
  rw [ixF_n h]
theorem kc_99 {g : zGd} (hw : gW g) (hX : gX g ≤ 99) : kc g (nI 99) = none := kc_no (fun c hc => nI_ne (by have := (hw.1 c hc).1; omega) (by decide) (by have := (hw.1 c hc).1; omega))
theorem kc_m {g : zGd} (hw : gW g) (hX : gX g ≤ 99) : kc g (-1) = none := kc_no (fun c hc z => nI_pos (show chI c < 2 ^ 31 by have := (hw.1 c hc).1; omega) (by rw [z]; decide))
theorem kc_ex {g : zGd} {x : Int32} (h : ∃ c ∈ gC g, nI (chI c) = x) : ∃ k c, kc g x = some (k, c) := by
  rcases e : kc g x with _ | ⟨k, c⟩
  · obtain ⟨c, hc, ec⟩ := h
    exact absurd ec (ixF_e (kc_none e) c hc)
  · exact ⟨k, c, rfl⟩
/-- every rank is some chair's -/
theorem rk_sur : ∀ {l : List zCh}, (l.map chI).Nodup → ∀ k, k < l.length → ∃ c ∈ l, l.countP (fun z => chA z c) = k
  | [], _, k, h => by cases h
  | c :: t, nd, k, h => by
    rw [List.map_cons, List.nodup_cons] at nd
    have ne : ∀ d ∈ t, chI d ≠ chI c := fun d hd e => nd.1 (List.mem_map.mpr ⟨d, hd, e⟩)
    have fw : ∀ d ∈ t, chA d c = true → t.countP (fun z => chA z d) < t.countP (fun z => chA z c) := fun d hd e =>
      cnt_lt (p := fun x => chA x d) (q := fun x => chA x c) (fun x hx => chA_t hx e) hd (by show ¬ chA d d = true; rw [chA_i]; decide) e
    have bw : ∀ d ∈ t, ¬ chA d c = true → t.countP (fun z => chA z c) ≤ t.countP (fun z => chA z d) := fun d hd e => by
      have e2 : chA c d = true := (chA_o (ne d hd)).resolve_left e
      exact List.countP_mono_left (fun x _ hx => chA_t hx e2)
    have rc : (c :: t).countP (fun z => chA z c) = t.countP (fun z => chA z c) := by
      rw [List.countP_cons, if_neg (by rw [chA_i]; decide)]; rfl
    have rd : ∀ d, (c :: t).countP (fun z => chA z d) = t.countP (fun z => chA z d) + (if chA c d = true then 1 else 0) := fun d => List.countP_cons
    rw [List.length_cons] at h
    rcases Nat.lt_trichotomy k (t.countP (fun z => chA z c)) with z | z | z
    · have hk : k < t.length := Nat.lt_of_lt_of_le z List.countP_le_length
      obtain ⟨d, hd, e⟩ := rk_sur nd.2 k hk
      refine ⟨d, List.mem_cons_of_mem _ hd, ?_⟩
      have hdc : chA d c = true := Classical.byContradiction (fun y => by have := bw d hd y; omega)
      have hcd : ¬ chA c d = true := fun y => by
        have := chA_t hdc y
        rw [chA_i] at this; cases this
      rw [rd, if_neg hcd, e]; rfl
    · exact ⟨c, List.mem_cons_self, by rw [rc]; exact z.symm⟩
    · obtain ⟨d, hd, e⟩ := rk_sur nd.2 (k - 1) (by omega)
      refine ⟨d, List.mem_cons_of_mem _ hd, ?_⟩
      have hdc : ¬ chA d c = true := fun y => by have := fw d hd y; omega
      have hcd : chA c d = true := (chA_o (ne d hd)).resolve_left hdc
      rw [rd, if_pos hcd, e]
      omega
/-- the chair at the rank k -/
theorem br_k {g : zGd} (hw : gW g) (hX : gX g ≤ 99) {k : Nat} (hk : k < (gC g).length) : ∃ i ch k9 c9, ch ∈ gC g ∧ i = chI ch ∧ aBr g k = nI i ∧ i < 99 ∧ kc g (nI i) = some (k9, c9) := by
  obtain ⟨c, hc, e⟩ := rk_sur hw.2.1 k hk
  have h12 := gW_len hw
  have hi := (hw.1 c hc).1
  have e1 : rkI (gC g) (nI k) (gC g) = nI (chI c) := rkI_s hc (by rw [e]) (fun d hd e2 => by
    refine rk_inj hd hc (neq ?_ ?_ (e2.trans (by rw [e])))
    · have := List.countP_le_length (p := fun z => chA z d) (l := gC g); omega
    · have := List.countP_le_length (p := fun z => chA z c) (l := gC g); omega)
  obtain ⟨k9, c9, ek⟩ := kc_ex (g := g) (x := nI (chI c)) ⟨c, hc, rfl⟩
  refine ⟨chI c, c, k9, c9, hc, rfl, ?_, by omega, ek⟩
  unfold aBr q_byRust
  rw [e1]
  unfold elA
  rw [if_neg (fun z => nI_pos (show chI c < 2 ^ 31 by omega) (by rw [z]; decide))]
  rfl
theorem br_n {g : zGd} (hw : gW g) : anI (q_byRust g (nI (gC g).length)) (fun _ => -1001) = -1001 := by
  have h12 := gW_len hw
  unfold q_byRust
  rw [rkI_n (fun c hc e => ?_)]
  · rfl
  · have h1 : (gC g).countP (fun d => chA d c) < (gC g).countP (fun _ => true) := cnt_lt (fun _ _ => rfl) hc (by rw [chA_i]; decide) rfl
    have h2 : (gC g).countP (fun _ => true) ≤ (gC g).length := List.countP_le_length
    have := neq (by omega) (by omega) e
    omega
theorem far_i {nb : Nat → Nat} {i : Nat} : far nb i i = some 0 := by
  unfold far
  rw [zst, if_pos (Nat.testBit_two_pow_self)]
theorem dist_c {g : zGd} {i j : Nat} (hi : i < 6) (hj : j < 6) : (oI (far (gN g) i j) = -1 ∧ anI (q_distance g (nI i) (nI j)) (fun Ex => if Ex = IOB then -1001 else -1002) = -1002) ∨ ∃ k, k < 2 ^ 31 ∧ oI (far (gN g) i j) = nI k ∧ anI (q_distance g (nI i) (nI j)) (fun Ex => if Ex = IOB then -1001 else -1002) = nI k := by
  unfold q_distance
  rw [lawA_s (ln_n i hi), lawA_s (ln_n j hj)]
  rcases e : far (gN g) i j with _ | k
  · exact Or.inl ⟨rfl, by decide⟩
  · have hk := (far_some e).1
    refine Or.inr ⟨k, by omega, rfl, ?_⟩
    show anI (elA (nI k)) (fun Ex => if Ex = IOB then -1001 else -1002) = nI k
    unfold elA
    rw [if_neg (fun z => nI_pos (show k < 2 ^ 31 by omega) (by rw [z]; decide))]
    rfl
theorem isPath_v {g : zGd} {i j : Nat} (hi : i < 6) (hj : j < 6) : anB (q_isPath g (nI i) (nI j)) = if (gN g i).testBit j = true then 1 else 0 := by
  unfold q_isPath
  rw [lawA_s (ln_n i hi), lawA_s (ln_n j hj)]
  by_cases e : (gN g i).testBit j = true
  · rw [if_pos e, if_pos e]; rfl
  · rw [if_neg e, if_neg e]; rfl
theorem hs_v {g : zGd} {i : Nat} {cf : String → Int32} (hi : i < 6) : anI (q_herdSize g (nI i)) cf = nI (hsz (gC g) i) := by
  unfold q_herdSize
  rw [lawA_s (ln_n i hi)]; rfl
/-- a rejection -/
theorem chgP_3 {h h' : zH} {a lo d r : Nat} {x y dd : Int32} {g : zGd} {us : List zGd} {sn : Option zGd} {off rs dt cs : Int32} {t o : List Nat} (e : jd g d x y = (3, r, dd)) (p : chgP h a lo d x y g us sn off rs dt cs t o h') : zXf h h' a lo ∧ zXa h' a lo g us sn off (nI r) dd 0 t o := by
  refine ⟨p.1, ?_⟩
  have p2 := p.2
  rw [e] at p2
  rw [if_neg (show ¬ (3 : Nat) = 0 by decide), if_pos rfl] at p2
  exact p2
theorem jr_112 {g : zGd} {i j : Nat} (hi : i < 6) (hj : j < 6) (hij : i ≠ j) (b : (gN g i).testBit j = true) : jd g 112 (nI i) (nI j) = (3, 1, nI (gP g)) := by
  show jPv g (nI i) (nI j) = _
  unfold jPv
  rw [ln_n i hi, ln_n j hj]
  exact (if_neg hij).trans (if_pos b)
theorem jr_113 {g : zGd} {i j : Nat} (hi : i < 6) (hj : j < 6) (hij : i ≠ j) (b : ¬ (gN g i).testBit j = true) : jd g 113 (nI i) (nI j) = (3, 2, oI (far (gN g) i j)) := by
  show jDg g (nI i) (nI j) = _
  unfold jDg
  rw [ln_n i hi, ln_n j hj]
  exact (if_neg hij).trans (if_neg b)
theorem jr_103 {g : zGd} {i j : Nat} (hi : i < 6) (hj : j < 6) (b : ¬ (gN g i).testBit j = true) : jd g 103 (nI i) (nI j) = (3, 2, oI (far (gN g) i j)) := by
  show jMg g (nI i) (nI j) = _
  unfold jMg
  rw [ln_n i hi, ln_n j hj]
  exact if_neg b
theorem jr_103h {g : zGd} {i j : Nat} (hi : i < 6) (hj : j < 6) (b : (gN g i).testBit j = true) (hz : hsz (gC g) i = 0) : jd g 103 (nI i) (nI j) = (3, 7, nI 0) := by
  show jMg g (nI i) (nI j) = _
  unfold jMg
  rw [ln_n i hi, ln_n j hj]
  have h0 : (gC g).countP (chGr i) = 0 := by
    have h1 : (gC g).countP (chGr i) ≤ hsz (gC g) i := List.countP_mono_left (fun c _ hc => by unfold chGr at hc; rw [Bool.and_eq_true] at hc; exact hc.1)
    omega
  refine (if_pos b).trans ((if_pos h0).trans ?_)
  rw [hz]
theorem jr_99h {g : zGd} {i : Nat} (hi : i < 6) (hl : (gC g).length < 12) (h5 : 5 ≤ hsz (gC g) i) : jd g 99 (nI i) (nI 0) = (3, 4, nI i) := by
  show jCm g (nI i) (nI 0) = _
  unfold jCm
  rw [ln_n i hi]
  exact (if_neg (by decide)).trans ((if_pos (by decide)).trans ((if_neg (by omega)).trans (if_pos h5)))
theorem jr_99f {g : zGd} {i : Nat} (hi : i < 6) (hl : 12 ≤ (gC g).length) : jd g 99 (nI i) (nI 0) = (3, 3, nI 12) := by
  show jCm g (nI i) (nI 0) = _
  unfold jCm
  rw [ln_n i hi]
  exact (if_neg (by decide)).trans ((if_pos (by decide)).trans (if_pos hl))
section KC
variable {g : zGd} {x : Int32} {k : Nat} {c : zCh} (hk : kc g x = some (k, c))
theorem jr_102 (hk : kc g x = some (k, c)) (b : chF c = true) : jd g 102 x 0 = (3, 5, x) := by
  show jFo g x = _
  unfold jFo
  rw [hk]; exact if_pos b
theorem jr_117 (hk : kc g x = some (k, c)) (b : ¬ chF c = true) : jd g 117 x 0 = (3, 6, x) := by
  show jUn g x = _
  unfold jUn
  rw [hk]; exact if_neg b
theorem jr_109 (hw : gW g) (hk : kc g x = some (k, c)) (b : chF c = true) : jd g 109 x (nI (chL c)) = (3, 5, x) := by
  show jMv g x _ = _
  unfold jMv
  rw [hk, ln_n _ (gW_c hw (kc_some hk).2.1).2.1]; exact if_pos b
theorem jr_109l (hP : gPt g) (hw : gW g) (hk : kc g x = some (k, c)) (b : ¬ chF c = true) : jd g 109 x (nI (chL c)) = (3, 2, nI 0) := by
  have h6 := (gW_c hw (kc_some hk).2.1).2.1
  show jMv g x _ = _
  unfold jMv
  rw [hk, ln_n _ h6]
  refine (if_neg b).trans ((if_neg (by rw [hP.2.2.1 _ h6]; decide)).trans ?_)
  rw [far_i]; rfl
theorem jr_109o (hk : kc g x = some (k, c)) : (jd g 109 x (nI 6)).1 = 1 := by
  show (jMv g x (nI 6)).1 = 1
  unfold jMv
  rw [hk, ln_6]
theorem jr_111 (hk : kc g x = some (k, c)) (b : chR c = 0) : jd g 111 x 0 = (3, 8, nI (gO g)) := by
  show jOi g x = _
  unfold jOi
  rw [hk]; exact if_pos b
theorem fo_v (hk : kc g x = some (k, c)) : anB (q_isFolded g x) = if chF c = true then 1 else 0 := by
  unfold q_isFolded
  rw [chQ_s hk]
  by_cases e : chF c = true
  · rw [e]; rfl
  · rw [Bool.eq_false_iff.mpr e]; rfl
theorem lo_v {cf : String → Int32} (hk : kc g x = some (k, c)) : anI (q_lawnOf g x) cf = nI (chL c) := by
  unfold q_lawnOf
  rw [chQ_s hk]; rfl
theorem ru_v {cf : String → Int32} (hk : kc g x = some (k, c)) : anI (q_rust g x) cf = nI (chR c) := by
  unfold q_rust
  rw [chQ_s hk]; rfl
end KC
theorem fdH_n {l : Nat} {y : Int32} : ∀ {t : List zCh} {p k : Nat}, (∀ i, i < hsz t l → nI (p + i) ≠ y) → fdH l y t p k = none
  | [], _, _, _ => rfl
  | c :: t, p, k, h => by
    rw [fdH]
    by_cases e : chL c = l
    · have e1 : hsz (c :: t) l = hsz t l + 1 := by rw [hsz_cons, if_pos e]
      have h0 := h 0 (by omega)
      rw [Nat.add_zero] at h0
      rw [if_pos e, if_neg h0]
      exact fdH_n (fun i hi => by rw [show p + 1 + i = p + (i + 1) by omega]; exact h (i + 1) (by omega))
    · have e1 : hsz (c :: t) l = hsz t l := by rw [hsz_cons, if_neg e]; rfl
      rw [if_neg e]
      exact fdH_n (fun i hi => h i (by omega))
theorem ca_5 {g : zGd} (h5 : hsz (gC g) 0 ≤ 5) : anI (q_chairAt g (nI 0) (nI 5)) (fun Ex => if Ex = IOB then -1001 else -1002) = -1002 := by
  unfold q_chairAt
  rw [lawA_s (ln_n 0 (by decide)), fdH_n (fun i hi => by rw [Nat.zero_add]; exact nI_ne (by omega) (by decide) (by omega))]
  show anI (elA (-1)) (fun Ex => if Ex = IOB then -1001 else -1002) = -1002
  decide
theorem ca_m {g : zGd} (h5 : hsz (gC g) 0 ≤ 5) : anI (q_chairAt g (nI 0) (-1)) (fun Ex => if Ex = IOB then -1001 else -1002) = -1002 := by
  unfold q_chairAt
  rw [lawA_s (ln_n 0 (by decide)), fdH_n (fun i hi => by rw [Nat.zero_add]; exact fun z => nI_pos (show i < 2 ^ 31 by omega) (by rw [z]; decide))]
  show anI (elA (-1)) (fun Ex => if Ex = IOB then -1001 else -1002) = -1002
  decide
theorem rlF_le {g : zGd} {l : Nat} : ∀ n k, rlF g l n k ≤ n
  | 0, _ => Nat.le_refl _
  | n + 1, k => by
    rw [rlF]
    have := rlF_le (g := g) (l := l) n (k + 1)
    split <;> omega
theorem lrF_m {g : zGd} : ∀ n k, lrF g (-1) n k = -1
  | 0, _ => rfl
  | n + 1, k => by
    rw [lrF, if_neg (fun z => nI_pos (show rlF g k 6 0 < 2 ^ 31 by have := rlF_le (g := g) (l := k) 6 0; omega) (by rw [z]; decide))]
    exact lrF_m n (k + 1)
theorem bs_m {g : zGd} : anI (q_byShade g (-1)) (fun _ => -1001) = -1001 := by
  unfold q_byShade
  rw [lrF_m]; rfl
theorem wl_60 {g : zGd} {l : Nat} (hw : gW g) (hX : gX g ≤ 99) (h9 : ∀ c ∈ gC g, chR c ≤ 9) (h5 : hsz (gC g) l ≤ 5) (hl : l < 6) : (wl g l).length ≤ 34 := by
  refine Nat.le_trans (wl_le hw hl h5 (fun c hc => ?_) (K := 6)) (by decide)
  have b1 := (hw.1 c hc).1
  have b2 := h9 c hc
  have a1 := dcs_le 1 (chI c) (by omega)
  have a2 := dcs_le 0 (chR c) (by omega)
  unfold wlc
  split <;> simp only [List.length_append, List.length_cons, List.length_nil] <;> omega
theorem ou_60 {o : List Nat} (h : o.length ≤ 34) : anI (ouA o (nI 60)) (fun _ => -1001) = -1001 := by
  unfold ouA
  rw [if_neg (by decide), nI_cl (by decide), List.getElem?_eq_none (by omega)]; rfl
/-- the chairs that are left of a day are chairs of before, on their lawns, folded as they were -/
def sub9 (g g' : zGd) : Prop := ∀ c ∈ gC g', ∃ d ∈ gC g, chI d = chI c ∧ chL d = chL c ∧ chF d = chF c
theorem sub9.refl (g : zGd) : sub9 g g := fun c hc => ⟨c, hc, rfl, rfl, rfl⟩
theorem sub9.trans {g h i : zGd} (p : sub9 g h) (q : sub9 h i) : sub9 g i := fun c hc => by
  obtain ⟨d, hd, e1, e2, e3⟩ := q c hc
  obtain ⟨f, hf, e4, e5, e6⟩ := p d hd
  exact ⟨f, hf, e4.trans e1, e5.trans e2, e6.trans e3⟩
theorem grC_sub {l w : Nat} : ∀ {t : List zCh} {s : Nat}, ∀ c ∈ (grC l w t s).1, ∃ d ∈ t, chI d = chI c ∧ chL d = chL c ∧ chF d = chF c
  | [], s, c, hc => by cases hc
  | a :: t, s, c, hc => by
    rw [grC] at hc
    rcases List.mem_cons.mp hc with rfl | hc
    · refine ⟨a, List.mem_cons_self, ?_⟩
      unfold grS
      split
      · split <;> exact ⟨rfl, rfl, rfl⟩
      · exact ⟨rfl, rfl, rfl⟩
    · obtain ⟨d, hd, e⟩ := grC_sub c hc
      exact ⟨d, List.mem_cons_of_mem _ hd, e⟩
theorem grs_sub {g : zGd} {s : Nat} : ∀ n, sub9 g (grs g s n)
  | 0 => sub9.refl g
  | n + 1 => by
    refine sub9.trans (h := grs g s n) (grs_sub n) ?_
    intro c hc
    rw [show grs g s (n + 1) = grz (grs g s n) n s from rfl] at hc
    unfold grz at hc
    rw [p_C_Z, p_C_S, p_C_C] at hc
    exact grC_sub c hc
theorem days_sub {g : zGd} : ∀ n, sub9 g (days g n)
  | 0 => sub9.refl g
  | n + 1 => by
    refine (days_sub n).trans ?_
    intro c hc
    rw [show days g (n + 1) = dayO (days g n) from rfl] at hc
    unfold dayO col at hc
    rw [p_C_D, p_C_F, p_C_C] at hc
    exact grs_sub 6 c (List.mem_filter.mp hc).1
theorem ch_same {g g' : zGd} {x : Int32} {k k' : Nat} {c c' : zCh} (hw : gW g) (hw' : gW g') (S : sub9 g g') (e : kc g x = some (k, c)) (e' : kc g' x = some (k', c')) : chL c' = chL c ∧ chF c' = chF c := by
  have h1 := kc_some e
  have h2 := kc_some e'
  have m1 := List.mem_of_getElem? h1.2.1
  have m2 := List.mem_of_getElem? h2.2.1
  obtain ⟨d, hd, e1, e2, e3⟩ := S c' m2
  have b1 := (gW_cb hw h1.2.1).1
  have b2 := (gW_cb hw' h2.2.1).1
  have e4 : chI d = chI c := e1.trans (neq (by omega) (by omega) (h2.2.2.1.trans h1.2.2.1.symm))
  have e5 : d = c := ch_inj hw.2.1 hd m1 e4
  rw [e5] at e2 e3
  exact ⟨e2.symm, e3.symm⟩
-- the commands
theorem rd_x : rdS [120] 61 0 [] = (some 0, []) := by decide +kernel
theorem rd_s : rdS [100, 49, 59, 115, 57, 57] 61 0 [] = (none, [(100, 1, 0), (115, 99, 0)]) := by decide +kernel
theorem rd_d : rdS [97, 49, 59, 100, 48] 61 0 [] = (none, [(97, 1, 0), (100, 0, 0)]) := by decide +kernel
def rdT (i j : Nat) : Bool := decide (rdS ((([] ++ [100, 53, 59, 104, 48, 61, 57, 59, 109]) ++ dcs i ++ [62]) ++ dcs j) 61 0 [] = (none, [(100, 5, 0), (104, 0, 9), (109, i, j)]))
theorem rdT_t : ∀ i, i < 100 → ∀ j, j < 6 → rdT i j = true := by decide +kernel
theorem rd_m {i j : Nat} (hi : i < 100) (hj : j < 6) : rdS ((([] ++ [100, 53, 59, 104, 48, 61, 57, 59, 109]) ++ dcs i ++ [62]) ++ dcs j) 61 0 [] = (none, [(100, 5, 0), (104, 0, 9), (109, i, j)]) := of_decide_eq_true (rdT_t i hi j hj)
