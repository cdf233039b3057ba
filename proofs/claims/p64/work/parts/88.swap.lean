/-! the law: cells numbered anew -/
def hsw (σ : Nat → Nat) (h : zH) : zH := (hN h, fun c => hK h (σ c), fun c => hL h (σ c), fun f c => hI h f (σ c), fun f c => (hR h f (σ c)).map σ, fun c i => aI h (σ c) i, fun c i => (aR h (σ c) i).map σ, fun c i => aJ h (σ c) i, fun c i => aD h (σ c) i)
def zX0 (X : zX) : Prop := match X with
  | (_, _, _, _, _, _, _, _, _, _, _, _, n0, _) => n0 = 0
theorem map_sw {σ : Nat → Nat} (s1 : ∀ k, σ (σ k) = k) (ad : Nat → Nat) (x : Option Nat) : (x.map σ).map (fun k => ad (σ k)) = x.map ad := by
  cases x with
  | none => rfl
  | some k => exact congrArg some (congrArg ad (s1 k))
theorem zcell_sw {E : zG} {σ ad : Nat → Nat} {h : zH} (s1 : ∀ k, σ (σ k) = k) (a : Nat) : zcell E (fun k => ad (σ k)) (hsw σ h) a = zcell E ad h (σ a) := by
  have e1 : ∀ f, ((hR (hsw σ h) f a).map (fun k => ad (σ k))) = (hR h f (σ a)).map ad := fun f => map_sw s1 ad _
  have e2 : (fun i => ((aR (hsw σ h) a i).map (fun k => ad (σ k)))) = (fun i => (aR h (σ a) i).map ad) := funext (fun i => map_sw s1 ad _)
  have e3 : ∀ ci k, zfv (fun k => ad (σ k)) (hsw σ h) ci a k = zfv ad h ci (σ a) k := by
    intro ci k
    unfold zfv
    rw [e1]
    rfl
  have e4 : ∀ ci, zobj (fun k => ad (σ k)) (hsw σ h) ci a = zobj ad h ci (σ a) := fun ci => congrArg (fun f => (List.range (zFl ci).length).map f) (funext (e3 ci))
  have e5 : zarr (fun k => ad (σ k)) (hsw σ h) a = zarr ad h (σ a) := by
    unfold zarr
    rw [e2]
    rfl
  unfold zcell
  rw [e4, e5]
  rfl
theorem zWt_sw {E : zG} {σ ad : Nat → Nat} {h : zH} {H : Heap} (s1 : ∀ k, σ (σ k) = k) (s2 : ∀ k, k < hN h → σ k < hN h) (w : zWt E ad h H) : zWt E (fun k => ad (σ k)) (hsw σ h) H := by
  obtain ⟨w1, w2, w3, ⟨w4, w5⟩, w6, w7, w8⟩ := w
  refine ⟨w1, w2, w3.by σ (fun k q hk => ?_), ⟨fun i j hi hj e => ?_, fun i hi => w5 (σ i) (s2 i hi)⟩, fun a ha => ?_, fun f a k hk => ?_, fun a i k hk => ?_⟩
  · have hl := (List.getElem?_eq_some_iff.mp hk).1
    rw [zcells_len] at hl
    have hl : k < hN h := hl
    rw [zcells_at (show k < hN (hsw σ h) from hl)] at hk
    rw [zcells_at (s2 k hl), ← hk, zcell_sw s1]
  · have z := w4 (σ i) (σ j) (s2 i hi) (s2 j hj) e
    rw [← s1 i, ← s1 j, z]
  · refine w6 (σ a) ?_
    rcases Nat.lt_or_ge (σ a) (hN h) with z | z
    · have := s2 (σ a) z
      rw [s1] at this
      exact absurd ha (Nat.not_le.mpr this)
    · exact z
  · obtain ⟨k0, e0, rfl⟩ := Option.map_eq_some_iff.mp (show (hR h f (σ a)).map σ = some k from hk)
    exact s2 k0 (w7 f (σ a) k0 e0)
  · obtain ⟨k0, e0, rfl⟩ := Option.map_eq_some_iff.mp (show (aR h (σ a) i).map σ = some k from hk)
    exact s2 k0 (w8 (σ a) i k0 e0)
theorem zV.sw {X : zX} {kc ks pc : Nat} {h : zH} {lo lo' : List (Nat × Value)} {σ : Nat → Nat} (h0 : zX0 X) (s1 : ∀ k, σ (σ k) = k) (s2 : ∀ k, k < hN h → σ k < hN h) (hok : zOkl (hN h) lo') (hlo : ∀ ad, trl (fun k => ad (σ k)) lo' = trl ad lo) (k : zV X kc ks (hsw σ h) pc lo' []) : zV X kc ks h pc lo [] := by
  obtain ⟨p, l, e, R, s, m, args, below, meth, c, E, ad0, n0, Z⟩ := X
  have h0 : n0 = 0 := h0
  subst h0
  intro ad H rl ls e1 e2 w S ol os hl
  refine k (fun k => ad (σ k)) H rl ls (fun k hk => absurd hk (Nat.not_lt_zero _)) (Nat.zero_le _) ⟨w.1, zWt_sw s1 s2 w.2⟩ S hok trivial ?_
  rw [hlo]
  exact hl
/-- the cell c is as it was, its references below v too -/
def zEv (h h' : zH) (v c : Nat) : Prop := hK h' c = hK h c ∧ hL h' c = hL h c ∧ (∀ f x, hR h f c = some x → x < v → hR h' f c = some x) ∧ (∀ f, hI h' f c = hI h f c) ∧ aI h' c = aI h c ∧ (∀ i x, aR h c i = some x → x < v → aR h' c i = some x)
section ZEV
variable {h h' : zH} {v : Nat}
theorem zXs_v {a : Nat} (q : zXs h a) (e : zEv h h' v a) (hv : a + 271 ≤ v) : zXs h' a := by
  obtain ⟨q1, q2, q3, q4, q5, q6, q7, q8, q9, q10⟩ := q
  obtain ⟨e1, -, e3, -⟩ := e
  exact ⟨e1.trans q1, e3 _ _ q2 (by omega), e3 _ _ q3 (by omega), e3 _ _ q4 (by omega), e3 _ _ q5 (by omega), e3 _ _ q6 (by omega), e3 _ _ q7 (by omega), e3 _ _ q8 (by omega), e3 _ _ q9 (by omega), e3 _ _ q10 (by omega)⟩
theorem zLs_v {a : Nat} (q : zLs h a) (e : ∀ c, a ≤ c → c < a + 2 → zEv h h' v c) (hv : a + 2 ≤ v) : zLs h' a := by
  obtain ⟨q1, q2, q3, q4⟩ := q
  have e0 := e a (by omega) (by omega)
  have e1 := e (a + 1) (by omega) (by omega)
  exact ⟨e0.1.trans q1, e0.2.2.1 _ _ q2 (by omega), e1.1.trans q3, e1.2.1.trans q4⟩
theorem zPs_v {a : Nat} (q : zPs h a) (e : ∀ c, a ≤ c → c < a + 3 → zEv h h' v c) (hv : a + 3 ≤ v) : zPs h' a := by
  obtain ⟨q1, q2, q3⟩ := q
  have e0 := e a (by omega) (by omega)
  exact ⟨e0.1.trans q1, e0.2.2.1 _ _ q2 (by omega), zLs_v q3 (fun c h1 h2 => e c (by omega) (by omega)) (by omega)⟩
theorem zGs_v {b : Nat} (q : zGs h b) (e : ∀ c, b ≤ c → c < b + 21 → zEv h h' v c) (hv : b + 21 ≤ v) : zGs h' b := by
  obtain ⟨q1, q2, q3, q4, q5, q6, q7, q8, q9, q10⟩ := q
  have e0 := e b (by omega) (by omega)
  have e8 := e (b + 8) (by omega) (by omega)
  exact ⟨e0.1.trans q1, e0.2.2.1 _ _ q2 (by omega), e0.2.2.1 _ _ q3 (by omega), e0.2.2.1 _ _ q4 (by omega), e0.2.2.1 _ _ q5 (by omega), zPs_v q6 (fun c h1 h2 => e c (by omega) (by omega)) (by omega), zLs_v q7 (fun c h1 h2 => e c (by omega) (by omega)) (by omega), zLs_v q8 (fun c h1 h2 => e c (by omega) (by omega)) (by omega), ⟨e8.1.trans q9.1, e8.2.1.trans q9.2⟩, fun i hi => (e (b + 9 + i) (by omega) (by omega)).1.trans (q10 i hi)⟩
theorem zCs_v {b : Nat} {cs : List zCh} (q : zCs h b cs) (hl : cs.length ≤ 12) (e : ∀ c, b ≤ c → c < b + 21 → zEv h h' v c) (hv : b + 21 ≤ v) : zCs h' b cs := by
  have e8 := e (b + 8) (by omega) (by omega)
  have r : ∀ k, k < 12 → aR h' (b + 8) k = some (cA h b k) := fun k hk => e8.2.2.2.2.2 _ _ (q.1 k hk).1 (by have := q.1 k hk; omega)
  have c : ∀ k, k < 12 → cA h' b k = cA h b k := fun k hk => by
    show (aR h' (b + 8) k).getD 0 = _
    rw [r k hk]
    rfl
  have eI : ∀ k, k < 12 → ∀ f, hI h' f (cA h b k) = hI h f (cA h b k) := fun k hk f => (e (cA h b k) (by have := q.1 k hk; omega) (by have := q.1 k hk; omega)).2.2.2.1 f
  refine ⟨fun k hk => ?_, fun i j hi hj z => ?_, fun k c9 hc => ?_, fun k hk => ?_⟩
  · rw [c k hk]; exact ⟨r k hk, (q.1 k hk).2⟩
  · rw [c i hi, c j hj] at z; exact q.2.1 i j hi hj z
  · have hk : k < 12 := Nat.lt_of_lt_of_le (List.getElem?_eq_some_iff.mp hc).1 hl
    rw [c k hk]; exact chAt_same (eI k hk) (q.2.2.1 k c9 hc)
  · rw [c k hk, eI k hk]; exact q.2.2.2 k hk
theorem zGa_v {b : Nat} {g : zGd} (q : zGa h b g) (hl : (gC g).length ≤ 12) (e : ∀ c, b ≤ c → c < b + 21 → zEv h h' v c) (hv : b + 21 ≤ v) : zGa h' b g := by
  have p := zGa_pa q
  refine ⟨zGs_v q.1 e hv, ⟨zPs_v p.1 (fun c h1 h2 => e c (by omega) (by omega)) (by omega), fun j hj => ⟨(congrFun (e (b + 1 + 2) (by omega) (by omega)).2.2.2.2.1 j).trans (p.2 j hj).1, (p.2 j hj).2⟩⟩, ((e (b + 1) (by omega) (by omega)).2.2.2.1 _).trans (zGa_p q), fun j hj => (congrFun (e (b + 5) (by omega) (by omega)).2.2.2.2.1 j).trans (zGa_s q j hj), fun j hj => (congrFun (e (b + 7) (by omega) (by omega)).2.2.2.2.1 j).trans (zGa_h q j hj), zCs_v (zGa_cs q) hl e hv, zNs_same (zGa_n q) (fun f => (e b (by omega) (by omega)).2.2.2.1 f)⟩
theorem zGt_v {b : Nat} (q : zGt h b) (e : ∀ c, b ≤ c → c < b + 21 → zEv h h' v c) (hv : b + 21 ≤ v) : zGt h' b := ⟨zGs_v q.1 e hv, zCs_v q.2 (Nat.zero_le _) e hv⟩
theorem zHi_v {a : Nat} {us : List zGd} (q : zHi h a us) (e : ∀ c, a ≤ c → c < a + 170 → zEv h h' v c) (hv : a + 170 ≤ v) : zHi h' a us := by
  obtain ⟨q1, q2, q3, q4, q5⟩ := q
  have e0 := e a (by omega) (by omega)
  have e1 := e (a + 1) (by omega) (by omega)
  have b : ∀ k, k < 8 → a + 2 ≤ pA h a k ∧ pA h a k + 21 ≤ a + 170 := fun k hk => by
    obtain ⟨-, i, h1, h2⟩ := q2.1 k hk
    omega
  have r : ∀ k, k < 8 → aR h' (a + 1) k = some (pA h a k) := fun k hk => e1.2.2.2.2.2 _ _ (q2.1 k hk).1 (by have := b k hk; omega)
  have c : ∀ k, k < 8 → pA h' a k = pA h a k := fun k hk => by
    show (aR h' (a + 1) k).getD 0 = _
    rw [r k hk]
    rfl
  have eg : ∀ k, k < 8 → ∀ c, pA h a k ≤ c → c < pA h a k + 21 → zEv h h' v c := fun k hk c h1 h2 => e c (by have := b k hk; omega) (by have := b k hk; omega)
  have bv : ∀ k, k < 8 → pA h a k + 21 ≤ v := fun k hk => by have := b k hk; omega
  refine ⟨⟨e0.1.trans q1.1, e0.2.2.1 _ _ q1.2.1 (by omega), e1.1.trans q1.2.2.1, e1.2.1.trans q1.2.2.2⟩, ⟨fun k hk => ?_, fun j k hj hk z => ?_, fun k hk => ?_⟩, (e0.2.2.2.1 _).trans q3, q4, fun k g hg => ?_⟩
  · rw [c k hk]; exact ⟨r k hk, (q2.1 k hk).2⟩
  · rw [c j hj, c k hk] at z; exact q2.2.1 j k hj hk z
  · rw [c k hk]; exact zGt_v (q2.2.2 k hk) (eg k hk) (bv k hk)
  · have hk : k < 8 := Nat.lt_of_lt_of_le (List.getElem?_eq_some_iff.mp hg).1 q4
    rw [c k hk]
    exact ⟨zGa_v (q5 k g hg).1 (q5 k g hg).2 (eg k hk) (bv k hk), (q5 k g hg).2⟩
theorem zIs_v {a : Nat} (q : zIs h a) (e : ∀ c, a ≤ c → c < a + 8 → zEv h h' v c) (hv : a + 8 ≤ v) : zIs h' a := by
  obtain ⟨q1, q2, q3, q4, q5⟩ := q
  have e0 := e a (by omega) (by omega)
  have e1 := e (a + 1) (by omega) (by omega)
  exact ⟨e0.1.trans q1, e0.2.2.1 _ _ q2 (by omega), e1.1.trans q3, e1.2.1.trans q4, fun i hi => ⟨e1.2.2.2.2.2 _ _ (q5 i hi).1 (by omega), (e (a + 2 + i) (by omega) (by omega)).1.trans (q5 i hi).2.1, (e (a + 2 + i) (by omega) (by omega)).2.1.trans (q5 i hi).2.2⟩⟩
theorem zIn_v {a : Nat} {t : List Nat} (q : zIn h a t) (e : ∀ c, a ≤ c → c < a + 5 → zEv h h' v c) (hv : a + 5 ≤ v) : zIn h' a t := by
  obtain ⟨⟨q1, q2, q3, q4, q5, q6, q7, q8, q9⟩, n1, n2, n3⟩ := q
  have e0 := e a (by omega) (by omega)
  have e1 := e (a + 1) (by omega) (by omega)
  have e2 := e (a + 2) (by omega) (by omega)
  have e3 := e (a + 3) (by omega) (by omega)
  have e4 := e (a + 4) (by omega) (by omega)
  exact ⟨⟨e0.1.trans q1, e0.2.2.1 _ _ q2 (by omega), e0.2.2.1 _ _ q3 (by omega), e0.2.2.1 _ _ q4 (by omega), e0.2.2.1 _ _ q5 (by omega), ⟨e1.1.trans q6.1, e1.2.1.trans q6.2⟩, ⟨e2.1.trans q7.1, e2.2.1.trans q7.2⟩, ⟨e3.1.trans q8.1, e3.2.1.trans q8.2⟩, ⟨e4.1.trans q9.1, e4.2.1.trans q9.2⟩⟩, (e0.2.2.2.1 _).trans n1, n2, fun i c hc => ⟨(congrFun e1.2.2.2.2.1 i).trans (n3 i c hc).1, (n3 i c hc).2⟩⟩
theorem zXa_v {a lo lo' : Nat} {g : zGd} {us : List zGd} {sn : Option zGd} {off rs dt cs : Int32} {t o : List Nat} (q : zXa h a lo g us sn off rs dt cs t o) (e : ∀ c, a ≤ c → c < a + 271 → zEv h h' v c) (hv : a + 271 ≤ v) (hlo : a + 271 ≤ lo') (ho : zOu h' (a + 269) lo' o) : zXa h' a lo' g us sn off rs dt cs t o := by
  obtain ⟨hx, ⟨hg, hf, hb⟩, hs, hH, hI, hJ, hin, hou, hn, -, hl9⟩ := q
  have e0 := (e a (by omega) (by omega)).2.2.2.1
  exact ⟨zXs_v hx (e a (by omega) (by omega)) hv, ⟨zGa_v hg hl9 (fun c h1 h2 => e c (by omega) (by omega)) (by omega), zGt_v hf (fun c h1 h2 => e c (by omega) (by omega)) (by omega), zGt_v hb (fun c h1 h2 => e c (by omega) (by omega)) (by omega)⟩, ⟨zGt_v hs.1 (fun c h1 h2 => e c (by omega) (by omega)) (by omega), fun s hs9 => ⟨zGa_v (hs.2 s hs9).1 (hs.2 s hs9).2 (fun c h1 h2 => e c (by omega) (by omega)) (by omega), (hs.2 s hs9).2⟩⟩, zHi_v hH (fun c h1 h2 => e c (by omega) (by omega)) (by omega), zIs_v hI (fun c h1 h2 => e c (by omega) (by omega)) (by omega), (e (a + 263) (by omega) (by omega)).1.trans hJ, zIn_v hin (fun c h1 h2 => e c (by omega) (by omega)) (by omega), ho, ⟨(e0 _).trans hn.1, (e0 _).trans hn.2.1, (e0 _).trans hn.2.2.1, (e0 _).trans hn.2.2.2.1, (e0 _).trans hn.2.2.2.2⟩, hlo, hl9⟩
end ZEV
def swX (v w : Nat) : Nat → Nat := fun k => if k = v then w else if k = w then v else k
theorem swX_v {v w : Nat} : swX v w v = w := if_pos rfl
theorem swX_w {v w : Nat} : swX v w w = v := by
  unfold swX
  split
  · assumption
  · rw [if_pos rfl]
theorem swX_o {v w k : Nat} (h1 : k ≠ v) (h2 : k ≠ w) : swX v w k = k := by
  unfold swX
  rw [if_neg h1, if_neg h2]
theorem swX_2 {v w : Nat} (k : Nat) : swX v w (swX v w k) = k := by
  by_cases h1 : k = v
  · subst h1; rw [swX_v, swX_w]
  · by_cases h2 : k = w
    · subst h2; rw [swX_w, swX_v]
    · rw [swX_o h1 h2, swX_o h1 h2]
theorem swX_lt {v w n : Nat} (hv : v < n) (hw : w < n) (k : Nat) (hk : k < n) : swX v w k < n := by
  unfold swX
  split
  · exact hw
  · split
    · exact hv
    · exact hk
/-- a new row of longs, and the cells so numbered that it lies below the text's bytes -/
theorem was_new {h : zH} {a lo n : Nat} {g : zGd} {us : List zGd} {sn : Option zGd} {off rs dt cs : Int32} {t o : List Nat} (q : zXa h a lo g us sn off rs dt cs t o) (hlN : lo ≤ hN h) : ∃ (σ : Nat → Nat) (w9 : Nat), (∀ k, σ (σ k) = k) ∧ (∀ k, k < hN (hNew h 104 n) → σ k < hN (hNew h 104 n)) ∧ σ a = a ∧ σ w9 = hN h ∧ a + 271 ≤ w9 ∧ w9 < hN (hNew h 104 n) ∧ zXa (hsw σ (hNew h 104 n)) a (w9 + 1) g us sn off rs dt cs t o ∧ hK (hsw σ (hNew h 104 n)) w9 = 104 ∧ hL (hsw σ (hNew h 104 n)) w9 = n := by
  obtain ⟨-, -, -, -, -, -, -, hou, -, hlo, -⟩ := id q
  obtain ⟨o1, o2, o3, v, o4, o5, o6, o7, o8, o9, o10, o11⟩ := hou
  have eN : ∀ c, c < hN h → zEq h (hNew h 104 n) c := fun c hc => zEq_new (Nat.ne_of_lt hc)
  have eR : ∀ (σ : Nat → Nat) (y : Nat), (∀ c, c < a + 271 → σ c = c) → a + 271 ≤ y → (∀ x, x < y → σ x = x) → ∀ c, a ≤ c → c < a + 271 → zEv h (hsw σ (hNew h 104 n)) y c := by
    intro σ y hσ hy hy2 c h1 h2
    have e := eN c (by omega)
    have es := hσ c h2
    refine ⟨?_, ?_, fun f x hx hx2 => ?_, fun f => ?_, ?_, fun i x hx hx2 => ?_⟩
    · show hK (hNew h 104 n) (σ c) = _
      rw [es]; exact e.1
    · show hL (hNew h 104 n) (σ c) = _
      rw [es]; exact e.2.1
    · show (hR (hNew h 104 n) f (σ c)).map σ = _
      rw [es, e.2.2.1, hx]; exact congrArg some (hy2 x hx2)
    · show hI (hNew h 104 n) f (σ c) = _
      rw [es]; exact e.2.2.2.1 f
    · show aI (hNew h 104 n) (σ c) = _
      rw [es]; exact e.2.2.2.2.1
    · show (aR (hNew h 104 n) (σ c) i).map σ = _
      rw [es, e.2.2.2.2.2.1, hx]; exact congrArg some (hy2 x hx2)
  rcases Nat.lt_or_ge v (a + 271) with hv | hv
  · have hv9 : v = a + 270 := by omega
    refine ⟨fun k => k, hN h, fun k => rfl, fun k hk => hk, rfl, rfl, by omega, Nat.lt_succ_self _, zXa_v q (eR _ (a + 271) (fun _ _ => rfl) (Nat.le_refl _) (fun _ _ => rfl)) (Nat.le_refl _) (by omega) ?_, hK_newE (h := h) (k := 104) (z := n), hL_newE (h := h) (k := 104) (z := n)⟩
    have e0 := eR (fun k => k) (a + 271) (fun _ _ => rfl) (Nat.le_refl _) (fun _ _ => rfl) (a + 269) (by omega) (by omega)
    have ev := eR (fun k => k) (a + 271) (fun _ _ => rfl) (Nat.le_refl _) (fun _ _ => rfl) v (by omega) hv
    exact ⟨e0.1.trans o1, (e0.2.2.2.1 _).trans o2, (e0.2.2.2.1 _).trans o3, v, e0.2.2.1 _ _ o4 hv, Or.inl (by omega), Nat.lt_succ_of_lt o6, ev.1.trans o7, by rw [ev.2.1]; exact o8, by rw [ev.2.1]; exact o9, fun i c hc => by rw [ev.2.2.2.2.1]; exact o10 i c hc, by rw [ev.2.2.2.2.1]; exact o11⟩
  · have s0 : ∀ c, c < v → swX v (hN h) c = c := fun c hc => swX_o (by omega) (by omega)
    refine ⟨swX v (hN h), v, swX_2, swX_lt (Nat.lt_succ_of_lt o6) (Nat.lt_succ_self _), s0 a (by omega), swX_v, hv, Nat.lt_succ_of_lt o6, zXa_v q (eR _ v (fun c hc => s0 c (by omega)) hv s0) hv (by omega) ?_, ?_, ?_⟩
    · have e0 := eR _ v (fun c hc => s0 c (by omega)) hv s0 (a + 269) (by omega) (by omega)
      have ev := eN v o6
      refine ⟨e0.1.trans o1, (e0.2.2.2.1 _).trans o2, (e0.2.2.2.1 _).trans o3, hN h, ?_, Or.inr (by omega), Nat.lt_succ_self _, ?_, ?_, ?_, fun i c hc => ?_, ?_⟩
      · show (hR (hNew h 104 n) 32 (swX v (hN h) (a + 269))).map (swX v (hN h)) = _
        rw [s0 (a + 269) (by omega), (eN (a + 269) (by omega)).2.2.1, o4]
        exact congrArg some swX_v
      · show hK (hNew h 104 n) (swX v (hN h) (hN h)) = _
        rw [swX_w]; exact ev.1.trans o7
      · show _ ≤ hL (hNew h 104 n) (swX v (hN h) (hN h))
        rw [swX_w, ev.2.1]; exact o8
      · show hL (hNew h 104 n) (swX v (hN h) (hN h)) ≤ _
        rw [swX_w, ev.2.1]; exact o9
      · show aI (hNew h 104 n) (swX v (hN h) (hN h)) i = _ ∧ _
        rw [swX_w, ev.2.2.2.2.1]; exact o10 i c hc
      · show sb_Fit (aI (hNew h 104 n) (swX v (hN h) (hN h)))
        rw [swX_w, ev.2.2.2.2.1]; exact o11
    · show hK (hNew h 104 n) (swX v (hN h) v) = _
      rw [swX_v]; exact hK_newE
    · show hL (hNew h 104 n) (swX v (hN h) v) = _
      rw [swX_v]; exact hL_newE
