/-! the reference: the day of a lawn, of all lawns -/
theorem grC_app {l w : Nat} {d : zCh} : ∀ {A : List zCh} {s : Nat}, grC l w (A ++ [d]) s = ((grC l w A s).1 ++ [(grS l w d (grC l w A s).2.1).1], (grS l w d (grC l w A s).2.1).2.1, (grC l w A s).2.2 + (grS l w d (grC l w A s).2.1).2.2)
  | [], s => by
    rw [List.nil_append, grC, grC, grC]
    simp
  | a :: A, s => by
    rw [List.cons_append, grC, grC_app (A := A), grC]
    simp [Nat.add_assoc]
def nst (M : List zCh) : Nat := M.countP (fun c => !stay c)
def gmd (G : zGd) (l w : Nat) (A : List zCh) : zGd := gwZ (gwS G (upN (gS G) l (grC l w A (gS G l)).2.1)) (gZ G + (grC l w A (gS G l)).2.2)
theorem nst_mid {A B : List zCh} {d d' : zCh} (h : stay d = true) : nst (A ++ [d'] ++ B) = nst (A ++ d :: B) + (if stay d' = true then 0 else 1) := by
  unfold nst
  simp only [List.countP_append, List.countP_cons, List.countP_nil, h]
  cases stay d' <;> simp <;> omega
theorem mid_W {G : zGd} {g : zGd} {l w : Nat} {A B cs : List zCh} (hK : gK l G) (hH : gH G) (hX : gX G ≤ big) (hw : w ≤ 1) (e : A ++ B = gC G) (eD : gD g = gD G) (hp : cs.Perm ((grC l w A (gS G l)).1.filter stay ++ B.filter stay)) : rW g cs (hrd ((grC l w A (gS G l)).1.filter stay ++ B.filter stay)) := by
  obtain ⟨⟨k1, k2, k3, k4, k5, k6⟩, k9⟩ := hK
  obtain ⟨i1, i2, i3, i4, i5, i6⟩ := grC_all (l := l) hw (t := A) (s := gS G l)
  have eI : ((grC l w A (gS G l)).1 ++ B).map chI = (gC G).map chI := by rw [List.map_append, i1, ← List.map_append, e]
  have eL : ((grC l w A (gS G l)).1 ++ B).map chL = (gC G).map chL := by rw [List.map_append, i2, ← List.map_append, e]
  have eR : (grC l w A (gS G l)).1.filter stay ++ B.filter stay = ((grC l w A (gS G l)).1 ++ B).filter stay := (List.filter_append _ _).symm
  rw [eR] at hp ⊢
  refine rW_of ?_ (fun c hc => ?_) (fun l' hl' => ?_) ?_ hp
  · refine Nat.le_trans (List.length_filter_le _ _) ?_
    have := congrArg List.length eI
    rw [List.length_map, List.length_map] at this
    omega
  · have hc := (List.mem_filter.mp hc).1
    rcases List.mem_append.mp hc with hc | hc
    · obtain ⟨i, hi⟩ := List.mem_iff_getElem?.mp hc
      obtain ⟨d, h1, h2, h3, h4, h5, h6⟩ := i6 i c hi
      have hd : d ∈ gC G := e ▸ List.mem_append_left _ (List.mem_of_getElem? h1)
      obtain ⟨b1, b2_, b3, b4⟩ := k1 d hd
      refine ⟨by omega, by omega, ?_, by omega⟩
      by_cases z : chL d = l
      · have := k9 d hd (by omega); omega
      · have := h5 z; omega
    · obtain ⟨b1, b2_, b3, b4⟩ := k1 c (e ▸ List.mem_append_right _ hc)
      exact ⟨by omega, b2_, b3, by omega⟩
  · refine Nat.le_trans (List.Sublist.countP_le List.filter_sublist) ?_
    have h1 : ∀ M : List zCh, M.countP (fun c => decide (chL c = l')) = (M.map chL).countP (fun x => decide (x = l')) := fun M => by rw [List.countP_map]; rfl
    rw [h1, eL, ← h1]
    exact hH l' hl'
  · refine List.Nodup.sublist (List.Sublist.map chI List.filter_sublist) ?_
    rw [eI]; exact k2
theorem flt_1 {d : zCh} {l : Nat} (h : chL d = l) : flt [d] l = [d] := by unfold flt; rw [List.filter_cons, if_pos (decide_eq_true h)]; rfl
theorem flt_0 {d : zCh} {l : Nat} (h : chL d ≠ l) : flt [d] l = [] := by unfold flt; rw [List.filter_cons, if_neg (by simp [h])]; rfl
theorem flt_app {A B : List zCh} {l : Nat} : flt (A ++ B) l = flt A l ++ flt B l := List.filter_append _ _
theorem st_1 {d : zCh} (h : stay d = true) : [d].filter stay = [d] := by rw [List.filter_cons, if_pos h]; rfl
theorem st_0 {d : zCh} (h : ¬ stay d = true) : [d].filter stay = [] := by rw [List.filter_cons, if_neg h]; rfl
set_option maxHeartbeats 4000000 in
theorem L_mgoesI {X : zX} {l : Launch} {E : zG} {rm : Room} (hzs : zS E) (hst : l.stackTraces = false) (C : zC X cX10_goesBy RX10 8) (G : zGX X l E rm) {h : zH} {r l9 s9 : Nat} {G9 : zGd} (hm : zMs h r) (hl : l9 < 6) (hs9 : s9 < 4) (hK : gK l9 G9) (hH : gH G9) (hX : gX G9 ≤ big) (hZ : gZ G9 + 12 < big) (hr : rm = ({ frames := 3, cells := 0, slots := 0, locals := 68 } : Room))
    (kk : ∀ f cs, cs.Perm ((grC l9 (wOf s9) (gC G9) (gS G9 l9)).1.filter stay) → (cs.map chI).Pairwise (· < ·) → rF f (gmd G9 l9 (wOf s9) (gC G9)) cs (hrd ((grC l9 (wOf s9) (gC G9) (gS G9 l9)).1.filter stay)) → zV X 0 0 (sRow h (r + 1) f) 33 [(0, .ref r), (1, .int (nI s9)), (2, .int (nI (nst (grC l9 (wOf s9) (gC G9) (gS G9 l9)).1))), (3, .int (nI l9)), (4, .int (nI (8 + 8 * l9))), (5, .int (nI (flt ((grC l9 (wOf s9) (gC G9) (gS G9 l9)).1.filter stay) l9).length))] []) :
    ∀ (B A : List zCh) (f : Nat → Int32) (cs : List zCh), A ++ B = gC G9 → cs.Perm (((grC l9 (wOf s9) A (gS G9 l9)).1.filter stay) ++ B.filter stay) → (cs.map chI).Pairwise (· < ·) → rF f (gmd G9 l9 (wOf s9) A) cs (hrd (((grC l9 (wOf s9) A (gS G9 l9)).1.filter stay) ++ B.filter stay)) → zV X 0 0 (sRow h (r + 1) f) 33 [(0, .ref r), (1, .int (nI s9)), (2, .int (nI (nst ((grC l9 (wOf s9) A (gS G9 l9)).1 ++ B)))), (3, .int (nI l9)), (4, .int (nI (8 + 8 * l9))), (5, .int (nI (flt ((grC l9 (wOf s9) A (gS G9 l9)).1.filter stay) l9).length))] [] := by
  intro B
  induction B with
  | nil =>
    intro A f cs e hp hs hf
    rw [List.append_nil] at e
    subst e
    rw [List.append_nil]
    rw [List.filter_nil, List.append_nil] at hp hf
    exact kk f cs hp hs hf
  | cons d B ih =>
    intro A f cs e hp hs hf
    have e' : (A ++ [d]) ++ B = gC G9 := by rw [List.append_assoc]; exact e
    have hdm : d ∈ gC G9 := e ▸ List.mem_append_right _ List.mem_cons_self
    have ga := grC_app (l := l9) (w := wOf s9) (d := d) (A := A) (s := gS G9 l9)
    have hW := mid_W (g := gmd G9 l9 (wOf s9) A) hK hH hX (wOf_le s9) e rfl hp
    by_cases hd : chL d = l9
    · have h9 : chR d ≤ 9 := hK.2 d hdm (by omega)
      have sd : stay d = true := decide_eq_true h9
      have eV : (d :: B).filter stay = d :: B.filter stay := by rw [List.filter_cons, if_pos sd]
      rw [eV] at hp hf hW
      have hS1 : (grC l9 (wOf s9) A (gS G9 l9)).2.1 ≤ 20 := Nat.le_trans grC_s (hK.1.2.2.2.1 l9 hl)
      have gSl : gS (gmd G9 l9 (wOf s9) A) l9 = (grC l9 (wOf s9) A (gS G9 l9)).2.1 := if_pos rfl
      have hlen : A.length ≤ 12 := by have := hK.1.2.2.1; rw [← e, List.length_append] at this; omega
      have hZ1 : (grC l9 (wOf s9) A (gS G9 l9)).2.2 ≤ 12 := Nat.le_trans (grC_all (wOf_le s9)).2.2.2.2.1 (Nat.le_trans List.countP_le_length hlen)
      have ht : nst ((grC l9 (wOf s9) A (gS G9 l9)).1 ++ d :: B) < 100 := by
        refine Nat.lt_of_le_of_lt List.countP_le_length ?_
        have := hK.1.2.2.1
        rw [← e, List.length_append] at this
        rw [List.length_append, (grC_all (wOf_le s9)).2.2.2.1]; omega
      -- the next state, where the chair has become d'
      have adv : ∀ (d' : zCh) (s2 x : Nat), grS l9 (wOf s9) d (grC l9 (wOf s9) A (gS G9 l9)).2.1 = (d', s2, x) → chL d' = l9 → ∀ f' cs' g2, gN g2 = gN G9 → rNs f' (gmd G9 l9 (wOf s9) (A ++ [d])) → (∀ i, i < 6 → gS g2 i = upN (gS G9) l9 s2 i) → (cs'.map chI).Pairwise (· < ·) →
          ((stay d' = true → cs'.Perm (((grC l9 (wOf s9) A (gS G9 l9)).1.filter stay) ++ d' :: B.filter stay) → rF f' g2 cs' (hrd (((grC l9 (wOf s9) A (gS G9 l9)).1.filter stay) ++ d' :: B.filter stay)) → zV X 0 0 (sRow h (r + 1) f') 33 [(0, .ref r), (1, .int (nI s9)), (2, .int (nI (nst ((grC l9 (wOf s9) A (gS G9 l9)).1 ++ d :: B)))), (3, .int (nI l9)), (4, .int (nI (8 + 8 * l9))), (5, .int (nI ((flt ((grC l9 (wOf s9) A (gS G9 l9)).1.filter stay) l9).length + 1)))] []) ∧
           (¬ stay d' = true → cs'.Perm (((grC l9 (wOf s9) A (gS G9 l9)).1.filter stay) ++ B.filter stay) → rF f' g2 cs' (hrd (((grC l9 (wOf s9) A (gS G9 l9)).1.filter stay) ++ B.filter stay)) → zV X 0 0 (sRow h (r + 1) f') 33 [(0, .ref r), (1, .int (nI s9)), (2, .int (nI (nst ((grC l9 (wOf s9) A (gS G9 l9)).1 ++ d :: B) + 1))), (3, .int (nI l9)), (4, .int (nI (8 + 8 * l9))), (5, .int (nI (flt ((grC l9 (wOf s9) A (gS G9 l9)).1.filter stay) l9).length))] [])) := by
        intro d' s2 x eg hd' f' cs' g2 eN hn eS hs'
        rw [eg] at ga
        have a1 : (grC l9 (wOf s9) (A ++ [d]) (gS G9 l9)).1 = (grC l9 (wOf s9) A (gS G9 l9)).1 ++ [d'] := by rw [ga]
        have a2 : (grC l9 (wOf s9) (A ++ [d]) (gS G9 l9)).2.1 = s2 := by rw [ga]
        have I := ih (A ++ [d]) f' cs' e'
        rw [a1, nst_mid sd, List.filter_append, flt_app, List.length_append] at I
        have eGs : ∀ i, i < 6 → gS (gmd G9 l9 (wOf s9) (A ++ [d])) i = gS g2 i := fun i hi => by
          rw [eS i hi]
          show upN (gS G9) l9 (grC l9 (wOf s9) (A ++ [d]) (gS G9 l9)).2.1 i = _
          rw [a2]
        refine ⟨fun sd' p' F' => ?_, fun sd' p' F' => ?_⟩
        · rw [if_pos sd', st_1 sd', flt_1 hd', List.append_assoc] at I
          exact I p' hs' (rF_e F' eGs eN.symm hn)
        · rw [if_neg sd', st_0 sd', List.append_nil] at I
          exact I p' hs' (rF_e F' eGs eN.symm hn)
      refine L_mgoesS (U := ((grC l9 (wOf s9) A (gS G9 l9)).1.filter stay)) (V := B.filter stay) hzs hst C G hm hl hd hp hs hf hW hs9 ht h9 (by rw [gSl]; exact hS1) (by show gZ G9 + _ < big; omega) hr (fun e3 => ?_) (fun e3 es => ?_) (fun e3 es => ?_)
      · -- folded
        have eg : grS l9 (wOf s9) d (grC l9 (wOf s9) A (gS G9 l9)).2.1 = (d, (grC l9 (wOf s9) A (gS G9 l9)).2.1, 0) := by unfold grS; rw [if_neg (by unfold chGr; rw [e3]; simp)]
        have hga := ga
        rw [eg] at hga
        have hn : rNs f (gmd G9 l9 (wOf s9) (A ++ [d])) := by
          have : gZ (gmd G9 l9 (wOf s9) (A ++ [d])) = gZ (gmd G9 l9 (wOf s9) A) := by
            show gZ G9 + (grC l9 (wOf s9) (A ++ [d]) (gS G9 l9)).2.2 = gZ G9 + _
            rw [hga]; rfl
          obtain ⟨q1, q2, q3, q4, q5, q6, q7⟩ := hf.2.2.2
          exact ⟨q1, q2, q3, q4, q5, q6, by rw [this]; exact q7⟩
        exact (adv d _ 0 eg hd f cs (gmd G9 l9 (wOf s9) A) rfl hn (fun i hi => rfl) hs).1 sd hp hf
      · -- there is shade
        rw [gSl] at es
        have eg : grS l9 (wOf s9) d (grC l9 (wOf s9) A (gS G9 l9)).2.1 = (wR d (chR d + wOf s9), (grC l9 (wOf s9) A (gS G9 l9)).2.1 - 1, 1) := by unfold grS; rw [if_pos (by unfold chGr; rw [e3, decide_eq_true hd]; rfl), if_pos es]
        have hga := ga
        rw [eg] at hga
        have hn : ∀ f', rNs f' (gwZ (gwS (gmd G9 l9 (wOf s9) A) (upN (gS (gmd G9 l9 (wOf s9) A)) l9 (gS (gmd G9 l9 (wOf s9) A) l9 - 1))) (gZ (gmd G9 l9 (wOf s9) A) + 1)) → rNs f' (gmd G9 l9 (wOf s9) (A ++ [d])) := fun f' q => by
          obtain ⟨q1, q2, q3, q4, q5, q6, q7⟩ := q
          refine ⟨q1, q2, q3, q4, q5, q6, ?_⟩
          rw [show gZ (gmd G9 l9 (wOf s9) (A ++ [d])) = gZ (gmd G9 l9 (wOf s9) A) + 1 from by
            show gZ G9 + (grC l9 (wOf s9) (A ++ [d]) (gS G9 l9)).2.2 = gZ G9 + _ + 1
            rw [hga, Nat.add_assoc]]
          exact q7
        have hS2 : ∀ i, i < 6 → gS (gwZ (gwS (gmd G9 l9 (wOf s9) A) (upN (gS (gmd G9 l9 (wOf s9) A)) l9 (gS (gmd G9 l9 (wOf s9) A) l9 - 1))) (gZ (gmd G9 l9 (wOf s9) A) + 1)) i = upN (gS G9) l9 ((grC l9 (wOf s9) A (gS G9 l9)).2.1 - 1) i := fun i hi => by
          show upN (upN (gS G9) l9 (grC l9 (wOf s9) A (gS G9 l9)).2.1) l9 (gS (gmd G9 l9 (wOf s9) A) l9 - 1) i = _
          rw [gSl]
          unfold upN
          by_cases z : i = l9
          · rw [if_pos z, if_pos z]
          · rw [if_neg z, if_neg z, if_neg z]
        exact ⟨fun h10 f' cs' p' s' F' => (adv _ _ 1 eg hd f' cs' (gwZ (gwS (gmd G9 l9 (wOf s9) A) (upN (gS (gmd G9 l9 (wOf s9) A)) l9 (gS (gmd G9 l9 (wOf s9) A) l9 - 1))) (gZ (gmd G9 l9 (wOf s9) A) + 1)) rfl (hn f' F'.2.2.2) hS2 s').1 (decide_eq_true (show chR d + wOf s9 ≤ 9 by omega)) p' F',
          fun h10 f' cs' p' s' F' => (adv _ _ 1 eg hd f' cs' (gwZ (gwS (gmd G9 l9 (wOf s9) A) (upN (gS (gmd G9 l9 (wOf s9) A)) l9 (gS (gmd G9 l9 (wOf s9) A) l9 - 1))) (gZ (gmd G9 l9 (wOf s9) A) + 1)) rfl (hn f' F'.2.2.2) hS2 s').2 (fun z => by have : chR d + wOf s9 ≤ 9 := of_decide_eq_true z; omega) p' F'⟩
      · -- there is none
        rw [gSl] at es
        have eg : grS l9 (wOf s9) d (grC l9 (wOf s9) A (gS G9 l9)).2.1 = (wR d (chR d + (wOf s9 + 1)), (grC l9 (wOf s9) A (gS G9 l9)).2.1, 0) := by unfold grS; rw [if_pos (by unfold chGr; rw [e3, decide_eq_true hd]; rfl), if_neg (by omega), show chR d + 1 + wOf s9 = chR d + (wOf s9 + 1) by omega]
        have hga := ga
        rw [eg] at hga
        have hn : ∀ f', rNs f' (gmd G9 l9 (wOf s9) A) → rNs f' (gmd G9 l9 (wOf s9) (A ++ [d])) := fun f' q => by
          have : gZ (gmd G9 l9 (wOf s9) (A ++ [d])) = gZ (gmd G9 l9 (wOf s9) A) := by
            show gZ G9 + (grC l9 (wOf s9) (A ++ [d]) (gS G9 l9)).2.2 = gZ G9 + _
            rw [hga]; rfl
          obtain ⟨q1, q2, q3, q4, q5, q6, q7⟩ := q
          exact ⟨q1, q2, q3, q4, q5, q6, by rw [this]; exact q7⟩
        exact ⟨fun h10 f' cs' p' s' F' => (adv _ _ 0 eg hd f' cs' (gmd G9 l9 (wOf s9) A) rfl (hn f' F'.2.2.2) (fun i hi => rfl) s').1 (decide_eq_true (show chR d + (wOf s9 + 1) ≤ 9 by omega)) p' F',
          fun h10 f' cs' p' s' F' => (adv _ _ 0 eg hd f' cs' (gmd G9 l9 (wOf s9) A) rfl (hn f' F'.2.2.2) (fun i hi => rfl) s').2 (fun z => by have : chR d + (wOf s9 + 1) ≤ 9 := of_decide_eq_true z; omega) p' F'⟩
    · have eg : grS l9 (wOf s9) d (grC l9 (wOf s9) A (gS G9 l9)).2.1 = (d, (grC l9 (wOf s9) A (gS G9 l9)).2.1, 0) := by unfold grS; rw [if_neg (fun z => hd (chGr_L z))]
      rw [eg] at ga
      have a1 : (grC l9 (wOf s9) (A ++ [d]) (gS G9 l9)).1 = (grC l9 (wOf s9) A (gS G9 l9)).1 ++ [d] := by rw [ga]
      have a4 : gmd G9 l9 (wOf s9) (A ++ [d]) = gmd G9 l9 (wOf s9) A := by unfold gmd; rw [ga]; rfl
      have eL : (flt (((grC l9 (wOf s9) A (gS G9 l9)).1 ++ [d]).filter stay) l9).length = (flt ((grC l9 (wOf s9) A (gS G9 l9)).1.filter stay) l9).length := by
        rw [List.filter_append, flt_app, List.length_append]
        by_cases z : stay d = true
        · rw [st_1 z, flt_0 hd]; rfl
        · rw [st_0 z]; rfl
      have eU : ((grC l9 (wOf s9) A (gS G9 l9)).1 ++ [d]).filter stay ++ B.filter stay = ((grC l9 (wOf s9) A (gS G9 l9)).1.filter stay) ++ (d :: B).filter stay := by
        rw [List.filter_append, List.append_assoc, ← List.filter_append]; rfl
      have I := ih (A ++ [d]) f cs e'
      rw [a1, a4, eU, eL, List.append_assoc] at I
      exact I hp hs hf
