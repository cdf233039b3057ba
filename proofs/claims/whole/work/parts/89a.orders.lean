/-! the reference: orders of the chairs -/
theorem srt_ix {cs : List zCh} (hs : (cs.map chI).Pairwise (· < ·)) {i j : Nat} {c d : zCh} (hc : cs[i]? = some c) (hd : cs[j]? = some d) : i < j ↔ chI c < chI d := by
  have key : ∀ {i j : Nat} {c d : zCh}, cs[i]? = some c → cs[j]? = some d → i < j → chI c < chI d := fun {i j c d} hc hd hij => by
    rw [List.pairwise_iff_getElem] at hs
    obtain ⟨i1, i2⟩ := List.getElem?_eq_some_iff.mp hc
    obtain ⟨j1, j2⟩ := List.getElem?_eq_some_iff.mp hd
    have := hs i j (by rw [List.length_map]; exact i1) (by rw [List.length_map]; exact j1) hij
    rw [List.getElem_map, List.getElem_map, i2, j2] at this
    exact this
  constructor
  · exact key hc hd
  · intro h
    rcases Nat.lt_trichotomy i j with z | z | z
    · exact z
    · subst z; rw [hc] at hd; cases hd; omega
    · have := key hd hc z; omega
theorem chA_t {a b c : zCh} (h1 : chA a b = true) (h2 : chA b c = true) : chA a c = true := by
  unfold chA at *
  simp only [Bool.or_eq_true, Bool.and_eq_true, decide_eq_true_eq] at *
  omega
theorem chA_i {a : zCh} : chA a a = false := by unfold chA; simp
theorem chA_o {a b : zCh} (h : chI a ≠ chI b) : chA a b = true ∨ chA b a = true := by
  unfold chA
  simp only [Bool.or_eq_true, Bool.and_eq_true, decide_eq_true_eq]
  omega
theorem cnt_lt {p q : zCh → Bool} {l : List zCh} {c : zCh} (hpq : ∀ d, p d = true → q d = true) (hc : c ∈ l) (h1 : ¬ p c = true) (h2 : q c = true) : l.countP p < l.countP q := by
  induction l with
  | nil => cases hc
  | cons d t ih =>
    rw [List.countP_cons, List.countP_cons]
    have hm : t.countP p ≤ t.countP q := List.countP_mono_left (fun x _ => hpq x)
    rcases List.mem_cons.mp hc with rfl | hc
    · rw [if_neg h1, if_pos h2]; omega
    · have := ih hc
      by_cases z : p d = true
      · rw [if_pos z, if_pos (hpq d z)]; omega
      · rw [if_neg z]; omega
theorem rk_inj {l : List zCh} {c d : zCh} (hc : c ∈ l) (hd : d ∈ l) (e : l.countP (fun z => chA z c) = l.countP (fun z => chA z d)) : chI c = chI d := by
  by_cases h : chI c = chI d
  · exact h
  · rcases chA_o h with z | z
    · have := cnt_lt (p := fun x => chA x c) (q := fun x => chA x d) (fun x hx => chA_t hx z) hc (by show ¬ chA c c = true; rw [chA_i]; decide) z
      omega
    · have := cnt_lt (p := fun x => chA x d) (q := fun x => chA x c) (fun x hx => chA_t hx z) hd (by show ¬ chA d d = true; rw [chA_i]; decide) z
      omega
theorem rkI_n {cs : List zCh} {x : Int32} : ∀ {ds : List zCh}, (∀ c ∈ ds, nI (cs.countP (fun d => chA d c)) ≠ x) → rkI cs x ds = -1
  | [], _ => rfl
  | c :: t, h => by rw [rkI, if_neg (h c List.mem_cons_self)]; exact rkI_n (fun d hd => h d (List.mem_cons_of_mem _ hd))
theorem rkI_s {cs : List zCh} {x : Int32} {c : zCh} : ∀ {ds : List zCh}, c ∈ ds → nI (cs.countP (fun d => chA d c)) = x → (∀ d ∈ ds, nI (cs.countP (fun z => chA z d)) = x → chI d = chI c) → rkI cs x ds = nI (chI c)
  | [], h, _, _ => by cases h
  | a :: t, h, e, u => by
    rw [rkI]
    by_cases z : nI (cs.countP (fun d => chA d a)) = x
    · rw [if_pos z, u a List.mem_cons_self z]
    · rw [if_neg z]
      rcases List.mem_cons.mp h with rfl | h
      · exact absurd e z
      · exact rkI_s h e (fun d hd => u d (List.mem_cons_of_mem _ hd))
theorem rk_p {cs ds : List zCh} {x : Int32} (p : cs.Perm ds) (hl : ds.length < 100) : rkI ds x ds = rkI cs x cs := by
  have ec : ∀ c, cs.countP (fun d => chA d c) = ds.countP (fun d => chA d c) := fun c => p.countP_eq _
  by_cases h : ∃ c ∈ ds, nI (ds.countP (fun d => chA d c)) = x
  · obtain ⟨c, hc, e⟩ := h
    have u : ∀ d ∈ ds, nI (ds.countP (fun z => chA z d)) = x → chI d = chI c := fun d hd e2 => by
      refine rk_inj hd hc (neq ?_ ?_ (e2.trans e.symm))
      · have := List.countP_le_length (p := fun z => chA z d) (l := ds); omega
      · have := List.countP_le_length (p := fun z => chA z c) (l := ds); omega
    rw [rkI_s hc e u, rkI_s (p.mem_iff.mpr hc) (by rw [ec]; exact e) (fun d hd e2 => u d (p.mem_iff.mp hd) (by rw [← ec]; exact e2))]
  · have hn : ∀ c ∈ ds, nI (ds.countP (fun d => chA d c)) ≠ x := fun c hc e => h ⟨c, hc, e⟩
    rw [rkI_n hn, rkI_n (fun c hc => by rw [ec]; exact hn c (p.mem_iff.mp hc))]
theorem chE_o {a b : zCh} (h : chI a ≠ chI b) : chE a b = true ∨ chE b a = true := by
  unfold chE
  simp only [Bool.or_eq_true, Bool.and_eq_true, decide_eq_true_eq]
  omega
theorem chE_t {a b c : zCh} (h1 : chE a b = true) (h2 : chE b c = true) : chE a c = true := by
  unfold chE at *
  simp only [Bool.or_eq_true, Bool.and_eq_true, decide_eq_true_eq] at *
  omega
theorem chE_a {a b : zCh} (h1 : chE a b = true) (h2 : chE b a = true) : False := by
  unfold chE at *
  simp only [Bool.or_eq_true, Bool.and_eq_true, decide_eq_true_eq] at *
  omega
/-- o is the eldest of S on the lawn l -/
def eldP (l : Nat) (S : List zCh) (o : Option (Nat × zCh)) : Prop := match o with
  | none => ∀ d ∈ S, chL d ≠ l
  | some q => q.2 ∈ S ∧ chL q.2 = l ∧ ∀ d ∈ S, chL d = l → d = q.2 ∨ chE q.2 d = true
theorem eldF_P {l : Nat} : ∀ (t : List zCh) (k : Nat) (o : Option (Nat × zCh)) (S : List zCh), ((S ++ t).map chI).Nodup → eldP l S o → eldP l (S ++ t) (eldF l t k o)
  | [], k, o, S, nd, h => by rw [List.append_nil]; exact h
  | c :: t, k, o, S, nd, h => by
    rw [show S ++ c :: t = (S ++ [c]) ++ t by rw [List.append_assoc]; rfl] at nd ⊢
    have nd2 : ((S ++ [c]).map chI).Nodup := by rw [List.map_append] at nd; exact (List.nodup_append.mp nd).1
    refine eldF_P t (k + 1) _ (S ++ [c]) nd ?_
    by_cases e1 : chL c = l
    · rcases o with _ | q
      · rw [if_pos ⟨e1, rfl⟩]
        refine ⟨List.mem_append_right _ List.mem_cons_self, e1, fun d hd hl => ?_⟩
        rcases List.mem_append.mp hd with hd | hd
        · exact absurd hl (h d hd)
        · rw [List.mem_singleton.mp hd]; exact Or.inl rfl
      · obtain ⟨h1, h2, h3⟩ := h
        by_cases e2 : chE c q.2 = true
        · rw [if_pos ⟨e1, e2⟩]
          refine ⟨List.mem_append_right _ List.mem_cons_self, e1, fun d hd hl => ?_⟩
          rcases List.mem_append.mp hd with hd | hd
          · rcases h3 d hd hl with z | z
            · rw [z]; exact Or.inr e2
            · exact Or.inr (chE_t e2 z)
          · rw [List.mem_singleton.mp hd]; exact Or.inl rfl
        · rw [if_neg (fun z => e2 z.2)]
          refine ⟨List.mem_append_left _ h1, h2, fun d hd hl => ?_⟩
          rcases List.mem_append.mp hd with hd | hd
          · exact h3 d hd hl
          · rw [List.mem_singleton.mp hd]
            by_cases y : chI c = chI q.2
            · exact Or.inl (ch_inj nd2 (List.mem_append_right _ List.mem_cons_self) (List.mem_append_left _ h1) y)
            · rcases chE_o y with z | z
              · exact absurd z e2
              · exact Or.inr z
    · rw [if_neg (fun z => e1 z.1)]
      rcases o with _ | q
      · intro d hd
        rcases List.mem_append.mp hd with hd | hd
        · exact h d hd
        · rw [List.mem_singleton.mp hd]; exact e1
      · obtain ⟨h1, h2, h3⟩ := h
        refine ⟨List.mem_append_left _ h1, h2, fun d hd hl => ?_⟩
        rcases List.mem_append.mp hd with hd | hd
        · exact h3 d hd hl
        · rw [List.mem_singleton.mp hd] at hl; exact absurd hl e1
theorem eld_p {cs ds : List zCh} {l : Nat} (p : cs.Perm ds) (nd : (ds.map chI).Nodup) : eldI (eldF l ds 0 none) = eldI (eldF l cs 0 none) := by
  have a := eldF_P (l := l) ds 0 none [] nd (fun d hd => by cases hd)
  have b := eldF_P (l := l) cs 0 none [] ((p.map chI).nodup_iff.mpr nd) (fun d hd => by cases hd)
  rw [List.nil_append] at a b
  generalize eldF l ds 0 none = o at a ⊢
  generalize eldF l cs 0 none = o' at b ⊢
  rcases o with _ | q <;> rcases o' with _ | q'
  · rfl
  · exact absurd b.2.1 (a q'.2 (p.mem_iff.mp b.1))
  · exact absurd a.2.1 (b q.2 (p.mem_iff.mpr a.1))
  · show nI (chI q.2) = nI (chI q'.2)
    rcases a.2.2 q'.2 (p.mem_iff.mp b.1) b.2.1 with z | z
    · rw [z]
    · rcases b.2.2 q.2 (p.mem_iff.mpr a.1) a.2.1 with y | y
      · rw [y]
      · exact (chE_a z y).elim
