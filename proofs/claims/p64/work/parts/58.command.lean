/-! CommandInput: a command read -/
def upV (f : Bool) (v : Nat × Nat) (o : Option Nat) : Nat × Nat := match o with
  | none => v
  | some x => if f = true then (x, v.2) else (v.1, x)
/-- the parts of a command: what they give, what is next -/
def rdL (t : List Nat) : List Nat → Bool → Nat → Nat × Nat → Option (Nat × Nat) × Nat
  | [], _, p, v => (some v, p)
  | k :: ks, f, p, v => if (rdP t k p).1 = true then rdL t ks false (rdP t k p).2.2 (upV f v (rdP t k p).2.1) else (none, (rdP t k p).2.2)
/-- a command -/
def rdC (t : List Nat) (p : Nat) : Option (Nat × Nat × Nat) × Nat := if shp (nx t p) = [] then (none, p) else ((rdL t (shp (nx t p)) true (p + 1) (0, 0)).1.map (fun v => (nx t p, v.1, v.2)), (rdL t (shp (nx t p)) true (p + 1) (0, 0)).2)
/-- while a command is read -/
def zRc (h0 h : zH) (a : Nat) (t : List Nat) (p : Nat) (cs : List (Nat × Nat × Nat)) (d : Nat) (v : Nat × Nat) : Prop := zIp h a t p cs.length ∧ zCm h a cs ∧ zFq h0 h a (a + 5) ∧ aI h (a + 2) cs.length = nI d ∧ aI h (a + 3) cs.length = nI v.1 ∧ aI h (a + 4) cs.length = nI v.2
theorem zIp_sa {h : zH} {a b i p n : Nat} {x : Int32} {t : List Nat} (q : zIp h a t p n) (hb : b ≠ a + 1) : zIp (saI h b i x) a t p n :=
  ⟨⟨q.1.1, q.1.2.1, q.1.2.2.1, fun j c hc => ⟨(aI_saI_a (Ne.symm hb)).trans (q.1.2.2.2 j c hc).1, (q.1.2.2.2 j c hc).2⟩⟩, q.2.1, q.2.2⟩
theorem zCm_sa {h : zH} {a b i : Nat} {x : Int32} {cs : List (Nat × Nat × Nat)} (q : zCm h a cs) (hi : cs.length ≤ i) : zCm (saI h b i x) a cs := fun j c hc => by
  obtain ⟨q1, q2, q3, q4⟩ := q j c hc
  have hj : j < cs.length := (List.getElem?_eq_some_iff.mp hc).1
  exact ⟨(aI_saI_i (by omega)).trans q1, (aI_saI_i (by omega)).trans q2, (aI_saI_i (by omega)).trans q3, q4⟩
theorem zRc_pr {h0 h : zH} {a p d : Nat} {t : List Nat} {cs : List (Nat × Nat × Nat)} {v : Nat × Nat} {f : Bool} {r : Bool × Option Nat × Nat} (q : zRc h0 h a t p cs d v) : zRc h0 (prH h a cs.length f r) a t r.2.2 cs d (upV f v r.2.1) := by
  obtain ⟨q1, q2, q3, q4, q5, q6⟩ := q
  obtain ⟨r1, o, p'⟩ := r
  have f1 : zFq h0 (psH h a p') a (a + 5) := q3.sI (Nat.le_refl _) (by omega)
  rcases o with _ | x
  · exact ⟨psH_i q1, q2, f1, q4, q5, q6⟩
  · rcases f with _ | _
    · exact ⟨zIp_sa (psH_i q1) (by show a + 4 ≠ a + 1; omega), zCm_sa q2 (Nat.le_refl _), f1.saI (by show a ≤ a + 4; omega) (by show a + 4 < a + 5; omega), (aI_saI_a (by show a + 2 ≠ a + 4; omega)).trans q4, (aI_saI_a (by show a + 3 ≠ a + 4; omega)).trans q5, aI_saI⟩
    · exact ⟨zIp_sa (psH_i q1) (by show a + 3 ≠ a + 1; omega), zCm_sa q2 (Nat.le_refl _), f1.saI (by show a ≤ a + 3; omega) (by show a + 3 < a + 5; omega), (aI_saI_a (by show a + 2 ≠ a + 3; omega)).trans q4, aI_saI, (aI_saI_a (by show a + 4 ≠ a + 3; omega)).trans q6⟩
theorem zRc_end {h0 h : zH} {a p d : Nat} {t : List Nat} {cs : List (Nat × Nat × Nat)} {v : Nat × Nat} (q : zRc h0 h a t p cs d v) (hd : d < 128) : zIp (sI h 166 a (nI (cs.length + 1))) a t p (cs ++ [(d, v.1, v.2)]).length ∧ zCm (sI h 166 a (nI (cs.length + 1))) a (cs ++ [(d, v.1, v.2)]) ∧ zFq h0 (sI h 166 a (nI (cs.length + 1))) a (a + 5) := by
  obtain ⟨q1, q2, q3, q4, q5, q6⟩ := q
  refine ⟨⟨⟨q1.1.1, (hI_sI_f (by decide)).trans q1.1.2.1, q1.1.2.2.1, q1.1.2.2.2⟩, (hI_sI_f (by decide)).trans q1.2.1, by rw [List.length_append]; exact hI_sI⟩, fun i c hc => ?_, q3.sI (Nat.le_refl _) (by omega)⟩
  rcases Nat.lt_trichotomy i cs.length with z | z | z
  · rw [List.getElem?_append_left z] at hc
    exact q2 i c hc
  · subst z
    rw [List.getElem?_concat_length] at hc
    cases hc
    exact ⟨q4, q5, q6, hd⟩
  · rw [List.getElem?_eq_none (by rw [List.length_append]; exact z)] at hc
    cases hc
theorem rdP_p {t : List Nat} {k p : Nat} : (rdP t k p).2.2 ≤ p + 2 := by
  unfold rdP
  split
  · have h1 := (rdN_p (t := t) (if k = 100 then 1 else 2) p none).2
    have h2 : (if k = 100 then 1 else 2) ≤ 2 := by split <;> decide
    exact Nat.le_trans h1 (Nat.add_le_add_left h2 p)
  · split
    · exact Nat.le_succ _
    · exact Nat.le_add_right _ _
theorem rdL_t {t : List Nat} {k p : Nat} {ks : List Nat} {f : Bool} {v : Nat × Nat} (e : (rdP t k p).1 = true) : rdL t (k :: ks) f p v = rdL t ks false (rdP t k p).2.2 (upV f v (rdP t k p).2.1) := by rw [rdL, if_pos e]
theorem rdL_f {t : List Nat} {k p : Nat} {ks : List Nat} {f : Bool} {v : Nat × Nat} (e : (rdP t k p).1 = false) : rdL t (k :: ks) f p v = (none, (rdP t k p).2.2) := by rw [rdL, if_neg (by rw [e]; decide)]
theorem drop_c {α : Type} {bs ks : List α} {i : Nat} {k : α} (e : bs.drop i = k :: ks) : bs[i]? = some k ∧ bs.drop (i + 1) = ks := by
  have h1 : (bs.drop i)[0]? = some k := by rw [e]; rfl
  rw [List.getElem?_drop, Nat.add_zero] at h1
  refine ⟨h1, ?_⟩
  have h2 : (bs.drop i).drop 1 = ks := by rw [e]; rfl
  rw [List.drop_drop] at h2
  exact h2
set_option maxHeartbeats 4000000 in
set_option maxRecDepth 100000 in
theorem L_readCommand {X : zX} {l : Launch} {E : zG} {rm : Room} (hzs : zS E) (hst : l.stackTraces = false) (C : zC X cX1_readCommand RX1 4) (G : zGX X l E rm) {h0 : zH} {a d q q2 : Nat} {t bs : List Nat} {cs : List (Nat × Nat × Nat)} {R : Option (Nat × Nat) × Nat} {Qr : Option Value → zH → Prop} {Qx : String → zH → Prop} (hr : rm = ({ frames := 4, cells := 0, slots := 0, locals := 85 } : Room)) (F : zF X (some .boolean) 0 0 Qr Qx) (hs : zSt E q q2 bs) (hl : bs.length < 100) (hk : ∀ k ∈ bs, k = 100 ∨ k = 110 ∨ (k ≠ 100 ∧ k ≠ 110 ∧ k < 128)) (hcs : cs.length < 60) (hq0 : R.1 = none → ∀ h' v', zRc h0 h' a t R.2 cs d v' → Qr (some (.int (nI 0))) h') (hq1 : ∀ v', R.1 = some v' → ∀ h', zRc h0 h' a t R.2 cs d v' → Qr (some (.int (nI 1))) (sI h' 166 a (nI (cs.length + 1)))) : ∀ ks i p v h f, i ≤ bs.length → p + 2 * ks.length < 880 → bs.drop i = ks → (f = true ↔ i = 0) → rdL t ks f p v = R → zRc h0 h a t p cs d v → zV X 0 0 h 70 [(0, .ref a), (1, .int (nI d)), (2, .retAddr q), (3, .int (nI i))] [] := by
  subst hr
  intro ks
  induction ks with
  | nil =>
    intro i p v h f hib hp ed hf eR z
    have hi : bs.length ≤ i := List.drop_eq_nil_iff.mp ed
    have hi2 : i = bs.length := by omega
    subst hi2
    refine zV.iload_n C dX1_readCommand_70 rfl ?_
    refine zV.aload_n C dX1_readCommand_71 rfl rfl ?_
    refine zV.callVR (n := 0) C G dX1_readCommand_72 (s_Slength hzs hst h q q2 bs hs hl) rfl ⟨cd_J0_length_8abf5, lk_X1_75, im_J0_length_8abf5, se_J0_J0_length_8abf5, in_J0⟩ ⟨⟨by decide, by decide⟩, by decide⟩ rfl rfl rfl (hs.1) (zaf ?_) (zno)
    refine zV.icmp_ge (tgt := 107) C dX1_readCommand_75 (by decide) (fun q75 => ?_) (fun q75 => ?_)
    · refine zV.aload_n C dX1_readCommand_107 rfl rfl ?_
      refine zV.dup C dX1_readCommand_108 rfl ?_
      refine zV.gIv 166 (k := 6) C dX1_readCommand_109 zcl_X1 (by decide) rfl lk_X1_40 z.1.1.1.1 rfl (z.1.2.2) ?_
      refine zV.ic (v := nI 1) C dX1_readCommand_112 (by decide) ?_
      refine zV.iadd C dX1_readCommand_113 ?_
      rw [show nI cs.length + nI 1 = nI (cs.length + 1) from nI_add _ _]
      refine zV.pI 166 (k := 6) C dX1_readCommand_114 zcl_X1 (by decide) rfl lk_X1_40 rfl z.1.1.1.1 rfl ⟨rfl, rfl⟩ ?_
      refine zV.ic (v := nI 1) C dX1_readCommand_117 (by decide) ?_
      refine zV.zret C F dX1_readCommand_118 rfl rfl ?_
      exact hq1 v (by rw [← eR]; rfl) _ (by rw [← eR]; exact z)
    · exact absurd (Int32.le_refl _) q75
  | cons k ks ih =>
    intro i p v h f hib hp ed hf eR z
    have ek := (drop_c ed).1
    have hi : i < bs.length := (List.getElem?_eq_some_iff.mp ek).1
    have hp2 : (k :: ks).length = ks.length + 1 := rfl
    have k128 : k < 128 := by have := hk k (List.mem_of_getElem? ek); omega
    refine zV.iload_n C dX1_readCommand_70 rfl ?_
    refine zV.aload_n C dX1_readCommand_71 rfl rfl ?_
    refine zV.callVR (n := 0) C G dX1_readCommand_72 (s_Slength hzs hst h q q2 bs hs hl) rfl ⟨cd_J0_length_8abf5, lk_X1_75, im_J0_length_8abf5, se_J0_J0_length_8abf5, in_J0⟩ ⟨⟨by decide, by decide⟩, by decide⟩ rfl rfl rfl (hs.1) (zaf ?_) (zno)
    refine zV.icmp_ge (tgt := 107) C dX1_readCommand_75 (by decide) (fun q75 => ?_) (fun q75 => ?_)
    · exact absurd (nle (by omega) (by omega) q75) (by omega)
    · refine zV.aload_n C dX1_readCommand_78 rfl rfl ?_
      refine zV.aload_n C dX1_readCommand_79 rfl rfl ?_
      refine zV.iload_n C dX1_readCommand_80 rfl ?_
      refine zV.callVR (n := 1) C G dX1_readCommand_81 (s_ScharAt hzs hst h q q2 bs hs hl i k ek k128) rfl ⟨cd_J0_charAt_5068e, lk_X1_78, im_J0_charAt_5068e, se_J0_J0_charAt_5068e, in_J0⟩ ⟨⟨by decide, by decide⟩, by decide⟩ rfl rfl rfl (hs.1) (zaf ?_) (zno)
      rcases f with _ | _
      · refine zV.iload_n C dX1_readCommand_84 rfl ?_
        refine zV.if_ne (tgt := 92) C dX1_readCommand_85 (by decide) (fun q85 => ?_) (fun q85 => ?_)
        · refine zV.ic (v := nI 0) C dX1_readCommand_92 (by decide) ?_
          refine zV.callV (n := 2) C G dX1_readCommand_93 (s_readPart hzs hst h a t k false p cs.length z.1 (by omega) hcs (hk k (List.mem_of_getElem? ek))) rfl ⟨cd_X1_readPart, lk_X1_82, im_X1_readPart, se_X1_X1_readPart, in_X1⟩ ⟨⟨by decide, by decide⟩, by decide⟩ rfl rfl rfl z.1.1.1.1 ⟨rfl, by decide⟩ (zaf ?_) (zno)
          refine zV.if_ne (tgt := 101) C dX1_readCommand_96 (by decide) (fun q96 => ?_) (fun q96 => ?_)
          · have e9 : (rdP t k p).1 = true := Bool.of_not_eq_false (fun z => q96 (b2n.mpr z))
            refine zV.iinc (lo' := [(0, _), (1, _), (2, _), (3, _)]) C dX1_readCommand_101 rfl (by decide) rfl rfl rfl ?_
            refine zV.goto (tgt := 70) C dX1_readCommand_104 (by decide) ?_
            rw [inc1]
            rw [rdL_t e9] at eR
            have hpp := rdP_p (t := t) (k := k) (p := p)
            exact ih (i + 1) _ _ _ false (by omega) (by have : (k :: ks).length = ks.length + 1 := rfl; omega) (drop_c ed).2 (by constructor <;> intro z9 <;> first | cases z9 | omega) eR (zRc_pr z)
          · have e9 : (rdP t k p).1 = false := b2n.mp q96
            refine zV.ic (v := nI 0) C dX1_readCommand_99 (by decide) ?_
            refine zV.zret C F dX1_readCommand_100 rfl rfl ?_
            rw [rdL_f e9] at eR
            exact hq0 (by rw [← eR]) _ _ (by rw [← eR]; exact zRc_pr z)
        · exact absurd (hf.mpr ((n0 (by omega)).mp q85)) (by decide)
      · refine zV.iload_n C dX1_readCommand_84 rfl ?_
        refine zV.if_ne (tgt := 92) C dX1_readCommand_85 (by decide) (fun q85 => ?_) (fun q85 => ?_)
        · exact absurd (by rw [hf.mp rfl]; rfl) q85
        · refine zV.ic (v := nI 1) C dX1_readCommand_88 (by decide) ?_
          refine zV.goto (tgt := 93) C dX1_readCommand_89 (by decide) ?_
          refine zV.callV (n := 2) C G dX1_readCommand_93 (s_readPart hzs hst h a t k true p cs.length z.1 (by omega) hcs (hk k (List.mem_of_getElem? ek))) rfl ⟨cd_X1_readPart, lk_X1_82, im_X1_readPart, se_X1_X1_readPart, in_X1⟩ ⟨⟨by decide, by decide⟩, by decide⟩ rfl rfl rfl z.1.1.1.1 ⟨rfl, by decide⟩ (zaf ?_) (zno)
          refine zV.if_ne (tgt := 101) C dX1_readCommand_96 (by decide) (fun q96 => ?_) (fun q96 => ?_)
          · have e9 : (rdP t k p).1 = true := Bool.of_not_eq_false (fun z => q96 (b2n.mpr z))
            refine zV.iinc (lo' := [(0, _), (1, _), (2, _), (3, _)]) C dX1_readCommand_101 rfl (by decide) rfl rfl rfl ?_
            refine zV.goto (tgt := 70) C dX1_readCommand_104 (by decide) ?_
            rw [inc1]
            rw [rdL_t e9] at eR
            have hpp := rdP_p (t := t) (k := k) (p := p)
            exact ih (i + 1) _ _ _ false (by omega) (by have : (k :: ks).length = ks.length + 1 := rfl; omega) (drop_c ed).2 (by constructor <;> intro z9 <;> first | cases z9 | omega) eR (zRc_pr z)
          · have e9 : (rdP t k p).1 = false := b2n.mp q96
            refine zV.ic (v := nI 0) C dX1_readCommand_99 (by decide) ?_
            refine zV.zret C F dX1_readCommand_100 rfl rfl ?_
            rw [rdL_f e9] at eR
            exact hq0 (by rw [← eR]) _ _ (by rw [← eR]; exact zRc_pr z)
theorem fin_n {h h' : zH} {a p : Nat} {t : List Nat} {cs : List (Nat × Nat × Nat)} (z : zIp h' a t p cs.length) (m : zCm h' a cs) (f : zFq h h' a (a + 5)) : zIp h' a t p (cs ++ (none : Option (Nat × Nat × Nat)).toList).length ∧ zCm h' a (cs ++ (none : Option (Nat × Nat × Nat)).toList) ∧ zFq h h' a (a + 5) := by
  rw [show (none : Option (Nat × Nat × Nat)).toList = [] from rfl, List.append_nil]
  exact ⟨z, m, f⟩
theorem shp_l (d : Nat) : (shp d).length ≤ 3 := by unfold shp; split <;> decide
theorem shp_k (d : Nat) : ∀ k ∈ shp d, k = 100 ∨ k = 110 ∨ (k ≠ 100 ∧ k ≠ 110 ∧ k < 128) := by unfold shp; split <;> decide
theorem rdC_e {t : List Nat} {p : Nat} (e : shp (nx t p) = []) : rdC t p = (none, p) := if_pos e
theorem rdC_n {t : List Nat} {p : Nat} (e : shp (nx t p) ≠ []) (e2 : (rdL t (shp (nx t p)) true (p + 1) (0, 0)).1 = none) : rdC t p = (none, (rdL t (shp (nx t p)) true (p + 1) (0, 0)).2) := by rw [rdC, if_neg e, e2]; rfl
theorem rdC_s {t : List Nat} {p : Nat} {v : Nat × Nat} (e : shp (nx t p) ≠ []) (e2 : (rdL t (shp (nx t p)) true (p + 1) (0, 0)).1 = some v) : rdC t p = (some (nx t p, v.1, v.2), (rdL t (shp (nx t p)) true (p + 1) (0, 0)).2) := by rw [rdC, if_neg e, e2]; rfl
set_option maxHeartbeats 4000000 in
set_option maxRecDepth 100000 in
theorem s_readCommand {l : Launch} {E : zG} (hzs : zS E) (hst : l.stackTraces = false) (h : zH) (a p : Nat) (t : List Nat) (cs : List (Nat × Nat × Nat)) (z : zIp h a t p cs.length) (hm : zCm h a cs) (hcs : cs.length < 60) (hp : p < 800) : zMet l E yX1_readCommand cX1_readCommand 4 (some .boolean) ({ frames := 4, cells := 0, slots := 0, locals := 85 } : Room) 0 0 [.ref a] h (fun r h' => r = some (.int (nI (b2 (rdC t p).1.isSome))) ∧ zIp h' a t (rdC t p).2 (cs ++ (rdC t p).1.toList).length ∧ zCm h' a (cs ++ (rdC t p).1.toList) ∧ zFq h h' a (a + 5)) (fun _ _ => False) := by
  refine zM_start hzs hst (by decide) (Nat.le_of_ble_eq_true rfl) (fun X C G F I => ?_)
  show zV X 0 0 _ 0 [(0, _)] []
  have hi := z.1
  have hd := nx_lt hi p
  have hsl := shp_l (nx t p)
  refine zV.aload_n C dX1_readCommand_0 rfl rfl ?_
  refine zV.callV (n := 0) C G dX1_readCommand_1 (s_next hzs hst h a t p cs.length z (by omega)) rfl ⟨cd_X1_next, lk_X1_46, im_X1_next, se_X1_X1_next, in_X1⟩ ⟨⟨by decide, by decide⟩, by decide⟩ rfl rfl rfl hi.1.1 ⟨rfl, by decide⟩ (zaf ?_) (zno)
  refine zV.istore_n (lo' := [(0, _), (1, _)]) C dX1_readCommand_4 (by decide) rfl rfl rfl ?_
  refine zV.iload_n C dX1_readCommand_5 rfl ?_
  refine zV.callS (n := 1) C G dX1_readCommand_6 (s_shapeOf hzs hst h (nx t p) hd) rfl ⟨cd_X1_shapeOf, lk_X1_66, st_X1_shapeOf, in_X1⟩ ⟨⟨by decide, by decide⟩, by decide⟩ rfl rfl rfl (zafX (fun r9 h9 ⟨q, q2, e1, e2, hs⟩ => ?_)) (zno)
  subst e1
  subst e2
  show zV X 0 0 h9 9 _ (.retAddr q :: _)
  refine zV.astore_n (lo' := [(0, _), (1, _), (2, _)]) C dX1_readCommand_9 rfl (by decide) rfl rfl rfl ?_
  refine zV.aload_n C dX1_readCommand_10 rfl rfl ?_
  refine zV.callVR (n := 0) C G dX1_readCommand_11 (s_SisEmpty hzs hst h9 q q2 (shp (nx t p)) hs (by omega)) rfl ⟨cd_J0_isEmpty_aae02, lk_X1_70, im_J0_isEmpty_aae02, se_J0_J0_isEmpty_aae02, in_J0⟩ ⟨⟨by decide, by decide⟩, by decide⟩ rfl rfl rfl (hs.1) (zaf ?_) (zno)
  refine zV.if_ne (tgt := 26) C dX1_readCommand_14 (by decide) (fun q14 => ?_) (fun q14 => ?_)
  · have e : shp (nx t p) = [] := List.length_eq_zero_iff.mp (by rcases Nat.eq_zero_or_pos (shp (nx t p)).length with z9 | z9; exact z9; exact absurd (by rw [if_neg (by omega)]; rfl) q14)
    refine zV.ic (v := nI 0) C dX1_readCommand_26 (by decide) ?_
    refine zV.zret C F dX1_readCommand_27 rfl rfl ?_
    rw [rdC_e e]
    exact ⟨rfl, fin_n z hm (zFq.refl _ _ _)⟩
  · have e : shp (nx t p) ≠ [] := fun z9 => by rw [z9] at q14; exact absurd q14 (by decide)
    refine zV.aload_n C dX1_readCommand_17 rfl rfl ?_
    refine zV.gIv 166 (k := 6) C dX1_readCommand_18 zcl_X1 (by decide) rfl lk_X1_40 (hi.1.1) rfl (z.2.2) ?_
    refine zV.bi (v := nI 60) C dX1_readCommand_21 (by decide) ?_
    refine zV.icmp_lt (tgt := 28) C dX1_readCommand_23 (by decide) (fun q23 => ?_) (fun q23 => ?_)
    · refine zV.aload_n C dX1_readCommand_28 rfl rfl ?_
      refine zV.dup C dX1_readCommand_29 rfl ?_
      refine zV.gIv 165 (k := 5) C dX1_readCommand_30 zcl_X1 (by decide) rfl lk_X1_37 hi.1.1 rfl (z.2.1) ?_
      refine zV.ic (v := nI 1) C dX1_readCommand_33 (by decide) ?_
      refine zV.iadd C dX1_readCommand_34 ?_
      rw [show nI p + nI 1 = nI (p + 1) from nI_add _ _]
      refine zV.pI 165 (k := 5) C dX1_readCommand_35 zcl_X1 (by decide) rfl lk_X1_37 rfl hi.1.1 rfl ⟨rfl, rfl⟩ ?_
      have hcn : hI (psH h9 a (p + 1)) 166 a = nI cs.length := (hI_sI_f (by decide)).trans z.2.2
      refine zV.aload_n C dX1_readCommand_38 rfl rfl ?_
      refine zV.gR 161 (k := 1) C dX1_readCommand_39 zcl_X1 (by decide) rfl lk_X1_15 hi.1.1 rfl (hi.1.2.2.1) ?_
      refine zV.aload_n C dX1_readCommand_42 rfl rfl ?_
      refine zV.gIv 166 (k := 6) C dX1_readCommand_43 zcl_X1 (by decide) rfl lk_X1_40 hi.1.1 rfl (hcn) ?_
      refine zV.iload_n C dX1_readCommand_46 rfl ?_
      refine zV.cast (j := cs.length) C dX1_readCommand_47 hi.1.2.2.2.2.2.2.1.1 (rfl) (by show cs.length < hL h9 (a + 2); rw [hi.1.2.2.2.2.2.2.1.2]; exact hcs) (by omega) (nar_c _ hd).2 ?_
      refine zV.aload_n C dX1_readCommand_48 rfl rfl ?_
      refine zV.gR 162 (k := 2) C dX1_readCommand_49 zcl_X1 (by decide) rfl lk_X1_18 hi.1.1 rfl (hi.1.2.2.2.1) ?_
      refine zV.aload_n C dX1_readCommand_52 rfl rfl ?_
      refine zV.gIv 166 (k := 6) C dX1_readCommand_53 zcl_X1 (by decide) rfl lk_X1_40 hi.1.1 rfl (hcn) ?_
      refine zV.ic (v := nI 0) C dX1_readCommand_56 (by decide) ?_
      refine zV.iast (j := cs.length) C dX1_readCommand_57 hi.1.2.2.2.2.2.2.2.1.1 (rfl) (by show cs.length < hL h9 (a + 3); rw [hi.1.2.2.2.2.2.2.2.1.2]; exact hcs) (by omega) ?_
      refine zV.aload_n C dX1_readCommand_58 rfl rfl ?_
      refine zV.gR 163 (k := 3) C dX1_readCommand_59 zcl_X1 (by decide) rfl lk_X1_22 hi.1.1 rfl (hi.1.2.2.2.2.1) ?_
      refine zV.aload_n C dX1_readCommand_62 rfl rfl ?_
      refine zV.gIv 166 (k := 6) C dX1_readCommand_63 zcl_X1 (by decide) rfl lk_X1_40 hi.1.1 rfl (hcn) ?_
      refine zV.ic (v := nI 0) C dX1_readCommand_66 (by decide) ?_
      refine zV.iast (j := cs.length) C dX1_readCommand_67 hi.1.2.2.2.2.2.2.2.2.1 (rfl) (by show cs.length < hL h9 (a + 4); rw [hi.1.2.2.2.2.2.2.2.2.2]; exact hcs) (by omega) ?_
      refine zV.ic (v := nI 0) C dX1_readCommand_68 (by decide) ?_
      refine zV.istore_n (lo' := [(0, _), (1, _), (2, _), (3, _)]) C dX1_readCommand_69 (by decide) rfl rfl rfl ?_
      have z3 : zRc h9 (saI (saI (saI (psH h9 a (p + 1)) (a + 2) cs.length (nI (nx t p))) (a + 3) cs.length (nI 0)) (a + 4) cs.length (nI 0)) a t (p + 1) cs (nx t p) (0, 0) :=
        ⟨zIp_sa (zIp_sa (zIp_sa (psH_i z) (by omega)) (by omega)) (by omega), zCm_sa (zCm_sa (zCm_sa hm (Nat.le_refl _)) (Nat.le_refl _)) (Nat.le_refl _), ((((zFq.refl h9 a (a + 5)).sI (Nat.le_refl _) (by omega)).saI (by omega) (by omega)).saI (by omega) (by omega)).saI (by omega) (by omega), (aI_saI_a (by omega)).trans ((aI_saI_a (by omega)).trans aI_saI), (aI_saI_a (by omega)).trans aI_saI, aI_saI⟩
      refine L_readCommand hzs hst C G rfl F hs (by omega) (shp_k _) hcs (fun e2 h' v' zz => ?_) (fun v' e2 h' zz => ?_) (shp (nx t p)) 0 (p + 1) (0, 0) _ true (Nat.zero_le _) (by omega) rfl (by simp) rfl z3
      · rw [rdC_n e e2]
        exact ⟨rfl, fin_n zz.1 zz.2.1 zz.2.2.1⟩
      · rw [rdC_s e e2]
        exact ⟨rfl, zRc_end zz hd⟩
    · exact absurd (nI_lt hcs (by decide)) q23
