/-! CommandInput: all commands read -/
/-- the commands from p on, in at most n rounds, behind cs: the place of a fault, and what was read -/
def rdS (t : List Nat) : Nat → Nat → List (Nat × Nat × Nat) → Option Nat × List (Nat × Nat × Nat)
  | 0, p, cs => (some p, cs)
  | n + 1, p, cs => match rdC t p with
    | (none, p') => (some p', cs)
    | (some c, p') => if nx t p' = 0 then (none, cs ++ [c]) else if nx t p' = 59 then rdS t n (p' + 1) (cs ++ [c]) else (some p', cs ++ [c])
theorem rdS_n {t : List Nat} {n p p' : Nat} {cs : List (Nat × Nat × Nat)} (e : rdC t p = (none, p')) : rdS t (n + 1) p cs = (some p', cs) := by rw [rdS, e]
theorem rdS_z {t : List Nat} {n p p' : Nat} {cs : List (Nat × Nat × Nat)} {c : Nat × Nat × Nat} (e : rdC t p = (some c, p')) (e0 : nx t p' = 0) : rdS t (n + 1) p cs = (none, cs ++ [c]) := by rw [rdS, e]; exact if_pos e0
theorem rdS_c {t : List Nat} {n p p' : Nat} {cs : List (Nat × Nat × Nat)} {c : Nat × Nat × Nat} (e : rdC t p = (some c, p')) (e0 : nx t p' ≠ 0) (e1 : nx t p' = 59) : rdS t (n + 1) p cs = rdS t n (p' + 1) (cs ++ [c]) := by rw [rdS, e]; exact (if_neg e0).trans (if_pos e1)
theorem rdS_f {t : List Nat} {n p p' : Nat} {cs : List (Nat × Nat × Nat)} {c : Nat × Nat × Nat} (e : rdC t p = (some c, p')) (e0 : nx t p' ≠ 0) (e1 : nx t p' ≠ 59) : rdS t (n + 1) p cs = (some p', cs ++ [c]) := by rw [rdS, e]; exact (if_neg e0).trans (if_neg e1)
theorem rdP_l {t : List Nat} {k p : Nat} : p ≤ (rdP t k p).2.2 := by
  unfold rdP
  split
  · exact (rdN_p (t := t) (if k = 100 then 1 else 2) p none).1
  · split
    · exact Nat.le_succ _
    · exact Nat.le_refl _
theorem rdL_b {t : List Nat} : ∀ (ks : List Nat) (f : Bool) (p : Nat) (v : Nat × Nat), p ≤ (rdL t ks f p v).2 ∧ (rdL t ks f p v).2 ≤ p + 2 * ks.length
  | [], _, p, _ => ⟨Nat.le_refl _, Nat.le_add_right _ _⟩
  | k :: ks, f, p, v => by
    have h1 := rdP_p (t := t) (k := k) (p := p)
    have h2 := rdP_l (t := t) (k := k) (p := p)
    have h3 : (k :: ks).length = ks.length + 1 := rfl
    rw [rdL]
    split
    · have h4 := rdL_b (t := t) ks false (rdP t k p).2.2 (upV f v (rdP t k p).2.1)
      omega
    · show p ≤ (rdP t k p).2.2 ∧ (rdP t k p).2.2 ≤ _
      omega
theorem rdC_b {t : List Nat} {p p' : Nat} {o : Option (Nat × Nat × Nat)} (e : rdC t p = (o, p')) : p ≤ p' ∧ p' ≤ p + 7 ∧ (o.isSome = true → p + 1 ≤ p') := by
  by_cases h : shp (nx t p) = []
  · rw [rdC_e h] at e
    cases e
    exact ⟨Nat.le_refl _, Nat.le_add_right _ _, fun z => by cases z⟩
  · have h1 := rdL_b (t := t) (shp (nx t p)) true (p + 1) (0, 0)
    have h2 := shp_l (nx t p)
    rw [rdC, if_neg h] at e
    have e2 := congrArg Prod.snd e
    have e3 : (rdL t (shp (nx t p)) true (p + 1) (0, 0)).2 = p' := e2
    omega
set_option maxHeartbeats 4000000 in
set_option maxRecDepth 100000 in
theorem L_readCommands {X : zX} {l : Launch} {E : zG} {rm : Room} (hzs : zS E) (hst : l.stackTraces = false) (C : zC X cX1_readCommands RX1 2) (G : zGX X l E rm) {h0 : zH} {a : Nat} {t : List Nat} {S : Option Nat × List (Nat × Nat × Nat)} {Qr : Option Value → zH → Prop} {Qx : String → zH → Prop} (hr : rm = ({ frames := 5, cells := 0, slots := 0, locals := 108 } : Room)) (F : zF X (some .int) 0 0 Qr Qx) (hq : ∀ h' p', zIp h' a t p' S.2.length → zCm h' a S.2 → zFq h0 h' a (a + 5) → Qr (some (.int (oI S.1))) h') : ∀ n r p cs h, r + n = 61 → 2 * cs.length ≤ p → p ≤ 60 → zIp h a t p cs.length → zCm h a cs → zFq h0 h a (a + 5) → rdS t n p cs = S → zV X 0 0 h 12 [(0, .ref a), (1, .int (nI r))] [] := by
  subst hr
  intro n
  induction n with
  | zero =>
    intro r p cs h hrn h2 hp z m f eS
    refine zV.iload_n C dX1_readCommands_12 rfl ?_
    refine zV.bi (v := nI 60) C dX1_readCommands_13 (by decide) ?_
    refine zV.icmp_gt (tgt := 59) C dX1_readCommands_15 (by decide) (fun q15 => ?_) (fun q15 => ?_)
    · refine zV.aload_n C dX1_readCommands_59 rfl rfl ?_
      refine zV.gIv 165 (k := 5) C dX1_readCommands_60 zcl_X1 (by decide) rfl lk_X1_37 z.1.1.1 rfl (z.2.1) ?_
      refine zV.iret C F dX1_readCommands_63 rfl ?_
      subst eS
      exact hq h p z m f
    · exact absurd (nI_lt (by omega) (by omega)) q15
  | succ n ih =>
    intro r p cs h hrn h2 hp z m f eS
    refine zV.iload_n C dX1_readCommands_12 rfl ?_
    refine zV.bi (v := nI 60) C dX1_readCommands_13 (by decide) ?_
    refine zV.icmp_gt (tgt := 59) C dX1_readCommands_15 (by decide) (fun q15 => ?_) (fun q15 => ?_)
    · exact absurd (nlt (by omega) (by omega) (Int32.not_le.mpr q15)) (by omega)
    · rcases er : rdC t p with ⟨_ | c, p'⟩
      · refine zV.aload_n C dX1_readCommands_18 rfl rfl ?_
        refine zV.callV (n := 0) C G dX1_readCommands_19 (s_readCommand hzs hst h a p t cs z m (by omega) (by omega)) rfl ⟨cd_X1_readCommand, lk_X1_43, im_X1_readCommand, se_X1_X1_readCommand, in_X1⟩ ⟨⟨by decide, by decide⟩, by decide⟩ rfl rfl rfl z.1.1.1 ⟨rfl, by decide⟩ (zafR (fun h9 ⟨z9, m9, f9⟩ => ?_)) (zno)
        rw [er] at z9 m9 ⊢
        have e7 : cs ++ ((none, p') : Option (Nat × Nat × Nat) × Nat).1.toList = cs := List.append_nil _
        rw [e7] at z9 m9
        refine zV.if_ne (tgt := 30) C dX1_readCommands_22 (by decide) (fun q22 => ?_) (fun q22 => ?_)
        · exact absurd rfl q22
        · refine zV.aload_n C dX1_readCommands_25 rfl rfl ?_
          refine zV.gIv 165 (k := 5) C dX1_readCommands_26 zcl_X1 (by decide) rfl lk_X1_37 z9.1.1.1 rfl (z9.2.1) ?_
          refine zV.iret C F dX1_readCommands_29 rfl ?_
          rw [rdS_n er] at eS
          subst eS
          exact hq h9 p' z9 m9 (f.trans f9)
      · have hb := rdC_b er
        have hb2 := hb.2.2 rfl
        refine zV.aload_n C dX1_readCommands_18 rfl rfl ?_
        refine zV.callV (n := 0) C G dX1_readCommands_19 (s_readCommand hzs hst h a p t cs z m (by omega) (by omega)) rfl ⟨cd_X1_readCommand, lk_X1_43, im_X1_readCommand, se_X1_X1_readCommand, in_X1⟩ ⟨⟨by decide, by decide⟩, by decide⟩ rfl rfl rfl z.1.1.1 ⟨rfl, by decide⟩ (zafR (fun h9 ⟨z9, m9, f9⟩ => ?_)) (zno)
        rw [er] at z9 m9 ⊢
        have z9 : zIp h9 a t p' (cs ++ [c]).length := z9
        have m9 : zCm h9 a (cs ++ [c]) := m9
        refine zV.if_ne (tgt := 30) C dX1_readCommands_22 (by decide) (fun q22 => ?_) (fun q22 => ?_)
        · refine zV.aload_n C dX1_readCommands_30 rfl rfl ?_
          refine zV.callV (n := 0) C G dX1_readCommands_31 (s_next hzs hst h9 a t p' (cs ++ [c]).length z9 (by omega)) rfl ⟨cd_X1_next, lk_X1_46, im_X1_next, se_X1_X1_next, in_X1⟩ ⟨⟨by decide, by decide⟩, by decide⟩ rfl rfl rfl z9.1.1.1 ⟨rfl, by decide⟩ (zaf ?_) (zno)
          refine zV.if_ne (tgt := 39) C dX1_readCommands_34 (by decide) (fun q34 => ?_) (fun q34 => ?_)
          · have e0 : nx t p' ≠ 0 := fun y => q34 (by rw [y]; rfl)
            by_cases e1 : nx t p' = 59
            · refine zV.aload_n C dX1_readCommands_39 rfl rfl ?_
              refine zV.bi (v := nI 59) C dX1_readCommands_40 (by decide) ?_
              refine zV.callV (n := 1) C G dX1_readCommands_42 (s_readSign hzs hst h9 a t 59 p' (cs ++ [c]).length z9 (by omega) (by decide)) rfl ⟨cd_X1_readSign, lk_X1_50, im_X1_readSign, se_X1_X1_readSign, in_X1⟩ ⟨⟨by decide, by decide⟩, by decide⟩ rfl rfl rfl z9.1.1.1 ⟨rfl, by decide⟩ (zaf ?_) (zno)
              rw [if_pos e1, if_pos e1]
              refine zV.if_ne (tgt := 53) C dX1_readCommands_45 (by decide) (fun q45 => ?_) (fun q45 => ?_)
              · refine zV.iinc (lo' := [(0, _), (1, _)]) C dX1_readCommands_53 rfl (by decide) rfl rfl rfl ?_
                refine zV.goto (tgt := 12) C dX1_readCommands_56 (by decide) ?_
                rw [inc1]
                rw [rdS_c er e0 e1] at eS
                have hp9 : p' < t.length := by
                  rcases Nat.lt_or_ge p' t.length with y | y
                  · exact y
                  · exact absurd (nx_hi y) e0
                have ht := z.1.2.2.1
                exact ih (r + 1) (p' + 1) (cs ++ [c]) _ (by omega) (by rw [List.length_append]; show 2 * (cs.length + 1) ≤ _; omega) (by omega) (psH_i z9) m9 ((f.trans f9).sI (Nat.le_refl _) (by omega)) eS
              · exact absurd q45 (by decide)
            · refine zV.aload_n C dX1_readCommands_39 rfl rfl ?_
              refine zV.bi (v := nI 59) C dX1_readCommands_40 (by decide) ?_
              refine zV.callV (n := 1) C G dX1_readCommands_42 (s_readSign hzs hst h9 a t 59 p' (cs ++ [c]).length z9 (by omega) (by decide)) rfl ⟨cd_X1_readSign, lk_X1_50, im_X1_readSign, se_X1_X1_readSign, in_X1⟩ ⟨⟨by decide, by decide⟩, by decide⟩ rfl rfl rfl z9.1.1.1 ⟨rfl, by decide⟩ (zaf ?_) (zno)
              rw [if_neg e1, if_neg e1]
              refine zV.if_ne (tgt := 53) C dX1_readCommands_45 (by decide) (fun q45 => ?_) (fun q45 => ?_)
              · exact absurd rfl q45
              · refine zV.aload_n C dX1_readCommands_48 rfl rfl ?_
                refine zV.gIv 165 (k := 5) C dX1_readCommands_49 zcl_X1 (by decide) rfl lk_X1_37 z9.1.1.1 rfl ((psH_i z9).2.1) ?_
                refine zV.iret C F dX1_readCommands_52 rfl ?_
                rw [rdS_f er e0 e1] at eS
                subst eS
                exact hq _ p' (psH_i z9) m9 ((f.trans f9).sI (Nat.le_refl _) (by omega))
          · have hxx := nx_lt z9.1 p'
            have e0 : nx t p' = 0 := (n0 (by omega)).mp q34
            refine zV.ic (v := (-1)) C dX1_readCommands_37 (by decide) ?_
            refine zV.iret C F dX1_readCommands_38 rfl ?_
            rw [rdS_z er e0] at eS
            subst eS
            exact hq h9 p' z9 m9 (f.trans f9)
        · exact absurd (show nI 1 = 0 from q22) (by decide)
set_option maxHeartbeats 4000000 in
set_option maxRecDepth 100000 in
theorem s_readCommands {l : Launch} {E : zG} (hzs : zS E) (hst : l.stackTraces = false) (h : zH) (a : Nat) (t : List Nat) (hi : zIn h a t) : zMet l E yX1_readCommands cX1_readCommands 2 (some .int) ({ frames := 5, cells := 0, slots := 0, locals := 108 } : Room) 0 0 [.ref a] h (fun r h' => r = some (.int (oI (rdS t 61 0 []).1)) ∧ (∃ p', zIp h' a t p' (rdS t 61 0 []).2.length) ∧ zCm h' a (rdS t 61 0 []).2 ∧ zFq h h' a (a + 5)) (fun _ _ => False) := by
  refine zM_start hzs hst (by decide) (Nat.le_of_ble_eq_true rfl) (fun X C G F I => ?_)
  show zV X 0 0 _ 0 [(0, _)] []
  refine zV.aload_n C dX1_readCommands_0 rfl rfl ?_
  refine zV.ic (v := nI 0) C dX1_readCommands_1 (by decide) ?_
  refine zV.pI 165 (k := 5) C dX1_readCommands_2 zcl_X1 (by decide) rfl lk_X1_37 rfl hi.1.1 rfl ⟨rfl, rfl⟩ ?_
  refine zV.aload_n C dX1_readCommands_5 rfl rfl ?_
  refine zV.ic (v := nI 0) C dX1_readCommands_6 (by decide) ?_
  refine zV.pI 166 (k := 6) C dX1_readCommands_7 zcl_X1 (by decide) rfl lk_X1_40 rfl hi.1.1 rfl ⟨rfl, rfl⟩ ?_
  refine zV.ic (v := nI 0) C dX1_readCommands_10 (by decide) ?_
  refine zV.istore_n (lo' := [(0, _), (1, _)]) C dX1_readCommands_11 (by decide) rfl rfl rfl ?_
  exact L_readCommands (h0 := h) hzs hst C G rfl F (fun h' p' z m f => ⟨rfl, ⟨p', z⟩, m, f⟩) 61 0 0 [] _ (by omega) (Nat.le_refl _) (by omega) ⟨⟨hi.1, (hI_sI_f (by decide)).trans ((hI_sI_f (by decide)).trans hi.2.1), hi.2.2⟩, (hI_sI_f (by decide)).trans hI_sI, hI_sI⟩ (fun i c hc => by cases i <;> cases hc) (((zFq.refl h _ _).sI (Nat.le_refl _) (by omega)).sI (Nat.le_refl _) (by omega)) rfl
