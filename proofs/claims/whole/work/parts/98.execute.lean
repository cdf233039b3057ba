/-! the reference: execute -/
theorem rdS_app {t : List Nat} : ∀ n p cs, rdS t n p cs = ((rdS t n p []).1, cs ++ (rdS t n p []).2)
  | 0, p, cs => by show (some p, cs) = (some p, cs ++ []); rw [List.append_nil]
  | n + 1, p, cs => by
    rcases e : rdC t p with ⟨_ | c, p'⟩
    · rw [rdS_n e, rdS_n e]; show (some p', cs) = (some p', cs ++ []); rw [List.append_nil]
    · by_cases e0 : nx t p' = 0
      · rw [rdS_z e e0, rdS_z e e0]; rfl
      · by_cases e1 : nx t p' = 59
        · rw [rdS_c e e0 e1, rdS_c e e0 e1, rdS_app n (p' + 1) (cs ++ [c]), rdS_app n (p' + 1) ([] ++ [c])]
          show (_, (cs ++ [c]) ++ _) = (_, cs ++ ([c] ++ _))
          rw [List.append_assoc]
        · rw [rdS_f e e0 e1, rdS_f e e0 e1]; rfl
def c123 : String → Nat := fun Ex => if Ex = IAE then 1 else if Ex = ISE then 2 else 3
theorem c123_1 : c123 IAE = 1 := if_pos rfl
theorem c123_2 : c123 ISE = 2 := by unfold c123; rw [if_neg (by decide), if_pos rfl]
theorem c123_3 : c123 UOE = 3 := by unfold c123; rw [if_neg (by decide), if_neg (by decide)]
/-- the second pass's end *)-/
def ex2 (H : zH) (r : Nat) (g : zGd) (K : List (Nat × Nat × Nat)) (no : Int32) : Prop := (¬ (pfC g K).1 < K.length ∧ no = nI 0 ∧ rG (aI H (r + 1)) (pfC g K).2.1) ∨ ((pfC g K).1 < K.length ∧ (((pfC g K).2.2.1 ≠ 3 ∧ (no = nI 1 ∨ no = nI 2)) ∨ ((pfC g K).2.2.1 = 3 ∧ no = -1 ∧ hI H 431 r = nI (pfC g K).2.2.2.1)))
theorem ex2_t {H : zH} {r : Nat} {g : zGd} {no : Int32} {c : Nat × Nat × Nat} {K : List (Nat × Nat × Nat)} (e : (jd g c.1 (nI c.2.1) (nI c.2.2)).1 = 0) (q : ex2 H r (ap g c.1 (nI c.2.1) (nI c.2.2)).1 K no) : ex2 H r g (c :: K) no := by
  unfold ex2 at q ⊢
  rw [pfC_t e]
  rcases q with ⟨q1, q2, q3⟩ | ⟨q1, q2⟩
  · exact Or.inl ⟨fun z => q1 (Nat.lt_of_succ_lt_succ z), q2, q3⟩
  · exact Or.inr ⟨Nat.succ_lt_succ q1, q2⟩
theorem ex_K {t : List Nat} {n p p9 : Nat} {c : Nat × Nat × Nat} {K : List (Nat × Nat × Nat)} (e : rdC t p = (some c, p9)) (h : rdS t (n + 1) p [] = (none, K)) : ∃ K8, K = c :: K8 := by
  by_cases e0 : nx t p9 = 0
  · rw [rdS_z e e0] at h
    exact ⟨[], (Prod.mk.inj h).2.symm⟩
  · by_cases e1 : nx t p9 = 59
    · rw [rdS_c e e0 e1, rdS_app] at h
      exact ⟨_, (Prod.mk.inj h).2.symm⟩
    · rw [rdS_f e e0 e1] at h
      cases h
set_option maxHeartbeats 4000000 in
set_option maxRecDepth 100000 in
theorem s_ex14 {X : zX} {l : Launch} {E : zG} {rm : Room} (hzs : zS E) (hst : l.stackTraces = false) (C : zC X cX10_execute RX10 6) (G : zGX X l E rm) {h : zH} {r : Nat} (kk : zV X 0 0 h 54 [(0, .ref r), (1, .int (nI 0))] []) : zV X 0 0 h 14 [(0, .ref r), (1, .int (nI 0))] [] := by
  
  refine zV.iload_n C dX10_execute_14 rfl ?_
  refine zV.if_eq (tgt := 54) C dX10_execute_15 (by decide) (fun q15 => ?_) (fun q15 => ?_)
  · exact kk
  · exact absurd rfl q15
set_option maxHeartbeats 4000000 in
set_option maxRecDepth 100000 in
theorem L_ex1 {X : zX} {l : Launch} {E : zG} {rm : Room} (hzs : zS E) (hst : l.stackTraces = false) (C : zC X cX10_execute RX10 6) (G : zGX X l E rm) {h : zH} {r : Nat} {t : List Nat} {σ : Option Nat} (hr : rm = ({ frames := 6, cells := 0, slots := 0, locals := 138 } : Room)) (hm0 : zMs h r) (kk : ∀ H9 p9, rE h H9 r [427, 428] [8] → rAt H9 r t p9 → (∀ f, σ = some f → p9 = f) → zV X 0 0 H9 54 [(0, .ref r), (1, .int (nI (b2 σ.isNone)))] []) : ∀ n p cs H, rE h H r [427, 428] [8] → rAt H r t (rdC t p).2 → 60 ≤ p + n → σ = (rdS t (n + 1) p cs).1 → zV X 0 0 H 14 [(0, .ref r), (1, .int (nI (b2 (rdC t p).1.isSome)))] [] := by
  subst hr
  intro n
  induction n using Nat.strongRecOn with
  | _ n ih =>
    intro p cs H E A hn eS
    have hm := E.m hm0
    have h60 := A.1.2.1
    rcases e : rdC t p with ⟨_ | c, p9⟩
    · rw [e] at A
      rw [rdS_n e] at eS
      subst eS
      show zV X 0 0 H 14 [(0, .ref r), (1, .int (nI 0))] []
      exact s_ex14 hzs hst C G (kk H p9 E A (fun f z => by cases z; rfl))
      skip
    · rw [e] at A
      have A : rAt H r t p9 := A
      show zV X 0 0 H 14 [(0, .ref r), (1, .int (nI 1))] []
      refine zV.iload_n C dX10_execute_14 rfl ?_
      refine zV.if_eq (tgt := 54) C dX10_execute_15 (by decide) (fun q15 => ?_) (fun q15 => ?_)
      · exact absurd q15 (by decide)
      · refine zV.aload_n C dX10_execute_18 rfl rfl ?_
        refine zV.gIv 427 (k := 11) C dX10_execute_19 zcl_X10 (by decide) rfl lk_X10_216 hm.1 rfl (A.2.1) ?_
        refine zV.aload_n C dX10_execute_22 rfl rfl ?_
        refine zV.gIv 426 (k := 10) C dX10_execute_23 zcl_X10 (by decide) rfl lk_X10_213 hm.1 rfl (A.1.1) ?_
        rcases nx_rA A with ⟨z1, z2⟩ | ⟨z1, z2, z3, z4, z5⟩
        · rw [rdS_z e z2] at eS
          subst eS
          refine zV.icmp_ge (tgt := 54) C dX10_execute_26 (by decide) (fun q26 => ?_) (fun q26 => ?_)
          · exact kk H p9 E A (fun f z => by cases z)
          · exact absurd (nI_le (by omega) (by omega)) q26
        · refine zV.icmp_ge (tgt := 54) C dX10_execute_26 (by decide) (fun q26 => ?_) (fun q26 => ?_)
          · exact absurd (nle (by omega) (by omega) q26) (by omega)
          · refine zV.aload_n C dX10_execute_29 rfl rfl ?_
            refine zV.bi (v := nI 59) C dX10_execute_30 (by decide) ?_
            refine zV.callV (n := 1) C G dX10_execute_32 (s_mtakes hzs hst H r hm t p9 59 A (by decide)) rfl ⟨cd_X10_takes, lk_X10_233, im_X10_takes, se_X10_X10_takes, in_X10⟩ ⟨⟨by decide, by decide⟩, by decide⟩ rfl rfl rfl hm.1 ⟨rfl, by decide⟩ (zafR (fun H2 ⟨E2, A2⟩ => ?_)) (zno)
            refine zV.if_eq (tgt := 49) C dX10_execute_35 (by decide) (fun q35 => ?_) (fun q35 => ?_)
            · have n2 := dcn q35
              rw [if_neg n2] at A2
              rw [rdS_f e (by omega) n2] at eS
              have E9 : rE h H2 r [427, 428] [8] := (E.trans E2).mono (by simp) (by simp)
              refine zV.ic (v := nI 0) C dX10_execute_49 (by decide) ?_
              refine zV.istore_n (lo' := [(0, _), (1, _)]) C dX10_execute_50 (by decide) rfl rfl rfl ?_
              refine zV.goto (tgt := 14) C dX10_execute_51 (by decide) ?_
              first
                | (have z := ih n9 (by omega) (p9 + 1) _ H3 E9 A3 (by omega) eS
                   rw [n3] at z
                   exact z)
                | (subst eS
                   exact s_ex14 hzs hst C G (kk H2 p9 E9 A2 (fun f z => by cases z; rfl)))
            · have n2 := dcy q35
              rw [if_pos n2] at A2
              rw [rdS_c e (by omega) n2] at eS
              have m2 := E2.m hm
              have hlt := (rdC_b e).2.2 rfl
              obtain ⟨n9, rfl⟩ : ∃ n9, n = n9 + 1 := ⟨n - 1, by omega⟩
              refine zV.aload_n C dX10_execute_38 rfl rfl ?_
              refine zV.callV (n := 0) C G dX10_execute_39 (s_misCommand hzs hst H2 r m2 t (p9 + 1) A2) rfl ⟨cd_X10_isCommand, lk_X10_237, im_X10_isCommand, se_X10_X10_isCommand, in_X10⟩ ⟨⟨by decide, by decide⟩, by decide⟩ rfl rfl rfl m2.1 ⟨rfl, by decide⟩ (zafR (fun H3 ⟨E3, A3, w3⟩ => ?_)) (zno)
              refine zV.if_eq (tgt := 49) C dX10_execute_42 (by decide) (fun q42 => ?_) (fun q42 => ?_)
              · have E9 : rE h H3 r [427, 428] [8] := ((E.trans E2).trans E3).mono (by simp) (by simp)
                have n3 := q42
                refine zV.ic (v := nI 0) C dX10_execute_49 (by decide) ?_
                refine zV.istore_n (lo' := [(0, _), (1, _)]) C dX10_execute_50 (by decide) rfl rfl rfl ?_
                refine zV.goto (tgt := 14) C dX10_execute_51 (by decide) ?_
                first
                  | (have z := ih n9 (by omega) (p9 + 1) _ H3 E9 A3 (by omega) eS
                     rw [n3] at z
                     exact z)
                  | (subst eS
                     exact s_ex14 hzs hst C G (kk H2 p9 E9 A2 (fun f z => by cases z; rfl)))
              · have E9 : rE h H3 r [427, 428] [8] := ((E.trans E2).trans E3).mono (by simp) (by simp)
                have n3 : nI (b2 (rdC t (p9 + 1)).1.isSome) = nI 1 := by
                  rcases z : (rdC t (p9 + 1)).1.isSome
                  · rw [z] at q42; exact absurd rfl q42
                  · rfl
                refine zV.ic (v := nI 1) C dX10_execute_45 (by decide) ?_
                refine zV.goto (tgt := 50) C dX10_execute_46 (by decide) ?_
                refine zV.istore_n (lo' := [(0, _), (1, _)]) C dX10_execute_50 (by decide) rfl rfl rfl ?_
                refine zV.goto (tgt := 14) C dX10_execute_51 (by decide) ?_
                first
                  | (have z := ih n9 (by omega) (p9 + 1) _ H3 E9 A3 (by omega) eS
                     rw [n3] at z
                     exact z)
                  | (subst eS
                     exact s_ex14 hzs hst C G (kk H2 p9 E9 A2 (fun f z => by cases z; rfl)))
set_option maxHeartbeats 4000000 in
set_option maxRecDepth 100000 in
theorem s_ex89 {X : zX} {l : Launch} {E : zG} {rm : Room} (hzs : zS E) (hst : l.stackTraces = false) (C : zC X cX10_execute RX10 6) (G : zGX X l E rm) {h : zH} {r : Nat} {x1 x2 x3 : Int32} (kk : zV X 0 0 h 134 [(0, .ref r), (1, .int x1), (2, .int x2), (3, .int x3), (4, .int (nI 0))] []) : zV X 0 0 h 89 [(0, .ref r), (1, .int x1), (2, .int x2), (3, .int x3), (4, .int (nI 0))] [] := by
  
  refine zV.iload C dX10_execute_89 rfl ?_
  refine zV.if_eq (tgt := 134) C dX10_execute_91 (by decide) (fun q91 => ?_) (fun q91 => ?_)
  · exact kk
  · exact absurd rfl q91
set_option maxHeartbeats 4000000 in
set_option maxRecDepth 100000 in
theorem L_ex2 {X : zX} {l : Launch} {E : zG} {rm : Room} (hzs : zS E) (hst : l.stackTraces = false) (C : zC X cX10_execute RX10 6) (G : zGX X l E rm) {h : zH} {r : Nat} {t : List Nat} (hr : rm = ({ frames := 6, cells := 0, slots := 0, locals := 138 } : Room)) (hm0 : zMs h r) : ∀ n p g n9 x H m K, rE h H r [435, 427, 428, 434, 431, 432, 433] [1, 2, 8] → aI H (r + 2) = aI h (r + 2) → hI H 435 r = hI h 435 r → (hI H 431 r = hI h 431 r ∧ hI H 432 r = hI h 432 r ∧ hI H 433 r = hI h 433 r) → rAt H r t p → rG (aI H (r + 1)) g → gR m g → m + 600 * n + 3600 ≤ big → 60 ≤ p + n → rdS t (n + 1) p [] = (none, K) → (kk : ∀ H9 x1 no, rE h H9 r [435, 427, 428, 434, 431, 432, 433] [1, 2, 8] → aI H9 (r + 2) = aI h (r + 2) → hI H9 435 r = hI h 435 r → (no = nI 0 ∨ no = nI 1 ∨ no = nI 2 → hI H9 431 r = hI h 431 r ∧ hI H9 432 r = hI h 432 r ∧ hI H9 433 r = hI h 433 r) → ex2 H9 r g K no → zV X 0 0 H9 134 [(0, .ref r), (1, .int x1), (2, .int (nI (n9 + (pfC g K).1))), (3, .int no), (4, .int (nI 0))] []) → zV X 0 0 H 89 [(0, .ref r), (1, .int x), (2, .int (nI n9)), (3, .int (nI 0)), (4, .int (nI 1))] [] := by
  subst hr
  intro n
  induction n using Nat.strongRecOn with
  | _ n ih =>
    intro p g n9 x H m K E q2 q5 q3 A hg hR hb hn eS kk
    have hm := E.m hm0
    have h60 := A.1.2.1
    rcases e : rdC t p with ⟨_ | c, p9⟩
    · rw [rdS_n e] at eS; cases eS
    obtain ⟨d, a, b⟩ := c
    have hD : isD d := rdC_D e
    refine zV.iload C dX10_execute_89 rfl ?_
    refine zV.if_eq (tgt := 134) C dX10_execute_91 (by decide) (fun q91 => ?_) (fun q91 => ?_)
    · exact absurd q91 (by decide)
    · refine zV.aload_n C dX10_execute_94 rfl rfl ?_
      refine zV.callV (n := 0) C G dX10_execute_95 (s_misCommand hzs hst H r hm t p A) rfl ⟨cd_X10_isCommand, lk_X10_237, im_X10_isCommand, se_X10_X10_isCommand, in_X10⟩ ⟨⟨by decide, by decide⟩, by decide⟩ rfl rfl rfl hm.1 ⟨rfl, by decide⟩ (zafR (fun H3 ⟨E3, A3, w3⟩ => ?_)) (zno)
      rw [show (rdC t p).1.isSome = true from by rw [e]; rfl]
      show zV X _ _ H3 98 _ (.int (nI 1) :: _)
      rw [e] at A3
      have A3 : rAt H3 r t p9 := A3
      obtain ⟨u1, u2, u3⟩ := w3 d a b (by rw [e])
      have m3 := E3.m hm
      have hg3 : rG (aI H3 (r + 1)) g := by rw [E3.r (by decide)]; exact hg
      refine zV.istore_n (lo' := [(0, _), (1, _), (2, _), (3, _), (4, _)]) C dX10_execute_98 (by decide) rfl rfl rfl ?_
      refine zV.aload_n C dX10_execute_99 rfl rfl ?_
      refine zV.callV (n := 0) C G dX10_execute_100 (s_mcarries hzs hst H3 r m g m3 hg3 hR (by omega) d a b hD u1 u2 u3) rfl ⟨cd_X10_carries, lk_X10_241, im_X10_carries, se_X10_X10_carries, in_X10⟩ ⟨⟨by decide, by decide⟩, by decide⟩ rfl rfl rfl m3.1 ⟨rfl, by decide⟩ (zafX (fun v1 H4 q1 => ?_)) (zno)
      rcases q1 with ⟨e1, rfl, f1, rfl, p1⟩ | ⟨e1, rfl, e9⟩ | ⟨e1, rfl, e9⟩ | ⟨e1, rfl, rfl⟩
      · show zV X 0 0 _ 103 _ [.int (nI 0)]
        generalize hA9 : (ap g d (nI a) (nI b)).2 = v9
        have E4 : rE H3 (sI (sRow H3 (r + 1) f1) 434 r v9) r [434] [1] := (rE.a.trans rE.i).mono (by simp) (by simp)
        have A4 := rAt_e A3 E4 (by decide) (by decide)
        have m4 := E4.m m3
        have F4 : rE h (sI (sRow H3 (r + 1) f1) 434 r v9) r [435, 427, 428, 434, 431, 432, 433] [1, 2, 8] := ((E.trans E3).trans E4).mono (by simp) (by simp)
        have g4 : rG (aI (sI (sRow H3 (r + 1) f1) 434 r v9) (r + 1)) (ap g d (nI a) (nI b)).1 := by rw [show aI (sI (sRow H3 (r + 1) f1) 434 r v9) (r + 1) = f1 from aI_sRow]; exact p1
        have T4 := q5
        have t4 : aI (sI (sRow H3 (r + 1) f1) 434 r v9) (r + 2) = aI h (r + 2) := (E4.r (by decide)).trans ((E3.r (by decide)).trans q2)
        have s4 : hI (sI (sRow H3 (r + 1) f1) 434 r v9) 435 r = hI h 435 r := (E4.f (by decide)).trans ((E3.f (by decide)).trans q5)
        have v4 : hI (sI (sRow H3 (r + 1) f1) 434 r v9) 431 r = hI h 431 r ∧ hI (sI (sRow H3 (r + 1) f1) 434 r v9) 432 r = hI h 432 r ∧ hI (sI (sRow H3 (r + 1) f1) 434 r v9) 433 r = hI h 433 r := ⟨(E4.f (by decide)).trans ((E3.f (by decide)).trans q3.1), (E4.f (by decide)).trans ((E3.f (by decide)).trans q3.2.1), (E4.f (by decide)).trans ((E3.f (by decide)).trans q3.2.2)⟩
        have hR4 := ap_R hD hR e1
        generalize sI (sRow H3 (r + 1) f1) 434 r v9 = H4 at *
        refine zV.istore_n (lo' := [(0, _), (1, _), (2, _), (3, _), (4, _)]) C dX10_execute_103 (by decide) rfl rfl rfl ?_
        refine zV.iload_n C dX10_execute_104 rfl ?_
        refine zV.if_ne (tgt := 111) C dX10_execute_105 (by decide) (fun q105 => ?_) (fun q105 => ?_)
        · exact absurd rfl q105
        · refine zV.iinc (lo' := [(0, _), (1, _), (2, _), (3, _), (4, _)]) C dX10_execute_108 rfl (by decide) rfl rfl rfl ?_
          refine zV.iload_n C dX10_execute_111 rfl ?_
          refine zV.if_ne (tgt := 128) C dX10_execute_112 (by decide) (fun q112 => ?_) (fun q112 => ?_)
          · exact absurd rfl q112
          · refine zV.aload_n C dX10_execute_115 rfl rfl ?_
            refine zV.bi (v := nI 59) C dX10_execute_116 (by decide) ?_
            refine zV.callV (n := 1) C G dX10_execute_118 (s_mtakes hzs hst H4 r m4 t p9 59 A4 (by decide)) rfl ⟨cd_X10_takes, lk_X10_233, im_X10_takes, se_X10_X10_takes, in_X10⟩ ⟨⟨by decide, by decide⟩, by decide⟩ rfl rfl rfl m4.1 ⟨rfl, by decide⟩ (zafR (fun H5 ⟨E5, A5⟩ => ?_)) (zno)
            refine zV.if_eq (tgt := 128) C dX10_execute_121 (by decide) (fun q121 => ?_) (fun q121 => ?_)
            · have n2 := dcn q121
              rw [if_neg n2] at A5
              have n0 : nx t p9 = 0 := by
                rcases Nat.eq_zero_or_pos (nx t p9) with z | z
                · exact z
                · rw [rdS_f e (by omega) n2] at eS; cases eS
              rw [rdS_z e n0] at eS
              obtain rfl : [(d, a, b)] = K := (Prod.mk.inj eS).2
              refine zV.ic (v := nI 0) C dX10_execute_128 (by decide) ?_
              refine zV.istore (lo' := [(0, _), (1, _), (2, _), (3, _), (4, _)]) C dX10_execute_129 (by decide) rfl rfl rfl ?_
              refine zV.goto (tgt := 89) C dX10_execute_131 (by decide) ?_
              have F5 : rE h H5 r [435, 427, 428, 434, 431, 432, 433] [1, 2, 8] := (F4.trans E5).mono (by simp) (by simp)
              have g5 : rG (aI H5 (r + 1)) (ap g d (nI a) (nI b)).1 := by rw [E5.r (by decide)]; exact g4
              have t5 := (E5.r (i := 2) (by decide)).trans t4
              have s5 := (E5.f (f := 435) (by decide)).trans s4
              have v5 : hI H5 431 r = hI h 431 r ∧ hI H5 432 r = hI h 432 r ∧ hI H5 433 r = hI h 433 r := ⟨(E5.f (by decide)).trans v4.1, (E5.f (by decide)).trans v4.2.1, (E5.f (by decide)).trans v4.2.2⟩
              rw [inc1]
              first
                | (have eP : pfC g [(d, a, b)] = (1, (ap g d (nI a) (nI b)).1, (0, 0, 0)) := by rw [pfC_t (c := (d, a, b)) e1]; rfl
                   have z := kk H5 (nI 1) (nI 0) F5 t5 s5 (fun _ => v5) (Or.inl ⟨by rw [eP]; exact Nat.lt_irrefl 1, rfl, by rw [eP]; exact g5⟩)
                   rw [eP] at z
                   exact s_ex89 hzs hst C G z)
                | (refine ih n7 (by omega) (p9 + 1) (ap g d (nI a) (nI b)).1 (n9 + 1) (nI 1) H5 (m + 600) (rdS t (n7 + 1) (p9 + 1) []).2 F5 t5 s5 v5 A5 g5 hR4 (by omega) (by omega) (by rw [← s1]) (fun H9 x1 no a1 a2 a3 a4 a5 => ?_)
                   have eP := pfC_t (c := (d, a, b)) (ks := (rdS t (n7 + 1) (p9 + 1) []).2) e1
                   have z := kk H9 x1 no a1 a2 a3 a4 (ex2_t (c := (d, a, b)) e1 a5)
                   rw [List.nil_append, List.singleton_append, eP] at z
                   rw [show n9 + 1 + (pfC (ap g d (nI a) (nI b)).1 (rdS t (n7 + 1) (p9 + 1) []).2).1 = n9 + ((pfC (ap g d (nI a) (nI b)).1 (rdS t (n7 + 1) (p9 + 1) []).2).1 + 1) by omega]
                   exact z)
            · have n2 := dcy q121
              rw [if_pos n2] at A5
              rw [rdS_c e (by omega) n2, rdS_app] at eS
              have hlt := (rdC_b e).2.2 rfl
              have hp9 : p9 < 60 := by
                rcases nx_rA A4 with ⟨z1, z2⟩ | ⟨z1, z2, z3, z4, z5⟩
                · omega
                · exact z5
              obtain ⟨n7, rfl⟩ : ∃ n7, n = n7 + 1 := ⟨n - 1, by omega⟩
              obtain ⟨s1, s2⟩ := Prod.mk.inj eS
              subst s2
              refine zV.ic (v := nI 1) C dX10_execute_124 (by decide) ?_
              refine zV.goto (tgt := 129) C dX10_execute_125 (by decide) ?_
              refine zV.istore (lo' := [(0, _), (1, _), (2, _), (3, _), (4, _)]) C dX10_execute_129 (by decide) rfl rfl rfl ?_
              refine zV.goto (tgt := 89) C dX10_execute_131 (by decide) ?_
              have F5 : rE h H5 r [435, 427, 428, 434, 431, 432, 433] [1, 2, 8] := (F4.trans E5).mono (by simp) (by simp)
              have g5 : rG (aI H5 (r + 1)) (ap g d (nI a) (nI b)).1 := by rw [E5.r (by decide)]; exact g4
              have t5 := (E5.r (i := 2) (by decide)).trans t4
              have s5 := (E5.f (f := 435) (by decide)).trans s4
              have v5 : hI H5 431 r = hI h 431 r ∧ hI H5 432 r = hI h 432 r ∧ hI H5 433 r = hI h 433 r := ⟨(E5.f (by decide)).trans v4.1, (E5.f (by decide)).trans v4.2.1, (E5.f (by decide)).trans v4.2.2⟩
              rw [inc1]
              first
                | (have eP : pfC g [(d, a, b)] = (1, (ap g d (nI a) (nI b)).1, (0, 0, 0)) := by rw [pfC_t (c := (d, a, b)) e1]; rfl
                   have z := kk H5 (nI 1) (nI 0) F5 t5 s5 (fun _ => v5) (Or.inl ⟨by rw [eP]; exact Nat.lt_irrefl 1, rfl, by rw [eP]; exact g5⟩)
                   rw [eP] at z
                   exact s_ex89 hzs hst C G z)
                | (refine ih n7 (by omega) (p9 + 1) (ap g d (nI a) (nI b)).1 (n9 + 1) (nI 1) H5 (m + 600) (rdS t (n7 + 1) (p9 + 1) []).2 F5 t5 s5 v5 A5 g5 hR4 (by omega) (by omega) (by rw [← s1]) (fun H9 x1 no a1 a2 a3 a4 a5 => ?_)
                   have eP := pfC_t (c := (d, a, b)) (ks := (rdS t (n7 + 1) (p9 + 1) []).2) e1
                   have z := kk H9 x1 no a1 a2 a3 a4 (ex2_t (c := (d, a, b)) e1 a5)
                   rw [List.nil_append, List.singleton_append, eP] at z
                   rw [show n9 + 1 + (pfC (ap g d (nI a) (nI b)).1 (rdS t (n7 + 1) (p9 + 1) []).2).1 = n9 + ((pfC (ap g d (nI a) (nI b)).1 (rdS t (n7 + 1) (p9 + 1) []).2).1 + 1) by omega]
                   exact z)
      · obtain rfl := e9.symm
        show zV X 0 0 _ 103 _ [.int (nI 1)]
        obtain ⟨K8, rfl⟩ := ex_K e eS
        have eP := pfC_f (g := g) (c := (d, a, b)) (ks := K8) (show (jd g d (nI a) (nI b)).1 ≠ 0 by omega)
        refine zV.istore_n (lo' := [(0, _), (1, _), (2, _), (3, _), (4, _)]) C dX10_execute_103 (by decide) rfl rfl rfl ?_
        refine zV.iload_n C dX10_execute_104 rfl ?_
        refine zV.if_ne (tgt := 111) C dX10_execute_105 (by decide) (fun q105 => ?_) (fun q105 => ?_)
        · refine zV.iload_n C dX10_execute_111 rfl ?_
          refine zV.if_ne (tgt := 128) C dX10_execute_112 (by decide) (fun q112 => ?_) (fun q112 => ?_)
          · refine zV.ic (v := nI 0) C dX10_execute_128 (by decide) ?_
            refine zV.istore (lo' := [(0, _), (1, _), (2, _), (3, _), (4, _)]) C dX10_execute_129 (by decide) rfl rfl rfl ?_
            refine zV.goto (tgt := 89) C dX10_execute_131 (by decide) ?_
            have z := kk H3 (nI 1) (nI 1) ((E.trans E3).mono (by simp) (by simp)) ((E3.r (by decide)).trans q2) ((E3.f (by decide)).trans q5) (fun _ => ⟨(E3.f (by decide)).trans q3.1, (E3.f (by decide)).trans q3.2.1, (E3.f (by decide)).trans q3.2.2⟩) (Or.inr ⟨by rw [eP]; exact Nat.succ_pos _, Or.inl ⟨by rw [eP]; show (jd g d (nI a) (nI b)).1 ≠ 3; omega, Or.inl rfl⟩⟩)
            rw [eP] at z
            exact s_ex89 hzs hst C G z
          · exact absurd q112 (by decide)
        · exact absurd q105 (by decide)
      · obtain rfl := e9.symm
        show zV X 0 0 _ 103 _ [.int (nI 2)]
        obtain ⟨K8, rfl⟩ := ex_K e eS
        have eP := pfC_f (g := g) (c := (d, a, b)) (ks := K8) (show (jd g d (nI a) (nI b)).1 ≠ 0 by omega)
        refine zV.istore_n (lo' := [(0, _), (1, _), (2, _), (3, _), (4, _)]) C dX10_execute_103 (by decide) rfl rfl rfl ?_
        refine zV.iload_n C dX10_execute_104 rfl ?_
        refine zV.if_ne (tgt := 111) C dX10_execute_105 (by decide) (fun q105 => ?_) (fun q105 => ?_)
        · refine zV.iload_n C dX10_execute_111 rfl ?_
          refine zV.if_ne (tgt := 128) C dX10_execute_112 (by decide) (fun q112 => ?_) (fun q112 => ?_)
          · refine zV.ic (v := nI 0) C dX10_execute_128 (by decide) ?_
            refine zV.istore (lo' := [(0, _), (1, _), (2, _), (3, _), (4, _)]) C dX10_execute_129 (by decide) rfl rfl rfl ?_
            refine zV.goto (tgt := 89) C dX10_execute_131 (by decide) ?_
            have z := kk H3 (nI 1) (nI 2) ((E.trans E3).mono (by simp) (by simp)) ((E3.r (by decide)).trans q2) ((E3.f (by decide)).trans q5) (fun _ => ⟨(E3.f (by decide)).trans q3.1, (E3.f (by decide)).trans q3.2.1, (E3.f (by decide)).trans q3.2.2⟩) (Or.inr ⟨by rw [eP]; exact Nat.succ_pos _, Or.inl ⟨by rw [eP]; show (jd g d (nI a) (nI b)).1 ≠ 3; omega, Or.inr rfl⟩⟩)
            rw [eP] at z
            exact s_ex89 hzs hst C G z
          · exact absurd q112 (by decide)
        · exact absurd q105 (by decide)
      · show zV X 0 0 _ 103 _ [.int (-1)]
        obtain ⟨K8, rfl⟩ := ex_K e eS
        have eP := pfC_f (g := g) (c := (d, a, b)) (ks := K8) (show (jd g d (nI a) (nI b)).1 ≠ 0 by omega)
        refine zV.istore_n (lo' := [(0, _), (1, _), (2, _), (3, _), (4, _)]) C dX10_execute_103 (by decide) rfl rfl rfl ?_
        refine zV.iload_n C dX10_execute_104 rfl ?_
        refine zV.if_ne (tgt := 111) C dX10_execute_105 (by decide) (fun q105 => ?_) (fun q105 => ?_)
        · refine zV.iload_n C dX10_execute_111 rfl ?_
          refine zV.if_ne (tgt := 128) C dX10_execute_112 (by decide) (fun q112 => ?_) (fun q112 => ?_)
          · refine zV.ic (v := nI 0) C dX10_execute_128 (by decide) ?_
            refine zV.istore (lo' := [(0, _), (1, _), (2, _), (3, _), (4, _)]) C dX10_execute_129 (by decide) rfl rfl rfl ?_
            refine zV.goto (tgt := 89) C dX10_execute_131 (by decide) ?_
            have E7 : rE H3 (rjM H3 r (nI (jd g d (nI a) (nI b)).2.1) (jd g d (nI a) (nI b)).2.2) r [431, 432, 433] [] := ((rE.i.trans rE.i).trans rE.i).mono (by simp) (by simp)
            have z := kk _ (nI 1) (-1) (((E.trans E3).trans E7).mono (by simp) (by simp)) ((E7.r (by decide)).trans ((E3.r (by decide)).trans q2)) ((E7.f (by decide)).trans ((E3.f (by decide)).trans q5)) (fun w => by rcases w with w | w | w <;> exact absurd w (by decide)) (Or.inr ⟨by rw [eP]; exact Nat.succ_pos _, Or.inr ⟨by rw [eP]; exact e1, rfl, by rw [eP]; exact (hI_sI_f (by decide)).trans ((hI_sI_f (by decide)).trans hI_sI)⟩⟩)
            rw [eP] at z
            exact s_ex89 hzs hst C G z
          · exact absurd q112 (by decide)
        · exact absurd q105 (by decide)
def exM (r : Nat) (g : zGd) (us : List zGd) (sn : Option zGd) (off rs dt cs : Int32) (t o : List Nat) (h' : zH) : Prop := match rdS t 61 0 [] with
  | (some p, _) => rSt h' r g us sn (nI p) rs dt cs [] o
  | (none, K9) => if (pfC g K9).1 < K9.length then (if (pfC g K9).2.2.1 = 3 then rSt h' r g us sn off (nI 11) (nI (pfC g K9).1) (nI (pfC g K9).2.2.2.1) [] o else rSt h' r g us sn off rs dt cs [] o) else rSt h' r (pfC g K9).2.1 (kp us g) sn off rs dt cs [] o
def exQ (h : zH) (r : Nat) (g : zGd) (us : List zGd) (sn : Option zGd) (off rs dt cs : Int32) (t o : List Nat) : Option Value → zH → Prop := fun v h' => v = some (match exA g t with | .inl _ => .int (nI 0) | .inr w => w) ∧ hI h' 435 r = nI (match exA g t with | .inl Ex => c123 Ex | .inr _ => 0) ∧ rE h h' r [420, 426, 427, 428, 430, 431, 432, 433, 434, 435] [1, 2, 4, 8] ∧ exM r g us sn off rs dt cs t o h'
theorem ex_fin {h H : zH} {r : Nat} {g : zGd} {us : List zGd} {sn : Option zGd} {off rs dt cs : Int32} {t o : List Nat} {g9 : zGd} {us9 : List zGd} {a b c d : Int32} (q : rSt h r g us sn off rs dt cs t o) (E : rE h H r [420, 426, 427, 428, 430, 431, 432, 433, 434, 435] [1, 2, 4, 8]) (hg9 : rG (aI H (r + 1)) g9) (k9 : rKp H r us9) (l0 : hI H 426 r = nI 0) (n9 : rNm H r a b c d) : rSt H r g9 us9 sn a b c d [] o :=
  ⟨E.m q.1, hg9, k9, rSv_e q.2.2.2.1 E (by decide) (by decide), n9, ⟨l0, Nat.zero_le _, fun i c hc => by cases hc⟩, rOt_e q.2.2.2.2.2.2 E (by decide) (by decide)⟩
theorem ex_1 {h H : zH} {r f : Nat} {g : zGd} {us : List zGd} {sn : Option zGd} {off rs dt cs : Int32} {t o : List Nat} {K : List (Nat × Nat × Nat)} (q : rSt h r g us sn off rs dt cs t o) (E : rE h H r [435, 427, 428] [2, 8]) (e : rdS t 61 0 [] = (some f, K)) : exQ h r g us sn off rs dt cs t o (some (.int (nI 0))) (sI (sI (sI H 430 r (nI f)) 426 r (nI 0)) 435 r (nI 1)) := by
  have E1 : rE H (sI (sI (sI H 430 r (nI f)) 426 r (nI 0)) 435 r (nI 1)) r [430, 426, 435] [] := ((rE.i.trans rE.i).trans rE.i).mono (by simp) (by simp)
  have E2 : rE h (sI (sI (sI H 430 r (nI f)) 426 r (nI 0)) 435 r (nI 1)) r [435, 427, 428, 430, 426] [2, 8] := (E.trans E1).mono (by simp) (by simp)
  have eA : exA g t = .inl IAE := by unfold exA; rw [e]
  refine ⟨by rw [eA], by rw [eA]; exact hI_sI.trans (congrArg nI c123_1.symm), E2.mono (by simp) (by simp), ?_⟩
  unfold exM
  rw [e]
  exact ex_fin q (E2.mono (by simp) (by simp)) (by rw [E2.r (by decide)]; exact q.2.1) (rKp_e q.2.2.1 E2 (by decide) (by decide)) ((hI_sI_f (by decide)).trans hI_sI) ⟨(hI_sI_f (by decide)).trans ((hI_sI_f (by decide)).trans hI_sI), (E2.f (by decide)).trans q.2.2.2.2.1.2.1, (E2.f (by decide)).trans q.2.2.2.2.1.2.2.1, (E2.f (by decide)).trans q.2.2.2.2.1.2.2.2⟩
/-- the end of a run of commands that are all carried out *)-/
theorem ex_0 {h H H2 : zH} {r : Nat} {g : zGd} {us : List zGd} {sn : Option zGd} {off rs dt cs : Int32} {t o : List Nat} {K : List (Nat × Nat × Nat)} (q : rSt h r g us sn off rs dt cs t o) (E : rE h H r [435, 427, 428, 434, 431, 432, 433] [1, 2, 8]) (th : hI H 435 r = nI 0) (e : rdS t 61 0 [] = (none, K)) (b1 : ¬ (pfC g K).1 < K.length) (b3 : rG (aI H (r + 1)) (pfC g K).2.1) (a4 : hI H 431 r = hI h 431 r ∧ hI H 432 r = hI h 432 r ∧ hI H 433 r = hI h 433 r) (E2 : rE (sI (sI H 426 r (nI 0)) 434 r (nI (pfC g K).1)) H2 r [420] [4]) (k2 : rKp H2 r (kp us g)) : exQ h r g us sn off rs dt cs t o (some (.int (nI (pfC g K).1))) H2 := by
  have E1 : rE H H2 r [426, 434, 420] [4] := ((rE.i.trans rE.i).trans E2).mono (by simp) (by simp)
  have E3 : rE h H2 r [435, 427, 428, 434, 431, 432, 433, 426, 420] [1, 2, 8, 4] := (E.trans E1).mono (by simp) (by simp)
  have eA : exA g t = .inr (.int (nI (pfC g K).1)) := by unfold exA; rw [e]; exact if_neg b1
  refine ⟨by rw [eA], by rw [eA]; exact (E1.f (by decide)).trans th, E3.mono (by simp) (by simp), ?_⟩
  unfold exM
  rw [e]
  show if (pfC g K).1 < K.length then _ else _
  rw [if_neg b1]
  exact ex_fin q (E3.mono (by simp) (by simp)) (by rw [E1.r (by decide)]; exact b3) k2 ((E2.f (by decide)).trans ((hI_sI_f (by decide)).trans hI_sI)) ⟨(E3.f (by decide)).trans q.2.2.2.2.1.1, (E1.f (by decide)).trans (a4.1.trans q.2.2.2.2.1.2.1), (E1.f (by decide)).trans (a4.2.1.trans q.2.2.2.2.1.2.2.1), (E1.f (by decide)).trans (a4.2.2.trans q.2.2.2.2.1.2.2.2)⟩
/-- the numbers put back *)-/
def bkH (H : zH) (r : Nat) : zH := sRow (sI H 426 r (nI 0)) (r + 1) (cpF (aI (sI H 426 r (nI 0)) (r + 2)) (aI (sI H 426 r (nI 0)) (r + 1)) 116)
theorem bk_g {H : zH} {r m : Nat} {g : zGd} (g2 : rG (aI H (r + 2)) g) (hR : gR m g) : rG (aI (bkH H r) (r + 1)) g := by
  rw [show aI (bkH H r) (r + 1) = cpF (aI (sI H 426 r (nI 0)) (r + 2)) (aI (sI H 426 r (nI 0)) (r + 1)) 116 from aI_sRow]
  exact rG_d (f := aI H (r + 2)) g2 hR (fun j hj => cpF_y hj)
theorem bk_E {H : zH} {r : Nat} : rE H (bkH H r) r [426] [1] := (rE.i.trans rE.a).mono (by simp) (by simp)
theorem ex_2 {h H : zH} {r m : Nat} {g : zGd} {us : List zGd} {sn : Option zGd} {off rs dt cs : Int32} {t o : List Nat} {K : List (Nat × Nat × Nat)} (q : rSt h r g us sn off rs dt cs t o) (hR : gR m g) (E : rE h H r [435, 427, 428, 434, 431, 432, 433] [1, 2, 8]) (g2 : rG (aI H (r + 2)) g) (e : rdS t 61 0 [] = (none, K)) (b1 : (pfC g K).1 < K.length) (b2 : (pfC g K).2.2.1 ≠ 3) (a4 : hI H 431 r = hI h 431 r ∧ hI H 432 r = hI h 432 r ∧ hI H 433 r = hI h 433 r) : exQ h r g us sn off rs dt cs t o (some (.int (nI 0))) (sI (bkH H r) 435 r (nI 2)) := by
  have E1 : rE H (sI (bkH H r) 435 r (nI 2)) r [426, 435] [1] := (bk_E.trans rE.i).mono (by simp) (by simp)
  have E3 : rE h (sI (bkH H r) 435 r (nI 2)) r [435, 427, 428, 434, 431, 432, 433, 426] [1, 2, 8] := (E.trans E1).mono (by simp) (by simp)
  have eA : exA g t = .inl ISE := by unfold exA; rw [e]; exact (if_pos b1).trans (if_neg b2)
  refine ⟨by rw [eA], by rw [eA]; exact hI_sI.trans (congrArg nI c123_2.symm), E3.mono (by simp) (by simp), ?_⟩
  unfold exM
  rw [e]
  show if (pfC g K).1 < K.length then _ else _
  rw [if_pos b1, if_neg b2]
  exact ex_fin q (E3.mono (by simp) (by simp)) (bk_g g2 hR) (rKp_e q.2.2.1 E3 (by decide) (by decide)) ((hI_sI_f (by decide)).trans hI_sI) ⟨(E3.f (by decide)).trans q.2.2.2.2.1.1, (E1.f (by decide)).trans (a4.1.trans q.2.2.2.2.1.2.1), (E1.f (by decide)).trans (a4.2.1.trans q.2.2.2.2.1.2.2.1), (E1.f (by decide)).trans (a4.2.2.trans q.2.2.2.2.1.2.2.2)⟩
theorem ex_3 {h H : zH} {r m : Nat} {g : zGd} {us : List zGd} {sn : Option zGd} {off rs dt cs : Int32} {t o : List Nat} {K : List (Nat × Nat × Nat)} (q : rSt h r g us sn off rs dt cs t o) (hR : gR m g) (E : rE h H r [435, 427, 428, 434, 431, 432, 433] [1, 2, 8]) (g2 : rG (aI H (r + 2)) g) (e : rdS t 61 0 [] = (none, K)) (b1 : (pfC g K).1 < K.length) (b2 : (pfC g K).2.2.1 = 3) : exQ h r g us sn off rs dt cs t o (some (.int (nI 0))) (sI (sI (sI (sI (bkH H r) 433 r (nI (pfC g K).2.2.2.1)) 431 r (nI 11)) 432 r (nI (pfC g K).1)) 435 r (nI 3)) := by
  have E1 : rE H (sI (sI (sI (sI (bkH H r) 433 r (nI (pfC g K).2.2.2.1)) 431 r (nI 11)) 432 r (nI (pfC g K).1)) 435 r (nI 3)) r [426, 433, 431, 432, 435] [1] := ((((bk_E.trans rE.i).trans rE.i).trans rE.i).trans rE.i).mono (by simp) (by simp)
  have E3 : rE h (sI (sI (sI (sI (bkH H r) 433 r (nI (pfC g K).2.2.2.1)) 431 r (nI 11)) 432 r (nI (pfC g K).1)) 435 r (nI 3)) r [435, 427, 428, 434, 431, 432, 433, 426] [1, 2, 8] := (E.trans E1).mono (by simp) (by simp)
  have eA : exA g t = .inl UOE := by unfold exA; rw [e]; exact (if_pos b1).trans (if_pos b2)
  refine ⟨by rw [eA], by rw [eA]; exact hI_sI.trans (congrArg nI c123_3.symm), E3.mono (by simp) (by simp), ?_⟩
  unfold exM
  rw [e]
  show if (pfC g K).1 < K.length then _ else _
  rw [if_pos b1, if_pos b2]
  exact ex_fin q (E3.mono (by simp) (by simp)) (bk_g g2 hR) (rKp_e q.2.2.1 E3 (by decide) (by decide)) ((hI_sI_f (by decide)).trans ((hI_sI_f (by decide)).trans ((hI_sI_f (by decide)).trans ((hI_sI_f (by decide)).trans hI_sI)))) ⟨(E3.f (by decide)).trans q.2.2.2.2.1.1, (hI_sI_f (by decide)).trans ((hI_sI_f (by decide)).trans hI_sI), (hI_sI_f (by decide)).trans hI_sI, (hI_sI_f (by decide)).trans ((hI_sI_f (by decide)).trans ((hI_sI_f (by decide)).trans hI_sI))⟩
set_option maxHeartbeats 4000000 in
set_option maxRecDepth 100000 in
theorem L_exbkE {X : zX} {l : Launch} {E : zG} {rm : Room} (hzs : zS E) (hst : l.stackTraces = false) (C : zC X cX10_execute RX10 6) (G : zGX X l E rm) {h1 : zH} {r : Nat} {x1 x2 x3 x4 : Int32} (kk : zV X 0 0 h1 186 [(0, .ref r), (1, .int x1), (2, .int x2), (3, .int x3), (4, .int x4), (5, .int (nI 116))] []) : zV X 0 0 h1 159 [(0, .ref r), (1, .int x1), (2, .int x2), (3, .int x3), (4, .int x4), (5, .int (nI 116))] [] := by
  
  refine zV.iload C dX10_execute_159 rfl ?_
  refine zV.bi (v := nI 116) C dX10_execute_161 (by decide) ?_
  refine zV.icmp_ge (tgt := 186) C dX10_execute_163 (by decide) (fun q163 => ?_) (fun q163 => ?_)
  · exact kk
  · exact absurd (by decide) q163
set_option maxHeartbeats 4000000 in
set_option maxRecDepth 100000 in
theorem L_exbk {X : zX} {l : Launch} {E : zG} {rm : Room} (hzs : zS E) (hst : l.stackTraces = false) (C : zC X cX10_execute RX10 6) (G : zGX X l E rm) {h : zH} {r : Nat} {x1 x2 x3 x4 : Int32} (hm : zMs h r)  (kk : zV X 0 0 (sRow h (r + 1) (cpF (aI h (r + 2)) (aI h (r + 1)) 116)) 186 [(0, .ref r), (1, .int x1), (2, .int x2), (3, .int x3), (4, .int x4), (5, .int (nI 116))] []) : ∀ n k, k + n = 116 → zV X 0 0 (sRow h (r + 1) (cpF (aI h (r + 2)) (aI h (r + 1)) k)) 159 [(0, .ref r), (1, .int x1), (2, .int x2), (3, .int x3), (4, .int x4), (5, .int (nI k))] [] := by
  intro n
  induction n with
  | zero =>
    intro k hk
    obtain rfl : k = 116 := by omega
    exact L_exbkE hzs hst C G kk
  | succ n ih =>
    intro k hk
    refine zV.iload C dX10_execute_159 rfl ?_
    refine zV.bi (v := nI 116) C dX10_execute_161 (by decide) ?_
    refine zV.icmp_ge (tgt := 186) C dX10_execute_163 (by decide) (fun q163 => ?_) (fun q163 => ?_)
    · exact absurd (nle (by omega) (by decide) q163) (by omega)
    · refine zV.aload_n C dX10_execute_166 rfl rfl ?_
      refine zV.gR 416 (k := 0) C dX10_execute_167 zcl_X10 (by decide) rfl lk_X10_9 (hm.1) rfl (hm.2.1) ?_
      refine zV.iload C dX10_execute_170 rfl ?_
      refine zV.aload_n C dX10_execute_172 rfl rfl ?_
      refine zV.gR 417 (k := 1) C dX10_execute_173 zcl_X10 (by decide) rfl lk_X10_13 (hm.1) rfl (hm.2.2.1) ?_
      refine zV.iload C dX10_execute_176 rfl ?_
      refine zV.ialdv (j := k) C dX10_execute_178 (hm.2.2.2.2.2.2.2.2.2.2.1.1) (rfl) (Nat.lt_of_lt_of_eq (show k < 116 by omega) (hm.2.2.2.2.2.2.2.2.2.2.1.2).symm) (by omega) ((show aI (sRow h (r + 1) (cpF (aI h (r + 2)) (aI h (r + 1)) k)) (r + 2) k = (aI h (r + 2)) k from by rw [aI_sRow_a (by omega)])) ?_
      refine zV.iast (j := k) C dX10_execute_179 (hm.2.2.2.2.2.2.2.2.2.1.1) (rfl) (Nat.lt_of_lt_of_eq (show k < 116 by omega) (hm.2.2.2.2.2.2.2.2.2.1.2).symm) (by omega) ?_
      rw [saI_row2, cpF_s]
      refine zV.iinc (lo' := [(0, _), (1, _), (2, _), (3, _), (4, _), (5, _)]) C dX10_execute_180 rfl (by decide) rfl rfl rfl ?_
      refine zV.goto (tgt := 159) C dX10_execute_183 (by decide) ?_
      rw [inc1]
      exact ih (k + 1) (by omega)
set_option maxHeartbeats 4000000 in
set_option maxRecDepth 100000 in
theorem s_ex186a {X : zX} {l : Launch} {E : zG} {rm : Room} (hzs : zS E) (hst : l.stackTraces = false) (C : zC X cX10_execute RX10 6) (G : zGX X l E rm) {h : zH} {r : Nat} {x1 x2 x3 x4 x5 : Int32} {Qr : Option Value → zH → Prop} {Qx : String → zH → Prop} (hr : rm = ({ frames := 6, cells := 0, slots := 0, locals := 138 } : Room)) (F : zF X (some .int) 0 0 Qr Qx) (hm : zMs h r) (hx : ¬ x3 ≤ 0) (hq : Qr (some (.int (nI 0))) (sI h 435 r (nI 2))) : zV X 0 0 h 186 [(0, .ref r), (1, .int x1), (2, .int x2), (3, .int x3), (4, .int x4), (5, .int x5)] [] := by
  subst hr
  refine zV.iload_n C dX10_execute_186 rfl ?_
  refine zV.if_le (tgt := 196) C dX10_execute_187 (by decide) (fun q187 => ?_) (fun q187 => ?_)
  · exact absurd q187 hx
  · refine zV.aload_n C dX10_execute_190 rfl rfl ?_
    refine zV.ic (v := nI 2) C dX10_execute_191 (by decide) ?_
    refine zV.callV (n := 1) C G dX10_execute_192 (s_mraises hzs hst h r hm (nI 2)) rfl ⟨cd_X10_raises, lk_X10_54, im_X10_raises, se_X10_X10_raises, in_X10⟩ ⟨⟨by decide, by decide⟩, by decide⟩ rfl rfl rfl (hm.1) ⟨rfl, by decide⟩ (zaf ?_) (zno)
    refine zV.iret C F dX10_execute_195 rfl ?_
    exact hq
set_option maxHeartbeats 4000000 in
set_option maxRecDepth 100000 in
theorem s_ex186b {X : zX} {l : Launch} {E : zG} {rm : Room} (hzs : zS E) (hst : l.stackTraces = false) (C : zC X cX10_execute RX10 6) (G : zGX X l E rm) {h : zH} {r : Nat} {x1 x2 x4 x5 v : Int32} {Qr : Option Value → zH → Prop} {Qx : String → zH → Prop} (hr : rm = ({ frames := 6, cells := 0, slots := 0, locals := 138 } : Room)) (F : zF X (some .int) 0 0 Qr Qx) (hm : zMs h r) (hv : hI h 431 r = v) (hq : Qr (some (.int (nI 0))) (sI (sI (sI (sI h 433 r v) 431 r (nI 11)) 432 r x2) 435 r (nI 3))) : zV X 0 0 h 186 [(0, .ref r), (1, .int x1), (2, .int x2), (3, .int (-1)), (4, .int x4), (5, .int x5)] [] := by
  subst hr
  refine zV.iload_n C dX10_execute_186 rfl ?_
  refine zV.if_le (tgt := 196) C dX10_execute_187 (by decide) (fun q187 => ?_) (fun q187 => ?_)
  · refine zV.aload_n C dX10_execute_196 rfl rfl ?_
    refine zV.aload_n C dX10_execute_197 rfl rfl ?_
    refine zV.gIv 431 (k := 15) C dX10_execute_198 zcl_X10 (by decide) rfl lk_X10_45 (hm.1) rfl (hv) ?_
    refine zV.pI 433 (k := 17) C dX10_execute_201 zcl_X10 (by decide) rfl lk_X10_51 rfl (hm.1) rfl ⟨rfl, rfl⟩ ?_
    refine zV.aload_n C dX10_execute_204 rfl rfl ?_
    refine zV.bi (v := nI 11) C dX10_execute_205 (by decide) ?_
    refine zV.pI 431 (k := 15) C dX10_execute_207 zcl_X10 (by decide) rfl lk_X10_45 rfl (hm.1) rfl ⟨rfl, rfl⟩ ?_
    refine zV.aload_n C dX10_execute_210 rfl rfl ?_
    refine zV.iload_n C dX10_execute_211 rfl ?_
    refine zV.pI 432 (k := 16) C dX10_execute_212 zcl_X10 (by decide) rfl lk_X10_48 rfl (hm.1) rfl ⟨rfl, rfl⟩ ?_
    refine zV.aload_n C dX10_execute_215 rfl rfl ?_
    refine zV.ic (v := nI 3) C dX10_execute_216 (by decide) ?_
    refine zV.callV (n := 1) C G dX10_execute_217 (s_mraises hzs hst (sI (sI (sI h 433 r v) 431 r (nI 11)) 432 r x2) r hm (nI 3)) rfl ⟨cd_X10_raises, lk_X10_54, im_X10_raises, se_X10_X10_raises, in_X10⟩ ⟨⟨by decide, by decide⟩, by decide⟩ rfl rfl rfl (hm.1) ⟨rfl, by decide⟩ (zaf ?_) (zno)
    refine zV.iret C F dX10_execute_220 rfl ?_
    exact hq
  · exact absurd (by decide) q187
set_option maxHeartbeats 4000000 in
set_option maxRecDepth 100000 in
theorem s_ex134 {X : zX} {l : Launch} {E : zG} {rm : Room} (hzs : zS E) (hst : l.stackTraces = false) (C : zC X cX10_execute RX10 6) (G : zGX X l E rm) {h H : zH} {r m : Nat} {g : zGd} {us : List zGd} {sn : Option zGd} {off rs dt cs : Int32} {t o : List Nat} {K : List (Nat × Nat × Nat)} {x1 no : Int32} {Qx : String → zH → Prop} (hr : rm = ({ frames := 6, cells := 0, slots := 0, locals := 138 } : Room)) (q : rSt h r g us sn off rs dt cs t o) (hI_ : rIv m g us sn) (F : zF X (some .int) 0 0 (exQ h r g us sn off rs dt cs t o) Qx) (E : rE h H r [435, 427, 428, 434, 431, 432, 433] [1, 2, 8]) (g2 : rG (aI H (r + 2)) g) (th : hI H 435 r = nI 0) (e : rdS t 61 0 [] = (none, K)) (a4 : no = nI 0 ∨ no = nI 1 ∨ no = nI 2 → hI H 431 r = hI h 431 r ∧ hI H 432 r = hI h 432 r ∧ hI H 433 r = hI h 433 r) (a5 : ex2 H r g K no) : zV X 0 0 H 134 [(0, .ref r), (1, .int x1), (2, .int (nI (pfC g K).1)), (3, .int no), (4, .int (nI 0))] [] := by
  subst hr
  have hm := E.m q.1
  rcases a5 with ⟨b1, rfl, b3⟩ | ⟨b1, ⟨b2, rfl | rfl⟩ | ⟨b2, rfl, b4⟩⟩
  · refine zV.aload_n C dX10_execute_134 rfl rfl ?_
    refine zV.ic (v := nI 0) C dX10_execute_135 (by decide) ?_
    refine zV.pI 426 (k := 10) C dX10_execute_136 zcl_X10 (by decide) rfl lk_X10_213 rfl hm.1 rfl ⟨rfl, rfl⟩ ?_
    refine zV.iload_n C dX10_execute_139 rfl ?_
    refine zV.if_ne (tgt := 156) C dX10_execute_140 (by decide) (fun q140 => ?_) (fun q140 => ?_)
    · exact absurd rfl q140
    · refine zV.aload_n C dX10_execute_143 rfl rfl ?_
      refine zV.aload_n C dX10_execute_144 rfl rfl ?_
      refine zV.iload_n C dX10_execute_145 rfl ?_
      refine zV.callV (n := 1) C G dX10_execute_146 (s_mdoes hzs hst (sI H 426 r (nI 0)) r hm (nI (pfC g K).1)) rfl ⟨cd_X10_does, lk_X10_100, im_X10_does, se_X10_X10_does, in_X10⟩ ⟨⟨by decide, by decide⟩, by decide⟩ rfl rfl rfl (hm.1) ⟨rfl, by decide⟩ (zaf ?_) (zno)
      refine zV.ic (v := nI 0) C dX10_execute_149 (by decide) ?_
      refine zV.ic (v := nI 0) C dX10_execute_150 (by decide) ?_
      refine zV.ic (v := nI 0) C dX10_execute_151 (by decide) ?_
      refine zV.callV (n := 4) C G dX10_execute_152 (s_mends0 hzs hst (sI (sI H 426 r (nI 0)) 434 r (nI (pfC g K).1)) r m us g (nI (pfC g K).1) (nI 0) (nI 0) (nI 0) hm (rKp_e q.2.2.1 (E.trans (rE.i.trans rE.i)) (by decide) (by decide)) hI_.2.1 g2 hI_.1 hI_sI) rfl ⟨cd_X10_ends, lk_X10_109, im_X10_ends, se_X10_X10_ends, in_X10⟩ ⟨⟨by decide, by decide⟩, by decide⟩ rfl rfl rfl (hm.1) ⟨rfl, by decide⟩ (zafR (fun H2 ⟨E2, k2⟩ => ?_)) (zno)
      refine zV.iret C F dX10_execute_155 rfl ?_
      exact ex_0 q E th e b1 b3 (a4 (Or.inl rfl)) E2 k2
  · refine zV.aload_n C dX10_execute_134 rfl rfl ?_
    refine zV.ic (v := nI 0) C dX10_execute_135 (by decide) ?_
    refine zV.pI 426 (k := 10) C dX10_execute_136 zcl_X10 (by decide) rfl lk_X10_213 rfl hm.1 rfl ⟨rfl, rfl⟩ ?_
    refine zV.iload_n C dX10_execute_139 rfl ?_
    refine zV.if_ne (tgt := 156) C dX10_execute_140 (by decide) (fun q140 => ?_) (fun q140 => ?_)
    · refine zV.ic (v := nI 0) C dX10_execute_156 (by decide) ?_
      refine zV.istore (lo' := [(0, _), (1, _), (2, _), (3, _), (4, _), (5, _)]) C dX10_execute_157 (by decide) rfl rfl rfl ?_
      have z := L_exbk (h := sI H 426 r (nI 0)) hzs hst C G hm (x1 := x1) (x2 := nI (pfC g K).1) (x3 := nI 1) (x4 := nI 0) (s_ex186a hzs hst C G rfl F hm (by decide) (ex_2 q hI_.1 E g2 e b1 b2 (a4 (Or.inr (Or.inl rfl))))) 116 0 rfl
      rw [cpF_0, sRow_at rfl] at z
      exact z
    · exact absurd q140 (by decide)
  · refine zV.aload_n C dX10_execute_134 rfl rfl ?_
    refine zV.ic (v := nI 0) C dX10_execute_135 (by decide) ?_
    refine zV.pI 426 (k := 10) C dX10_execute_136 zcl_X10 (by decide) rfl lk_X10_213 rfl hm.1 rfl ⟨rfl, rfl⟩ ?_
    refine zV.iload_n C dX10_execute_139 rfl ?_
    refine zV.if_ne (tgt := 156) C dX10_execute_140 (by decide) (fun q140 => ?_) (fun q140 => ?_)
    · refine zV.ic (v := nI 0) C dX10_execute_156 (by decide) ?_
      refine zV.istore (lo' := [(0, _), (1, _), (2, _), (3, _), (4, _), (5, _)]) C dX10_execute_157 (by decide) rfl rfl rfl ?_
      have z := L_exbk (h := sI H 426 r (nI 0)) hzs hst C G hm (x1 := x1) (x2 := nI (pfC g K).1) (x3 := nI 2) (x4 := nI 0) (s_ex186a hzs hst C G rfl F hm (by decide) (ex_2 q hI_.1 E g2 e b1 b2 (a4 (Or.inr (Or.inr rfl))))) 116 0 rfl
      rw [cpF_0, sRow_at rfl] at z
      exact z
    · exact absurd q140 (by decide)
  · refine zV.aload_n C dX10_execute_134 rfl rfl ?_
    refine zV.ic (v := nI 0) C dX10_execute_135 (by decide) ?_
    refine zV.pI 426 (k := 10) C dX10_execute_136 zcl_X10 (by decide) rfl lk_X10_213 rfl hm.1 rfl ⟨rfl, rfl⟩ ?_
    refine zV.iload_n C dX10_execute_139 rfl ?_
    refine zV.if_ne (tgt := 156) C dX10_execute_140 (by decide) (fun q140 => ?_) (fun q140 => ?_)
    · refine zV.ic (v := nI 0) C dX10_execute_156 (by decide) ?_
      refine zV.istore (lo' := [(0, _), (1, _), (2, _), (3, _), (4, _), (5, _)]) C dX10_execute_157 (by decide) rfl rfl rfl ?_
      have z := L_exbk (h := sI H 426 r (nI 0)) hzs hst C G hm (x1 := x1) (x2 := nI (pfC g K).1) (x3 := -1) (x4 := nI 0) (s_ex186b hzs hst C G rfl F hm ((bk_E.f (by decide)).trans b4) (ex_3 q hI_.1 E g2 e b1 b2)) 116 0 rfl
      rw [cpF_0, sRow_at rfl] at z
      exact z
    · exact absurd q140 (by decide)
set_option maxHeartbeats 4000000 in
set_option maxRecDepth 100000 in
theorem s_ex54 {X : zX} {l : Launch} {E : zG} {rm : Room} (hzs : zS E) (hst : l.stackTraces = false) (C : zC X cX10_execute RX10 6) (G : zGX X l E rm) {h H : zH} {r m p9 : Nat} {g : zGd} {us : List zGd} {sn : Option zGd} {off rs dt cs : Int32} {t o : List Nat} {Qx : String → zH → Prop} (hr : rm = ({ frames := 6, cells := 0, slots := 0, locals := 138 } : Room)) (q : rSt h r g us sn off rs dt cs t o) (hI_ : rIv m g us sn) (hb : m + 50000 ≤ big) (F : zF X (some .int) 0 0 (exQ h r g us sn off rs dt cs t o) Qx) (E : rE h H r [435, 427, 428] [2, 8]) (g2 : rG (aI H (r + 2)) g) (th : hI H 435 r = nI 0) (A : rAt H r t p9) (f9 : ∀ f, (rdS t 61 0 []).1 = some f → p9 = f) : zV X 0 0 H 54 [(0, .ref r), (1, .int (nI (b2 (rdS t 61 0 []).1.isNone)))] [] := by
  subst hr
  have hm := E.m q.1
  rcases e : rdS t 61 0 [] with ⟨_ | f, K⟩
  · show zV X 0 0 H 54 [(0, .ref r), (1, .int (nI 1))] []
    refine zV.iload_n C dX10_execute_54 rfl ?_
    refine zV.if_ne (tgt := 77) C dX10_execute_55 (by decide) (fun q55 => ?_) (fun q55 => ?_)
    · refine zV.aload_n C dX10_execute_77 rfl rfl ?_
      refine zV.ic (v := nI 0) C dX10_execute_78 (by decide) ?_
      refine zV.pI 427 (k := 11) C dX10_execute_79 zcl_X10 (by decide) rfl lk_X10_216 rfl hm.1 rfl ⟨rfl, rfl⟩ ?_
      refine zV.ic (v := nI 0) C dX10_execute_82 (by decide) ?_
      refine zV.istore_n (lo' := [(0, _), (1, _), (2, _)]) C dX10_execute_83 (by decide) rfl rfl rfl ?_
      refine zV.ic (v := nI 0) C dX10_execute_84 (by decide) ?_
      refine zV.istore_n (lo' := [(0, _), (1, _), (2, _), (3, _)]) C dX10_execute_85 (by decide) rfl rfl rfl ?_
      refine zV.ic (v := nI 1) C dX10_execute_86 (by decide) ?_
      refine zV.istore (lo' := [(0, _), (1, _), (2, _), (3, _), (4, _)]) C dX10_execute_87 (by decide) rfl rfl rfl ?_
      have Ea : rE H (sI H 427 r (nI 0)) r [427] [] := rE.i
      have Eb : rE h (sI H 427 r (nI 0)) r [435, 427, 428] [2, 8] := (E.trans Ea).mono (by simp) (by simp)
      refine L_ex2 (h := sI H 427 r (nI 0)) hzs hst C G rfl hm 60 0 g 0 (nI 1) _ m K ((rE.refl _ r).mono (by simp) (by simp)) rfl rfl ⟨rfl, rfl, rfl⟩ (rAt_p A (Nat.zero_le _)) (by rw [Eb.r (by decide)]; exact q.2.1) hI_.1 (by omega) (by decide) e (fun H9 x1 no a1 a2 a3 a4 a5 => ?_)
      rw [Nat.zero_add]
      exact s_ex134 hzs hst C G rfl q hI_ F ((Eb.trans a1).mono (by simp) (by simp)) (by rw [a2]; exact g2) (a3.trans ((hI_sI_f (by decide)).trans th)) e (fun w => by have y := a4 w; exact ⟨y.1.trans (Eb.f (by decide)), y.2.1.trans (Eb.f (by decide)), y.2.2.trans (Eb.f (by decide))⟩) a5
    · exact absurd q55 (by decide)
  · show zV X 0 0 H 54 [(0, .ref r), (1, .int (nI 0))] []
    obtain rfl := f9 f (by rw [e])
    refine zV.iload_n C dX10_execute_54 rfl ?_
    refine zV.if_ne (tgt := 77) C dX10_execute_55 (by decide) (fun q55 => ?_) (fun q55 => ?_)
    · exact absurd rfl q55
    · refine zV.aload_n C dX10_execute_58 rfl rfl ?_
      refine zV.aload_n C dX10_execute_59 rfl rfl ?_
      refine zV.gIv 427 (k := 11) C dX10_execute_60 zcl_X10 (by decide) rfl lk_X10_216 hm.1 rfl (A.2.1) ?_
      refine zV.pI 430 (k := 14) C dX10_execute_63 zcl_X10 (by decide) rfl lk_X10_35 rfl hm.1 rfl ⟨rfl, rfl⟩ ?_
      refine zV.aload_n C dX10_execute_66 rfl rfl ?_
      refine zV.ic (v := nI 0) C dX10_execute_67 (by decide) ?_
      refine zV.pI 426 (k := 10) C dX10_execute_68 zcl_X10 (by decide) rfl lk_X10_213 rfl hm.1 rfl ⟨rfl, rfl⟩ ?_
      refine zV.aload_n C dX10_execute_71 rfl rfl ?_
      refine zV.ic (v := nI 1) C dX10_execute_72 (by decide) ?_
      refine zV.callV (n := 1) C G dX10_execute_73 (s_mraises hzs hst (sI (sI H 430 r (nI p9)) 426 r (nI 0)) r hm (nI 1)) rfl ⟨cd_X10_raises, lk_X10_54, im_X10_raises, se_X10_X10_raises, in_X10⟩ ⟨⟨by decide, by decide⟩, by decide⟩ rfl rfl rfl (hm.1) ⟨rfl, by decide⟩ (zaf ?_) (zno)
      refine zV.iret C F dX10_execute_76 rfl ?_
      exact ex_1 q E e
set_option maxHeartbeats 4000000 in
set_option maxRecDepth 100000 in
theorem s_qexecute {l : Launch} {E : zG} (hzs : zS E) (hst : l.stackTraces = false) (h : zH) (r m : Nat) (g : zGd) (us : List zGd) (sn : Option zGd) (off rs dt cs : Int32) (t o : List Nat) (q : rSt h r g us sn off rs dt cs t o) (hI_ : rIv m g us sn) (hb : m + 50000 ≤ big) : zMet l E yX10_execute cX10_execute 6 (some .int) ({ frames := 6, cells := 0, slots := 0, locals := 138 } : Room) 0 0 [.ref r] h (exQ h r g us sn off rs dt cs t o) (fun _ _ => False) := by
  refine zM_start hzs hst (by decide) (Nat.le_of_ble_eq_true rfl) (fun X C G F I => ?_)
  show zV X 0 0 _ 0 [(0, _)] []
  refine zV.aload_n C dX10_execute_0 rfl rfl ?_
  refine zV.callV (n := 0) C G dX10_execute_1 (s_mtries hzs hst h r q.1) rfl ⟨cd_X10_tries, lk_X10_103, im_X10_tries, se_X10_X10_tries, in_X10⟩ ⟨⟨by decide, by decide⟩, by decide⟩ rfl rfl rfl q.1.1 ⟨rfl, by decide⟩ (zafv ?_) (zno)
  obtain ⟨H1, hH1, E1, m1, g1, g2, t1⟩ := tr_st q.1 q.2.1 hI_.1
  rw [← hH1]
  refine zV.aload_n C dX10_execute_4 rfl rfl ?_
  refine zV.ic (v := nI 0) C dX10_execute_5 (by decide) ?_
  refine zV.pI 427 (k := 11) C dX10_execute_6 zcl_X10 (by decide) rfl lk_X10_216 rfl m1.1 rfl ⟨rfl, rfl⟩ ?_
  have Ea : rE H1 (sI H1 427 r (nI 0)) r [427] [] := rE.i
  have E2 : rE h (sI H1 427 r (nI 0)) r [435, 427] [2] := (E1.trans Ea).mono (by simp) (by simp)
  have A2 : rAt (sI H1 427 r (nI 0)) r t 0 := ⟨rTx_e q.2.2.2.2.2.1 E2 (by decide) (by decide), hI_sI, Nat.zero_le _⟩
  have t2 : hI (sI H1 427 r (nI 0)) 435 r = nI 0 := (hI_sI_f (by decide)).trans t1
  refine zV.aload_n C dX10_execute_9 rfl rfl ?_
  refine zV.callV (n := 0) C G dX10_execute_10 (s_misCommand hzs hst (sI H1 427 r (nI 0)) r m1 t 0 A2) rfl ⟨cd_X10_isCommand, lk_X10_237, im_X10_isCommand, se_X10_X10_isCommand, in_X10⟩ ⟨⟨by decide, by decide⟩, by decide⟩ rfl rfl rfl m1.1 ⟨rfl, by decide⟩ (zafR (fun H3 ⟨E3, A3, w3⟩ => ?_)) (zno)
  refine zV.istore_n (lo' := [(0, _), (1, _)]) C dX10_execute_13 (by decide) rfl rfl rfl ?_
  exact L_ex1 (h := sI H1 427 r (nI 0)) (σ := (rdS t 61 0 []).1) hzs hst C G rfl m1 (fun H9 p9 E9 A9 f9 => s_ex54 hzs hst C G rfl q hI_ hb F ((E2.trans E9).mono (by simp) (by simp)) (by rw [E9.r (by decide)]; exact g2) ((E9.f (by decide)).trans t2) A9 f9) 60 0 [] H3 (E3.mono (by simp) (by simp)) A3 (by decide) rfl
