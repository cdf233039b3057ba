/-! the reference made -/
def zA9 (h : zH) (c k z : Nat) : Prop := (hK h c = k ∧ hL h c = z) ∧ ∀ i, aI h c i = 0
theorem zA9_e {h h' : zH} {c k z : Nat} (q : zA9 h c k z) (e : zEq h h' c) : zA9 h' c k z := ⟨⟨e.1.trans q.1.1, e.2.1.trans q.1.2⟩, fun i => by rw [e.2.2.2.2.1]; exact q.2 i⟩
theorem zA9_n {h : zH} {c k z : Nat} (hn : hN h = c) : zA9 (hNew h k z) c k z := by
  subst hn
  exact ⟨⟨hK_newE, hL_newE⟩, fun i => aI_newE⟩
/-- the shades of the first k lawns set *)-/
def iF (f : Nat → Int32) (k : Nat) : Nat → Int32 := fun j => if j % 8 = 0 ∧ 8 ≤ j ∧ j < 8 + 8 * k then nI 5 else f j
theorem iF_0 {f : Nat → Int32} : iF f 0 = f := by funext j; exact if_neg (by omega)
theorem iF_s {f : Nat → Int32} {k : Nat} : fup (iF f k) (8 + 8 * k) (nI 5) = iF f (k + 1) := by
  funext j
  unfold fup iF
  by_cases e : j = 8 + 8 * k
  · rw [if_pos e, if_pos (by omega)]
  · rw [if_neg e]
    by_cases e2 : j % 8 = 0 ∧ 8 ≤ j ∧ j < 8 + 8 * k
    · rw [if_pos e2, if_pos (by omega)]
    · rw [if_neg e2, if_neg (by omega)]
theorem rG_00 {f : Nat → Int32} (hf : ∀ i, f i = 0) : rG (iF (fup f 3 (nI 3)) 6) g00 := by
  have h0 : ∀ j, ¬ (j % 8 = 0 ∧ 8 ≤ j ∧ j < 8 + 8 * 6) → j ≠ 3 → iF (fup f 3 (nI 3)) 6 j = nI 0 := fun j h1 h2 => (if_neg h1).trans ((if_neg h2).trans (hf j))
  refine ⟨[], List.Perm.refl _, List.Pairwise.nil, ⟨h0 0 (by omega) (by decide), fun k c hk => by cases hk⟩, fun l hl => ⟨h0 _ (by omega) (by omega), fun k x hk => by cases hk⟩, fun l hl => ⟨if_pos (by omega), h0 _ (by omega) (by omega)⟩, h0 1 (by omega) (by decide), h0 2 (by omega) (by decide), (if_neg (by omega)).trans (if_pos rfl), h0 4 (by omega) (by decide), h0 5 (by omega) (by decide), h0 6 (by omega) (by decide), h0 7 (by omega) (by decide)⟩
set_option maxHeartbeats 4000000 in
set_option maxRecDepth 100000 in
theorem s_minitE {X : zX} {l : Launch} {E : zG} {rm : Room} (hzs : zS E) (hst : l.stackTraces = false) (C : zC X cX10_init RX10 2) (G : zGX X l E rm) {h : zH} {r kc ks : Nat} (kk : zV X kc ks h 107 [(0, .ref r), (1, .int (nI 6))] []) : zV X kc ks h 82 [(0, .ref r), (1, .int (nI 6))] [] := by
  
  refine zV.iload_n C dX10_init_82 rfl ?_
  refine zV.bi (v := nI 6) C dX10_init_83 (by decide) ?_
  refine zV.icmp_ge (tgt := 107) C dX10_init_85 (by decide) (fun q85 => ?_) (fun q85 => ?_)
  · exact kk
  · exact absurd (by decide) q85
set_option maxHeartbeats 4000000 in
set_option maxRecDepth 100000 in
theorem L_minit {X : zX} {l : Launch} {E : zG} {rm : Room} (hzs : zS E) (hst : l.stackTraces = false) (C : zC X cX10_init RX10 2) (G : zGX X l E rm) {h : zH} {r kc ks : Nat} (hm : zMs h r) (kk : zV X kc ks (sRow h (r + 1) (iF (aI h (r + 1)) 6)) 107 [(0, .ref r), (1, .int (nI 6))] []) : ∀ n k, k + n = 6 → zV X kc ks (sRow h (r + 1) (iF (aI h (r + 1)) k)) 82 [(0, .ref r), (1, .int (nI k))] [] := by
  intro n
  induction n with
  | zero =>
    intro k hk
    obtain rfl : k = 6 := by omega
    exact s_minitE hzs hst C G kk
  | succ n ih =>
    intro k hk
    refine zV.iload_n C dX10_init_82 rfl ?_
    refine zV.bi (v := nI 6) C dX10_init_83 (by decide) ?_
    refine zV.icmp_ge (tgt := 107) C dX10_init_85 (by decide) (fun q85 => ?_) (fun q85 => ?_)
    · exact absurd (nle (by omega) (by decide) q85) (by omega)
    · refine zV.aload_n C dX10_init_88 rfl rfl ?_
      refine zV.gR 416 (k := 0) C dX10_init_89 zcl_X10 (by decide) rfl lk_X10_9 (hm.1) rfl (hm.2.1) ?_
      refine zV.bi (v := nI 8) C dX10_init_92 (by decide) ?_
      refine zV.bi (v := nI 8) C dX10_init_94 (by decide) ?_
      refine zV.iload_n C dX10_init_96 rfl ?_
      refine zV.imul C dX10_init_97 ?_
      refine zV.iadd C dX10_init_98 ?_
      refine zV.ic (v := nI 5) C dX10_init_99 (by decide) ?_
      refine zV.iast (j := 8 + 8 * k) C dX10_init_100 (hm.2.2.2.2.2.2.2.2.2.1.1) (by rw [pk_mul, nI_add]) (Nat.lt_of_lt_of_eq (show 8 + 8 * k < 116 by omega) (hm.2.2.2.2.2.2.2.2.2.1.2).symm) (by omega) ?_
      rw [saI_row2, iF_s]
      refine zV.iinc (lo' := [(0, _), (1, _)]) C dX10_init_101 rfl (by decide) rfl rfl rfl ?_
      refine zV.goto (tgt := 82) C dX10_init_104 (by decide) ?_
      rw [inc1]
      exact ih (k + 1) (by omega)
set_option maxHeartbeats 4000000 in
set_option maxRecDepth 100000 in
theorem s_minitZ {X : zX} {l : Launch} {E : zG} {rm : Room} (hzs : zS E) (hst : l.stackTraces = false) (C : zC X cX10_init RX10 2) (G : zGX X l E rm) {h : zH} {r kc ks : Nat} {x : Int32} {Qr : Option Value → zH → Prop} {Qx : String → zH → Prop} (F : zF X none kc ks Qr Qx) (hq : Qr none h) : zV X kc ks h 107 [(0, .ref r), (1, .int x)] [] := by
  
  refine zV.vret C F dX10_init_107 (zhc (Nat.le_refl _) (Nat.le_refl _)) ?_
  exact hq
theorem mi_Q {h H7_ : zH} {r : Nat} (hm : zMs H7_ r) (Z : ∀ f, hI H7_ f r = 0) (A : ∀ i, aI H7_ (r + 1) i = 0) (X7 : zEx h H7_ r) (N7 : hN H7_ = r + 9) : (none : Option Value) = none ∧ rSt (sRow (sRow (sI H7_ 430 r (-1)) (r + 1) (fup (aI (sI H7_ 430 r (-1)) (r + 1)) 3 (nI 3))) (r + 1) (iF (aI (sRow (sI H7_ 430 r (-1)) (r + 1) (fup (aI (sI H7_ 430 r (-1)) (r + 1)) 3 (nI 3))) (r + 1)) 6)) r g00 [] none (-1) 0 0 0 [] [] ∧ hN (sRow (sRow (sI H7_ 430 r (-1)) (r + 1) (fup (aI (sI H7_ 430 r (-1)) (r + 1)) 3 (nI 3))) (r + 1) (iF (aI (sRow (sI H7_ 430 r (-1)) (r + 1) (fup (aI (sI H7_ 430 r (-1)) (r + 1)) 3 (nI 3))) (r + 1)) 6)) = r + 9 ∧ zEx h (sRow (sRow (sI H7_ 430 r (-1)) (r + 1) (fup (aI (sI H7_ 430 r (-1)) (r + 1)) 3 (nI 3))) (r + 1) (iF (aI (sRow (sI H7_ 430 r (-1)) (r + 1) (fup (aI (sI H7_ 430 r (-1)) (r + 1)) 3 (nI 3))) (r + 1)) 6)) r := by
  have E : rE H7_ (sRow (sRow (sI H7_ 430 r (-1)) (r + 1) (fup (aI (sI H7_ 430 r (-1)) (r + 1)) 3 (nI 3))) (r + 1) (iF (aI (sRow (sI H7_ 430 r (-1)) (r + 1) (fup (aI (sI H7_ 430 r (-1)) (r + 1)) 3 (nI 3))) (r + 1)) 6)) r [430] [1] := ((rE.i.trans rE.a).trans rE.a).mono (by simp) (by simp)
  have ez : ∀ f, f ∉ [430] → hI (sRow (sRow (sI H7_ 430 r (-1)) (r + 1) (fup (aI (sI H7_ 430 r (-1)) (r + 1)) 3 (nI 3))) (r + 1) (iF (aI (sRow (sI H7_ 430 r (-1)) (r + 1) (fup (aI (sI H7_ 430 r (-1)) (r + 1)) 3 (nI 3))) (r + 1)) 6)) f r = 0 := fun f hf => (E.f hf).trans (Z f)
  refine ⟨rfl, ⟨E.m hm, ?_, ⟨ez 420 (by decide), Nat.zero_le _, fun k u hk => by cases hk⟩, ⟨ez 422 (by decide), fun s hs => by cases hs⟩, ⟨hI_sI, ez 431 (by decide), ez 432 (by decide), ez 433 (by decide)⟩, ⟨ez 426 (by decide), Nat.zero_le _, fun i c hc => by cases hc⟩, ⟨ez 424 (by decide), Nat.zero_le _, fun i c hc => by cases hc⟩⟩, N7, X7.1, fun c hc => (X7.2 c hc).trans ((zEq_sI (by omega)).trans ((zEq_sRow (by omega)).trans (zEq_sRow (by omega))))⟩
  rw [aI_sRow, aI_sRow]
  exact rG_00 A
set_option maxHeartbeats 4000000 in
set_option maxRecDepth 100000 in
theorem s_minitT {X : zX} {l : Launch} {E : zG} {rm : Room} (hzs : zS E) (hst : l.stackTraces = false) (C : zC X cX10_init RX10 2) (G : zGX X l E rm) {h H7_ : zH} {r : Nat} {Qx : String → zH → Prop} (F : zF X none 8 1514 (fun v h2 => v = none ∧ rSt h2 r g00 [] none (-1) 0 0 0 [] [] ∧ hN h2 = r + 9 ∧ zEx h h2 r) Qx) (hm : zMs H7_ r) (Z : ∀ f, hI H7_ f r = 0) (A0z : ∀ i, aI H7_ (r + 1) i = 0) (X7 : zEx h H7_ r) (N7 : hN H7_ = r + 9) : zV X 8 1514 H7_ 68 [(0, .ref r)] [] := by
  
  refine zV.aload_n C dX10_init_68 rfl rfl ?_
  refine zV.ic (v := (-1)) C dX10_init_69 (by decide) ?_
  refine zV.pI 430 (k := 14) C dX10_init_70 zcl_X10 (by decide) rfl lk_X10_35 rfl hm.1 rfl ⟨rfl, rfl⟩ ?_
  refine zV.aload_n C dX10_init_73 rfl rfl ?_
  refine zV.gR 416 (k := 0) C dX10_init_74 zcl_X10 (by decide) rfl lk_X10_9 (hm.1) rfl (hm.2.1) ?_
  refine zV.ic (v := nI 3) C dX10_init_77 (by decide) ?_
  refine zV.ic (v := nI 3) C dX10_init_78 (by decide) ?_
  refine zV.iast (j := 3) C dX10_init_79 (hm.2.2.2.2.2.2.2.2.2.1.1) (rfl) (Nat.lt_of_lt_of_eq (show 3 < 116 by omega) (hm.2.2.2.2.2.2.2.2.2.1.2).symm) (by omega) ?_
  rw [saI_row]
  refine zV.ic (v := nI 0) C dX10_init_80 (by decide) ?_
  refine zV.istore_n (lo' := [(0, _), (1, _)]) C dX10_init_81 (by decide) rfl rfl rfl ?_
  have hm2 : zMs (sRow (sI H7_ 430 r (-1)) (r + 1) (fup (aI (sI H7_ 430 r (-1)) (r + 1)) 3 (nI 3))) r := hm
  refine (fun z => ?_) (L_minit (h := (sRow (sI H7_ 430 r (-1)) (r + 1) (fup (aI (sI H7_ 430 r (-1)) (r + 1)) 3 (nI 3)))) hzs hst C G hm2 (s_minitZ hzs hst C G F ?_) 6 0 rfl)
  · rw [iF_0, sRow_id] at z
    exact z
  · exact mi_Q hm Z A0z X7 N7
set_option maxHeartbeats 4000000 in
set_option maxRecDepth 100000 in
theorem s_minitH {X : zX} {l : Launch} {E : zG} {rm : Room} (hzs : zS E) (hst : l.stackTraces = false) (C : zC X cX10_init RX10 2) (G : zGX X l E rm) {h : zH} {r : Nat} (hr : rm = ({ frames := 1, cells := 8, slots := 1514, locals := 20 } : Room)) (I : zIni X) (hk : hK h r = 14) (hn : hN h = r + 1) (h9 : ∀ f, hI h f r = 0) (kk : ∀ H7_, zMs H7_ r → (∀ f, hI H7_ f r = 0) → (∀ i, aI H7_ (r + 1) i = 0) → zEx h H7_ r → hN H7_ = r + 9 → zV X 8 1514 H7_ 68 [(0, .ref r)] []) : zV X 0 0 h 0 [(0, .ref r)] [] := by
  subst hr
  refine zV.aload_n C dX10_init_0 rfl rfl ?_
  refine zV.obj C G dX10_init_1 ⟨lk_X10_3, im_Oinit, cd_Oinit⟩ rfl rfl ?_
  refine zV.aload_n C dX10_init_4 rfl rfl ?_
  refine zV.bi (v := nI 116) C dX10_init_5 (by decide) ?_
  refine zV.newI (n := 116) C G dX10_init_7 ac_int (rfl) (by decide) rfl ?_
  rw [show hN h = r + 1 from hn]
  have n0 : hN (hNew h 103 116) = r + 2 := congrArg (· + 1) hn
  have x0 : zEx (hNew h 103 116) (hNew h 103 116) (r + 1) := zEx.refl _ _
  refine zV.pFR 416 (k := 0) C dX10_init_9 zcl_X10 (by decide) rfl lk_X10_9 rfl I rfl ((hK_new (h := h) (k := 103) (z := 116) (a := r) (by rw [hn]; omega)).trans hk) rfl (fun _ => ⟨rfl, rfl⟩) ?_
  obtain ⟨S0, T0⟩ := zStg_of (h := h) (h1 := (hNew h 103 116)) (k := 103) (z := 116) (a := r) (n := r + 1) (f := 416) (n' := r + 2) hn (by omega) x0 n0
  have A0 := zA9_e (zA9_n (k := 103) (z := 116) hn) (T0 (r + 1) (by omega))
  have K0 : hK _ r = 14 := S0.2.2.1.trans hk
  generalize hgg : sR (hNew h 103 116) 416 r (some (r + 1)) = H0_ at *
  clear hgg T0
  refine zV.aload_n C dX10_init_12 rfl rfl ?_
  refine zV.bi (v := nI 116) C dX10_init_13 (by decide) ?_
  refine zV.newI (n := 116) C G dX10_init_15 ac_int (rfl) (by decide) rfl ?_
  rw [show hN H0_ = r + 2 from S0.1]
  have n1 : hN (hNew H0_ 103 116) = r + 3 := congrArg (· + 1) S0.1
  have x1 : zEx (hNew H0_ 103 116) (hNew H0_ 103 116) (r + 2) := zEx.refl _ _
  refine zV.pFR 417 (k := 1) C dX10_init_17 zcl_X10 (by decide) rfl lk_X10_13 rfl I rfl ((hK_new (h := H0_) (k := 103) (z := 116) (a := r) (by rw [S0.1]; omega)).trans K0) rfl (fun _ => ⟨rfl, rfl⟩) ?_
  obtain ⟨S1, T1⟩ := zStg_of (h := H0_) (h1 := (hNew H0_ 103 116)) (k := 103) (z := 116) (a := r) (n := r + 2) (f := 417) (n' := r + 3) S0.1 (by omega) x1 n1
  have A0 := zA9_e A0 (S1.2.1 (r + 1) (by omega) (by omega))
  have A1 := zA9_e (zA9_n (k := 103) (z := 116) S0.1) (T1 (r + 2) (by omega))
  have K1 : hK _ r = 14 := S1.2.2.1.trans K0
  generalize hgg : sR (hNew H0_ 103 116) 417 r (some (r + 2)) = H1_ at *
  clear hgg T1
  refine zV.aload_n C dX10_init_20 rfl rfl ?_
  refine zV.bi (v := nI 116) C dX10_init_21 (by decide) ?_
  refine zV.newI (n := 116) C G dX10_init_23 ac_int (rfl) (by decide) rfl ?_
  rw [show hN H1_ = r + 3 from S1.1]
  have n2 : hN (hNew H1_ 103 116) = r + 4 := congrArg (· + 1) S1.1
  have x2 : zEx (hNew H1_ 103 116) (hNew H1_ 103 116) (r + 3) := zEx.refl _ _
  refine zV.pFR 418 (k := 2) C dX10_init_25 zcl_X10 (by decide) rfl lk_X10_16 rfl I rfl ((hK_new (h := H1_) (k := 103) (z := 116) (a := r) (by rw [S1.1]; omega)).trans K1) rfl (fun _ => ⟨rfl, rfl⟩) ?_
  obtain ⟨S2, T2⟩ := zStg_of (h := H1_) (h1 := (hNew H1_ 103 116)) (k := 103) (z := 116) (a := r) (n := r + 3) (f := 418) (n' := r + 4) S1.1 (by omega) x2 n2
  have A0 := zA9_e A0 (S2.2.1 (r + 1) (by omega) (by omega))
  have A1 := zA9_e A1 (S2.2.1 (r + 2) (by omega) (by omega))
  have A2 := zA9_e (zA9_n (k := 103) (z := 116) S1.1) (T2 (r + 3) (by omega))
  have K2 : hK _ r = 14 := S2.2.2.1.trans K1
  generalize hgg : sR (hNew H1_ 103 116) 418 r (some (r + 3)) = H2_ at *
  clear hgg T2
  refine zV.aload_n C dX10_init_28 rfl rfl ?_
  refine zV.si (v := nI 928) C dX10_init_29 (by decide) ?_
  refine zV.newI (n := 928) C G dX10_init_32 ac_int (rfl) (by decide) rfl ?_
  rw [show hN H2_ = r + 4 from S2.1]
  have n3 : hN (hNew H2_ 103 928) = r + 5 := congrArg (· + 1) S2.1
  have x3 : zEx (hNew H2_ 103 928) (hNew H2_ 103 928) (r + 4) := zEx.refl _ _
  refine zV.pFR 419 (k := 3) C dX10_init_34 zcl_X10 (by decide) rfl lk_X10_19 rfl I rfl ((hK_new (h := H2_) (k := 103) (z := 928) (a := r) (by rw [S2.1]; omega)).trans K2) rfl (fun _ => ⟨rfl, rfl⟩) ?_
  obtain ⟨S3, T3⟩ := zStg_of (h := H2_) (h1 := (hNew H2_ 103 928)) (k := 103) (z := 928) (a := r) (n := r + 4) (f := 419) (n' := r + 5) S2.1 (by omega) x3 n3
  have A0 := zA9_e A0 (S3.2.1 (r + 1) (by omega) (by omega))
  have A1 := zA9_e A1 (S3.2.1 (r + 2) (by omega) (by omega))
  have A2 := zA9_e A2 (S3.2.1 (r + 3) (by omega) (by omega))
  have A3 := zA9_e (zA9_n (k := 103) (z := 928) S2.1) (T3 (r + 4) (by omega))
  have K3 : hK _ r = 14 := S3.2.2.1.trans K2
  generalize hgg : sR (hNew H2_ 103 928) 419 r (some (r + 4)) = H3_ at *
  clear hgg T3
  refine zV.aload_n C dX10_init_37 rfl rfl ?_
  refine zV.bi (v := nI 116) C dX10_init_38 (by decide) ?_
  refine zV.newI (n := 116) C G dX10_init_40 ac_int (rfl) (by decide) rfl ?_
  rw [show hN H3_ = r + 5 from S3.1]
  have n4 : hN (hNew H3_ 103 116) = r + 6 := congrArg (· + 1) S3.1
  have x4 : zEx (hNew H3_ 103 116) (hNew H3_ 103 116) (r + 5) := zEx.refl _ _
  refine zV.pFR 421 (k := 5) C dX10_init_42 zcl_X10 (by decide) rfl lk_X10_22 rfl I rfl ((hK_new (h := H3_) (k := 103) (z := 116) (a := r) (by rw [S3.1]; omega)).trans K3) rfl (fun _ => ⟨rfl, rfl⟩) ?_
  obtain ⟨S4, T4⟩ := zStg_of (h := H3_) (h1 := (hNew H3_ 103 116)) (k := 103) (z := 116) (a := r) (n := r + 5) (f := 421) (n' := r + 6) S3.1 (by omega) x4 n4
  have A0 := zA9_e A0 (S4.2.1 (r + 1) (by omega) (by omega))
  have A1 := zA9_e A1 (S4.2.1 (r + 2) (by omega) (by omega))
  have A2 := zA9_e A2 (S4.2.1 (r + 3) (by omega) (by omega))
  have A3 := zA9_e A3 (S4.2.1 (r + 4) (by omega) (by omega))
  have A4 := zA9_e (zA9_n (k := 103) (z := 116) S3.1) (T4 (r + 5) (by omega))
  have K4 : hK _ r = 14 := S4.2.2.1.trans K3
  generalize hgg : sR (hNew H3_ 103 116) 421 r (some (r + 5)) = H4_ at *
  clear hgg T4
  refine zV.aload_n C dX10_init_45 rfl rfl ?_
  refine zV.bi (v := nI 60) C dX10_init_46 (by decide) ?_
  refine zV.newC (n := 60) C G dX10_init_48 ac_char (rfl) (by decide) rfl ?_
  rw [show hN H4_ = r + 6 from S4.1]
  have n5 : hN (hNew H4_ 102 60) = r + 7 := congrArg (· + 1) S4.1
  have x5 : zEx (hNew H4_ 102 60) (hNew H4_ 102 60) (r + 6) := zEx.refl _ _
  refine zV.pFR 423 (k := 7) C dX10_init_50 zcl_X10 (by decide) rfl lk_X10_25 rfl I rfl ((hK_new (h := H4_) (k := 102) (z := 60) (a := r) (by rw [S4.1]; omega)).trans K4) rfl (fun _ => ⟨rfl, rfl⟩) ?_
  obtain ⟨S5, T5⟩ := zStg_of (h := H4_) (h1 := (hNew H4_ 102 60)) (k := 102) (z := 60) (a := r) (n := r + 6) (f := 423) (n' := r + 7) S4.1 (by omega) x5 n5
  have A0 := zA9_e A0 (S5.2.1 (r + 1) (by omega) (by omega))
  have A1 := zA9_e A1 (S5.2.1 (r + 2) (by omega) (by omega))
  have A2 := zA9_e A2 (S5.2.1 (r + 3) (by omega) (by omega))
  have A3 := zA9_e A3 (S5.2.1 (r + 4) (by omega) (by omega))
  have A4 := zA9_e A4 (S5.2.1 (r + 5) (by omega) (by omega))
  have A5 := zA9_e (zA9_n (k := 102) (z := 60) S4.1) (T5 (r + 6) (by omega))
  have K5 : hK _ r = 14 := S5.2.2.1.trans K4
  generalize hgg : sR (hNew H4_ 102 60) 423 r (some (r + 6)) = H5_ at *
  clear hgg T5
  refine zV.aload_n C dX10_init_53 rfl rfl ?_
  refine zV.bi (v := nI 60) C dX10_init_54 (by decide) ?_
  refine zV.newC (n := 60) C G dX10_init_56 ac_char (rfl) (by decide) rfl ?_
  rw [show hN H5_ = r + 7 from S5.1]
  have n6 : hN (hNew H5_ 102 60) = r + 8 := congrArg (· + 1) S5.1
  have x6 : zEx (hNew H5_ 102 60) (hNew H5_ 102 60) (r + 7) := zEx.refl _ _
  refine zV.pFR 425 (k := 9) C dX10_init_58 zcl_X10 (by decide) rfl lk_X10_29 rfl I rfl ((hK_new (h := H5_) (k := 102) (z := 60) (a := r) (by rw [S5.1]; omega)).trans K5) rfl (fun _ => ⟨rfl, rfl⟩) ?_
  obtain ⟨S6, T6⟩ := zStg_of (h := H5_) (h1 := (hNew H5_ 102 60)) (k := 102) (z := 60) (a := r) (n := r + 7) (f := 425) (n' := r + 8) S5.1 (by omega) x6 n6
  have A0 := zA9_e A0 (S6.2.1 (r + 1) (by omega) (by omega))
  have A1 := zA9_e A1 (S6.2.1 (r + 2) (by omega) (by omega))
  have A2 := zA9_e A2 (S6.2.1 (r + 3) (by omega) (by omega))
  have A3 := zA9_e A3 (S6.2.1 (r + 4) (by omega) (by omega))
  have A4 := zA9_e A4 (S6.2.1 (r + 5) (by omega) (by omega))
  have A5 := zA9_e A5 (S6.2.1 (r + 6) (by omega) (by omega))
  have A6 := zA9_e (zA9_n (k := 102) (z := 60) S5.1) (T6 (r + 7) (by omega))
  have K6 : hK _ r = 14 := S6.2.2.1.trans K5
  generalize hgg : sR (hNew H5_ 102 60) 425 r (some (r + 7)) = H6_ at *
  clear hgg T6
  refine zV.aload_n C dX10_init_61 rfl rfl ?_
  refine zV.ic (v := nI 2) C dX10_init_62 (by decide) ?_
  refine zV.newI (n := 2) C G dX10_init_63 ac_int (rfl) (by decide) rfl ?_
  rw [show hN H6_ = r + 8 from S6.1]
  have n7 : hN (hNew H6_ 103 2) = r + 9 := congrArg (· + 1) S6.1
  have x7 : zEx (hNew H6_ 103 2) (hNew H6_ 103 2) (r + 8) := zEx.refl _ _
  refine zV.pFR 429 (k := 13) C dX10_init_65 zcl_X10 (by decide) rfl lk_X10_32 rfl I rfl ((hK_new (h := H6_) (k := 103) (z := 2) (a := r) (by rw [S6.1]; omega)).trans K6) rfl (fun _ => ⟨rfl, rfl⟩) ?_
  obtain ⟨S7, T7⟩ := zStg_of (h := H6_) (h1 := (hNew H6_ 103 2)) (k := 103) (z := 2) (a := r) (n := r + 8) (f := 429) (n' := r + 9) S6.1 (by omega) x7 n7
  have A0 := zA9_e A0 (S7.2.1 (r + 1) (by omega) (by omega))
  have A1 := zA9_e A1 (S7.2.1 (r + 2) (by omega) (by omega))
  have A2 := zA9_e A2 (S7.2.1 (r + 3) (by omega) (by omega))
  have A3 := zA9_e A3 (S7.2.1 (r + 4) (by omega) (by omega))
  have A4 := zA9_e A4 (S7.2.1 (r + 5) (by omega) (by omega))
  have A5 := zA9_e A5 (S7.2.1 (r + 6) (by omega) (by omega))
  have A6 := zA9_e A6 (S7.2.1 (r + 7) (by omega) (by omega))
  have A7 := zA9_e (zA9_n (k := 103) (z := 2) S6.1) (T7 (r + 8) (by omega))
  have K7 : hK _ r = 14 := S7.2.2.1.trans K6
  generalize hgg : sR (hNew H6_ 103 2) 429 r (some (r + 8)) = H7_ at *
  clear hgg T7
  have Z : ∀ f, hI H7_ f r = 0 := fun f => ((S7.2.2.2.1 _).trans (((S6.2.2.2.1 _).trans (((S5.2.2.2.1 _).trans (((S4.2.2.2.1 _).trans (((S3.2.2.2.1 _).trans (((S2.2.2.2.1 _).trans (((S1.2.2.2.1 _).trans (((S0.2.2.2.1 _).trans (h9 f))))))))))))))))
  have hm : zMs H7_ r := ⟨K7, ((S7.2.2.2.2.1 _ (by decide)).trans (((S6.2.2.2.2.1 _ (by decide)).trans (((S5.2.2.2.2.1 _ (by decide)).trans (((S4.2.2.2.2.1 _ (by decide)).trans (((S3.2.2.2.2.1 _ (by decide)).trans (((S2.2.2.2.2.1 _ (by decide)).trans (((S1.2.2.2.2.1 _ (by decide)).trans (S0.2.2.2.2.2)))))))))))))), ((S7.2.2.2.2.1 _ (by decide)).trans (((S6.2.2.2.2.1 _ (by decide)).trans (((S5.2.2.2.2.1 _ (by decide)).trans (((S4.2.2.2.2.1 _ (by decide)).trans (((S3.2.2.2.2.1 _ (by decide)).trans (((S2.2.2.2.2.1 _ (by decide)).trans (S1.2.2.2.2.2)))))))))))), ((S7.2.2.2.2.1 _ (by decide)).trans (((S6.2.2.2.2.1 _ (by decide)).trans (((S5.2.2.2.2.1 _ (by decide)).trans (((S4.2.2.2.2.1 _ (by decide)).trans (((S3.2.2.2.2.1 _ (by decide)).trans (S2.2.2.2.2.2)))))))))), ((S7.2.2.2.2.1 _ (by decide)).trans (((S6.2.2.2.2.1 _ (by decide)).trans (((S5.2.2.2.2.1 _ (by decide)).trans (((S4.2.2.2.2.1 _ (by decide)).trans (S3.2.2.2.2.2)))))))), ((S7.2.2.2.2.1 _ (by decide)).trans (((S6.2.2.2.2.1 _ (by decide)).trans (((S5.2.2.2.2.1 _ (by decide)).trans (S4.2.2.2.2.2)))))), ((S7.2.2.2.2.1 _ (by decide)).trans (((S6.2.2.2.2.1 _ (by decide)).trans (S5.2.2.2.2.2)))), ((S7.2.2.2.2.1 _ (by decide)).trans (S6.2.2.2.2.2)), S7.2.2.2.2.2, A0.1, A1.1, A2.1, A3.1, A4.1, A5.1, A6.1, A7.1⟩
  have A0z := A0.2
  have X7 : zEx h H7_ r := ⟨by rw [S7.1]; omega, fun c hc => (((((((S0.2.1 c (by omega) (by omega)).trans (S1.2.1 c (by omega) (by omega))).trans (S2.2.1 c (by omega) (by omega))).trans (S3.2.1 c (by omega) (by omega))).trans (S4.2.1 c (by omega) (by omega))).trans (S5.2.1 c (by omega) (by omega))).trans (S6.2.1 c (by omega) (by omega))).trans (S7.2.1 c (by omega) (by omega))⟩
  have N7 := S7.1
  clear S0 S1 S2 S3 S4 S5 S6 S7
  exact kk H7_ hm Z A0z X7 N7
set_option maxHeartbeats 4000000 in
set_option maxRecDepth 100000 in
theorem s_minit {l : Launch} {E : zG} (hzs : zS E) (hst : l.stackTraces = false) (h : zH) (r : Nat) (hk : hK h r = 14) (hn : hN h = r + 1) (h9 : ∀ f, hI h f r = 0) : zMet l E yX10_init cX10_init 2 none ({ frames := 1, cells := 8, slots := 1514, locals := 20 } : Room) 8 1514 [.ref r] h (fun v h' => v = none ∧ rSt h' r g00 [] none (-1) 0 0 0 [] [] ∧ hN h' = r + 9 ∧ zEx h h' r) (fun _ _ => False) := by
  refine zM_start hzs hst (by decide) (Nat.le_of_ble_eq_true rfl) (fun X C G F I => ?_)
  show zV X 0 0 _ 0 [(0, _)] []
  have I := I rfl
  exact s_minitH hzs hst C G rfl I hk hn h9 (fun H7_ hm Z A0z X7 N7 => s_minitT hzs hst C G F hm Z A0z X7 N7)
