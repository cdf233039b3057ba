/-! ChairMigration: execute -/
theorem rdS_o {t : List Nat} (ht : t.length ≤ 60) : ∀ n p cs x, p ≤ 60 → (rdS t n p cs).1 = some x → x ≤ 67 := by
  intro n
  induction n with
  | zero => intro p cs x h1 h2; cases h2; omega
  | succ n ih =>
    intro p cs x h1 h2
    rcases er : rdC t p with ⟨_ | c, p'⟩
    · rw [rdS_n er] at h2; cases h2; have := (rdC_b er).2.1; omega
    · have hb := rdC_b er
      by_cases e0 : nx t p' = 0
      · rw [rdS_z er e0] at h2; cases h2
      · by_cases e1 : nx t p' = 59
        · rw [rdS_c er e0 e1] at h2
          have hp9 : p' < t.length := by
            rcases Nat.lt_or_ge p' t.length with y | y
            · exact y
            · exact absurd (nx_hi y) e0
          exact ih (p' + 1) (cs ++ [c]) x (by omega) h2
        · rw [rdS_f er e0 e1] at h2; cases h2; omega
def exA (g : zGd) (t : List Nat) : zAn := match rdS t 61 0 [] with
  | (some _, _) => .inl IAE
  | (none, K9) => if (pfC g K9).1 < K9.length then (if (pfC g K9).2.2.1 = 3 then .inl UOE else .inl ISE) else .inr (.int (nI (pfC g K9).1))
def exP (h : zH) (a lo : Nat) (g : zGd) (us : List zGd) (sn : Option zGd) (off rs dt cs : Int32) (t o : List Nat) (h' : zH) : Prop := zXf h h' a lo ∧ match rdS t 61 0 [] with
  | (some p, _) => zXa h' a lo g us sn (nI p) rs dt cs [] o
  | (none, K9) => if (pfC g K9).1 < K9.length then (if (pfC g K9).2.2.1 = 3 then zXa h' a lo g us sn off (nI 11) (nI (pfC g K9).1) (nI (pfC g K9).2.2.2.1) [] o else zXa h' a lo g us sn off rs dt cs [] o) else zXa h' a lo (pfC g K9).2.1 (kp us g) sn off rs dt cs [] o
set_option maxHeartbeats 4000000 in
set_option maxRecDepth 100000 in
theorem s_execute {l : Launch} {E : zG} (hzs : zS E) (hst : l.stackTraces = false) (h : zH) (a lo m : Nat) (g : zGd) (us : List zGd) (sn : Option zGd) (off rs dt cs : Int32) (t o : List Nat) (q : zXa h a lo g us sn off rs dt cs t o) (hm : gR m g) (hb9 : m + 50000 ≤ big) : zMet l E yX9_execute cX9_execute 3 (some .int) ({ frames := 7, cells := 1, slots := 6, locals := 185 } : Room) 1 6 [.ref a] h (sQ9 h (exA g t) (exP h a lo g us sn off rs dt cs t o)) (sX9 h (exA g t) (exP h a lo g us sn off rs dt cs t o)) := by
  refine zM_start hzs hst (by decide) (Nat.le_of_ble_eq_true rfl) (fun X C G F I => ?_)
  show zV X 0 0 _ 0 [(0, _)] []
  obtain ⟨hx, ⟨hg, hf, hb⟩, hs, hH, hI, hJ, hin, hou, hn, hlo, hl9⟩ := id q
  have hlg := hl9
  rcases eR : rdS t 61 0 [] with ⟨_ | p9, K9⟩
  · refine zV.aload_n C dX9_execute_0 rfl rfl ?_
    refine zV.gR 391 (k := 7) C dX9_execute_1 zcl_X9 (by decide) rfl lk_X9_49 (hx.1) rfl (hx.2.2.2.2.2.2.2.2.1) ?_
    refine zV.callV (n := 0) C G dX9_execute_4 (s_readCommands hzs hst h (a + 264) t hin) rfl ⟨cd_X1_readCommands, lk_X9_283, im_X1_readCommands, se_X1_X1_readCommands, in_X1⟩ ⟨⟨by decide, by decide⟩, by decide⟩ rfl rfl rfl hin.1.1 ⟨rfl, by decide⟩ (zafR (fun h9 ⟨⟨p', z9⟩, m9, f9⟩ => ?_)) (zno)
    rw [eR] at z9 m9 ⊢
    have hDC := rdS_D hin.2.2.1 61 0 [] (by decide) (by omega) (fun c hc => by cases hc)
    rw [eR] at hDC
    show zV X 0 0 h9 7 _ (.int (-1) :: _)
    have z9 : zIp h9 (a + 264) t p' K9.length := z9
    have m9 : zCm h9 (a + 264) K9 := m9
    have q9 := zXa_in q f9 z9.1
    clear hx hg hf hb hs hH hI hJ hin hou hn
    obtain ⟨hx, ⟨hg, hf, hb⟩, hs, hH, hI, hJ, hin, hou, hn, hlo2, hl92⟩ := id q9
    refine zV.istore_n (lo' := [(0, _), (1, _)]) C dX9_execute_7 (by decide) rfl rfl rfl ?_
    refine zV.aload_n C dX9_execute_8 rfl rfl ?_
    refine zV.gR 391 (k := 7) C dX9_execute_9 zcl_X9 (by decide) rfl lk_X9_49 (hx.1) rfl (hx.2.2.2.2.2.2.2.2.1) ?_
    refine zV.callV (n := 0) C G dX9_execute_12 (s_inEmpty hzs hst h9 (a + 264) t hin) rfl ⟨cd_X1_empty, lk_X9_286, im_X1_empty, se_X1_X1_empty, in_X1⟩ ⟨⟨by decide, by decide⟩, by decide⟩ rfl rfl rfl hin.1.1 ⟨rfl, by decide⟩ (zafv ?_) (zno)
    have f8 : zFq h9 (sI h9 164 (a + 264) (nI 0)) (a + 264) (a + 269) := (zFq.refl h9 _ _).sI (Nat.le_refl _) (by omega)
    have n8 : zIn (sI h9 164 (a + 264) (nI 0)) (a + 264) [] := ⟨hin.1, hI_sI, Nat.zero_le _, fun i c hc => by cases i <;> cases hc⟩
    have q8 := zXa_in q9 f8 n8
    have x8 := (zXf.q (lo := lo) f9 (by omega) (by omega : _ ≤ a + 271)).trans (zXf.q f8 (by omega) (by omega))
    have zi8 : zIp (sI h9 164 (a + 264) (nI 0)) (a + 264) [] p' K9.length := ⟨n8, (hI_sI_f (by decide)).trans z9.2.1, (hI_sI_f (by decide)).trans z9.2.2⟩
    have zc8 : zCm (sI h9 164 (a + 264) (nI 0)) (a + 264) K9 := m9
    clear hx hg hf hb hs hH hI hJ hin hou hn
    obtain ⟨hx, ⟨hg, hf, hb⟩, hs, hH, hI, hJ, hin, hou, hn, hlo3, hl93⟩ := id q8
    refine zV.iload_n C dX9_execute_15 rfl ?_
    refine zV.ic (v := (-1)) C dX9_execute_16 (by decide) ?_
    refine zV.icmp_eq (tgt := 36) C dX9_execute_17 (by decide) (fun q17 => ?_) (fun q17 => ?_)
    · refine zV.aload_n C dX9_execute_36 rfl rfl ?_
      refine zV.gR 386 (k := 2) C dX9_execute_37 zcl_X9 (by decide) rfl lk_X9_19 (hx.1) rfl (hx.2.2.2.1) ?_
      refine zV.aload_n C dX9_execute_40 rfl rfl ?_
      refine zV.gR 384 (k := 0) C dX9_execute_41 zcl_X9 (by decide) rfl lk_X9_10 (hx.1) rfl (hx.2.1) ?_
      refine zV.callV (n := 1) C G dX9_execute_44 (s_become hzs hst _ (a + 43) (a + 1) g hb hg hlg (by omega)) rfl ⟨cd_X3_become, lk_X9_191, im_X3_become, se_X3_X3_become, in_X3⟩ ⟨⟨by decide, by decide⟩, by decide⟩ rfl rfl rfl hb.1.1 ⟨rfl, by decide⟩ (zafRv (fun h7 ⟨g7, f7⟩ => ?_)) (zno)
      have q7 := zXa_b q8 f7.q (zGa_t g7)
      have zi := zIp_e zi8 (fun c h1 h2 => f7.q.e (by omega))
      have zc := zCm_e zc8 (fun c h1 h2 => f7.q.e (by omega))
      have x7 := x8.trans (zXf.q f7.q (by omega) (by omega))
      have hC : K9.length ≤ 31 := hDC.2
      have hv : (pfC g K9).2.2.1 ≤ 3 ∧ (pfC g K9).1 ≤ K9.length := pfC_v (g := g) hDC.1
      clear hx hg hf hb hs hH hI hJ hin hou hn
      obtain ⟨hx, ⟨hg, hf, hb⟩, hs, hH, hI, hJ, hin, hou, hn, hlo4, hl94⟩ := id q7
      refine zV.aload_n C dX9_execute_47 rfl rfl ?_
      refine zV.callV (n := 0) C G dX9_execute_48 (s_performCommands hzs hst h7 a lo m p' g us sn off rs dt cs [] o K9 q7 hm zi zc hDC.1 (by omega) (by omega)) rfl ⟨cd_X9_performCommands, lk_X9_291, im_X9_performCommands, se_X9_X9_performCommands, in_X9⟩ ⟨⟨by decide, by decide⟩, by decide⟩ rfl rfl rfl hx.1 ⟨rfl, by decide⟩ (zafR (fun h6 ⟨x6, q6, c6, j6⟩ => ?_)) (zno)
      have gb : zGa h6 (a + 43) g := zGa_e g7 hlg (fun c h1 h2 => x6.2 c (by omega) (by omega))
      clear hx hg hf hb hs hH hI hJ hin hou hn
      obtain ⟨hx, ⟨hg, hf, hb⟩, hs, hH, hI, hJ, hin, hou, hn, hlo5, hl95⟩ := id q6
      refine zV.istore_n (lo' := [(0, _), (1, _), (2, _)]) C dX9_execute_51 (by decide) rfl rfl rfl ?_
      refine zV.iload_n C dX9_execute_52 rfl ?_
      refine zV.aload_n C dX9_execute_53 rfl rfl ?_
      refine zV.gR 391 (k := 7) C dX9_execute_54 zcl_X9 (by decide) rfl lk_X9_49 (hx.1) rfl (hx.2.2.2.2.2.2.2.2.1) ?_
      refine zV.gNIv 166 (k := 6) C dX9_execute_57 zcl_X1 (by decide) rfl lk_X9_294 hin.1.1 rfl (c6) ?_
      refine zV.icmp_ge (tgt := 79) C dX9_execute_60 (by decide) (fun q60 => ?_) (fun q60 => ?_)
      · have e6 : ¬ (pfC g K9).1 < K9.length := by have := nle (by omega) (by omega) q60; omega
        refine zV.aload_n C dX9_execute_79 rfl rfl ?_
        refine zV.gR 388 (k := 4) C dX9_execute_80 zcl_X9 (by decide) rfl lk_X9_28 (hx.1) rfl (hx.2.2.2.2.2.1) ?_
        refine zV.aload_n C dX9_execute_83 rfl rfl ?_
        refine zV.gR 386 (k := 2) C dX9_execute_84 zcl_X9 (by decide) rfl lk_X9_19 (hx.1) rfl (hx.2.2.2.1) ?_
        refine zV.callV (n := 1) C G dX9_execute_87 (s_keep hzs hst h6 (a + 85) (a + 43) us g hH gb hlg (by omega)) rfl ⟨cd_X4_keep, lk_X9_298, im_X4_keep, se_X4_X4_keep, in_X4⟩ ⟨⟨by decide, by decide⟩, by decide⟩ rfl rfl rfl (hH.1.1) ⟨rfl, by decide⟩ (zafRv (fun h5 ⟨k5, f5⟩ => ?_)) (zno)
        refine zV.iload_n C dX9_execute_90 rfl ?_
        refine zV.iret C F dX9_execute_91 rfl ?_
        exact sQ_of (by unfold exA; rw [eR]; exact if_neg e6) ⟨(x7.trans x6.1).trans (zXf.q f5 (by omega) (by omega)), by rw [eR]; show (if _ then _ else _); rw [if_neg e6]; exact zXa_h q6 f5 k5⟩
      · have e6 : (pfC g K9).1 < K9.length := nlt (by omega) (by omega) q60
        refine zV.aload_n C dX9_execute_63 rfl rfl ?_
        refine zV.gR 384 (k := 0) C dX9_execute_64 zcl_X9 (by decide) rfl lk_X9_10 (hx.1) rfl (hx.2.1) ?_
        refine zV.aload_n C dX9_execute_67 rfl rfl ?_
        refine zV.gR 386 (k := 2) C dX9_execute_68 zcl_X9 (by decide) rfl lk_X9_19 (hx.1) rfl (hx.2.2.2.1) ?_
        refine zV.callV (n := 1) C G dX9_execute_71 (s_become hzs hst h6 (a + 1) (a + 43) g (zGa_t hg) gb hlg (by omega)) rfl ⟨cd_X3_become, lk_X9_191, im_X3_become, se_X3_X3_become, in_X3⟩ ⟨⟨by decide, by decide⟩, by decide⟩ rfl rfl rfl hg.1.1 ⟨rfl, by decide⟩ (zafRv (fun h5 ⟨g5, f5⟩ => ?_)) (zno)
        have q5 := zXa_g q6 f5.q g5 hlg
        have x5 := (x7.trans x6.1).trans (zXf.q f5.q (by omega) (by omega))
        clear hx hg hf hb hs hH hI hJ hin hou hn
        obtain ⟨hx, ⟨hg, hf, hb⟩, hs, hH, hI, hJ, hin, hou, hn, hlo6, hl96⟩ := id q5
        refine zV.aload_n C dX9_execute_74 rfl rfl ?_
        refine zV.iload_n C dX9_execute_75 rfl ?_
        refine zV.callV (n := 1) C G dX9_execute_76 (s_throwForCommand hzs hst h5 a (pfC g K9).1 (pfC g K9).2.2.1 (pfC g K9).2.2.2.1 hx hJ (((f5.q.e (by omega)).2.2.2.1 _).trans (j6 e6).1) (fun y => ((f5.q.e (by omega)).2.2.2.1 _).trans ((j6 e6).2 y)) hv.1) rfl ⟨cd_X9_throwForCommand, lk_X9_295, im_X9_throwForCommand, se_X9_X9_throwForCommand, in_X9⟩ ⟨⟨by decide, by decide⟩, by decide⟩ rfl rfl rfl hx.1 ⟨rfl, by decide⟩ (fun r9 h4 z4 _ => z4.elim) (fun Ex h4 e4 _ => by
  refine zVX.out C F ?_ ⟨by decide, by decide⟩
  by_cases e3 : (pfC g K9).2.2.1 = 3
  · rw [if_pos e3] at e4
    obtain ⟨rfl, rfl⟩ := e4
    exact ⟨by unfold exA; rw [eR]; exact (if_pos e6).trans (if_pos e3), x5.trans (zXf.q rjH_f (by omega) (by omega)), by rw [eR]; show (if _ then _ else _); rw [if_pos e6, if_pos e3]; exact zXa_rj q5⟩
  · rw [if_neg e3] at e4
    obtain ⟨rfl, rfl⟩ := e4
    exact ⟨by unfold exA; rw [eR]; exact (if_pos e6).trans (if_neg e3), x5, by rw [eR]; show (if _ then _ else _); rw [if_pos e6, if_neg e3]; exact q5⟩)
    · exact absurd rfl q17
  · have ho := rdS_o hin.2.2.1 61 0 [] p9 (by omega) (by rw [eR])
    refine zV.aload_n C dX9_execute_0 rfl rfl ?_
    refine zV.gR 391 (k := 7) C dX9_execute_1 zcl_X9 (by decide) rfl lk_X9_49 (hx.1) rfl (hx.2.2.2.2.2.2.2.2.1) ?_
    refine zV.callV (n := 0) C G dX9_execute_4 (s_readCommands hzs hst h (a + 264) t hin) rfl ⟨cd_X1_readCommands, lk_X9_283, im_X1_readCommands, se_X1_X1_readCommands, in_X1⟩ ⟨⟨by decide, by decide⟩, by decide⟩ rfl rfl rfl hin.1.1 ⟨rfl, by decide⟩ (zafR (fun h9 ⟨⟨p', z9⟩, m9, f9⟩ => ?_)) (zno)
    rw [eR] at z9 m9 ⊢
    show zV X 0 0 h9 7 _ (.int (nI p9) :: _)
    have z9 : zIp h9 (a + 264) t p' K9.length := z9
    have m9 : zCm h9 (a + 264) K9 := m9
    have q9 := zXa_in q f9 z9.1
    clear hx hg hf hb hs hH hI hJ hin hou hn
    obtain ⟨hx, ⟨hg, hf, hb⟩, hs, hH, hI, hJ, hin, hou, hn, hlo2, hl92⟩ := id q9
    refine zV.istore_n (lo' := [(0, _), (1, _)]) C dX9_execute_7 (by decide) rfl rfl rfl ?_
    refine zV.aload_n C dX9_execute_8 rfl rfl ?_
    refine zV.gR 391 (k := 7) C dX9_execute_9 zcl_X9 (by decide) rfl lk_X9_49 (hx.1) rfl (hx.2.2.2.2.2.2.2.2.1) ?_
    refine zV.callV (n := 0) C G dX9_execute_12 (s_inEmpty hzs hst h9 (a + 264) t hin) rfl ⟨cd_X1_empty, lk_X9_286, im_X1_empty, se_X1_X1_empty, in_X1⟩ ⟨⟨by decide, by decide⟩, by decide⟩ rfl rfl rfl hin.1.1 ⟨rfl, by decide⟩ (zafv ?_) (zno)
    have f8 : zFq h9 (sI h9 164 (a + 264) (nI 0)) (a + 264) (a + 269) := (zFq.refl h9 _ _).sI (Nat.le_refl _) (by omega)
    have n8 : zIn (sI h9 164 (a + 264) (nI 0)) (a + 264) [] := ⟨hin.1, hI_sI, Nat.zero_le _, fun i c hc => by cases i <;> cases hc⟩
    have q8 := zXa_in q9 f8 n8
    have x8 := (zXf.q (lo := lo) f9 (by omega) (by omega : _ ≤ a + 271)).trans (zXf.q f8 (by omega) (by omega))
    clear hx hg hf hb hs hH hI hJ hin hou hn
    obtain ⟨hx, ⟨hg, hf, hb⟩, hs, hH, hI, hJ, hin, hou, hn, hlo3, hl93⟩ := id q8
    refine zV.iload_n C dX9_execute_15 rfl ?_
    refine zV.ic (v := (-1)) C dX9_execute_16 (by decide) ?_
    refine zV.icmp_eq (tgt := 36) C dX9_execute_17 (by decide) (fun q17 => ?_) (fun q17 => ?_)
    · exact absurd q17 (nI_m1 (by omega))
    · refine zV.aload_n C dX9_execute_20 rfl rfl ?_
      refine zV.iload_n C dX9_execute_21 rfl ?_
      refine zV.pI 394 (k := 10) C dX9_execute_22 zcl_X9 (by decide) rfl lk_X9_60 rfl hx.1 rfl ⟨rfl, rfl⟩ ?_
      exact zV.throwXW _ C G dX9_execute_25 dX9_execute_28 dX9_execute_29 dX9_execute_32 dX9_execute_35 hz_iae lk_X9_180 in_java_lang_IllegalArgumentException hs_289 hp_iae zUW rfl (zVX.out C F (⟨by unfold exA; rw [eR]; rfl, x8.trans (zXf.q ((zFq.refl _ a (a + 1)).sI (Nat.le_refl _) (Nat.lt_succ_self _)) (by omega) (by omega)), by rw [eR]; exact zXa_0 q8 ((zFq.refl _ a (a + 1)).sI (Nat.le_refl _) (Nat.lt_succ_self _)) (fun _ => rfl) ⟨(hI_sI_f (by decide)).trans hn.1, hI_sI, (hI_sI_f (by decide)).trans hn.2.2.1, (hI_sI_f (by decide)).trans hn.2.2.2.1, (hI_sI_f (by decide)).trans hn.2.2.2.2⟩⟩) ⟨by decide, by decide⟩)
