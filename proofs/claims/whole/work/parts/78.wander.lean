/-! the reference: a herd moves -/
def flt (cs : List zCh) (i : Nat) : List zCh := cs.filter (fun c => decide (chL c = i))
theorem hrd_f {cs : List zCh} {i : Nat} : hrd cs i = (flt cs i).map chI := rfl
theorem fg_flt {i : Nat} : ∀ (ds : List zCh) (k off : Nat) (c : zCh), (flt ds i)[k]? = some c → (∀ d ∈ (flt ds i).take k, chF d = true) → chF c = false → ∃ kk, fgF i ds off = some (off + kk) ∧ ds[kk]? = some c
  | [], k, off, c, h, _, _ => by cases h
  | d :: t, k, off, c, h, hp, hc => by
    unfold flt at h hp
    by_cases e : chL d = i
    · rw [List.filter_cons, if_pos (decide_eq_true e)] at h hp
      rcases k with _ | k
      · rw [List.getElem?_cons_zero] at h
        cases h
        refine ⟨0, ?_, rfl⟩
        rw [fgF, if_pos (by unfold chGr; rw [decide_eq_true e, hc]; rfl)]; rfl
      · rw [List.getElem?_cons_succ] at h
        rw [List.take_succ_cons] at hp
        obtain ⟨kk, h1, h2⟩ := fg_flt t k (off + 1) c h (fun x hx => hp x (List.mem_cons_of_mem _ hx)) hc
        refine ⟨kk + 1, ?_, by rw [List.getElem?_cons_succ]; exact h2⟩
        rw [fgF, if_neg (by unfold chGr; rw [hp d List.mem_cons_self]; simp), h1]
        exact congrArg some (by omega)
    · rw [List.filter_cons, if_neg (by simp [e])] at h hp
      obtain ⟨kk, h1, h2⟩ := fg_flt t k (off + 1) c h hp hc
      refine ⟨kk + 1, ?_, by rw [List.getElem?_cons_succ]; exact h2⟩
      rw [fgF, if_neg (by unfold chGr; rw [decide_eq_false e]; simp), h1]
      exact congrArg some (by omega)
theorem cnt_flt {ds : List zCh} {i : Nat} (h : ∀ d ∈ flt ds i, chF d = true) : ds.countP (chGr i) = 0 := by
  rw [List.countP_eq_zero]
  intro d hd hg
  unfold chGr at hg
  rw [Bool.and_eq_true] at hg
  have := h d (List.mem_filter.mpr ⟨hd, hg.1⟩)
  rw [this] at hg
  exact absurd hg.2 (by decide)
theorem flt_mv {ds : List zCh} {kk k i j : Nat} {c : zCh} (nd : (ds.map chI).Nodup) (h1 : ds[kk]? = some c) (h2 : (flt ds i)[k]? = some c) (hij : i ≠ j) : flt (ds.eraseIdx kk ++ [wL c j]) i = (flt ds i).eraseIdx k := by
  have e1 : flt [wL c j] i = [] := by unfold flt; simp [wL, chL, Ne.symm hij]
  have nd2 : ((flt ds i).map chI).Nodup := List.Nodup.sublist (List.Sublist.map chI List.filter_sublist) nd
  rw [er_key chI nd2 h2, er_key chI nd h1]
  unfold flt at *
  rw [List.filter_append, e1, List.append_nil, List.filter_filter, List.filter_filter]
  congr 1
  funext x
  exact Bool.and_comm _ _
theorem take_er {α : Type} {L : List α} {k : Nat} (h : k < L.length) : (L.eraseIdx k).take k = L.take k := by
  rw [List.eraseIdx_eq_take_drop_succ, List.take_append_of_le_length (by rw [List.length_take]; omega), List.take_take, Nat.min_self]
theorem hsz_mvj {ds : List zCh} {kk j : Nat} {c : zCh} (h1 : ds[kk]? = some c) (hc : chL c ≠ j) : hsz (ds.eraseIdx kk ++ [wL c j]) j = hsz ds j + 1 := by
  unfold hsz
  have := (perm_set (b := wL c j) h1).countP_eq (fun c => decide (chL c = j))
  rw [List.countP_append]
  have e2 : (ds.eraseIdx kk).countP (fun c => decide (chL c = j)) = ds.countP (fun c => decide (chL c = j)) := by
    have p := (perm_set (b := c) h1).countP_eq (fun c => decide (chL c = j))
    rw [List.countP_cons_of_neg (by simp [hc])] at p
    rw [← p]
    congr 1
    apply List.ext_getElem?
    intro i
    rw [List.getElem?_set]
    by_cases e : kk = i
    · subst e; rw [if_pos rfl, if_pos (List.getElem?_eq_some_iff.mp h1).1, h1]
    · rw [if_neg e]
  rw [e2]
  congr 1
  simp [wL, chL]
theorem mg_s {g : zGd} {i j kk : Nat} {c : zCh} (h1 : (gC g)[kk]? = some c) (h2 : fgF i (gC g) 0 = some kk) (hg : chGr i c = true) (hij : i ≠ j) (h5 : hsz (gC g) j < 5) (hc : chL c = i) : mgN g i j = mgN (opMv g kk c j) i j + 1 ∧ opHd i j (mgN g i j) g = opHd i j (mgN (opMv g kk c j) i j) (opMv g kk c j) := by
  have a1 := cnt_mv h1 hg hij
  have a2 : hsz (gC (opMv g kk c j)) j = hsz (gC g) j + 1 := hsz_mvj h1 (by rw [hc]; exact hij)
  have e : mgN g i j = mgN (opMv g kk c j) i j + 1 := by unfold mgN; omega
  refine ⟨e, ?_⟩
  rw [e, opHd, h2]
  show opHd i j _ (opMk g kk j) = _
  rw [opMk_of h1]
theorem mg_0 {g : zGd} {i j : Nat} (h : (gC g).countP (chGr i) = 0 ∨ 5 ≤ hsz (gC g) j) : mgN g i j = 0 := by unfold mgN; omega
theorem jMg_n1 {g : zGd} {x y : Int32} (e : ln x = none) : jMg g x y = (1, 0, 0) := by unfold jMg; rw [e]
theorem jMg_n2 {g : zGd} {x y : Int32} {i : Nat} (e : ln x = some i) (e2 : ln y = none) : jMg g x y = (1, 0, 0) := by unfold jMg; rw [e]; simp only [e2]
theorem jMg_s {g : zGd} {x y : Int32} {i j : Nat} (e : ln x = some i) (e2 : ln y = some j) : jMg g x y = if (gN g i).testBit j = true then (if (gC g).countP (chGr i) = 0 then (3, 7, nI (hsz (gC g) i)) else if 5 ≤ hsz (gC g) j then (3, 4, y) else (0, 0, 0)) else (3, 2, oI (far (gN g) i j)) := by unfold jMg; rw [e]; simp only [e2]
/-- the unfolded of a herd, counted by its ids *)-/
theorem opn_gr {ds : List zCh} {i : Nat} (nd : (ds.map chI).Nodup) {cs : List zCh} (p : cs.Perm ds) : opn cs (hrd ds i) = ds.countP (chGr i) := by
  unfold opn
  rw [hrd_f, List.countP_map]
  unfold flt
  rw [List.countP_filter]
  refine List.countP_congr (fun c hc => ?_)
  show ((!fOf cs (chI c)) && decide (chL c = i)) = true ↔ chGr i c = true
  rw [fOf_of ((p.map chI).nodup_iff.mpr nd) (p.mem_iff.mpr hc)]
  unfold chGr
  rw [Bool.and_comm]
set_option maxHeartbeats 4000000 in
set_option maxRecDepth 100000 in
theorem L_mwanders {X : zX} {l : Launch} {E : zG} {rm : Room} (hzs : zS E) (hst : l.stackTraces = false) (C : zC X cX10_wanders RX10 6) (G : zGX X l E rm) {h : zH} {r i j M0 : Nat} {Qr : Option Value → zH → Prop} {Qx : String → zH → Prop} (hr : rm = ({ frames := 3, cells := 0, slots := 0, locals := 67 } : Room)) (F : zF X (some .int) 0 0 Qr Qx) (hm : zMs h r) (hi : i < 6) (hj : j < 6) (hij : i ≠ j) : ∀ (n k t m : Nat) (G9 : zGd) (f : Nat → Int32) (cs : List zCh), hsz (gC G9) i + 1 ≤ k + n → k ≤ hsz (gC G9) i → gR m G9 → m + n ≤ big → cs.Perm (gC G9) → (cs.map chI).Pairwise (· < ·) → rF f (gwM G9 M0) cs (hrd (gC G9)) → (∀ d ∈ (flt (gC G9) i).take k, chF d = true) → gM G9 = M0 + t → (∀ f', rG f' (opHd i j (mgN G9 i j) G9) → Qr (some (.int (nI 0))) (sI (sRow h (r + 1) f') 434 r (nI (t + mgN G9 i j)))) → zV X 0 0 (sRow h (r + 1) f) 80 [(0, .ref r), (1, .int (nI i)), (2, .int (nI j)), (3, .int (nI t)), (4, .int (nI k))] [] := by
  subst hr
  intro n
  induction n with
  | zero => intro k t m G9 f cs h1 h2; exact absurd h2 (by omega)
  | succ n ih =>
    intro k t m G9 f cs hn hk hR hb hp hsrt hf hpre hM kq
    have hw := rG_W hR (by omega) hp
    have h5i := hw.2.2.1 i hi
    have h5j := hw.2.2.1 j hj
    have z5i := hR.1.2.2.1 i hi
    have z5j := hR.1.2.2.1 j hj
    have gM9 : gM G9 ≤ m := hR.1.2.2.2.2.2.2.2.1
    have hb9 : (big : Nat) = 1000000000 := rfl
    have hgw := gQ_W hR.1 (by omega : m ≤ big)
    have eend : (mgN G9 i j = 0) → ∀ f9, f9 = fup f 6 (nI (M0 + t)) → Qr (some (.int (nI 0))) (sI (sRow h (r + 1) f9) 434 r (nI t)) := fun e f9 e9 => by
      rw [e] at kq
      refine kq f9 ⟨cs, hp, hsrt, ?_⟩
      obtain ⟨q1, q2, q3, q4, q5, q6, q7⟩ := hf.2.2.2
      rw [e9]
      exact rF_g hf G9 rfl rfl ⟨(fup_n (by decide)).trans q1, (fup_n (by decide)).trans q2, (fup_n (by decide)).trans q3, (fup_n (by decide)).trans q4, (fup_n (by decide)).trans q5, fup_e.trans (by rw [hM]), (fup_n (by decide)).trans q7⟩ (fun z hz => fup_n (by omega))
    skip
    refine zV.iload C dX10_wanders_80 rfl ?_
    refine zV.aload_n C dX10_wanders_82 rfl rfl ?_
    refine zV.iload_n C dX10_wanders_83 rfl ?_
    refine zV.ic (v := nI 2) C dX10_wanders_84 (by decide) ?_
    refine zV.callV (n := 2) C G dX10_wanders_85 (s_mlawn hzs hst (sRow h (r + 1) f) r hm i 2 hi (by decide)) rfl ⟨cd_X10_lawn, lk_X10_69, im_X10_lawn, se_X10_X10_lawn, in_X10⟩ ⟨⟨by decide, by decide⟩, by decide⟩ rfl rfl rfl (hm.1) ⟨rfl, by decide⟩ (zaf ?_) (zno)
    rw [aI_sRow, (hf.2.1 i hi).1, hrd_len]
    refine zV.icmp_ge (tgt := 150) C dX10_wanders_88 (by decide) (fun q88 => ?_) (fun q88 => ?_)
    · have e : k = hsz (gC G9) i := by have := nle (by omega) (by rw [hrd_len] at h5i; omega) q88; omega
      have e0 : mgN G9 i j = 0 := mg_0 (Or.inl (cnt_flt (fun d hd => hpre d (by rw [e, ← hrd_len, hrd_f, List.length_map, List.take_length]; exact hd))))
      refine zV.aload_n C dX10_wanders_150 rfl rfl ?_
      refine zV.gR 416 (k := 0) C dX10_wanders_151 zcl_X10 (by decide) rfl lk_X10_9 (hm.1) rfl (hm.2.1) ?_
      refine zV.bi (v := nI 6) C dX10_wanders_154 (by decide) ?_
      refine zV.dup2 C dX10_wanders_156 rfl rfl ?_
      refine zV.ialdv (j := 6) C dX10_wanders_157 (hm.2.2.2.2.2.2.2.2.2.1.1) (rfl) (Nat.lt_of_lt_of_eq (show 6 < 116 by decide) (hm.2.2.2.2.2.2.2.2.2.1.2).symm) (by omega) ((show aI (sRow h (r + 1) f) (r + 1) 6 = nI M0 from by rw [aI_sRow]; exact hf.2.2.2.2.2.2.2.2.1)) ?_
      refine zV.iload_n C dX10_wanders_158 rfl ?_
      refine zV.iadd C dX10_wanders_159 ?_
      rw [nI_add]
      refine zV.iast (j := 6) C dX10_wanders_160 (hm.2.2.2.2.2.2.2.2.2.1.1) (rfl) (Nat.lt_of_lt_of_eq (show 6 < 116 by decide) (hm.2.2.2.2.2.2.2.2.2.1.2).symm) (by omega) ?_
      rw [saI_row2]
      refine zV.aload_n C dX10_wanders_161 rfl rfl ?_
      refine zV.iload_n C dX10_wanders_162 rfl ?_
      refine zV.callV (n := 1) C G dX10_wanders_163 (s_mdoes hzs hst (sRow h (r + 1) (fup f 6 (nI (M0 + t)))) r hm (nI t)) rfl ⟨cd_X10_does, lk_X10_100, im_X10_does, se_X10_X10_does, in_X10⟩ ⟨⟨by decide, by decide⟩, by decide⟩ rfl rfl rfl (hm.1) ⟨rfl, by decide⟩ (zaf ?_) (zno)
      refine zV.iret C F dX10_wanders_166 rfl ?_
      exact eend e0 _ rfl
    · have e : k < hsz (gC G9) i := nlt (by omega) (by rw [hrd_len] at h5i; omega) q88
      refine zV.aload_n C dX10_wanders_91 rfl rfl ?_
      refine zV.iload_n C dX10_wanders_92 rfl ?_
      refine zV.ic (v := nI 2) C dX10_wanders_93 (by decide) ?_
      refine zV.callV (n := 2) C G dX10_wanders_94 (s_mlawn hzs hst (sRow h (r + 1) f) r hm j 2 hj (by decide)) rfl ⟨cd_X10_lawn, lk_X10_69, im_X10_lawn, se_X10_X10_lawn, in_X10⟩ ⟨⟨by decide, by decide⟩, by decide⟩ rfl rfl rfl (hm.1) ⟨rfl, by decide⟩ (zaf ?_) (zno)
      rw [aI_sRow, (hf.2.1 j hj).1, hrd_len]
      refine zV.ic (v := nI 5) C dX10_wanders_97 (by decide) ?_
      refine zV.icmp_ge (tgt := 150) C dX10_wanders_98 (by decide) (fun q98 => ?_) (fun q98 => ?_)
      · have e0 : mgN G9 i j = 0 := mg_0 (Or.inr (nle (by rw [hrd_len] at h5j; omega) (by decide) q98))
        refine zV.aload_n C dX10_wanders_150 rfl rfl ?_
        refine zV.gR 416 (k := 0) C dX10_wanders_151 zcl_X10 (by decide) rfl lk_X10_9 (hm.1) rfl (hm.2.1) ?_
        refine zV.bi (v := nI 6) C dX10_wanders_154 (by decide) ?_
        refine zV.dup2 C dX10_wanders_156 rfl rfl ?_
        refine zV.ialdv (j := 6) C dX10_wanders_157 (hm.2.2.2.2.2.2.2.2.2.1.1) (rfl) (Nat.lt_of_lt_of_eq (show 6 < 116 by decide) (hm.2.2.2.2.2.2.2.2.2.1.2).symm) (by omega) ((show aI (sRow h (r + 1) f) (r + 1) 6 = nI M0 from by rw [aI_sRow]; exact hf.2.2.2.2.2.2.2.2.1)) ?_
        refine zV.iload_n C dX10_wanders_158 rfl ?_
        refine zV.iadd C dX10_wanders_159 ?_
        rw [nI_add]
        refine zV.iast (j := 6) C dX10_wanders_160 (hm.2.2.2.2.2.2.2.2.2.1.1) (rfl) (Nat.lt_of_lt_of_eq (show 6 < 116 by decide) (hm.2.2.2.2.2.2.2.2.2.1.2).symm) (by omega) ?_
        rw [saI_row2]
        refine zV.aload_n C dX10_wanders_161 rfl rfl ?_
        refine zV.iload_n C dX10_wanders_162 rfl ?_
        refine zV.callV (n := 1) C G dX10_wanders_163 (s_mdoes hzs hst (sRow h (r + 1) (fup f 6 (nI (M0 + t)))) r hm (nI t)) rfl ⟨cd_X10_does, lk_X10_100, im_X10_does, se_X10_X10_does, in_X10⟩ ⟨⟨by decide, by decide⟩, by decide⟩ rfl rfl rfl (hm.1) ⟨rfl, by decide⟩ (zaf ?_) (zno)
        refine zV.iret C F dX10_wanders_166 rfl ?_
        exact eend e0 _ rfl
      · have e2 : hsz (gC G9) j < 5 := nlt (by rw [hrd_len] at h5j; omega) (by decide) q98
        obtain ⟨c, hc9⟩ : ∃ c, (flt (gC G9) i)[k]? = some c := ⟨_, List.getElem?_eq_getElem (by rw [← hrd_len, hrd_f, List.length_map] at e; exact e)⟩
        have hcm := List.mem_filter.mp (List.mem_of_getElem? hc9)
        have hci : chL c = i := of_decide_eq_true hcm.2
        have hq : (hrd (gC G9) i)[k]? = some (chI c) := by rw [hrd_f, List.getElem?_map, hc9]; rfl
        have hmc := hp.mem_iff.mpr hcm.1
        obtain ⟨j9, hj9, hcj, hjl⟩ := pl_of hw hmc
        have hl12 := hw.1
        have hj12 : j9 < 12 := by omega
        obtain ⟨c1, c2, c3, c4, c5⟩ := hf.1.2 j9 c hcj
        refine zV.aload_n C dX10_wanders_101 rfl rfl ?_
        refine zV.aload_n C dX10_wanders_102 rfl rfl ?_
        refine zV.iload_n C dX10_wanders_103 rfl ?_
        refine zV.iload C dX10_wanders_104 rfl ?_
        refine zV.callV (n := 2) C G dX10_wanders_106 (s_mherd hzs hst (sRow h (r + 1) f) r hm i k hi (by rw [hrd_len] at h5i; omega)) rfl ⟨cd_X10_herd, lk_X10_147, im_X10_herd, se_X10_X10_herd, in_X10⟩ ⟨⟨by decide, by decide⟩, by decide⟩ rfl rfl rfl (hm.1) ⟨rfl, by decide⟩ (zaf ?_) (zno)
        rw [aI_sRow, (hf.2.1 i hi).2 k _ hq]
        refine zV.callV (n := 1) C G dX10_wanders_109 (s_mplace hzs hst (sRow h (r + 1) f) r (gwM G9 M0) cs (hrd (gC G9)) hm (by rw [aI_sRow]; exact hf) hw (nI (chI c))) rfl ⟨cd_X10_place, lk_X10_129, im_X10_place, se_X10_X10_place, in_X10⟩ ⟨⟨by decide, by decide⟩, by decide⟩ rfl rfl rfl (hm.1) ⟨rfl, by decide⟩ (zaf ?_) (zno)
        rw [hj9]
        show zV X _ _ _ 112 _ (.int (nI j9) :: _)
        refine zV.istore (lo' := [(0, _), (1, _), (2, _), (3, _), (4, _), (5, _)]) C dX10_wanders_112 (by decide) rfl rfl rfl ?_
        refine zV.aload_n C dX10_wanders_114 rfl rfl ?_
        refine zV.iload C dX10_wanders_115 rfl ?_
        refine zV.ic (v := nI 3) C dX10_wanders_117 (by decide) ?_
        refine zV.callV (n := 2) C G dX10_wanders_118 (s_mof hzs hst (sRow h (r + 1) f) r hm j9 3 hj12 (by decide)) rfl ⟨cd_X10_of, lk_X10_65, im_X10_of, se_X10_X10_of, in_X10⟩ ⟨⟨by decide, by decide⟩, by decide⟩ rfl rfl rfl (hm.1) ⟨rfl, by decide⟩ (zaf ?_) (zno)
        rw [aI_sRow, c4]
        refine zV.ic (v := nI 1) C dX10_wanders_121 (by decide) ?_
        refine zV.icmp_ne (tgt := 131) C dX10_wanders_122 (by decide) (fun q122 => ?_) (fun q122 => ?_)
        · have e3 : chF c = false := by
            rcases hx : chF c with _ | _
            · rfl
            · rw [hx] at q122; exact absurd rfl q122
          obtain ⟨kk, hkk, hck⟩ := fg_flt (gC G9) k 0 c hc9 hpre e3
          rw [Nat.zero_add] at hkk
          have hgr : chGr i c = true := by unfold chGr; rw [decide_eq_true hci, e3]; rfl
          obtain ⟨m1, m2⟩ := mg_s hck hkk hgr hij e2 hci
          have hq2 : (hrd (gC G9) (chL c))[k]? = some (chI c) := by rw [hci]; exact hq
          have hc6 : chL c < 6 := by rw [hci]; exact hi
          have hn5 : ((upH (hrd (gC G9)) (chL c) ((hrd (gC G9) (chL c)).eraseIdx k)) j).length < 5 := by unfold upH; rw [if_neg (by rw [hci]; exact fun z => hij z.symm), hrd_len]; exact e2
          have FL := lvF_F hf hc6 hw.2.2.1 (List.getElem?_eq_some_iff.mp hq2).1
          have FJ := mv_F (g := gwM G9 M0) hw hf hcj hq2 hj hn5
          refine zV.aload_n C dX10_wanders_131 rfl rfl ?_
          refine zV.iload C dX10_wanders_132 rfl ?_
          refine zV.callV (n := 1) C G dX10_wanders_134 (s_mleaves hzs hst (sRow h (r + 1) f) r (gwM G9 M0) cs (hrd (gC G9)) hm (by rw [aI_sRow]; exact hf) hw j9 c hcj k hq2) rfl ⟨cd_X10_leaves, lk_X10_81, im_X10_leaves, se_X10_X10_leaves, in_X10⟩ ⟨⟨by decide, by decide⟩, by decide⟩ rfl rfl rfl (hm.1) ⟨rfl, by decide⟩ (zafv ?_) (zno)
          rw [sRow_row, aI_sRow]
          refine zV.aload_n C dX10_wanders_137 rfl rfl ?_
          refine zV.iload C dX10_wanders_138 rfl ?_
          refine zV.iload_n C dX10_wanders_140 rfl ?_
          refine zV.callV (n := 2) C G dX10_wanders_141 (s_mjoins hzs hst (sRow h (r + 1) (lvF f (chL c) k (hrd (gC G9) (chL c)).length)) r hm j9 j ((upH (hrd (gC G9)) (chL c) ((hrd (gC G9) (chL c)).eraseIdx k)) j).length (chI c) hj12 hj hn5 (by rw [aI_sRow]; exact (FL.2.1 j hj).1) (by rw [aI_sRow]; exact (FL.1.2 j9 c hcj).1)) rfl ⟨cd_X10_joins, lk_X10_122, im_X10_joins, se_X10_X10_joins, in_X10⟩ ⟨⟨by decide, by decide⟩, by decide⟩ rfl rfl rfl (hm.1) ⟨rfl, by decide⟩ (zafv ?_) (zno)
          rw [sRow_row, aI_sRow]
          refine zV.iinc (lo' := [(0, _), (1, _), (2, _), (3, _), (4, _), (5, _)]) C dX10_wanders_144 rfl (by decide) rfl rfl rfl ?_
          refine zV.goto (tgt := 80) C dX10_wanders_147 (by decide) ?_
          rw [inc1]
          first
            | exact zV.sub [0, 1, 2, 3, 4] rfl (ih (k + 1) t m G9 f cs (by omega) (by omega) hR (by omega) hp hsrt hf (fun d hd => by
                rw [List.take_add_one, hc9] at hd
                rcases List.mem_append.mp hd with hd | hd
                · exact hpre d hd
                · rw [List.mem_singleton.mp hd]; exact e3) hM kq)
            | exact zV.sub [0, 1, 2, 3, 4] rfl (ih k (t + 1) (m + 1) (opMv G9 kk c j) _ (cs.set j9 (wL c j)) (by
                have z : hsz (gC (opMv G9 kk c j)) i + 1 = hsz (gC G9) i := by
                  rw [← hrd_len, ← hrd_len, hrd_f, hrd_f, List.length_map, List.length_map]
                  show (flt ((gC G9).eraseIdx kk ++ [wL c j]) i).length + 1 = _
                  rw [flt_mv hgw.2.1 hck hc9 hij, List.length_eraseIdx, if_pos (List.getElem?_eq_some_iff.mp hc9).1]
                  have := (List.getElem?_eq_some_iff.mp hc9).1
                  omega
                omega) (by
                have z : hsz (gC (opMv G9 kk c j)) i + 1 = hsz (gC G9) i := by
                  rw [← hrd_len, ← hrd_len, hrd_f, hrd_f, List.length_map, List.length_map]
                  show (flt ((gC G9).eraseIdx kk ++ [wL c j]) i).length + 1 = _
                  rw [flt_mv hgw.2.1 hck hc9 hij, List.length_eraseIdx, if_pos (List.getElem?_eq_some_iff.mp hc9).1]
                  have := (List.getElem?_eq_some_iff.mp hc9).1
                  omega
                omega) ⟨gQ_mv hR.1 hck hj e2, gPt_same hR.2 rfl rfl⟩ (by omega) (perm_mv (wL c j) hp hgw.2.1 hcj hck) (srt_st hsrt hcj rfl) (rF_H FJ (fun l hl => mv_H hgw.2.1 hck hq2 (hw.2.2.2.2.2.1 _ hc6) l)) (fun d hd => by
                have hd : d ∈ (flt ((gC G9).eraseIdx kk ++ [wL c j]) i).take k := hd
                rw [flt_mv hgw.2.1 hck hc9 hij, take_er (List.getElem?_eq_some_iff.mp hc9).1] at hd
                exact hpre d hd) (by show gM G9 + 1 = _; omega) (fun f' hf' => by
                have z := kq f' (by rw [m2]; exact hf')
                rw [m1, show t + (mgN (opMv G9 kk c j) i j + 1) = t + 1 + mgN (opMv G9 kk c j) i j by omega] at z
                exact z))
        · have e3 : chF c = true := by
            rcases hx : chF c with _ | _
            · rw [hx] at q122; exact absurd q122 (by decide)
            · rfl
          refine zV.iinc (lo' := [(0, _), (1, _), (2, _), (3, _), (4, _), (5, _)]) C dX10_wanders_125 rfl (by decide) rfl rfl rfl ?_
          refine zV.goto (tgt := 80) C dX10_wanders_128 (by decide) ?_
          rw [inc1]
          first
            | exact zV.sub [0, 1, 2, 3, 4] rfl (ih (k + 1) t m G9 f cs (by omega) (by omega) hR (by omega) hp hsrt hf (fun d hd => by
                rw [List.take_add_one, hc9] at hd
                rcases List.mem_append.mp hd with hd | hd
                · exact hpre d hd
                · rw [List.mem_singleton.mp hd]; exact e3) hM kq)
            | exact zV.sub [0, 1, 2, 3, 4] rfl (ih k (t + 1) (m + 1) (opMv G9 kk c j) _ (cs.set j9 (wL c j)) (by
                have z : hsz (gC (opMv G9 kk c j)) i + 1 = hsz (gC G9) i := by
                  rw [← hrd_len, ← hrd_len, hrd_f, hrd_f, List.length_map, List.length_map]
                  show (flt ((gC G9).eraseIdx kk ++ [wL c j]) i).length + 1 = _
                  rw [flt_mv hgw.2.1 hck hc9 hij, List.length_eraseIdx, if_pos (List.getElem?_eq_some_iff.mp hc9).1]
                  have := (List.getElem?_eq_some_iff.mp hc9).1
                  omega
                omega) (by
                have z : hsz (gC (opMv G9 kk c j)) i + 1 = hsz (gC G9) i := by
                  rw [← hrd_len, ← hrd_len, hrd_f, hrd_f, List.length_map, List.length_map]
                  show (flt ((gC G9).eraseIdx kk ++ [wL c j]) i).length + 1 = _
                  rw [flt_mv hgw.2.1 hck hc9 hij, List.length_eraseIdx, if_pos (List.getElem?_eq_some_iff.mp hc9).1]
                  have := (List.getElem?_eq_some_iff.mp hc9).1
                  omega
                omega) ⟨gQ_mv hR.1 hck hj e2, gPt_same hR.2 rfl rfl⟩ (by omega) (perm_mv (wL c j) hp hgw.2.1 hcj hck) (srt_st hsrt hcj rfl) (rF_H FJ (fun l hl => mv_H hgw.2.1 hck hq2 (hw.2.2.2.2.2.1 _ hc6) l)) (fun d hd => by
                have hd : d ∈ (flt ((gC G9).eraseIdx kk ++ [wL c j]) i).take k := hd
                rw [flt_mv hgw.2.1 hck hc9 hij, take_er (List.getElem?_eq_some_iff.mp hc9).1] at hd
                exact hpre d hd) (by show gM G9 + 1 = _; omega) (fun f' hf' => by
                have z := kq f' (by rw [m2]; exact hf')
                rw [m1, show t + (mgN (opMv G9 kk c j) i j + 1) = t + 1 + mgN (opMv G9 kk c j) i j by omega] at z
                exact z))
theorem sRow_id {h : zH} {a : Nat} : sRow h a (aI h a) = h := by
  unfold sRow
  rw [show (fun x => if x = a then aI h a else aI h x) = aI h from funext fun x => by by_cases e : x = a <;> simp [e]]
  rfl
set_option maxHeartbeats 4000000 in
set_option maxRecDepth 100000 in
theorem s_mwanders {l : Launch} {E : zG} (hzs : zS E) (hst : l.stackTraces = false) (h : zH) (r m : Nat) (g : zGd) (hm : zMs h r) (hg : rG (aI h (r + 1)) g) (hR : gR m g) (hb : m + 3000 ≤ big) (x y : Int32) : zMet l E yX10_wanders cX10_wanders 6 (some .int) ({ frames := 3, cells := 0, slots := 0, locals := 67 } : Room) 0 0 [.ref r, .int x, .int y] h (opQ h r (jMg g x y) (ap g 103 x y).2 (fun f' => rG f' (ap g 103 x y).1)) (fun _ _ => False) := by
  refine zM_start hzs hst (by decide) (Nat.le_of_ble_eq_true rfl) (fun X C G F I => ?_)
  show zV X 0 0 _ 0 [(0, _), (1, _), (2, _)] []
  obtain ⟨cs, hp, hsrt, hf⟩ := hg
  have hw := rG_W hR (by omega) hp
  have hN := hR.2.1
  have hls := hf.2.2.1
  have hgw := gQ_W hR.1 (by omega : m ≤ big)
  rcases e1 : ln x with _ | i
  · refine zV.iload_n C dX10_wanders_0 rfl ?_
    refine zV.callS (n := 1) C G dX10_wanders_1 (s_misLawn hzs hst h x) rfl ⟨cd_X10_isLawn, lk_X10_85, st_X10_isLawn, in_X10⟩ ⟨⟨by decide, by decide⟩, by decide⟩ rfl rfl rfl (zaf ?_) (zno)
    rw [e1]
    show zV X _ _ h 4 _ (.int (nI 0) :: _)
    refine zV.if_eq (tgt := 14) C dX10_wanders_4 (by decide) (fun q4 => ?_) (fun q4 => ?_)
    · refine zV.ic (v := nI 1) C dX10_wanders_14 (by decide) ?_
      refine zV.iret C F dX10_wanders_15 rfl ?_
      exact opQ_1 (jMg_n1 e1)
    · exact absurd rfl q4
  · obtain ⟨hi, rfl⟩ := ln_some e1
    rcases e2 : ln y with _ | j
    · refine zV.iload_n C dX10_wanders_0 rfl ?_
      refine zV.callS (n := 1) C G dX10_wanders_1 (s_misLawn hzs hst h (nI i)) rfl ⟨cd_X10_isLawn, lk_X10_85, st_X10_isLawn, in_X10⟩ ⟨⟨by decide, by decide⟩, by decide⟩ rfl rfl rfl (zaf ?_) (zno)
      rw [e1]
      show zV X _ _ h 4 _ (.int (nI 1) :: _)
      refine zV.if_eq (tgt := 14) C dX10_wanders_4 (by decide) (fun q4 => ?_) (fun q4 => ?_)
      · exact absurd q4 (by decide)
      · refine zV.iload_n C dX10_wanders_7 rfl ?_
        refine zV.callS (n := 1) C G dX10_wanders_8 (s_misLawn hzs hst h y) rfl ⟨cd_X10_isLawn, lk_X10_85, st_X10_isLawn, in_X10⟩ ⟨⟨by decide, by decide⟩, by decide⟩ rfl rfl rfl (zaf ?_) (zno)
        rw [e2]
        show zV X _ _ h 11 _ (.int (nI 0) :: _)
        refine zV.if_ne (tgt := 16) C dX10_wanders_11 (by decide) (fun q11 => ?_) (fun q11 => ?_)
        · exact absurd rfl q11
        · refine zV.ic (v := nI 1) C dX10_wanders_14 (by decide) ?_
          refine zV.iret C F dX10_wanders_15 rfl ?_
          exact opQ_1 (jMg_n2 e1 e2)
    · obtain ⟨hj, rfl⟩ := ln_some e2
      refine zV.iload_n C dX10_wanders_0 rfl ?_
      refine zV.callS (n := 1) C G dX10_wanders_1 (s_misLawn hzs hst h (nI i)) rfl ⟨cd_X10_isLawn, lk_X10_85, st_X10_isLawn, in_X10⟩ ⟨⟨by decide, by decide⟩, by decide⟩ rfl rfl rfl (zaf ?_) (zno)
      rw [e1]
      show zV X _ _ h 4 _ (.int (nI 1) :: _)
      refine zV.if_eq (tgt := 14) C dX10_wanders_4 (by decide) (fun q4 => ?_) (fun q4 => ?_)
      · exact absurd q4 (by decide)
      · refine zV.iload_n C dX10_wanders_7 rfl ?_
        refine zV.callS (n := 1) C G dX10_wanders_8 (s_misLawn hzs hst h (nI j)) rfl ⟨cd_X10_isLawn, lk_X10_85, st_X10_isLawn, in_X10⟩ ⟨⟨by decide, by decide⟩, by decide⟩ rfl rfl rfl (zaf ?_) (zno)
        rw [e2]
        show zV X _ _ h 11 _ (.int (nI 1) :: _)
        refine zV.if_ne (tgt := 16) C dX10_wanders_11 (by decide) (fun q11 => ?_) (fun q11 => ?_)
        · refine zV.aload_n C dX10_wanders_16 rfl rfl ?_
          refine zV.iload_n C dX10_wanders_17 rfl ?_
          refine zV.iload_n C dX10_wanders_18 rfl ?_
          refine zV.callV (n := 2) C G dX10_wanders_19 (s_misPath hzs hst h r g hm hls hN i j hi hj) rfl ⟨cd_X10_isPathBetween, lk_X10_89, im_X10_isPathBetween, se_X10_X10_isPathBetween, in_X10⟩ ⟨⟨by decide, by decide⟩, by decide⟩ rfl rfl rfl (hm.1) ⟨rfl, by decide⟩ (zaf ?_) (zno)
          refine zV.if_ne (tgt := 37) C dX10_wanders_22 (by decide) (fun q22 => ?_) (fun q22 => ?_)
          · have hb9 : (gN g i).testBit j = true := Decidable.not_not.mp (fun z => q22 (b01.mpr z))
            have hij : i ≠ j := fun z => by rw [← z, hR.2.2.2.1 i hi] at hb9; cases hb9
            refine zV.aload_n C dX10_wanders_37 rfl rfl ?_
            refine zV.iload_n C dX10_wanders_38 rfl ?_
            refine zV.callV (n := 1) C G dX10_wanders_39 (s_mopen hzs hst h r g cs (hrd (gC g)) hm hf hw i hi) rfl ⟨cd_X10_open, lk_X10_150, im_X10_open, se_X10_X10_open, in_X10⟩ ⟨⟨by decide, by decide⟩, by decide⟩ rfl rfl rfl (hm.1) ⟨rfl, by decide⟩ (zaf ?_) (zno)
            rw [opn_gr hgw.2.1 hp]
            refine zV.if_ne (tgt := 58) C dX10_wanders_42 (by decide) (fun q42 => ?_) (fun q42 => ?_)
            · have e3 : ¬ (gC g).countP (chGr i) = 0 := fun z => q42 (by rw [z]; rfl)
              refine zV.aload_n C dX10_wanders_58 rfl rfl ?_
              refine zV.iload_n C dX10_wanders_59 rfl ?_
              refine zV.ic (v := nI 2) C dX10_wanders_60 (by decide) ?_
              refine zV.callV (n := 2) C G dX10_wanders_61 (s_mlawn hzs hst h r hm j 2 hj (by decide)) rfl ⟨cd_X10_lawn, lk_X10_69, im_X10_lawn, se_X10_X10_lawn, in_X10⟩ ⟨⟨by decide, by decide⟩, by decide⟩ rfl rfl rfl (hm.1) ⟨rfl, by decide⟩ (zaf ?_) (zno)
              rw [(hf.2.1 j hj).1, hrd_len]
              refine zV.ic (v := nI 5) C dX10_wanders_64 (by decide) ?_
              refine zV.icmp_ne (tgt := 75) C dX10_wanders_65 (by decide) (fun q65 => ?_) (fun q65 => ?_)
              · have e4 : ¬ 5 ≤ hsz (gC g) j := fun z => q65 (congrArg nI (by have := hR.1.2.2.1 j hj; omega))
                refine zV.ic (v := nI 0) C dX10_wanders_75 (by decide) ?_
                refine zV.istore_n (lo' := [(0, _), (1, _), (2, _), (3, _)]) C dX10_wanders_76 (by decide) rfl rfl rfl ?_
                refine zV.ic (v := nI 0) C dX10_wanders_77 (by decide) ?_
                refine zV.istore (lo' := [(0, _), (1, _), (2, _), (3, _), (4, _)]) C dX10_wanders_78 (by decide) rfl rfl rfl ?_
                have e7 : ap g 103 (nI i) (nI j) = (opHd i j (mgN g i j) g, nI (mgN g i j)) := aLL_e e1 e2
                have h9 := L_mwanders (M0 := gM g) (Qr := opQ h r (jMg g (nI i) (nI j)) (ap g 103 (nI i) (nI j)).2 (fun f' => rG f' (ap g 103 (nI i) (nI j)).1)) hzs hst C G rfl F hm hi hj hij (hsz (gC g) i + 1) 0 0 m g (aI h (r + 1)) cs (by omega) (Nat.zero_le _) hR (by have := hR.1.2.2.1 i hi; omega) hp hsrt hf (fun d hd => by rw [List.take_zero] at hd; cases hd) rfl (fun f' hf' => opQ_0 ((jMg_s e1 e2).trans ((if_pos hb9).trans ((if_neg e3).trans (if_neg e4)))) (by rw [e7, Nat.zero_add]) (by rw [e7]; exact hf'))
                rw [sRow_id] at h9
                exact h9
              · have e4 : 5 ≤ hsz (gC g) j := by have := neq (by have := hR.1.2.2.1 j hj; omega) (by decide) q65; omega
                refine zV.aload_n C dX10_wanders_68 rfl rfl ?_
                refine zV.ic (v := nI 4) C dX10_wanders_69 (by decide) ?_
                refine zV.iload_n C dX10_wanders_70 rfl ?_
                refine zV.callV (n := 2) C G dX10_wanders_71 (s_mrejects hzs hst h r hm (nI 4) (nI j)) rfl ⟨cd_X10_rejects, lk_X10_97, im_X10_rejects, se_X10_X10_rejects, in_X10⟩ ⟨⟨by decide, by decide⟩, by decide⟩ rfl rfl rfl (hm.1) ⟨rfl, by decide⟩ (zaf ?_) (zno)
                refine zV.iret C F dX10_wanders_74 rfl ?_
                exact opQ_3 ((jMg_s e1 e2).trans ((if_pos hb9).trans ((if_neg e3).trans (if_pos e4)))) rfl
            · have e3 : (gC g).countP (chGr i) = 0 := (n0 (by have : (gC g).countP (chGr i) ≤ (gC g).length := List.countP_le_length; have := gW_len hgw; omega)).mp q42
              refine zV.aload_n C dX10_wanders_45 rfl rfl ?_
              refine zV.bi (v := nI 7) C dX10_wanders_46 (by decide) ?_
              refine zV.aload_n C dX10_wanders_48 rfl rfl ?_
              refine zV.iload_n C dX10_wanders_49 rfl ?_
              refine zV.ic (v := nI 2) C dX10_wanders_50 (by decide) ?_
              refine zV.callV (n := 2) C G dX10_wanders_51 (s_mlawn hzs hst h r hm i 2 hi (by decide)) rfl ⟨cd_X10_lawn, lk_X10_69, im_X10_lawn, se_X10_X10_lawn, in_X10⟩ ⟨⟨by decide, by decide⟩, by decide⟩ rfl rfl rfl (hm.1) ⟨rfl, by decide⟩ (zaf ?_) (zno)
              rw [(hf.2.1 i hi).1, hrd_len]
              refine zV.callV (n := 2) C G dX10_wanders_54 (s_mrejects hzs hst h r hm (nI 7) (nI (hsz (gC g) i))) rfl ⟨cd_X10_rejects, lk_X10_97, im_X10_rejects, se_X10_X10_rejects, in_X10⟩ ⟨⟨by decide, by decide⟩, by decide⟩ rfl rfl rfl (hm.1) ⟨rfl, by decide⟩ (zaf ?_) (zno)
              refine zV.iret C F dX10_wanders_57 rfl ?_
              exact opQ_3 ((jMg_s e1 e2).trans ((if_pos hb9).trans (if_pos e3))) rfl
          · have hb9 : ¬ (gN g i).testBit j = true := b01.mp q22
            refine zV.aload_n C dX10_wanders_25 rfl rfl ?_
            refine zV.ic (v := nI 2) C dX10_wanders_26 (by decide) ?_
            refine zV.aload_n C dX10_wanders_27 rfl rfl ?_
            refine zV.iload_n C dX10_wanders_28 rfl ?_
            refine zV.iload_n C dX10_wanders_29 rfl ?_
            refine zV.callV (n := 2) C G dX10_wanders_30 (s_mfar hzs hst h r g hm hls hN i j hi hj) rfl ⟨cd_X10_far, lk_X10_113, im_X10_far, se_X10_X10_far, in_X10⟩ ⟨⟨by decide, by decide⟩, by decide⟩ rfl rfl rfl (hm.1) ⟨rfl, by decide⟩ (zaf ?_) (zno)
            refine zV.callV (n := 2) C G dX10_wanders_33 (s_mrejects hzs hst h r hm (nI 2) (oI (far (gN g) i j))) rfl ⟨cd_X10_rejects, lk_X10_97, im_X10_rejects, se_X10_X10_rejects, in_X10⟩ ⟨⟨by decide, by decide⟩, by decide⟩ rfl rfl rfl (hm.1) ⟨rfl, by decide⟩ (zaf ?_) (zno)
            refine zV.iret C F dX10_wanders_36 rfl ?_
            exact opQ_3 ((jMg_s e1 e2).trans (if_neg hb9)) rfl
        · exact absurd q11 (by decide)
