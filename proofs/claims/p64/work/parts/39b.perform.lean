set_option maxHeartbeats 4000000 in
set_option maxRecDepth 100000 in
theorem s_perform {l : Launch} {E : zG} (hzs : zS E) (hst : l.stackTraces = false) (h : zH) (b m d : Nat) (g : zGd) (x y : Int32) (hd : isD d) (hg : zGa h b g) (q : gR m g) (hm : m + 3000 ≤ big) (h0 : (jd g d x y).1 = 0) : zMet l E yX3_perform cX3_perform 4 (some .int) ({ frames := 4, cells := 0, slots := 0, locals := 92 } : Room) 0 0 [.ref b, .int (nI d), .int x, .int y] h (fun r h' => r = some (.int (ap g d x y).2) ∧ zGa h' b (ap g d x y).1 ∧ zFr h h' b) (fun _ _ => False) := by
  refine zM_start hzs hst (by decide) (Nat.le_of_ble_eq_true rfl) (fun X C G F I => ?_)
  show zV X 0 0 _ 0 [(0, _), (1, _), (2, _), (3, _)] []
  have hw := gQ_W q.1 (by omega : m ≤ big)
  have hl := gW_len hw
  rcases hd with rfl | rfl | rfl | rfl | rfl | rfl | rfl | rfl | rfl | rfl | rfl | rfl
  · obtain ⟨i, j, hx, hy, hi, hj, rfl, rfl, hij, hb⟩ := j0Pv h0
    have e : ap g 112 (nI i) (nI j) = (pvN g i j, nI (gP g + 1)) := aLL_e hx hy
    obtain ⟨gg, ff⟩ := zGa_pth (c := gP g + 1) hg hl hij (setb_lt (q.2.1 i hi) hj) (setb_lt (q.2.1 j hj) hi)
    refine zV.iload_n C dX3_perform_0 rfl ?_
    refine zV.tIn 100 C dX3_perform_1 (by decide) (by decide) (show _ = some 99 from by rfl) (by decide) ?_
    refine zV.aload_n C dX3_perform_100 rfl rfl ?_
    refine zV.gR 192 (k := 0) C dX3_perform_101 zcl_X3 (by decide) rfl lk_X3_12 (hg.1.1) rfl (hg.1.2.1) ?_
    refine zV.iload_n C dX3_perform_104 rfl ?_
    refine zV.iload_n C dX3_perform_105 rfl ?_
    refine zV.callV (n := 2) C G dX3_perform_106 (s_Paths_add hzs hst h (b + 1) i j (gP g) (gN g) hi hj hij (zGa_pa hg) (zGa_p hg)) rfl ⟨cd_X8_add, lk_X3_74, im_X8_add, se_X8_X8_add, in_X8⟩ ⟨⟨by decide, by decide⟩, by decide⟩ rfl rfl rfl (hg.1.2.2.2.2.2.1.1) ⟨rfl, by decide⟩ (zaf ?_) (zno)
    refine zV.iret C F dX3_perform_109 rfl ?_
    exact ⟨by rw [e]; try rfl, by rw [e]; exact gg, ff⟩
  · obtain ⟨i, j, hx, hy, hi, hj, rfl, rfl, hij, hb⟩ := j0Dg h0
    have e : ap g 113 (nI i) (nI j) = (dgN g i j, nI (gP g - 1)) := aLL_e hx hy
    have hp := (gPt_dg q.2 hi hj hij hb).2
    obtain ⟨gg, ff⟩ := zGa_pth (c := gP g - 1) hg hl hij ((clrb_lt (gN g i) j).resolve_right (by omega)) ((clrb_lt (gN g j) i).resolve_right (by omega))
    refine zV.iload_n C dX3_perform_0 rfl ?_
    refine zV.tIn 110 C dX3_perform_1 (by decide) (by decide) (show _ = some 109 from by rfl) (by decide) ?_
    refine zV.aload_n C dX3_perform_110 rfl rfl ?_
    refine zV.gR 192 (k := 0) C dX3_perform_111 zcl_X3 (by decide) rfl lk_X3_12 (hg.1.1) rfl (hg.1.2.1) ?_
    refine zV.iload_n C dX3_perform_114 rfl ?_
    refine zV.iload_n C dX3_perform_115 rfl ?_
    refine zV.callV (n := 2) C G dX3_perform_116 (s_Paths_remove hzs hst h (b + 1) i j (gP g) (gN g) hi hj hij hp (zGa_pa hg) (zGa_p hg)) rfl ⟨cd_X8_remove, lk_X3_78, im_X8_remove, se_X8_X8_remove, in_X8⟩ ⟨⟨by decide, by decide⟩, by decide⟩ rfl rfl rfl (hg.1.2.2.2.2.2.1.1) ⟨rfl, by decide⟩ (zaf ?_) (zno)
    refine zV.iret C F dX3_perform_119 rfl ?_
    exact ⟨by rw [e]; try rfl, by rw [e]; exact gg, ff⟩
  · obtain ⟨i, s, hx, hi, rfl, rfl, hs⟩ := j0Sh h0
    have e : ap g 104 (nI i) (nI s) = (opSh g i s, nI (gS g i)) := by
      rw [show ap g 104 (nI i) (nI s) = (opSh g i (nI s).toNatClampNeg, nI (gS g i)) from aL_e hx, nI_cl (by omega)]
    refine zV.iload_n C dX3_perform_0 rfl ?_
    refine zV.tIn 120 C dX3_perform_1 (by decide) (by decide) (show _ = some 119 from by rfl) (by decide) ?_
    refine zV.aload_n C dX3_perform_120 rfl rfl ?_
    refine zV.iload_n C dX3_perform_121 rfl ?_
    refine zV.iload_n C dX3_perform_122 rfl ?_
    refine zV.callV (n := 2) C G dX3_perform_123 (s_changeShade hzs hst h b g i s hi hg hw) rfl ⟨cd_X3_changeShade, lk_X3_81, im_X3_changeShade, se_X3_X3_changeShade, in_X3⟩ ⟨⟨by decide, by decide⟩, by decide⟩ rfl rfl rfl (hg.1.1) ⟨rfl, by decide⟩ (zafR (fun h9 ⟨gg, ff⟩ => ?_)) (zno)
    refine zV.iret C F dX3_perform_126 rfl ?_
    exact ⟨by rw [e]; try rfl, by rw [e]; exact gg, ff⟩
  · obtain ⟨i, s, hx, hi, rfl, rfl, hs, hn, h5⟩ := j0Cm h0
    have e : ap g 99 (nI i) (nI s) = (opSt g i s, nI (gX g)) := by
      rw [show ap g 99 (nI i) (nI s) = (opSt g i (nI s).toNatClampNeg, nI (gX g)) from aL_e hx, nI_cl (by omega)]
    refine zV.iload_n C dX3_perform_0 rfl ?_
    refine zV.tIn 127 C dX3_perform_1 (by decide) (by decide) (show _ = some 126 from by rfl) (by decide) ?_
    refine zV.aload_n C dX3_perform_127 rfl rfl ?_
    refine zV.iload_n C dX3_perform_128 rfl ?_
    refine zV.iload_n C dX3_perform_129 rfl ?_
    refine zV.callV (n := 2) C G dX3_perform_130 (s_settle hzs hst h b g i s hi hs hn hg hw) rfl ⟨cd_X3_settle, lk_X3_84, im_X3_settle, se_X3_X3_settle, in_X3⟩ ⟨⟨by decide, by decide⟩, by decide⟩ rfl rfl rfl (hg.1.1) ⟨rfl, by decide⟩ (zafR (fun h9 ⟨gg, ff⟩ => ?_)) (zno)
    refine zV.iret C F dX3_perform_133 rfl ?_
    exact ⟨by rw [e]; try rfl, by rw [e]; exact gg, ff⟩
  · obtain ⟨k, c, hk⟩ := j0Sc h0
    obtain ⟨hix, hc, hid, hkl⟩ := kc_some hk
    have e : ap g 115 x y = (opSc g k, nI (chR c)) := aK_e hk
    refine zV.iload_n C dX3_perform_0 rfl ?_
    refine zV.tIn 134 C dX3_perform_1 (by decide) (by decide) (show _ = some 133 from by rfl) (by decide) ?_
    refine zV.aload_n C dX3_perform_134 rfl rfl ?_
    refine zV.iload_n C dX3_perform_135 rfl ?_
    refine zV.callV (n := 1) C G dX3_perform_136 (s_scrap hzs hst h b g x k c hix hc hg hw) rfl ⟨cd_X3_scrap, lk_X3_87, im_X3_scrap, se_X3_X3_scrap, in_X3⟩ ⟨⟨by decide, by decide⟩, by decide⟩ rfl rfl rfl (hg.1.1) ⟨rfl, by decide⟩ (zafR (fun h9 ⟨gg, ff⟩ => ?_)) (zno)
    refine zV.iret C F dX3_perform_139 rfl ?_
    exact ⟨by rw [e]; try rfl, by rw [e]; exact gg, ff⟩
  · obtain ⟨k, c, hk, hf⟩ := j0Fo h0
    obtain ⟨hix, hc, hid, hkl⟩ := kc_some hk
    have e : ap g 102 x y = (opFo g k c true, nI ((gC (opFo g k c true)).countP chF)) := aK_e hk
    refine zV.iload_n C dX3_perform_0 rfl ?_
    refine zV.tIn 140 C dX3_perform_1 (by decide) (by decide) (show _ = some 139 from by rfl) (by decide) ?_
    refine zV.aload_n C dX3_perform_140 rfl rfl ?_
    refine zV.iload_n C dX3_perform_141 rfl ?_
    refine zV.ic (v := nI 1) C dX3_perform_142 (by decide) ?_
    refine zV.callV (n := 2) C G dX3_perform_143 (s_setFolded hzs hst h b g x true k c hix hc hg hw) rfl ⟨cd_X3_setFolded, lk_X3_91, im_X3_setFolded, se_X3_X3_setFolded, in_X3⟩ ⟨⟨by decide, by decide⟩, by decide⟩ rfl rfl rfl (hg.1.1) ⟨rfl, by decide⟩ (zafR (fun h9 ⟨gg, ff⟩ => ?_)) (zno)
    refine zV.iret C F dX3_perform_146 rfl ?_
    exact ⟨by rw [e]; try rfl, by rw [e]; exact gg, ff⟩
  · obtain ⟨k, c, hk, hf⟩ := j0Un h0
    obtain ⟨hix, hc, hid, hkl⟩ := kc_some hk
    have e : ap g 117 x y = (opFo g k c false, nI ((gC (opFo g k c false)).countP chF)) := aK_e hk
    refine zV.iload_n C dX3_perform_0 rfl ?_
    refine zV.tIn 147 C dX3_perform_1 (by decide) (by decide) (show _ = some 146 from by rfl) (by decide) ?_
    refine zV.aload_n C dX3_perform_147 rfl rfl ?_
    refine zV.iload_n C dX3_perform_148 rfl ?_
    refine zV.ic (v := nI 0) C dX3_perform_149 (by decide) ?_
    refine zV.callV (n := 2) C G dX3_perform_150 (s_setFolded hzs hst h b g x false k c hix hc hg hw) rfl ⟨cd_X3_setFolded, lk_X3_91, im_X3_setFolded, se_X3_X3_setFolded, in_X3⟩ ⟨⟨by decide, by decide⟩, by decide⟩ rfl rfl rfl (hg.1.1) ⟨rfl, by decide⟩ (zafR (fun h9 ⟨gg, ff⟩ => ?_)) (zno)
    refine zV.iret C F dX3_perform_153 rfl ?_
    exact ⟨by rw [e]; try rfl, by rw [e]; exact gg, ff⟩
  · obtain ⟨k, c, hk, hr, ho⟩ := j0Oi h0
    obtain ⟨hix, hc, hid, hkl⟩ := kc_some hk
    have e : ap g 111 x y = (opOi g k c, nI (chR c - 3)) := aK_e hk
    refine zV.iload_n C dX3_perform_0 rfl ?_
    refine zV.tIn 154 C dX3_perform_1 (by decide) (by decide) (show _ = some 153 from by rfl) (by decide) ?_
    refine zV.aload_n C dX3_perform_154 rfl rfl ?_
    refine zV.iload_n C dX3_perform_155 rfl ?_
    refine zV.callV (n := 1) C G dX3_perform_156 (s_useOil hzs hst h b g x k c hix hc ho hg hw) rfl ⟨cd_X3_useOil, lk_X3_95, im_X3_useOil, se_X3_X3_useOil, in_X3⟩ ⟨⟨by decide, by decide⟩, by decide⟩ rfl rfl rfl (hg.1.1) ⟨rfl, by decide⟩ (zafR (fun h9 ⟨gg, ff⟩ => ?_)) (zno)
    refine zV.iret C F dX3_perform_159 rfl ?_
    exact ⟨by rw [e]; try rfl, by rw [e]; exact gg, ff⟩
  · obtain ⟨k, c, j, hk, hy, hj, rfl, hf, hb, h5⟩ := j0Mv h0
    obtain ⟨hix, hc, hid, hkl⟩ := kc_some hk
    have e : ap g 109 x (nI j) = (opMv g k c j, nI (chL c)) := (aK_e hk).trans (aL_e hy)
    refine zV.iload_n C dX3_perform_0 rfl ?_
    refine zV.tIn 160 C dX3_perform_1 (by decide) (by decide) (show _ = some 159 from by rfl) (by decide) ?_
    refine zV.aload_n C dX3_perform_160 rfl rfl ?_
    refine zV.iload_n C dX3_perform_161 rfl ?_
    refine zV.iload_n C dX3_perform_162 rfl ?_
    refine zV.callV (n := 2) C G dX3_perform_163 (s_move hzs hst h b g x j hj k c hix hc hg hw) rfl ⟨cd_X3_move, lk_X3_98, im_X3_move, se_X3_X3_move, in_X3⟩ ⟨⟨by decide, by decide⟩, by decide⟩ rfl rfl rfl (hg.1.1) ⟨rfl, by decide⟩ (zafR (fun h9 ⟨gg, ff⟩ => ?_)) (zno)
    refine zV.iret C F dX3_perform_166 rfl ?_
    exact ⟨by rw [e]; try rfl, by rw [e]; exact gg, ff⟩
  · obtain ⟨i, j, hx, hy, hi, hj, rfl, rfl, hb, hc, h5⟩ := j0Mg h0
    have e : ap g 103 (nI i) (nI j) = (opHd i j (mgN g i j) g, nI (mgN g i j)) := aLL_e hx hy
    have hij : i ≠ j := fun z => by subst z; rw [q.2.2.2.1 i hi] at hb; cases hb
    have bb : big = 1000000000 := rfl
    have vM := q.1.2.2.2.2.2.2.2.1
    refine zV.iload_n C dX3_perform_0 rfl ?_
    refine zV.tIn 167 C dX3_perform_1 (by decide) (by decide) (show _ = some 166 from by rfl) (by decide) ?_
    refine zV.aload_n C dX3_perform_167 rfl rfl ?_
    refine zV.iload_n C dX3_perform_168 rfl ?_
    refine zV.iload_n C dX3_perform_169 rfl ?_
    refine zV.callV (n := 2) C G dX3_perform_170 (s_moveHerd hzs hst h b g i j hi hj hij (q.1.2.2.1 j hj) (by omega) hg hw) rfl ⟨cd_X3_moveHerd, lk_X3_101, im_X3_moveHerd, se_X3_X3_moveHerd, in_X3⟩ ⟨⟨by decide, by decide⟩, by decide⟩ rfl rfl rfl (hg.1.1) ⟨rfl, by decide⟩ (zafR (fun h9 ⟨gg, ff⟩ => ?_)) (zno)
    refine zV.iret C F dX3_perform_173 rfl ?_
    exact ⟨by rw [e]; try rfl, by rw [e]; exact gg, ff⟩
  · obtain ⟨n, rfl, h1, h10, ho⟩ := j0Ao q.1.1.2.2.2.2.1 h0
    have e : ap g 97 (nI n) y = (gwO g (gO g + n), nI (gO g + n)) := by
      show (gwO g (gO g + (nI n).toNatClampNeg), nI (gO g + (nI n).toNatClampNeg)) = _
      rw [nI_cl (by omega)]
    refine zV.iload_n C dX3_perform_0 rfl ?_
    refine zV.tIn 174 C dX3_perform_1 (by decide) (by decide) (show _ = some 173 from by rfl) (by decide) ?_
    refine zV.aload_n C dX3_perform_174 rfl rfl ?_
    refine zV.dup C dX3_perform_175 rfl ?_
    refine zV.gIv 199 (k := 7) C dX3_perform_176 zcl_X3 (by decide) rfl lk_X3_34 (hg.1.1) rfl ((zGa_n hg).2.2.2.1) ?_
    refine zV.iload_n C dX3_perform_179 rfl ?_
    refine zV.iadd C dX3_perform_180 ?_
    rw [nI_add]
    refine zV.pI 199 (k := 7) C dX3_perform_181 zcl_X3 (by decide) rfl lk_X3_34 rfl (hg.1.1) rfl ⟨rfl, rfl⟩ ?_
    refine zV.aload_n C dX3_perform_184 rfl rfl ?_
    refine zV.gIv 199 (k := 7) C dX3_perform_185 zcl_X3 (by decide) rfl lk_X3_34 (hg.1.1) rfl (hI_sI) ?_
    refine zV.iret C F dX3_perform_188 rfl ?_
    exact ⟨by rw [e], by rw [e]; exact zGa_of (zGx_199 (zGa_x hg) hl) (zSz_I (zGa_z (g := g) hg)), (zFr.refl h b).sI (by omega) (by omega)⟩
  · obtain ⟨n, rfl, h1, h20⟩ := j0Dy h0
    have e : ap g 100 (nI n) y = (days g n, nI (gF (days g n) - gF g)) := by
      show (days g (nI n).toNatClampNeg, nI (gF (days g (nI n).toNatClampNeg) - gF g)) = _
      rw [nI_cl (by omega)]
    refine zV.iload_n C dX3_perform_0 rfl ?_
    refine zV.tIn 189 C dX3_perform_1 (by decide) (by decide) (show _ = some 188 from by rfl) (by decide) ?_
    refine zV.aload_n C dX3_perform_189 rfl rfl ?_
    refine zV.iload_n C dX3_perform_190 rfl ?_
    refine zV.callV (n := 1) C G dX3_perform_191 (s_pass hzs hst h b g n m (by omega) hg q.1 hm) rfl ⟨cd_X3_pass, lk_X3_104, im_X3_pass, se_X3_X3_pass, in_X3⟩ ⟨⟨by decide, by decide⟩, by decide⟩ rfl rfl rfl (hg.1.1) ⟨rfl, by decide⟩ (zafR (fun h9 ⟨gg, ff⟩ => ?_)) (zno)
    refine zV.iret C F dX3_perform_194 rfl ?_
    exact ⟨by rw [e]; try rfl, by rw [e]; exact gg, ff⟩
