set_option maxHeartbeats 4000000 in
set_option maxRecDepth 100000 in
theorem s_change {l : Launch} {E : zG} (hzs : zS E) (hst : l.stackTraces = false) (h : zH) (a lo m d : Nat) (x y : Int32) (g : zGd) (us : List zGd) (sn : Option zGd) (off rs dt cs : Int32) (t o : List Nat) (hd : isD d) (q : zXa h a lo g us sn off rs dt cs t o) (hm : gR m g) (hb9 : m + 3000 ≤ big) : zMet l E yX9_change cX9_change 5 (some .int) ({ frames := 6, cells := 1, slots := 6, locals := 185 } : Room) 1 6 [.ref a, .int (nI d), .int x, .int y] h (sQ9 h (chgA g d x y) (chgP h a lo d x y g us sn off rs dt cs t o)) (sX9 h (chgA g d x y) (chgP h a lo d x y g us sn off rs dt cs t o)) := by
  refine zM_start hzs hst (by decide) (Nat.le_of_ble_eq_true rfl) (fun X C G F I => ?_)
  show zV X 0 0 _ 0 [(0, _), (1, _), (2, _), (3, _)] []
  have hw := gQ_W hm.1 (by omega : m ≤ big)
  obtain ⟨hx, ⟨hg, hf, hb⟩, hs, hH, hI, hJ, hin, hou, hn, hlo, hl9⟩ := id q
  have h3 := jd_3 (g := g) (x := x) (y := y) hd
  refine zV.aload_n C dX9_change_0 rfl rfl ?_
  refine zV.gR 390 (k := 6) C dX9_change_1 zcl_X9 (by decide) rfl lk_X9_42 (hx.1) rfl (hx.2.2.2.2.2.2.2.1) ?_
  refine zV.aload_n C dX9_change_4 rfl rfl ?_
  refine zV.gR 384 (k := 0) C dX9_change_5 zcl_X9 (by decide) rfl lk_X9_10 (hx.1) rfl (hx.2.1) ?_
  refine zV.iload_n C dX9_change_8 rfl ?_
  refine zV.iload_n C dX9_change_9 rfl ?_
  refine zV.iload_n C dX9_change_10 rfl ?_
  refine zV.callV (n := 4) C G dX9_change_11 (s_examine hzs hst h (a + 263) (a + 1) g d x y hd hg hw hJ (by omega)) rfl ⟨cd_X6_examine, lk_X9_345, im_X6_examine, se_X6_X6_examine, in_X6⟩ ⟨⟨by decide, by decide⟩, by decide⟩ rfl rfl rfl hJ ⟨rfl, by decide⟩ (zafR (fun h9 hp => ?_)) (zno)
  have q9 := zXa_j q hp.2.2
  clear hx hg hf hb hs hH hI hJ hin hou hn
  obtain ⟨hx, ⟨hg, hf, hb⟩, hs, hH, hI, hJ, hin, hou, hn, hlo, hl9⟩ := id q9
  refine zV.istore (lo' := [(0, _), (1, _), (2, _), (3, _), (4, _)]) C dX9_change_14 (by decide) rfl rfl rfl ?_
  refine zV.iload C dX9_change_16 rfl ?_
  refine zV.ic (v := nI 1) C dX9_change_18 (by decide) ?_
  refine zV.icmp_ne (tgt := 33) C dX9_change_19 (by decide) (fun q19 => ?_) (fun q19 => ?_)
  · have e1 : (jd g d x y).1 ≠ 1 := fun z => q19 (by rw [z])
    refine zV.iload C dX9_change_33 rfl ?_
    refine zV.ic (v := nI 2) C dX9_change_35 (by decide) ?_
    refine zV.icmp_ne (tgt := 50) C dX9_change_36 (by decide) (fun q36 => ?_) (fun q36 => ?_)
    · have e2 : (jd g d x y).1 ≠ 2 := fun z => q36 (by rw [z])
      refine zV.iload C dX9_change_50 rfl ?_
      refine zV.ic (v := nI 3) C dX9_change_52 (by decide) ?_
      refine zV.icmp_ne (tgt := 86) C dX9_change_53 (by decide) (fun q53 => ?_) (fun q53 => ?_)
      · have e3 : (jd g d x y).1 ≠ 3 := fun z => q53 (by rw [z])
        have e0 : (jd g d x y).1 = 0 := by omega
        refine zV.aload_n C dX9_change_86 rfl rfl ?_
        refine zV.gR 388 (k := 4) C dX9_change_87 zcl_X9 (by decide) rfl lk_X9_28 (hx.1) rfl (hx.2.2.2.2.2.1) ?_
        refine zV.aload_n C dX9_change_90 rfl rfl ?_
        refine zV.gR 384 (k := 0) C dX9_change_91 zcl_X9 (by decide) rfl lk_X9_10 (hx.1) rfl (hx.2.1) ?_
        refine zV.callV (n := 1) C G dX9_change_94 (s_keep hzs hst h9 (a + 85) (a + 1) us g hH hg hl9 (by omega)) rfl ⟨cd_X4_keep, lk_X9_298, im_X4_keep, se_X4_X4_keep, in_X4⟩ ⟨⟨by decide, by decide⟩, by decide⟩ rfl rfl rfl (hH.1.1) ⟨rfl, by decide⟩ (zafRv (fun h8 ⟨k8, f8⟩ => ?_)) (zno)
        have q := zXa_h q9 f8 k8
        clear hx hg hf hb hs hH hI hJ hin hou hn
        obtain ⟨hx, ⟨hg, hf, hb⟩, hs, hH, hI, hJ, hin, hou, hn, hlo2, hl92⟩ := id q
        refine zV.aload_n C dX9_change_97 rfl rfl ?_
        refine zV.gR 384 (k := 0) C dX9_change_98 zcl_X9 (by decide) rfl lk_X9_10 (hx.1) rfl (hx.2.1) ?_
        refine zV.iload_n C dX9_change_101 rfl ?_
        refine zV.iload_n C dX9_change_102 rfl ?_
        refine zV.iload_n C dX9_change_103 rfl ?_
        refine zV.callV (n := 3) C G dX9_change_104 (s_perform hzs hst h8 (a + 1) m d g x y hd hg hm hb9 e0) rfl ⟨cd_X3_perform, lk_X9_368, im_X3_perform, se_X3_X3_perform, in_X3⟩ ⟨⟨by decide, by decide⟩, by decide⟩ rfl rfl rfl (hg.1.1) ⟨rfl, by decide⟩ (zafR (fun h7 ⟨g7, f7⟩ => ?_)) (zno)
        refine zV.iret C F dX9_change_107 rfl ?_
        have w7 := gQ_W (ap_R hd hm e0).1 (by omega : m + 600 ≤ big)
        exact sQ_of (by unfold chgA; rw [if_pos e0]) ⟨((zXf.q hp.2.2 (by omega) (by omega)).trans (zXf.q f8 (by omega) (by omega))).trans (zXf.q f7.q (by omega) (by omega)), by rw [if_pos e0]; exact zXa_g q f7.q g7 (gW_len w7)⟩
      · have e3 : (jd g d x y).1 = 3 := (neqn (by omega) (by decide)).mp q53
        refine zV.aload_n C dX9_change_56 rfl rfl ?_
        refine zV.aload_n C dX9_change_57 rfl rfl ?_
        refine zV.gR 390 (k := 6) C dX9_change_58 zcl_X9 (by decide) rfl lk_X9_42 (hx.1) rfl (hx.2.2.2.2.2.2.2.1) ?_
        refine zV.gNIv 289 (k := 1) C dX9_change_61 zcl_X6 (by decide) rfl lk_X9_353 hJ rfl ((hp.2.1 e3).1) ?_
        refine zV.aload_n C dX9_change_64 rfl rfl ?_
        refine zV.gR 390 (k := 6) C dX9_change_65 zcl_X9 (by decide) rfl lk_X9_42 (hx.1) rfl (hx.2.2.2.2.2.2.2.1) ?_
        refine zV.gNIv 290 (k := 2) C dX9_change_68 zcl_X6 (by decide) rfl lk_X9_356 hJ rfl ((hp.2.1 e3).2) ?_
        refine zV.ic (v := nI 0) C dX9_change_71 (by decide) ?_
        refine zV.callV (n := 3) C G dX9_change_72 (s_remember hzs hst h9 a (nI (jd g d x y).2.1) (jd g d x y).2.2 0 hx.1) rfl ⟨cd_X9_rememberRejection, lk_X9_359, im_X9_rememberRejection, se_X9_X9_rememberRejection, in_X9⟩ ⟨⟨by decide, by decide⟩, by decide⟩ rfl rfl rfl (hx.1) ⟨rfl, by decide⟩ (zafv ?_) (zno)
        exact zV.throwXW _ C G dX9_change_75 dX9_change_78 dX9_change_79 dX9_change_82 dX9_change_85 hz_uoe lk_X9_363 in_java_lang_UnsupportedOperationException hs_365 hp_uoe zUW rfl (zVX.out C F (⟨by unfold chgA; rw [e3]; rfl, (zXf.q hp.2.2 (by omega) (by omega)).trans (zXf.q rjH_f (by omega) (by omega)), by rw [if_neg (by omega), if_pos e3]; exact zXa_rj q9⟩) ⟨by decide, by decide⟩)
    · have e2 : (jd g d x y).1 = 2 := (neqn (by omega) (by decide)).mp q36
      exact zV.throwXW _ C G dX9_change_39 dX9_change_42 dX9_change_43 dX9_change_46 dX9_change_49 hz_iae lk_X9_180 in_java_lang_IllegalArgumentException hs_351 hp_iae zUW rfl (zVX.out C F (⟨by unfold chgA; rw [e2]; rfl, zXf.q hp.2.2 (by omega) (by omega), by rw [if_neg (by omega), if_neg (by omega)]; exact q9⟩) ⟨by decide, by decide⟩)
  · have e1 : (jd g d x y).1 = 1 := (neqn (by omega) (by decide)).mp q19
    exact zV.throwXW _ C G dX9_change_22 dX9_change_25 dX9_change_26 dX9_change_29 dX9_change_32 hz_iob lk_X9_260 in_java_lang_IndexOutOfBoundsException hs_349 hp_iob zUW rfl (zVX.out C F (⟨by unfold chgA; rw [e1]; rfl, zXf.q hp.2.2 (by omega) (by omega), by rw [if_neg (by omega), if_neg (by omega)]; exact q9⟩) ⟨by decide, by decide⟩)
