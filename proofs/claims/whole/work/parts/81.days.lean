/-! the reference: goesBy, passes -/
theorem nst_len {M : List zCh} : nst M = M.length - (M.filter stay).length := by
  unfold nst
  induction M with
  | nil => rfl
  | cons c t ih =>
    have := List.length_filter_le stay t
    rw [List.countP_cons, ih, List.filter_cons]
    by_cases e : stay c = true
    · rw [if_pos e, e]; simp
    · rw [if_neg e, Bool.eq_false_iff.mpr e]; simp; omega
theorem lz_F {f : Nat → Int32} {G : zGd} {cs : List zCh} {H : Nat → List Nat} {l s : Nat} (q : rF f (gmd G l (wOf s) (gC G)) cs H) (h5 : ∀ l, l < 6 → (H l).length ≤ 5) (hl : l < 6) : rF (fup f (8 + 8 * l) (nI (min 20 ((grC l (wOf s) (gC G) (gS G l)).2.1 + 3 - s)))) (grz G l s) cs H := by
  have F := shF_F (s := min 20 ((grC l (wOf s) (gC G) (gS G l)).2.1 + 3 - s)) q h5 hl
  refine rF_e F (fun i hi => ?_) rfl F.2.2.2
  show upN (gS G) l _ i = upN (upN (gS G) l _) l _ i
  unfold upN
  by_cases z : i = l
  · rw [if_pos z, if_pos z]
  · rw [if_neg z, if_neg z, if_neg z]
theorem day_F {f : Nat → Int32} {g G : zGd} {cs : List zCh} (e : dayO g = gwD (col G) (gD g + 1)) (eF : gF G = gF g) (hp : cs.Perm ((gC G).filter stay)) (hs : (cs.map chI).Pairwise (· < ·)) (q : rF f G cs (hrd ((gC G).filter stay))) : rG (fup (fup f 4 (nI (gF g + nst (gC G)))) 2 (nI (gD g + 1))) (dayO g) := by
  obtain ⟨q1, q2, q3, q4, q5, q6, q7⟩ := q.2.2.2
  rw [e]
  refine ⟨cs, hp, hs, rF_g q (gwD (col G) (gD g + 1)) rfl rfl ⟨(fup_n (by decide)).trans ((fup_n (by decide)).trans q1), fup_e, (fup_n (by decide)).trans ((fup_n (by decide)).trans q3), (fup_n (by decide)).trans (fup_e.trans ?_), (fup_n (by decide)).trans ((fup_n (by decide)).trans q5), (fup_n (by decide)).trans ((fup_n (by decide)).trans q6), (fup_n (by decide)).trans ((fup_n (by decide)).trans q7)⟩ (fun i hi => (fup_n (by omega)).trans (fup_n (by omega)))⟩
  show _ = nI (gF G + _)
  rw [eF, nst_len]
theorem day_A {g G : zGd} (e : dayO g = gwD (col G) (gD g + 1)) (eF : gF G = gF g) : gF (dayO g) - gF g = nst (gC G) := by
  rw [e]
  show gF G + _ - gF g = _
  rw [eF, nst_len]
  omega
theorem day_R {m : Nat} {g : zGd} (q : gR m g) : gR (m + 30) (dayO g) := ⟨day_Q q.1, gPt_same q.2 (day_P g).1 (day_P g).2.1⟩
theorem days_R {m : Nat} {g : zGd} (q : gR m g) : ∀ n, gR (m + 30 * n) (days g n)
  | 0 => gR_mono q (Nat.le_add_right _ _)
  | n + 1 => gR_mono (day_R (days_R q n)) (by omega)
set_option maxHeartbeats 4000000 in
set_option maxRecDepth 100000 in
theorem L_mgoesE {X : zX} {l : Launch} {E : zG} {rm : Room} (hzs : zS E) (hst : l.stackTraces = false) (C : zC X cX10_goesBy RX10 8) (G : zGX X l E rm) {h : zH} {r l9 s9 t : Nat} {G9 : zGd} {cs : List zCh} {f : Nat → Int32} (hm : zMs h r) (hl : l9 < 6) (hs9 : s9 < 4) (hp : cs.Perm ((grC l9 (wOf s9) (gC G9) (gS G9 l9)).1.filter stay)) (hf : rF f (gmd G9 l9 (wOf s9) (gC G9)) cs (hrd ((grC l9 (wOf s9) (gC G9) (gS G9 l9)).1.filter stay))) (hw : rW (gmd G9 l9 (wOf s9) (gC G9)) cs (hrd ((grC l9 (wOf s9) (gC G9) (gS G9 l9)).1.filter stay))) (hS : (grC l9 (wOf s9) (gC G9) (gS G9 l9)).2.1 ≤ 20) (hr : rm = ({ frames := 3, cells := 0, slots := 0, locals := 68 } : Room)) (kk : zV X 0 0 (sRow h (r + 1) (fup f (8 + 8 * l9) (nI (min 20 ((grC l9 (wOf s9) (gC G9) (gS G9 l9)).2.1 + 3 - s9))))) 15 [(0, .ref r), (1, .int (nI s9)), (2, .int (nI t)), (3, .int (nI (l9 + 1)))] []) : zV X 0 0 (sRow h (r + 1) f) 33 [(0, .ref r), (1, .int (nI s9)), (2, .int (nI t)), (3, .int (nI l9)), (4, .int (nI (8 + 8 * l9))), (5, .int (nI (flt ((grC l9 (wOf s9) (gC G9) (gS G9 l9)).1.filter stay) l9).length))] [] := by
  subst hr
  have hk5 := hw.2.2.1 l9 hl
  have el : (hrd ((grC l9 (wOf s9) (gC G9) (gS G9 l9)).1.filter stay) l9).length = (flt ((grC l9 (wOf s9) (gC G9) (gS G9 l9)).1.filter stay) l9).length := by rw [hrd_f, List.length_map]
  have gSl : gS (gmd G9 l9 (wOf s9) (gC G9)) l9 = (grC l9 (wOf s9) (gC G9) (gS G9 l9)).2.1 := if_pos rfl
  refine zV.iload C dX10_goesBy_33 rfl ?_
  refine zV.aload_n C dX10_goesBy_35 rfl rfl ?_
  refine zV.gR 416 (k := 0) C dX10_goesBy_36 zcl_X10 (by decide) rfl lk_X10_9 (hm.1) rfl (hm.2.1) ?_
  refine zV.iload C dX10_goesBy_39 rfl ?_
  refine zV.ic (v := nI 2) C dX10_goesBy_41 (by decide) ?_
  refine zV.iadd C dX10_goesBy_42 ?_
  refine zV.ialdv (j := 8 + 8 * l9 + 2) C dX10_goesBy_43 (hm.2.2.2.2.2.2.2.2.2.1.1) (by rw [nI_add]) (Nat.lt_of_lt_of_eq (show 8 + 8 * l9 + 2 < 116 by omega) (hm.2.2.2.2.2.2.2.2.2.1.2).symm) (by omega) ((show aI (sRow h (r + 1) f) (r + 1) (8 + 8 * l9 + 2) = nI (flt ((grC l9 (wOf s9) (gC G9) (gS G9 l9)).1.filter stay) l9).length from by rw [aI_sRow, (hf.2.1 l9 hl).1, el])) ?_
  refine zV.icmp_ge (tgt := 179) C dX10_goesBy_44 (by decide) (fun q44 => ?_) (fun q44 => ?_)
  · refine zV.aload_n C dX10_goesBy_179 rfl rfl ?_
    refine zV.gR 416 (k := 0) C dX10_goesBy_180 zcl_X10 (by decide) rfl lk_X10_9 (hm.1) rfl (hm.2.1) ?_
    refine zV.iload C dX10_goesBy_183 rfl ?_
    refine zV.bi (v := nI 20) C dX10_goesBy_185 (by decide) ?_
    refine zV.aload_n C dX10_goesBy_187 rfl rfl ?_
    refine zV.gR 416 (k := 0) C dX10_goesBy_188 zcl_X10 (by decide) rfl lk_X10_9 (hm.1) rfl (hm.2.1) ?_
    refine zV.iload C dX10_goesBy_191 rfl ?_
    refine zV.ialdv (j := 8 + 8 * l9) C dX10_goesBy_193 (hm.2.2.2.2.2.2.2.2.2.1.1) (rfl) (Nat.lt_of_lt_of_eq (show 8 + 8 * l9 < 116 by omega) (hm.2.2.2.2.2.2.2.2.2.1.2).symm) (by omega) ((show aI (sRow h (r + 1) f) (r + 1) (8 + 8 * l9) = nI (grC l9 (wOf s9) (gC G9) (gS G9 l9)).2.1 from by rw [aI_sRow, (hf.2.2.1 l9 hl).1, gSl])) ?_
    refine zV.ic (v := nI 3) C dX10_goesBy_194 (by decide) ?_
    refine zV.iadd C dX10_goesBy_195 ?_
    refine zV.iload_n C dX10_goesBy_196 rfl ?_
    refine zV.isub C dX10_goesBy_197 ?_
    rw [nI_add, show nI ((grC l9 (wOf s9) (gC G9) (gS G9 l9)).2.1 + 3) - nI s9 = nI ((grC l9 (wOf s9) (gC G9) (gS G9 l9)).2.1 + 3 - s9) from pk_sub (by omega)]
    refine zV.mmin C G dX10_goesBy_198 ⟨lk_X10_167, st_J9_min_7cf53, in_J9, cd_J9_min_7cf53⟩ rfl ?_
    rw [min20 (by omega)]
    refine zV.iast (j := 8 + 8 * l9) C dX10_goesBy_201 (hm.2.2.2.2.2.2.2.2.2.1.1) (rfl) (Nat.lt_of_lt_of_eq (show 8 + 8 * l9 < 116 by omega) (hm.2.2.2.2.2.2.2.2.2.1.2).symm) (by omega) ?_
    rw [saI_row2]
    refine zV.iinc (lo' := [(0, _), (1, _), (2, _), (3, _), (4, _), (5, _)]) C dX10_goesBy_202 rfl (by decide) rfl rfl rfl ?_
    refine zV.goto (tgt := 15) C dX10_goesBy_205 (by decide) ?_
    rw [inc1]
    exact zV.sub [0, 1, 2, 3] rfl kk
  · exact absurd (nI_le (Nat.le_refl _) (by rw [← el]; omega)) q44
set_option maxHeartbeats 4000000 in
set_option maxRecDepth 100000 in
theorem s_mgoesF {X : zX} {l : Launch} {E : zG} {rm : Room} (hzs : zS E) (hst : l.stackTraces = false) (C : zC X cX10_goesBy RX10 8) (G : zGX X l E rm) {h : zH} {r t a b : Nat} {x1 : Int32} {f : Nat → Int32} {Qr : Option Value → zH → Prop} {Qx : String → zH → Prop} (F : zF X (some .int) 0 0 Qr Qx) (hm : zMs h r) (v4 : f 4 = nI a) (v2 : f 2 = nI b) (hq : Qr (some (.int (nI t))) (sRow h (r + 1) (fup (fup f 4 (nI (a + t))) 2 (nI (b + 1))))) : zV X 0 0 (sRow h (r + 1) f) 15 [(0, .ref r), (1, .int x1), (2, .int (nI t)), (3, .int (nI 6))] [] := by
  
  refine zV.iload_n C dX10_goesBy_15 rfl ?_
  refine zV.bi (v := nI 6) C dX10_goesBy_16 (by decide) ?_
  refine zV.icmp_ge (tgt := 208) C dX10_goesBy_18 (by decide) (fun q18 => ?_) (fun q18 => ?_)
  · refine zV.aload_n C dX10_goesBy_208 rfl rfl ?_
    refine zV.gR 416 (k := 0) C dX10_goesBy_209 zcl_X10 (by decide) rfl lk_X10_9 (hm.1) rfl (hm.2.1) ?_
    refine zV.ic (v := nI 4) C dX10_goesBy_212 (by decide) ?_
    refine zV.dup2 C dX10_goesBy_213 rfl rfl ?_
    refine zV.ialdv (j := 4) C dX10_goesBy_214 (hm.2.2.2.2.2.2.2.2.2.1.1) (rfl) (Nat.lt_of_lt_of_eq (show 4 < 116 by omega) (hm.2.2.2.2.2.2.2.2.2.1.2).symm) (by omega) ((show aI (sRow h (r + 1) f) (r + 1) 4 = nI a from by rw [aI_sRow]; exact v4)) ?_
    refine zV.iload_n C dX10_goesBy_215 rfl ?_
    refine zV.iadd C dX10_goesBy_216 ?_
    rw [nI_add]
    refine zV.iast (j := 4) C dX10_goesBy_217 (hm.2.2.2.2.2.2.2.2.2.1.1) (rfl) (Nat.lt_of_lt_of_eq (show 4 < 116 by omega) (hm.2.2.2.2.2.2.2.2.2.1.2).symm) (by omega) ?_
    rw [saI_row2]
    refine zV.aload_n C dX10_goesBy_218 rfl rfl ?_
    refine zV.gR 416 (k := 0) C dX10_goesBy_219 zcl_X10 (by decide) rfl lk_X10_9 (hm.1) rfl (hm.2.1) ?_
    refine zV.ic (v := nI 2) C dX10_goesBy_222 (by decide) ?_
    refine zV.dup2 C dX10_goesBy_223 rfl rfl ?_
    refine zV.ialdv (j := 2) C dX10_goesBy_224 (hm.2.2.2.2.2.2.2.2.2.1.1) (rfl) (Nat.lt_of_lt_of_eq (show 2 < 116 by omega) (hm.2.2.2.2.2.2.2.2.2.1.2).symm) (by omega) ((show aI (sRow h (r + 1) _) (r + 1) 2 = nI b from by rw [aI_sRow, fup_n (by omega)]; exact v2)) ?_
    refine zV.ic (v := nI 1) C dX10_goesBy_225 (by decide) ?_
    refine zV.iadd C dX10_goesBy_226 ?_
    rw [nI_add]
    refine zV.iast (j := 2) C dX10_goesBy_227 (hm.2.2.2.2.2.2.2.2.2.1.1) (rfl) (Nat.lt_of_lt_of_eq (show 2 < 116 by omega) (hm.2.2.2.2.2.2.2.2.2.1.2).symm) (by omega) ?_
    rw [saI_row2]
    refine zV.iload_n C dX10_goesBy_228 rfl ?_
    refine zV.iret C F dX10_goesBy_229 rfl ?_
    exact hq
  · exact absurd (by decide) q18
set_option maxHeartbeats 4000000 in
set_option maxRecDepth 100000 in
theorem L_mgoesO {X : zX} {l : Launch} {E : zG} {rm : Room} (hzs : zS E) (hst : l.stackTraces = false) (C : zC X cX10_goesBy RX10 8) (G : zGX X l E rm) {h : zH} {r s9 m : Nat} {g : zGd} {Qr : Option Value → zH → Prop} {Qx : String → zH → Prop} (hr : rm = ({ frames := 3, cells := 0, slots := 0, locals := 68 } : Room)) (F : zF X (some .int) 0 0 Qr Qx) (hm : zMs h r) (hs9 : s9 = gD g / 5 % 4) (hR : gR m g) (hb : m + 100 ≤ big) (hq : ∀ f', rG f' (dayO g) → Qr (some (.int (nI (gF (dayO g) - gF g)))) (sRow h (r + 1) f')) : ∀ n k f cs, k + n = 6 → cs.Perm ((gC (grs g s9 k)).filter stay) → (cs.map chI).Pairwise (· < ·) → rF f (grs g s9 k) cs (hrd ((gC (grs g s9 k)).filter stay)) → zV X 0 0 (sRow h (r + 1) f) 15 [(0, .ref r), (1, .int (nI s9)), (2, .int (nI (nst (gC (grs g s9 k))))), (3, .int (nI k))] [] := by
  subst hr
  have s4_ : s9 < 4 := by rw [hs9]; exact Nat.mod_lt _ (by decide)
  have hH := hR.1.2.2.1
  have gv := hR.1.2.2.2
  have hb9 : (big : Nat) = 1000000000 := rfl
  intro n
  induction n with
  | zero =>
    intro k f cs hk hp hs hf
    obtain rfl : k = 6 := by omega
    have z9 := grs_P (g := g) (s := s9) 6
    have n12 : nst (gC (grs g s9 6)) ≤ 12 := Nat.le_trans List.countP_le_length (gK_grs hR.1.1 hR.1.2.1 6).1.2.2.1
    have gF9 : gF g ≤ m := gv.2.2.1
    have gD9 : gD g ≤ m := gv.2.1
    have eD : dayO g = gwD (col (grs g s9 6)) (gD g + 1) := by unfold dayO; rw [← hs9]
    obtain ⟨-, -, -, -, -, -, eF, eDD⟩ := z9
    generalize grs g s9 6 = G6 at *
    refine s_mgoesF hzs hst C G F hm (hf.2.2.2.2.2.2.1.trans (by rw [eF])) (hf.2.2.2.2.1.trans (by rw [eDD])) ?_
    have e := hq _ (day_F eD eF hp hs hf)
    rw [day_A eD eF] at e
    exact e
  | succ n ih =>
    intro k f cs hk hp hs hf
    have z9 := grs_P (g := g) (s := s9) k
    have zz := grs_Z (g := g) (s := s9) hH k (by omega)
    have hK := gK_grs (s := s9) hR.1.1 hR.1.2.1 k
    have hH9 : gH (grs g s9 k) := fun j hj => by rw [zz.2.2.2.2.2.2.2.2.2.2 j]; exact hH j hj
    have gZ9 : gZ g ≤ m := gv.2.2.2.2.2
    have gX9 : gX g ≤ m := gv.1
    have a0 : (grC k (wOf s9) [] (gS (grs g s9 k) k)).1 = [] := rfl
    have I := L_mgoesI (r := r) (h := h) (G9 := grs g s9 k) hzs hst C G hm (show k < 6 by omega) s4_ hK hH9 (by rw [z9.2.2.2.1]; omega) (by omega) rfl (fun f' cs' p' s' F' => by
      have W9 := mid_W (g := gmd (grs g s9 k) k (wOf s9) (gC (grs g s9 k))) (A := gC (grs g s9 k)) (B := []) (cs := cs') hK hH9 (by rw [z9.2.2.2.1]; omega) (wOf_le s9) (List.append_nil _) rfl (by rw [List.filter_nil, List.append_nil]; exact p')
      rw [List.filter_nil, List.append_nil] at W9
      exact L_mgoesE hzs hst C G hm (show k < 6 by omega) s4_ p' F' W9 (Nat.le_trans grC_s (hK.1.2.2.2.1 k (by omega))) rfl (ih (k + 1) _ cs' (by omega) p' s' (lz_F F' W9.2.2.1 (by omega)))) (gC (grs g s9 k)) [] f cs rfl hp hs (rF_e hf (fun i hi => by
        show upN (gS (grs g s9 k)) k (gS (grs g s9 k) k) i = _
        unfold upN
        by_cases z : i = k
        · rw [if_pos z, z]
        · rw [if_neg z]) rfl hf.2.2.2)
    skip
    refine zV.iload_n C dX10_goesBy_15 rfl ?_
    refine zV.bi (v := nI 6) C dX10_goesBy_16 (by decide) ?_
    refine zV.icmp_ge (tgt := 208) C dX10_goesBy_18 (by decide) (fun q18 => ?_) (fun q18 => ?_)
    · exact absurd (nle (by omega) (by decide) q18) (by omega)
    · refine zV.bi (v := nI 8) C dX10_goesBy_21 (by decide) ?_
      refine zV.bi (v := nI 8) C dX10_goesBy_23 (by decide) ?_
      refine zV.iload_n C dX10_goesBy_25 rfl ?_
      refine zV.imul C dX10_goesBy_26 ?_
      refine zV.iadd C dX10_goesBy_27 ?_
      rw [pk_mul, nI_add]
      refine zV.istore (lo' := [(0, _), (1, _), (2, _), (3, _), (4, _)]) C dX10_goesBy_28 (by decide) rfl rfl rfl ?_
      refine zV.ic (v := nI 0) C dX10_goesBy_30 (by decide) ?_
      refine zV.istore (lo' := [(0, _), (1, _), (2, _), (3, _), (4, _), (5, _)]) C dX10_goesBy_31 (by decide) rfl rfl rfl ?_
      exact zV.sub [0, 1, 2, 3, 4, 5] rfl I
set_option maxHeartbeats 4000000 in
set_option maxRecDepth 100000 in
theorem s_mgoesBy {l : Launch} {E : zG} (hzs : zS E) (hst : l.stackTraces = false) (h : zH) (r m : Nat) (g : zGd) (f : Nat → Int32) (hm : zMs h r) (hg : rG f g) (hR : gR m g) (hb : m + 100 ≤ big) : zMet l E yX10_goesBy cX10_goesBy 8 (some .int) ({ frames := 3, cells := 0, slots := 0, locals := 68 } : Room) 0 0 [.ref r] (sRow h (r + 1) f) (fun v h' => v = some (.int (nI (gF (dayO g) - gF g))) ∧ ∃ f', h' = sRow h (r + 1) f' ∧ rG f' (dayO g)) (fun _ _ => False) := by
  refine zM_start hzs hst (by decide) (Nat.le_of_ble_eq_true rfl) (fun X C G F I => ?_)
  show zV X 0 0 _ 0 [(0, _)] []
  obtain ⟨cs, hp, hsrt, hf⟩ := hg
  refine zV.aload_n C dX10_goesBy_0 rfl rfl ?_
  refine zV.gR 416 (k := 0) C dX10_goesBy_1 zcl_X10 (by decide) rfl lk_X10_9 (hm.1) rfl (hm.2.1) ?_
  refine zV.ic (v := nI 2) C dX10_goesBy_4 (by decide) ?_
  refine zV.ialdv (j := 2) C dX10_goesBy_5 (hm.2.2.2.2.2.2.2.2.2.1.1) (rfl) (Nat.lt_of_lt_of_eq (show 2 < 116 by omega) (hm.2.2.2.2.2.2.2.2.2.1.2).symm) (by omega) ((show aI (sRow h (r + 1) f) (r + 1) 2 = nI (gD g) from by rw [aI_sRow]; exact hf.2.2.2.2.1)) ?_
  refine zV.ic (v := nI 5) C dX10_goesBy_6 (by decide) ?_
  refine zV.idiv C dX10_goesBy_7 (by decide) ?_
  rw [pk_div (by have := hR.1.2.2.2.2.1; have : (big : Nat) = 1000000000 := rfl; omega) (by decide) (by decide)]
  refine zV.ic (v := nI 4) C dX10_goesBy_8 (by decide) ?_
  refine zV.irem C dX10_goesBy_9 (by decide) ?_
  rw [pk_rem (by have := hR.1.2.2.2.2.1; have : (big : Nat) = 1000000000 := rfl; omega) (by decide) (by decide)]
  refine zV.istore_n (lo' := [(0, _), (1, _)]) C dX10_goesBy_10 (by decide) rfl rfl rfl ?_
  refine zV.ic (v := nI 0) C dX10_goesBy_11 (by decide) ?_
  refine zV.istore_n (lo' := [(0, _), (1, _), (2, _)]) C dX10_goesBy_12 (by decide) rfl rfl rfl ?_
  refine zV.ic (v := nI 0) C dX10_goesBy_13 (by decide) ?_
  refine zV.istore_n (lo' := [(0, _), (1, _), (2, _), (3, _)]) C dX10_goesBy_14 (by decide) rfl rfl rfl ?_
  have e0 : (gC g).filter stay = gC g := List.filter_eq_self.mpr (fun c hc => decide_eq_true (hR.1.2.1 c hc))
  have e1 : nst (gC g) = 0 := by rw [nst_len, e0]; omega
  have z := L_mgoesO (h := h) hzs hst C G rfl F hm rfl hR hb (fun f' hf' => ⟨rfl, f', rfl, hf'⟩) 6 0 f cs rfl (by show cs.Perm ((gC g).filter stay); rw [e0]; exact hp) hsrt (by show rF f g cs (hrd ((gC g).filter stay)); rw [e0]; exact hf)
  rw [show nst (gC (grs g (gD g / 5 % 4) 0)) = 0 from e1] at z
  exact z
