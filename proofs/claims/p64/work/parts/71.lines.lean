/-! a lawn described; the output's letters -/
/-- a chair's words in a lawn's line, and those of the chairs of the lawn l -/
def wlc (c : zCh) : List Nat := [32] ++ (dcs (chI c) ++ ([114] ++ (dcs (chR c) ++ (if chF c = true then [102] else []))))
def wlC (l : Nat) : List zCh → List Nat
  | [] => []
  | c :: cs => (if chL c = l then wlc c else []) ++ wlC l cs
def wl (g : zGd) (l : Nat) : List Nat := dcs l ++ ([58] ++ (dcs (gS g l) ++ wlC l (gC g)))
def wlO (g : zGd) (x : Int32) (o : List Nat) : List Nat := match ln x with
  | none => o
  | some l => wl g l
def wlA (g : zGd) (x : Int32) : zAn := lawA x (fun l => .inr (.int (nI (wl g l).length)))
theorem dcs_le (i n : Nat) (h : n < 10 ^ (i + 1)) : (dcs n).length ≤ i + 1 := by
  induction i generalizing n with
  | zero => rw [dcs_s (by omega)]; exact Nat.le_refl _
  | succ i ih =>
    by_cases e : n < 10
    · rw [dcs_s e]; exact Nat.le_add_left _ _
    · have p : 10 ^ (i + 1 + 1) = 10 * 10 ^ (i + 1) := by rw [Nat.pow_succ, Nat.mul_comm]
      rw [dcs_b e, List.length_append]
      exact Nat.succ_le_succ (ih (n / 10) (by omega))
theorem wlc_le {c : zCh} (h1 : chI c < 100000000) (h2 : chR c ≤ 11) : (wlc c).length ≤ 13 := by
  have a1 := dcs_le 7 (chI c) (by omega)
  have a2 := dcs_le 1 (chR c) (by omega)
  unfold wlc
  split <;> simp only [List.length_append, List.length_cons, List.length_nil] <;> omega
theorem hsz_cons {c : zCh} {cs : List zCh} {l : Nat} : hsz (c :: cs) l = hsz cs l + (if chL c = l then 1 else 0) := by
  unfold hsz
  rw [List.countP_cons]
  by_cases e : chL c = l <;> simp [e]
theorem zRm_v {rm rm' : Room} {maxL mc ms kc ks : Nat} (M N : Nat) (h0 : zRm rm rm' maxL mc ms 0 0 = true) (e1 : rm.cells = M) (e2 : rm.slots = N) (h1 : kc + mc ≤ M) (h2 : ks + ms ≤ N) : zRm rm rm' maxL mc ms kc ks = true := by
  simp only [zRm, Bool.and_eq_true] at h0 ⊢
  exact ⟨⟨h0.1.1, Nat.ble_eq_true_of_le (by omega)⟩, Nat.ble_eq_true_of_le (by omega)⟩
theorem zhc {kc mc ks ms : Nat} (h1 : kc ≤ mc) (h2 : ks ≤ ms) : (Nat.ble kc mc && Nat.ble ks ms) = true := by
  rw [Nat.ble_eq_true_of_le h1, Nat.ble_eq_true_of_le h2]; rfl
theorem drop_hd {cs : List zCh} {k : Nat} {c : zCh} {t : List zCh} (h : cs.drop k = c :: t) : cs[k]? = some c := by
  have h1 := congrArg (fun z => z[0]?) h
  simpa [List.getElem?_drop] using h1
theorem zXf.o {h h' : zH} {a lo : Nat} (f : zOf h h' (a + 269) lo) : zXf h h' a lo := ⟨f.1, fun c h1 h2 => f.2 c (by omega) h2⟩
theorem zXa_o {h h' : zH} {a lo : Nat} {g : zGd} {us : List zGd} {sn : Option zGd} {off rs dt cs : Int32} {t o : List Nat} (q : zXa h a lo g us sn off rs dt cs t o) (f : zOf h h' (a + 269) lo) {o' : List Nat} (n : zOu h' (a + 269) lo o') : zXa h' a lo g us sn off rs dt cs t o' := by
  obtain ⟨hx, ⟨hg, hf, hb⟩, hs, hH, hI, hJ, hin, hou, hn, hlo, hl9⟩ := id q
  have e : ∀ c, c < a + 269 → zEq h h' c := fun c hc => f.2 c (Or.inl hc) (by omega)
  exact ⟨zXs_e hx (e a (by omega)), ⟨zGa_e hg hl9 (fun c h1 h2 => e c (by omega)), zGt_e hf (fun c h1 h2 => e c (by omega)), zGt_e hb (fun c h1 h2 => e c (by omega))⟩, ⟨zGt_e hs.1 (fun c h1 h2 => e c (by omega)), fun s hs9 => ⟨zGa_e (hs.2 s hs9).1 (hs.2 s hs9).2 (fun c h1 h2 => e c (by omega)), (hs.2 s hs9).2⟩⟩, zHi_e hH (fun c h1 h2 => e c (by omega)), zIs_e hI (fun c h1 h2 => e c (by omega)), (e (a + 263) (by omega)).1.trans hJ, zIn_e hin (fun c h1 h2 => e c (by omega)), n, ⟨((e a (by omega)).2.2.2.1 _).trans hn.1, ((e a (by omega)).2.2.2.1 _).trans hn.2.1, ((e a (by omega)).2.2.2.1 _).trans hn.2.2.1, ((e a (by omega)).2.2.2.1 _).trans hn.2.2.2.1, ((e a (by omega)).2.2.2.1 _).trans hn.2.2.2.2⟩, hlo, hl9⟩
set_option maxHeartbeats 4000000 in
set_option maxRecDepth 100000 in
theorem s_dsE {X : zX} {l : Launch} {E : zG} {rm : Room} (hzs : zS E) (hst : l.stackTraces = false) (C : zC X cX3_describe RX3 5) (G : zGX X l E rm) {b a l9 kc ks k : Nat} {g : zGd} {h0 : zH} {Qr : Option Value → zH → Prop} {Qx : String → zH → Prop} (F : zF X none 28 5600 Qr Qx) (h1 : (gC g).length ≤ k) (hk31 : k < 2 ^ 31) (h2 : kc ≤ 28) (h3 : ks ≤ 5600) (hg : zGa h0 b g) (kq : Qr none h0) (hl : (gC g).length ≤ 12) : zV X kc ks h0 24 [(0, .ref b), (1, .int (nI l9)), (2, .ref a), (3, .int (nI k))] [] := by
  
  refine zV.iload_n C dX3_describe_24 rfl ?_
  refine zV.aload_n C dX3_describe_25 rfl rfl ?_
  refine zV.gIv 196 (k := 4) C dX3_describe_26 zcl_X3 (by decide) rfl lk_X3_50 (hg.1.1) rfl ((zGa_len hg)) ?_
  refine zV.icmp_ge (tgt := 98) C dX3_describe_29 (by decide) (fun q29 => ?_) (fun q29 => ?_)
  · refine zV.vret C F dX3_describe_98 (zhc (by omega) (by omega)) ?_
    exact kq
  · exact absurd (nI_le h1 hk31) q29
set_option maxHeartbeats 4000000 in
set_option maxRecDepth 100000 in
theorem L_describe {X : zX} {l : Launch} {E : zG} {rm : Room} (hzs : zS E) (hst : l.stackTraces = false) (C : zC X cX3_describe RX3 5) (G : zGX X l E rm) {b a l9 lo : Nat} {g : zGd} {Qr : Option Value → zH → Prop} {Qx : String → zH → Prop} (hr : rm = ({ frames := 6, cells := 28, slots := 5600, locals := 148 } : Room)) (F : zF X none 28 5600 Qr Qx) (hw : gW g) (hX : gX g ≤ 100000000) (hl9 : l9 < 6) (hba : b + 21 ≤ a) (hLA : a + 2 ≤ lo) : ∀ (cs : List zCh) (k kc ks v0 : Nat) (h0 : zH) (o : List Nat), (gC g).drop k = cs → k ≤ (gC g).length → zGa h0 b g → zOv h0 a v0 lo o → lo ≤ hN h0 → o.length + 13 * hsz cs l9 ≤ 80 → kc + 5 * hsz cs l9 ≤ 28 → ks + 1000 * hsz cs l9 ≤ 5600 → (∀ h' v', zOv h' a v' lo (o ++ wlC l9 cs) → zOf h0 h' a lo → Qr none h') → zV X kc ks h0 24 [(0, .ref b), (1, .int (nI l9)), (2, .ref a), (3, .int (nI k))] [] := by
  subst hr
  have hl := gW_len hw
  have hlg := hl
  intro cs
  induction cs with
  | nil =>
    intro k kc ks v0 h0 o hd hk hg u0 h1 b80 bkc bks kq
    have hk9 : (gC g).length ≤ k := List.drop_eq_nil_iff.mp hd
    exact s_dsE hzs hst C G F hk9 (by omega) (by omega) (by omega) hg (kq h0 v0 (by rw [wlC, List.append_nil]; exact u0) (zOf.refl _ _ _)) hl
  | cons c cs ih =>
    intro k kc ks v0 h0 o hd hk hg u0 h1 b80 bkc bks kq
    have f0 := zOf.refl h0 a lo
    have hd8 : (gC g).drop (k + 1) = cs := by rw [← List.drop_drop, hd]; rfl
    refine zV.iload_n C dX3_describe_24 rfl ?_
    refine zV.aload_n C dX3_describe_25 rfl rfl ?_
    refine zV.gIv 196 (k := 4) C dX3_describe_26 zcl_X3 (by decide) rfl lk_X3_50 (hg.1.1) rfl ((zGa_len hg)) ?_
    refine zV.icmp_ge (tgt := 98) C dX3_describe_29 (by decide) (fun q29 => ?_) (fun q29 => ?_)
    · exact absurd (List.drop_eq_nil_iff.mpr (nle (by omega) (by omega) q29)) (by rw [hd]; exact List.cons_ne_nil _ _)
    · have hkl : k < (gC g).length := nlt (by omega) (by omega) q29
      have hc : (gC g)[k]? = some c := drop_hd hd
      have h12 : k < 12 := by omega
      obtain ⟨c1, c2, c3, c4, c5⟩ := zGa_c hg hc
      obtain ⟨b1, b2, b3, b4⟩ := gW_cb hw hc
      have hid := (gW_c hw hc).1
      obtain ⟨ca1, ca2⟩ := (hg.2.2.2.2.2.1.1 k h12).2
      have a8 := dcs_le 7 (chI c) (by omega)
      have a2 := dcs_le 1 (chR c) (by omega)
      have w13 := wlc_le (c := c) (by omega) b3
      rw [hsz_cons] at b80 bkc bks
      rw [wlC] at kq
      refine zV.aload_n C dX3_describe_32 rfl rfl ?_
      refine zV.gR 195 (k := 3) C dX3_describe_33 zcl_X3 (by decide) rfl lk_X3_30 (hg.1.1) rfl (hg.1.2.2.2.2.1) ?_
      refine zV.iload_n C dX3_describe_36 rfl ?_
      refine zV.aaldC (j := k) C dX3_describe_37 (hg.1.2.2.2.2.2.2.2.2.1.1) (rfl) (Nat.lt_of_lt_of_eq h12 (hg.1.2.2.2.2.2.2.2.2.1.2).symm) (by omega) (zGa_a hg h12) ?_
      refine zV.astore (lo' := [(0, _), (1, _), (2, _), (3, _), (4, _)]) C dX3_describe_38 rfl (by decide) rfl rfl rfl ?_
      refine zV.aload C dX3_describe_40 rfl rfl ?_
      refine zV.gNIv 129 (k := 1) C dX3_describe_42 zcl_X0 (by decide) rfl lk_X3_113 (zGa_k hg h12) rfl (c2) ?_
      refine zV.iload_n C dX3_describe_45 rfl ?_
      refine zV.icmp_ne (tgt := 92) C dX3_describe_46 (by decide) (fun q46 => ?_) (fun q46 => ?_)
      · rw [if_neg (fun z => q46 (by rw [z])), List.nil_append] at kq
        rw [if_neg (fun z => q46 (by rw [z]))] at b80 bkc bks
        refine zV.iinc (lo' := [(0, _), (1, _), (2, _), (3, _), (4, _)]) C dX3_describe_92 rfl (by decide) rfl rfl rfl ?_
        refine zV.goto (tgt := 24) C dX3_describe_95 (by decide) ?_
        rw [inc1]
        first
          | exact zV.sub [0, 1, 2, 3] rfl (ih (k + 1) _ _ v5 h5 (o ++ wlc c) hd8 (by omega) (zGa_e hg hlg (fun c9 y1 y2 => f5.2 c9 (Or.inl (by omega)) (by omega))) (eo ▸ u5) (by have := f5.1; omega) (by rw [List.length_append]; omega) (by omega) (by omega) (fun h' v' u' f' => kq h' v' (by rw [← List.append_assoc]; exact u') (f5.trans f')))
          | exact zV.sub [0, 1, 2, 3] rfl (ih (k + 1) _ _ v4 h4 (o ++ wlc c) hd8 (by omega) (zGa_e hg hlg (fun c9 y1 y2 => f4.2 c9 (Or.inl (by omega)) (by omega))) (eo ▸ u4) (by have := f4.1; omega) (by rw [List.length_append]; omega) (by omega) (by omega) (fun h' v' u' f' => kq h' v' (by rw [← List.append_assoc]; exact u') (f4.trans f')))
          | exact zV.sub [0, 1, 2, 3] rfl (ih (k + 1) _ _ v0 h0 o hd8 (by omega) hg u0 h1 (by omega) (by omega) (by omega) kq)
      · have el : chL c = l9 := (neqn (by omega) (by omega)).mp q46
        rw [if_pos el] at kq b80 bkc bks
        refine zV.aload_n C dX3_describe_49 rfl rfl ?_
        refine zV.bi (v := nI 32) C dX3_describe_50 (by decide) ?_
        refine zV.callV (n := 1) C G dX3_describe_52 (s_BappendC hzs hst h0 a v0 lo o u0 (by have := f0.1; omega) hLA 32 (by decide) (by (try simp only [List.length_append, List.length_cons, List.length_nil]); omega)) rfl ⟨cd_J4_append_cf468, lk_X3_214, im_J4_append_cf468, se_J4_J4_append_cf468, in_J4⟩ ⟨⟨by decide, by decide⟩, by decide⟩ rfl (zRm_v 28 5600 rfl rfl rfl (by omega) (by omega)) rfl u0.1 ⟨rfl, by decide⟩ (zafR (fun h1 ⟨v1, u1, F1⟩ => ?_)) (zno)
        have f1 := F1
        refine zV.aload C dX3_describe_55 rfl rfl ?_
        refine zV.gNIv 128 (k := 0) C dX3_describe_57 zcl_X0 (by decide) rfl lk_X3_110 ((f1.2 (cA h0 b k) (Or.inl (by omega)) (by omega)).1.trans (zGa_k hg h12)) rfl (((f1.2 (cA h0 b k) (Or.inl (by omega)) (by omega)).2.2.2.1 _).trans c1) ?_
        refine zV.callV (n := 1) C G dX3_describe_60 (s_BappendI hzs hst h1 a v1 lo (o ++ [32]) u1 (by have := f1.1; omega) hLA (chI c) (by omega) (by (try simp only [List.length_append, List.length_cons, List.length_nil]); omega)) rfl ⟨cd_J4_append_bf812, lk_X3_208, im_J4_append_bf812, se_J4_J4_append_bf812, in_J4⟩ ⟨⟨by decide, by decide⟩, by decide⟩ rfl (zRm_v 28 5600 rfl rfl rfl (by omega) (by omega)) rfl u1.1 ⟨rfl, by decide⟩ (zafR (fun h2 ⟨v2, u2, F2⟩ => ?_)) (zno)
        have f2 := f1.trans F2
        refine zV.bi (v := nI 114) C dX3_describe_63 (by decide) ?_
        refine zV.callV (n := 1) C G dX3_describe_65 (s_BappendC hzs hst h2 a v2 lo (o ++ [32] ++ dcs (chI c)) u2 (by have := f2.1; omega) hLA 114 (by decide) (by (try simp only [List.length_append, List.length_cons, List.length_nil]); omega)) rfl ⟨cd_J4_append_cf468, lk_X3_214, im_J4_append_cf468, se_J4_J4_append_cf468, in_J4⟩ ⟨⟨by decide, by decide⟩, by decide⟩ rfl (zRm_v 28 5600 rfl rfl rfl (by omega) (by omega)) rfl u2.1 ⟨rfl, by decide⟩ (zafR (fun h3 ⟨v3, u3, F3⟩ => ?_)) (zno)
        have f3 := f2.trans F3
        refine zV.aload C dX3_describe_68 rfl rfl ?_
        refine zV.gNIv 130 (k := 2) C dX3_describe_70 zcl_X0 (by decide) rfl lk_X3_116 ((f3.2 (cA h0 b k) (Or.inl (by omega)) (by omega)).1.trans (zGa_k hg h12)) rfl (((f3.2 (cA h0 b k) (Or.inl (by omega)) (by omega)).2.2.2.1 _).trans c3) ?_
        refine zV.callV (n := 1) C G dX3_describe_73 (s_BappendI hzs hst h3 a v3 lo (o ++ [32] ++ dcs (chI c) ++ [114]) u3 (by have := f3.1; omega) hLA (chR c) (by omega) (by (try simp only [List.length_append, List.length_cons, List.length_nil]); omega)) rfl ⟨cd_J4_append_bf812, lk_X3_208, im_J4_append_bf812, se_J4_J4_append_bf812, in_J4⟩ ⟨⟨by decide, by decide⟩, by decide⟩ rfl (zRm_v 28 5600 rfl rfl rfl (by omega) (by omega)) rfl u3.1 ⟨rfl, by decide⟩ (zafR (fun h4 ⟨v4, u4, F4⟩ => ?_)) (zno)
        have f4 := f3.trans F4
        refine zV.pop C dX3_describe_76 rfl ?_
        refine zV.aload C dX3_describe_77 rfl rfl ?_
        refine zV.gNIv 132 (k := 4) C dX3_describe_79 zcl_X0 (by decide) rfl lk_X3_122 ((f4.2 (cA h0 b k) (Or.inl (by omega)) (by omega)).1.trans (zGa_k hg h12)) rfl (((f4.2 (cA h0 b k) (Or.inl (by omega)) (by omega)).2.2.2.1 _).trans c5) ?_
        refine zV.if_eq (tgt := 92) C dX3_describe_82 (by decide) (fun q82 => ?_) (fun q82 => ?_)
        · have hF : chF c = false := b2n.mp q82
          have eo : o ++ [32] ++ dcs (chI c) ++ [114] ++ dcs (chR c) = o ++ wlc c := by unfold wlc; rw [if_neg (fun z => by rw [hF] at z; cases z)]; simp only [List.append_assoc, List.append_nil]
          refine zV.iinc (lo' := [(0, _), (1, _), (2, _), (3, _), (4, _)]) C dX3_describe_92 rfl (by decide) rfl rfl rfl ?_
          refine zV.goto (tgt := 24) C dX3_describe_95 (by decide) ?_
          rw [inc1]
          first
            | exact zV.sub [0, 1, 2, 3] rfl (ih (k + 1) _ _ v5 h5 (o ++ wlc c) hd8 (by omega) (zGa_e hg hlg (fun c9 y1 y2 => f5.2 c9 (Or.inl (by omega)) (by omega))) (eo ▸ u5) (by have := f5.1; omega) (by rw [List.length_append]; omega) (by omega) (by omega) (fun h' v' u' f' => kq h' v' (by rw [← List.append_assoc]; exact u') (f5.trans f')))
            | exact zV.sub [0, 1, 2, 3] rfl (ih (k + 1) _ _ v4 h4 (o ++ wlc c) hd8 (by omega) (zGa_e hg hlg (fun c9 y1 y2 => f4.2 c9 (Or.inl (by omega)) (by omega))) (eo ▸ u4) (by have := f4.1; omega) (by rw [List.length_append]; omega) (by omega) (by omega) (fun h' v' u' f' => kq h' v' (by rw [← List.append_assoc]; exact u') (f4.trans f')))
            | exact zV.sub [0, 1, 2, 3] rfl (ih (k + 1) _ _ v0 h0 o hd8 (by omega) hg u0 h1 (by omega) (by omega) (by omega) kq)
        · have hF : chF c = true := Bool.of_not_eq_false (fun z => q82 (b2n.mpr z))
          have eo : o ++ [32] ++ dcs (chI c) ++ [114] ++ dcs (chR c) ++ [102] = o ++ wlc c := by unfold wlc; rw [if_pos hF]; simp only [List.append_assoc]
          refine zV.aload_n C dX3_describe_85 rfl rfl ?_
          refine zV.bi (v := nI 102) C dX3_describe_86 (by decide) ?_
          refine zV.callV (n := 1) C G dX3_describe_88 (s_BappendC hzs hst h4 a v4 lo (o ++ [32] ++ dcs (chI c) ++ [114] ++ dcs (chR c)) u4 (by have := f4.1; omega) hLA 102 (by decide) (by (try simp only [List.length_append, List.length_cons, List.length_nil]); omega)) rfl ⟨cd_J4_append_cf468, lk_X3_214, im_J4_append_cf468, se_J4_J4_append_cf468, in_J4⟩ ⟨⟨by decide, by decide⟩, by decide⟩ rfl (zRm_v 28 5600 rfl rfl rfl (by omega) (by omega)) rfl u4.1 ⟨rfl, by decide⟩ (zafR (fun h5 ⟨v5, u5, F5⟩ => ?_)) (zno)
          have f5 := f4.trans F5
          refine zV.pop C dX3_describe_91 rfl ?_
          refine zV.iinc (lo' := [(0, _), (1, _), (2, _), (3, _), (4, _)]) C dX3_describe_92 rfl (by decide) rfl rfl rfl ?_
          refine zV.goto (tgt := 24) C dX3_describe_95 (by decide) ?_
          rw [inc1]
          first
            | exact zV.sub [0, 1, 2, 3] rfl (ih (k + 1) _ _ v5 h5 (o ++ wlc c) hd8 (by omega) (zGa_e hg hlg (fun c9 y1 y2 => f5.2 c9 (Or.inl (by omega)) (by omega))) (eo ▸ u5) (by have := f5.1; omega) (by rw [List.length_append]; omega) (by omega) (by omega) (fun h' v' u' f' => kq h' v' (by rw [← List.append_assoc]; exact u') (f5.trans f')))
            | exact zV.sub [0, 1, 2, 3] rfl (ih (k + 1) _ _ v4 h4 (o ++ wlc c) hd8 (by omega) (zGa_e hg hlg (fun c9 y1 y2 => f4.2 c9 (Or.inl (by omega)) (by omega))) (eo ▸ u4) (by have := f4.1; omega) (by rw [List.length_append]; omega) (by omega) (by omega) (fun h' v' u' f' => kq h' v' (by rw [← List.append_assoc]; exact u') (f4.trans f')))
            | exact zV.sub [0, 1, 2, 3] rfl (ih (k + 1) _ _ v0 h0 o hd8 (by omega) hg u0 h1 (by omega) (by omega) (by omega) kq)
set_option maxHeartbeats 4000000 in
set_option maxRecDepth 100000 in
theorem s_describe {l : Launch} {E : zG} (hzs : zS E) (hst : l.stackTraces = false) (h0 : zH) (b a v0 lo l9 : Nat) (g : zGd) (hg0 : zGa h0 b g) (u0 : zOv h0 a v0 lo []) (h1 : lo ≤ hN h0) (hLA : a + 2 ≤ lo) (hba : b + 21 ≤ a) (hw : gW g) (hX : gX g ≤ 100000000) (hl9 : l9 < 6) (h5 : hsz (gC g) l9 ≤ 5) : zMet l E yX3_describe cX3_describe 5 none ({ frames := 6, cells := 28, slots := 5600, locals := 148 } : Room) 28 5600 [.ref b, .int (nI l9), .ref a] h0 (fun r h' => r = none ∧ ∃ v', zOv h' a v' lo (wl g l9) ∧ zOf h0 h' a lo) (fun _ _ => False) := by
  refine zM_start hzs hst (by decide) (Nat.le_of_ble_eq_true rfl) (fun X C G F I => ?_)
  show zV X 0 0 _ 0 [(0, _), (1, _), (2, _)] []
  have hlg := gW_len hw
  have f0 := zOf.refl h0 a lo
  have s20 := gW_s hw hl9
  have d1 := dcs_le 0 l9 (by omega)
  have d2 := dcs_le 1 (gS g l9) (by omega)
  refine zV.aload_n C dX3_describe_0 rfl rfl ?_
  refine zV.iload_n C dX3_describe_1 rfl ?_
  refine zV.callV (n := 1) C G dX3_describe_2 (s_BappendI hzs hst h0 a v0 lo [] u0 (by have := f0.1; omega) hLA l9 (by omega) (by (try simp only [List.length_append, List.length_cons, List.length_nil]); omega)) rfl ⟨cd_J4_append_bf812, lk_X3_208, im_J4_append_bf812, se_J4_J4_append_bf812, in_J4⟩ ⟨⟨by decide, by decide⟩, by decide⟩ rfl rfl rfl u0.1 ⟨rfl, by decide⟩ (zafR (fun h1 ⟨v1, u1, F1⟩ => ?_)) (zno)
  have f1 := F1
  refine zV.bi (v := nI 58) C dX3_describe_5 (by decide) ?_
  refine zV.callV (n := 1) C G dX3_describe_7 (s_BappendC hzs hst h1 a v1 lo ([] ++ dcs l9) u1 (by have := f1.1; omega) hLA 58 (by omega) (by (try simp only [List.length_append, List.length_cons, List.length_nil]); omega)) rfl ⟨cd_J4_append_cf468, lk_X3_214, im_J4_append_cf468, se_J4_J4_append_cf468, in_J4⟩ ⟨⟨by decide, by decide⟩, by decide⟩ rfl rfl rfl u1.1 ⟨rfl, by decide⟩ (zafR (fun h2 ⟨v2, u2, F2⟩ => ?_)) (zno)
  have f2 := f1.trans F2
  have hg := zGa_e hg0 hlg (fun c9 y1 y2 => f2.2 c9 (Or.inl (by omega)) (by omega))
  refine zV.aload_n C dX3_describe_10 rfl rfl ?_
  refine zV.gR 193 (k := 1) C dX3_describe_11 zcl_X3 (by decide) rfl lk_X3_21 (hg.1.1) rfl (hg.1.2.2.1) ?_
  refine zV.iload_n C dX3_describe_14 rfl ?_
  refine zV.callV (n := 1) C G dX3_describe_15 (s_LawnRow_at hzs hst h2 (b + 4) l9 hl9 hg.1.2.2.2.2.2.2.1) rfl ⟨cd_X7_at, lk_X3_107, im_X7_at, se_X7_X7_at, in_X7⟩ ⟨⟨by decide, by decide⟩, by decide⟩ rfl rfl rfl (hg.1.2.2.2.2.2.2.1.1) ⟨rfl, by decide⟩ (zaf ?_) (zno)
  rw [zGa_s hg l9 hl9]
  refine zV.callV (n := 1) C G dX3_describe_18 (s_BappendI hzs hst h2 a v2 lo ([] ++ dcs l9 ++ [58]) u2 (by have := f2.1; omega) hLA (gS g l9) (by omega) (by (try simp only [List.length_append, List.length_cons, List.length_nil]); omega)) rfl ⟨cd_J4_append_bf812, lk_X3_208, im_J4_append_bf812, se_J4_J4_append_bf812, in_J4⟩ ⟨⟨by decide, by decide⟩, by decide⟩ rfl rfl rfl u2.1 ⟨rfl, by decide⟩ (zafR (fun h3 ⟨v3, u3, F3⟩ => ?_)) (zno)
  have f3 := f2.trans F3
  have hg3 := zGa_e hg0 hlg (fun c9 y1 y2 => f3.2 c9 (Or.inl (by omega)) (by omega))
  refine zV.pop C dX3_describe_21 rfl ?_
  refine zV.ic (v := nI 0) C dX3_describe_22 (by decide) ?_
  refine zV.istore_n (lo' := [(0, _), (1, _), (2, _), (3, _)]) C dX3_describe_23 (by decide) rfl rfl rfl ?_
  exact L_describe hzs hst C G rfl F hw hX hl9 hba hLA (gC g) 0 _ _ v3 h3 _ List.drop_zero (Nat.zero_le _) hg3 u3 (by have := f3.1; omega) (by (try simp only [List.length_append, List.length_cons, List.length_nil]); omega) (by omega) (by omega) (fun h' v' u' f' => ⟨rfl, v', by unfold wl; rw [show dcs l9 ++ ([58] ++ (dcs (gS g l9) ++ wlC l9 (gC g))) = [] ++ dcs l9 ++ [58] ++ dcs (gS g l9) ++ wlC l9 (gC g) by simp only [List.append_assoc, List.nil_append]]; exact u', f3.trans f'⟩)
set_option maxHeartbeats 4000000 in
set_option maxRecDepth 100000 in
theorem s_writeLawn {l : Launch} {E : zG} (hzs : zS E) (hst : l.stackTraces = false) (h : zH) (a lo : Nat) (x : Int32) (g : zGd) (us : List zGd) (sn : Option zGd) (off rs dt cs : Int32) (t o : List Nat) (q : zXa h a lo g us sn off rs dt cs t o) (hw : gW g) (hX : gX g ≤ 100000000) (h5 : ∀ l, l < 6 → hsz (gC g) l ≤ 5) (hlN : lo ≤ hN h) : zMet l E yX9_writeLawn cX9_writeLawn 2 (some .int) ({ frames := 7, cells := 30, slots := 5806, locals := 172 } : Room) 30 5806 [.ref a, .int x] h (sQ9 h (wlA g x) (fun h' => zXf h h' a lo ∧ zXa h' a lo g us sn off rs dt cs t (wlO g x o))) (sX9 h (wlA g x) (fun h' => zXf h h' a lo ∧ zXa h' a lo g us sn off rs dt cs t (wlO g x o))) := by
  refine zM_start hzs hst (by decide) (Nat.le_of_ble_eq_true rfl) (fun X C G F I => ?_)
  show zV X 0 0 _ 0 [(0, _), (1, _)] []
  obtain ⟨hx, ⟨hg, hf, hb⟩, hs, hH, hI, hJ, hin, hou, hn, hlo, hl9⟩ := id q
  rcases e1 : ln x with _ | i
  · refine zV.iload_n C dX9_writeLawn_0 rfl ?_
    refine zV.callS (n := 1) C G dX9_writeLawn_1 (s_demandLawn hzs hst h x) rfl ⟨cd_X9_demandLawn, lk_X9_70, st_X9_demandLawn, in_X9⟩ ⟨⟨by decide, by decide⟩, by decide⟩ rfl rfl rfl (dl_no e1) (dlS_x C F (lawA_n e1) ⟨zXf.refl h a lo, by unfold wlO; rw [e1]; exact q⟩ ⟨by decide, by decide⟩)
  · obtain ⟨hi, rfl⟩ := ln_some e1
    obtain ⟨v0, u0⟩ := zOu_v hou
    have hLA : a + 269 + 2 ≤ lo := hlo
    refine zV.iload_n C dX9_writeLawn_0 rfl ?_
    refine zV.callS (n := 1) C G dX9_writeLawn_1 (s_demandLawn hzs hst h (nI i)) rfl ⟨cd_X9_demandLawn, lk_X9_70, st_X9_demandLawn, in_X9⟩ ⟨⟨by decide, by decide⟩, by decide⟩ rfl rfl rfl (dl_ok ?_) (dl_nx e1)
    refine zV.aload_n C dX9_writeLawn_4 rfl rfl ?_
    refine zV.gR 392 (k := 8) C dX9_writeLawn_5 zcl_X9 (by decide) rfl lk_X9_56 (hx.1) rfl (hx.2.2.2.2.2.2.2.2.2) ?_
    refine zV.ic (v := nI 0) C dX9_writeLawn_8 (by decide) ?_
    refine zV.callV (n := 1) C G dX9_writeLawn_9 (s_BsetLength hzs hst h (a + 269) v0 lo o u0 hlN hLA) rfl ⟨cd_J4_setLength_d00df, lk_X9_250, im_J4_setLength_d00df, se_J4_J4_setLength_d00df, in_J4⟩ ⟨⟨by decide, by decide⟩, by decide⟩ rfl rfl rfl hou.1 ⟨rfl, by decide⟩ (zafRv (fun h1 ⟨v1, u1, f1⟩ => ?_)) (zno)
    have q := zXa_o q f1 (zOv_u u1)
    clear hx hg hf hb hs hH hI hJ hin hou hn
    obtain ⟨hx, ⟨hg, hf, hb⟩, hs, hH, hI, hJ, hin, hou, hn, hlo2, hl92⟩ := id q
    refine zV.aload_n C dX9_writeLawn_12 rfl rfl ?_
    refine zV.gR 384 (k := 0) C dX9_writeLawn_13 zcl_X9 (by decide) rfl lk_X9_10 (hx.1) rfl (hx.2.1) ?_
    refine zV.iload_n C dX9_writeLawn_16 rfl ?_
    refine zV.aload_n C dX9_writeLawn_17 rfl rfl ?_
    refine zV.gR 392 (k := 8) C dX9_writeLawn_18 zcl_X9 (by decide) rfl lk_X9_56 (hx.1) rfl (hx.2.2.2.2.2.2.2.2.2) ?_
    refine zV.callV (n := 2) C G dX9_writeLawn_21 (s_describe hzs hst h1 (a + 1) (a + 269) v1 lo i g hg u1 (by have := f1.1; omega) hLA (by omega) hw hX hi (h5 i hi)) rfl ⟨cd_X3_describe, lk_X9_253, im_X3_describe, se_X3_X3_describe, in_X3⟩ ⟨⟨by decide, by decide⟩, by decide⟩ rfl rfl rfl hg.1.1 ⟨rfl, by decide⟩ (zafRv (fun h2 ⟨v2, u2, f2⟩ => ?_)) (zno)
    have q := zXa_o q f2 (zOv_u u2)
    clear hx hg hf hb hs hH hI hJ hin hou hn
    obtain ⟨hx, ⟨hg, hf, hb⟩, hs, hH, hI, hJ, hin, hou, hn, hlo3, hl93⟩ := id q
    refine zV.aload_n C dX9_writeLawn_24 rfl rfl ?_
    refine zV.gR 392 (k := 8) C dX9_writeLawn_25 zcl_X9 (by decide) rfl lk_X9_56 (hx.1) rfl (hx.2.2.2.2.2.2.2.2.2) ?_
    refine zV.callV (n := 0) C G dX9_writeLawn_28 (s_Blength hzs hst h2 (a + 269) v2 lo (wl g i) u2) rfl ⟨cd_J4_length_8abf5, lk_X9_257, im_J4_length_8abf5, se_J4_J4_length_8abf5, in_J4⟩ ⟨⟨by decide, by decide⟩, by decide⟩ rfl rfl rfl u2.1 ⟨rfl, by decide⟩ (zaf ?_) (zno)
    refine zV.iret C F dX9_writeLawn_31 rfl ?_
    exact sQ_of (lawA_s e1) ⟨(zXf.o f1).trans (zXf.o f2), by unfold wlO; rw [e1]; exact q⟩
def ouA (o : List Nat) (x : Int32) : zAn := if x < 0 then .inl IOB else match o[x.toNatClampNeg]? with
  | none => .inl IOB
  | some c => .inr (.int (nI c))
theorem ou_i {o : List Nat} {x : Int32} (ho : o.length < 2 ^ 31) (h0 : ¬ x < 0) (h1 : x < nI o.length) : ∃ i c, x = nI i ∧ o[i]? = some c ∧ ouA o x = .inr (.int (nI c)) := by
  obtain ⟨n, h3, h5⟩ := nI_of2 (n := o.length) (x := x) (nI_toInt ho) h0 (Int32.le_of_lt h1)
  subst h5
  have h6 : n < o.length := by
    rcases Nat.lt_or_ge n o.length with z | z
    · exact z
    · exact absurd h1 (Int32.not_lt.mpr (nI_le z (by omega)))
  refine ⟨n, o[n], rfl, List.getElem?_eq_getElem h6, ?_⟩
  unfold ouA
  rw [if_neg h0, nI_cl (by omega), List.getElem?_eq_getElem h6]
theorem ou_n {o : List Nat} {x : Int32} (ho : o.length < 2 ^ 31) (h : x < 0 ∨ ¬ x < nI o.length) : ouA o x = .inl IOB := by
  unfold ouA
  by_cases h0 : x < 0
  · rw [if_pos h0]
  · rw [if_neg h0]
    have h1 := h.resolve_left h0
    have h2 : o.length ≤ x.toNatClampNeg := by
      have h3 := Int32.not_lt.mp h1
      rw [Int32.le_iff_toInt_le, nI_toInt ho] at h3
      unfold Int32.toNatClampNeg
      omega
    rw [List.getElem?_eq_none h2]
set_option maxHeartbeats 4000000 in
set_option maxRecDepth 100000 in
theorem s_outputAt {l : Launch} {E : zG} (hzs : zS E) (hst : l.stackTraces = false) (h : zH) (a lo : Nat) (x : Int32) (g : zGd) (us : List zGd) (sn : Option zGd) (off rs dt cs : Int32) (t o : List Nat) (q : zXa h a lo g us sn off rs dt cs t o) : zMet l E yX9_outputAt cX9_outputAt 2 (some .char) ({ frames := 6, cells := 1, slots := 6, locals := 95 } : Room) 1 6 [.ref a, .int x] h (aQ h (ouA o x)) (aX h (ouA o x)) := by
  refine zM_start hzs hst (by decide) (Nat.le_of_ble_eq_true rfl) (fun X C G F I => ?_)
  show zV X 0 0 _ 0 [(0, _), (1, _)] []
  obtain ⟨hx, ⟨hg, hf, hb⟩, hs, hH, hI, hJ, hin, hou, hn, hlo, hl9⟩ := id q
  obtain ⟨v0, u0⟩ := zOu_v hou
  have ho : o.length < 2 ^ 31 := by have := u0.2.2.2.2.2.2.2.1; have := u0.2.2.2.2.2.2.2.2.1; omega
  refine zV.iload_n C dX9_outputAt_0 rfl ?_
  refine zV.if_lt (tgt := 15) C dX9_outputAt_1 (by decide) (fun q1 => ?_) (fun q1 => ?_)
  · exact zV.throwXW _ C G dX9_outputAt_15 dX9_outputAt_18 dX9_outputAt_19 dX9_outputAt_22 dX9_outputAt_25 hz_iob lk_X9_260 in_java_lang_IndexOutOfBoundsException hs_262 hp_iob zUW rfl (zVX.out C F (⟨ou_n ho (by first | exact Or.inl q1 | exact Or.inr q12), rfl⟩) ⟨by decide, by decide⟩)
  · refine zV.iload_n C dX9_outputAt_4 rfl ?_
    refine zV.aload_n C dX9_outputAt_5 rfl rfl ?_
    refine zV.gR 392 (k := 8) C dX9_outputAt_6 zcl_X9 (by decide) rfl lk_X9_56 (hx.1) rfl (hx.2.2.2.2.2.2.2.2.2) ?_
    refine zV.callV (n := 0) C G dX9_outputAt_9 (s_Blength hzs hst h (a + 269) v0 lo o u0) rfl ⟨cd_J4_length_8abf5, lk_X9_257, im_J4_length_8abf5, se_J4_J4_length_8abf5, in_J4⟩ ⟨⟨by decide, by decide⟩, by decide⟩ rfl rfl rfl hou.1 ⟨rfl, by decide⟩ (zaf ?_) (zno)
    refine zV.icmp_lt (tgt := 26) C dX9_outputAt_12 (by decide) (fun q12 => ?_) (fun q12 => ?_)
    · obtain ⟨i, c, rfl, hc, eA⟩ := ou_i ho q1 q12
      refine zV.aload_n C dX9_outputAt_26 rfl rfl ?_
      refine zV.gR 392 (k := 8) C dX9_outputAt_27 zcl_X9 (by decide) rfl lk_X9_56 (hx.1) rfl (hx.2.2.2.2.2.2.2.2.2) ?_
      refine zV.iload_n C dX9_outputAt_30 rfl ?_
      refine zV.callV (n := 1) C G dX9_outputAt_31 (s_BcharAt hzs hst h (a + 269) v0 lo o u0 i c hc) rfl ⟨cd_J4_charAt_5068e, lk_X9_265, im_J4_charAt_5068e, se_J4_J4_charAt_5068e, in_J4⟩ ⟨⟨by decide, by decide⟩, by decide⟩ rfl rfl rfl hou.1 ⟨rfl, by decide⟩ (zaf ?_) (zno)
      refine zV.zret C F dX9_outputAt_34 (nar_c c (u0.2.2.2.2.2.2.2.2.2.1 i c hc).2).1 rfl ?_
      exact aQ_of eA
    · exact zV.throwXW _ C G dX9_outputAt_15 dX9_outputAt_18 dX9_outputAt_19 dX9_outputAt_22 dX9_outputAt_25 hz_iob lk_X9_260 in_java_lang_IndexOutOfBoundsException hs_262 hp_iob zUW rfl (zVX.out C F (⟨ou_n ho (by first | exact Or.inl q1 | exact Or.inr q12), rfl⟩) ⟨by decide, by decide⟩)
