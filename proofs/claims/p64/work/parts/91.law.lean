/-! the law: from its entry to its end -/
def e1E : zGd := (ap g00 100 (nI 20) 0).1
def cE : Nat → zGd
  | 0 => e1E
  | k + 1 => (ap (cE k) 99 (nI (k % 6)) (nI (k % 10))).1
def d1E : zGd := (ap (cE 12) 112 (nI 0) (nI 1)).1
def d2E : zGd := (ap d1E 103 (nI 0) (nI 1)).1
def d3E : zGd := (ap d2E 115 (nI 11) 0).1
def d4E : zGd := (ap d3E 99 (nI 5) (nI 0)).1
def e8E : zGd := (ap (cE 8) 99 (nI 2) (nI 2)).1
def ezE : zGd := (ap g00 99 (nI 0) (nI 0)).1
theorem S_e1 : stE g00 100 (nI 20) 0 e1E (nI 0) := ⟨by decide +kernel, rfl, by decide +kernel⟩
theorem gD_e1 : gD e1E = 20 := by decide +kernel
theorem v_cE : ∀ k, k < 12 → (jd (cE k) 99 (nI (k % 6)) (nI (k % 10))).1 = 0 ∧ (ap (cE k) 99 (nI (k % 6)) (nI (k % 10))).2 = nI k := by decide +kernel
theorem S_cE (k : Nat) (hk : k < 12) : stE (cE k) 99 (nI (k % 6)) (nI (k % 10)) (cE (k + 1)) (nI k) := ⟨(v_cE k hk).1, rfl, (v_cE k hk).2⟩
theorem S_d1 : stE (cE 12) 112 (nI 0) (nI 1) d1E (nI 1) := ⟨by decide +kernel, rfl, by decide +kernel⟩
theorem S_d2 : stE d1E 103 (nI 0) (nI 1) d2E (nI 2) := ⟨by decide +kernel, rfl, by decide +kernel⟩
theorem S_d3 : stE d2E 115 (nI 11) 0 d3E (nI 1) := ⟨by decide +kernel, rfl, by decide +kernel⟩
theorem S_d4 : stE d3E 99 (nI 5) (nI 0) d4E (nI 12) := ⟨by decide +kernel, rfl, by decide +kernel⟩
theorem S_e8 : stE (cE 8) 99 (nI 2) (nI 2) e8E (nI 8) := ⟨by decide +kernel, rfl, by decide +kernel⟩
theorem S_ez : stE g00 99 (nI 0) (nI 0) ezE (nI 0) := ⟨by decide +kernel, rfl, by decide +kernel⟩
theorem f_12 : jd (cE 12) 99 (nI 0) (nI 0) = (3, 3, nI 12) := by decide +kernel
theorem f_d2 : jd d2E 99 (nI 1) (nI 1) = (3, 3, nI 12) := by decide +kernel
theorem h_d2 : hsz (gC d2E) 1 = 4 := by decide +kernel
theorem x_d3 : kc d3E (nI 12) = none := by decide +kernel
theorem x_d2 : (kc d2E (nI 11)).isSome = true := by decide +kernel
theorem x_d1 : hsz (gC d1E) 0 = 2 := by decide +kernel
theorem x_12 : gP (cE 12) = 0 := by decide +kernel
theorem x_11 : (gC (cE 11)).length = 11 := by decide +kernel
theorem x_8 : (gC (cE 8)).length = 8 := by decide +kernel
theorem R_e1 : gR 600 e1E := ap_R isD_100 g00_R S_e1.1
theorem R_cE : ∀ k, k ≤ 12 → gR (600 * (k + 1)) (cE k) := by
  intro k
  induction k with
  | zero => exact fun _ => R_e1
  | succ k ih => exact fun hk => gR_mono (ap_R isD_99 (ih (by omega)) (v_cE k (by omega)).1) (by omega)
theorem R_c (k : Nat) (hk : k ≤ 12) : gR 20000 (cE k) := gR_mono (R_cE k hk) (by omega)
theorem R_d1 : gR 8400 d1E := ap_R isD_112 (R_cE 12 (Nat.le_refl _)) S_d1.1
theorem R_d2 : gR 9000 d2E := ap_R isD_103 R_d1 S_d2.1
theorem R_d3 : gR 9600 d3E := ap_R isD_115 R_d2 S_d3.1
theorem w_of {m : Nat} {g : zGd} (hR : gR m g) (hm : m ≤ 1000000000) : gW g := gW_of hR.1.1 hR.1.2.2.2 hm
set_option maxHeartbeats 4000000 in
set_option maxRecDepth 100000 in
theorem L_first {X : zX} {l : Launch} {E : zG} {rm : Room} (hzs : zS E) (hst : l.stackTraces = false) (C : zC X cL_law RL 11) (G : zGX X l E rm) (hr : rm = room_1) {sq : Nat} (kk : ∀ h', zV X 490 3900 h' 455 [(0, .retAddr sq), (1, .ref 0)] []) : zV X 0 0 h00 0 [(0, .retAddr sq)] [] := by
  have hr0 := hr
  subst hr
  refine zV.new C G dL_law_0 zcl_X9 ⟨lk_L_8, it_X9, in_X9⟩ (by decide) rfl ?_
  show zV X 1 14 (hNew h00 13 0) 3 [(0, .retAddr sq)] [.ref 0]
  refine zV.dup C dL_law_3 rfl ?_
  refine zV.callI (n := 0) C G dL_law_4 (s_init hzs hst (hNew h00 13 0) 0 rfl rfl (fun f => rfl)) rfl ⟨cd_X9_init, lk_L_386, im_X9_init, in_X9⟩ rfl ⟨⟨by decide, by decide⟩, by decide⟩ rfl rfl rfl (zafRv (fun h1 ⟨x1, n1, f1⟩ => ?_)) (zno)
  show zV X 271 1621 h1 7 [(0, .retAddr sq)] [.ref 0]
  have q := x1 271 (Nat.le_refl _)
  refine zV.astore_n (lo' := [(0, _), (1, _)]) C dL_law_7 rfl (by decide) rfl rfl rfl ?_
  refine zV.aload_n C dL_law_8 rfl rfl ?_
  refine zV.callSW (n := 1) C G dL_law_9 (w_undo hzs hst q) rfl ⟨cd_L_undo, lk_L_387, st_L_undo, in_L⟩ ⟨⟨by decide, by decide⟩, by decide⟩ rfl rfl rfl (zafCe (v := -1001) un_v0 (fun h2 p2 => ?_)) (zno)
  have q := (un_p0 p2).2
  refine zV.si (v := (-1001)) C dL_law_12 (by decide) ?_
  refine zV.icmp_ne (tgt := 53) C dL_law_15 (by decide) (fun q15 => ?_) (fun q15 => ?_)
  · exact absurd rfl q15
  · refine zV.aload_n C dL_law_18 rfl rfl ?_
    refine zV.callSW (n := 1) C G dL_law_19 (w_restore hzs hst q) rfl ⟨cd_L_restore, lk_L_389, st_L_restore, in_L⟩ ⟨⟨by decide, by decide⟩, by decide⟩ rfl rfl rfl (zafCe (v := -1001) rs_vn (fun h3 p3 => ?_)) (zno)
    have q := (rs_pn p3).2
    refine zV.si (v := (-1001)) C dL_law_22 (by decide) ?_
    refine zV.icmp_ne (tgt := 53) C dL_law_25 (by decide) (fun q25 => ?_) (fun q25 => ?_)
    · exact absurd rfl q25
    · refine zV.aload_n C dL_law_28 rfl rfl ?_
      refine zV.callV (n := 0) C G dL_law_29 (s_saveSnapshot hzs hst _ 0 271 g00 [] none _ _ _ _ _ _ q) rfl ⟨cd_X9_saveSnapshot, lk_L_392, im_X9_saveSnapshot, se_X9_X9_saveSnapshot, in_X9⟩ ⟨⟨by decide, by decide⟩, by decide⟩ rfl rfl rfl q.1.1 ⟨rfl, by decide⟩ (zafR (fun h4 ⟨f4, q⟩ => ?_)) (zno)
      refine zV.if_ne (tgt := 53) C dL_law_32 (by decide) (fun q32 => ?_) (fun q32 => ?_)
      · exact absurd rfl q32
      · refine zV.aload_n C dL_law_35 rfl rfl ?_
        refine zV.bi (v := nI 20) C dL_law_36 (by decide) ?_
        refine zV.callSW (n := 2) C G dL_law_38 (w_passDays hzs hst q (gR_mono g00_R (Nat.zero_le 20000)) (show 20000 + 3000 ≤ 1000000000 by decide) _) rfl ⟨cd_L_passDays, lk_L_220, st_L_passDays, in_L⟩ ⟨⟨by decide, by decide⟩, by decide⟩ rfl rfl rfl (zafCe (v := nI 0) (stE_v S_e1) (fun h5 p5 => ?_)) (zno)
        have q := stE_p S_e1 p5
        refine zV.if_ne (tgt := 53) C dL_law_41 (by decide) (fun q41 => ?_) (fun q41 => ?_)
        · exact absurd rfl q41
        · refine zV.aload_n C dL_law_44 rfl rfl ?_
          refine zV.callV (n := 0) C G dL_law_45 (s_day hzs hst _ 0 e1E q.1 q.2.1.1 (w_of R_e1 (by decide))) rfl ⟨cd_X9_day, lk_L_248, im_X9_day, se_X9_X9_day, in_X9⟩ ⟨⟨by decide, by decide⟩, by decide⟩ rfl rfl rfl q.1.1 ⟨rfl, by decide⟩ (zaf ?_) (zno)
          refine zV.bi (v := nI 20) C dL_law_48 (by decide) ?_
          refine zV.icmp_eq (tgt := 55) C dL_law_50 (by decide) (fun q50 => ?_) (fun q50 => ?_)
          · refine zV.ic (v := nI 0) C dL_law_55 (by decide) ?_
            refine zV.jstore_n (lo' := [(0, _), (1, _), (2, _)]) C dL_law_56 (by decide) rfl rfl rfl ?_
            have q : zXa h5 0 271 e1E [g00] (some g00) (-1) 0 0 0 (txE 0) [] := q
            refine L_e57 hzs hst C G hr0 60 0 h5 _ _ rfl (by decide) (by decide) q (fun h6 q => ?_)
            refine L_e86 hzs hst C G hr0 (gR_mono R_e1 (by decide)) (Nat.le_refl _) (Nat.le_refl _) q (fun h7 q => ?_)
            have q : zXa h7 0 271 (cE 0) (hsE cE [g00] 0) (some g00) (nI 1) 0 0 0 [] [] := q
            refine L_e147 hzs hst C G hr0 (fun k hk => R_c k (Nat.le_of_lt hk)) S_cE 12 0 h7 _ _ rfl (by decide) (by decide) q (fun h8 q => ?_)
            refine L_e177 hzs hst C G hr0 (R_c 12 (Nat.le_refl _)) (gR_mono R_d1 (by decide)) (gR_mono R_d2 (by decide)) (gR_mono R_d3 (by decide)) (w_of R_d2 (by decide)) f_12 S_d1 S_d2 h_d2 f_d2 S_d3 S_d4 (Nat.le_refl _) (Nat.le_refl _) q (fun h9 q => ?_)
            rw [hsE_12] at q
            refine L_e273 hzs hst C G hr0 (w_of R_d3 (by decide)) (w_of R_d2 (by decide)) (w_of R_d1 (by decide)) (w_of (R_c 12 (by decide)) (by decide)) (w_of (R_c 11 (by decide)) (by decide)) (w_of (R_c 8 (by decide)) (by decide)) (R_c 8 (by decide)) x_d3 x_d2 x_d1 x_12 x_11 x_8 S_e8 (Nat.le_refl _) (Nat.le_refl _) q (fun h10 q => ?_)
            exact L_e413 hzs hst C G hr0 (w_of g00_R (by decide)) (gR_mono g00_R (by decide)) rfl rfl S_ez (Nat.le_refl _) (Nat.le_refl _) q kk
          · exact absurd (by rw [gD_e1]) q50
theorem L_walk {X : zX} {l : Launch} {E : zG} (hzs : zS E) (hst : l.stackTraces = false) (C : zC X cL_law RL 11) (G : zGX X l E room_1) {sq L : Nat} {xs : Nat → Int32} (T : zSc E sq L xs) (hL : L ≤ 260) (h0 : zX0 X) (fin : ∀ (h : zH) (lo : List (Nat × Value)), zV X 42000 1500000 h 703 lo []) : zV X 0 0 h00 0 [(0, .retAddr sq)] [] :=
  L_first hzs hst C G rfl (fun h1 => L_o455 hzs hst C G rfl T hL h0 (h := h1) (by decide) (by decide) (fun h2 a w z S R Xz => L_o546 hzs hst C G rfl T hL R Xz S fin))
