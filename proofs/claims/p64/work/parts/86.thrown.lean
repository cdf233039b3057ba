/-! the law: what throws leaves all as it was -/
def thS (h0 h : zH) (a lo : Nat) (g : zGd) (us : List zGd) (sn : Option zGd) : Prop := zXf h0 h a lo ∧ ∃ off rs dt cs, zXa h a lo g us sn off rs dt cs [] (wl g 5) ∧ rs ≠ nI 11
theorem jx_21 {g : zGd} (hw : gW g) (hX : gX g ≤ 99) : (jd g 112 (nI 6) (nI 6)).1 = 1 := by
  show (jPv g (nI 6) (nI 6)).1 = 1
  unfold jPv
  rw [ln_6]
theorem jx_33 {g : zGd} (hw : gW g) (hX : gX g ≤ 99) : (jd g 112 (-1) (nI 0)).1 = 1 := by
  show (jPv g (-1) (nI 0)).1 = 1
  unfold jPv
  rw [ln_m]
theorem jx_45 {g : zGd} (hw : gW g) (hX : gX g ≤ 99) : (jd g 112 (nI 3) (nI 3)).1 = 2 := by
  show (jPv g (nI 3) (nI 3)).1 = 2
  unfold jPv
  rw [ln_n 3 (by decide)]; rfl
theorem jx_58 {g : zGd} (hw : gW g) (hX : gX g ≤ 99) : (jd g 113 (nI 0) (nI 6)).1 = 1 := by
  show (jDg g (nI 0) (nI 6)).1 = 1
  unfold jDg
  rw [ln_n 0 (by decide), ln_6]
theorem jx_70 {g : zGd} (hw : gW g) (hX : gX g ≤ 99) : (jd g 113 (nI 3) (nI 3)).1 = 2 := by
  show (jDg g (nI 3) (nI 3)).1 = 2
  unfold jDg
  rw [ln_n 3 (by decide)]; rfl
theorem jx_84 {g : zGd} (hw : gW g) (hX : gX g ≤ 99) : (jd g 104 (nI 6) (nI 30)).1 = 1 := by
  show (jSh (nI 6) (nI 30)).1 = 1
  decide
theorem jx_97 {g : zGd} (hw : gW g) (hX : gX g ≤ 99) : (jd g 104 (nI 0) (nI 21)).1 = 2 := by
  show (jSh (nI 0) (nI 21)).1 = 2
  decide
theorem jx_109 {g : zGd} (hw : gW g) (hX : gX g ≤ 99) : (jd g 104 (nI 0) (-1)).1 = 2 := by
  show (jSh (nI 0) (-1)).1 = 2
  decide
theorem jx_123 {g : zGd} (hw : gW g) (hX : gX g ≤ 99) : (jd g 99 (nI 6) (nI 30)).1 = 1 := by
  show (jCm g (nI 6) (nI 30)).1 = 1
  unfold jCm
  rw [ln_6]
theorem jx_136 {g : zGd} (hw : gW g) (hX : gX g ≤ 99) : (jd g 99 (nI 0) (nI 10)).1 = 2 := by
  show (jCm g (nI 0) (nI 10)).1 = 2
  unfold jCm
  rw [ln_n 0 (by decide)]
  exact congrArg Prod.fst ((if_neg (by decide)).trans (if_neg (by decide)))
theorem jx_148 {g : zGd} (hw : gW g) (hX : gX g ≤ 99) : (jd g 99 (nI 0) (-1)).1 = 2 := by
  show (jCm g (nI 0) (-1)).1 = 2
  unfold jCm
  rw [ln_n 0 (by decide)]
  exact congrArg Prod.fst (if_pos (by decide))
theorem jx_160 {g : zGd} (hw : gW g) (hX : gX g ≤ 99) : (jd g 115 (nI 99) 0).1 = 1 := by
  show (jSc g (nI 99)).1 = 1
  unfold jSc
  rw [kc_99 hw hX]
theorem jx_171 {g : zGd} (hw : gW g) (hX : gX g ≤ 99) : (jd g 115 (-1) 0).1 = 1 := by
  show (jSc g (-1)).1 = 1
  unfold jSc
  rw [kc_m hw hX]
theorem jx_183 {g : zGd} (hw : gW g) (hX : gX g ≤ 99) : (jd g 102 (nI 99) 0).1 = 1 := by
  show (jFo g (nI 99)).1 = 1
  unfold jFo
  rw [kc_99 hw hX]
theorem jx_195 {g : zGd} (hw : gW g) (hX : gX g ≤ 99) : (jd g 117 (nI 99) 0).1 = 1 := by
  show (jUn g (nI 99)).1 = 1
  unfold jUn
  rw [kc_99 hw hX]
theorem jx_208 {g : zGd} (hw : gW g) (hX : gX g ≤ 99) : (jd g 109 (nI 99) (nI 0)).1 = 1 := by
  show (jMv g (nI 99) (nI 0)).1 = 1
  unfold jMv
  rw [kc_99 hw hX]
theorem jx_221 {g : zGd} (hw : gW g) (hX : gX g ≤ 99) : (jd g 103 (nI 0) (nI 6)).1 = 1 := by
  show (jMg g (nI 0) (nI 6)).1 = 1
  unfold jMg
  rw [ln_n 0 (by decide), ln_6]
theorem jx_233 {g : zGd} (hw : gW g) (hX : gX g ≤ 99) : (jd g 103 (-1) (nI 0)).1 = 1 := by
  show (jMg g (-1) (nI 0)).1 = 1
  unfold jMg
  rw [ln_m]
theorem jx_245 {g : zGd} (hw : gW g) (hX : gX g ≤ 99) : (jd g 111 (nI 99) 0).1 = 1 := by
  show (jOi g (nI 99)).1 = 1
  unfold jOi
  rw [kc_99 hw hX]
theorem jx_256 {g : zGd} (hw : gW g) (hX : gX g ≤ 99) : (jd g 97 (nI 0) 0).1 = 2 := by
  show (jAo g (nI 0)).1 = 2
  unfold jAo
  exact congrArg Prod.fst (if_pos (by decide))
theorem jx_268 {g : zGd} (hw : gW g) (hX : gX g ≤ 99) : (jd g 97 (nI 11) 0).1 = 2 := by
  show (jAo g (nI 11)).1 = 2
  unfold jAo
  exact congrArg Prod.fst ((if_neg (by decide)).trans (if_neg (by decide)))
theorem jx_279 {g : zGd} (hw : gW g) (hX : gX g ≤ 99) : (jd g 100 (nI 0) 0).1 = 2 := by
  show (jDy (nI 0)).1 = 2
  decide
theorem jx_291 {g : zGd} (hw : gW g) (hX : gX g ≤ 99) : (jd g 100 (nI 21) 0).1 = 2 := by
  show (jDy (nI 21)).1 = 2
  decide
set_option maxHeartbeats 4000000 in
set_option maxRecDepth 100000 in
theorem L_th1 {X : zX} {l : Launch} {E : zG} {rm : Room} (hzs : zS E) (hst : l.stackTraces = false) (C : zC X cL_thrown RL 9) (G : zGX X l E rm) {h0 : zH} {a lo m : Nat} {g : zGd} {us : List zGd} {sn : Option zGd} {S : Int64} (hr : rm = ({ frames := 10, cells := 4000, slots := 100000, locals := 254 } : Room)) (hR : gR m g) (hb : m + 50000 ≤ big) (hX : gX g ≤ 99) (hO : gO g = 3) (hlN : lo ≤ hN h0) {h : zH} {kc ks : Nat} (S9 : thS h0 h a lo g us sn) (hk : kc + 23 ≤ 4000) (hs : ks + 138 ≤ 100000) (kk : ∀ h', thS h0 h' a lo g us sn → zV X (kc + 23) (ks + 138) h' 307 [(0, .ref a), (1, .long S), (3, .int (nI (gC g).length)), (4, .int (nI 3)), (5, .int (nI 1))] []) : zV X kc ks h 16 [(0, .ref a), (1, .long S), (3, .int (nI (gC g).length)), (4, .int (nI 3))] [] := by
  subst hr
  have hw : gW g := gW_of hR.1.1 hR.1.2.2.2 (Nat.le_trans (Nat.le_add_right _ _) hb)
  have h59 : ∀ l, l < 6 → hsz (gC g) l ≤ 5 := hR.1.2.2.1
  have n12 := gW_len hw
  obtain ⟨f, off, rs, dt, cs, q, h11⟩ := S9
  refine zV.aload_n C dL_thrown_16 rfl rfl ?_
  refine zV.bi (v := nI 6) C dL_thrown_17 (by decide) ?_
  refine zV.bi (v := nI 6) C dL_thrown_19 (by decide) ?_
  refine zV.callSW (n := 3) C G dL_thrown_21 (w_addPath hzs hst q hR (Nat.le_trans (by omega) hb) _ _) rfl ⟨cd_L_addPath, lk_L_208, st_L_addPath, in_L⟩ ⟨⟨by decide, by decide⟩, by decide⟩ rfl (zRm_v 4000 100000 rfl rfl rfl (by omega) (by omega)) rfl (zafCe (v := (-1001)) ((anI_1 (jx_21 hw hX)).trans (by decide)) (fun h9 p9 => ?_)) (zno)
  obtain ⟨f9, q⟩ := chgP_1 (Or.inl (jx_21 hw hX)) p9
  have f := f.trans f9
  refine zV.si (v := (-1001)) C dL_thrown_24 (by decide) ?_
  refine zV.icmp_ne (tgt := 304) C dL_thrown_27 (by decide) (fun q27 => ?_) (fun q27 => ?_)
  · exact absurd rfl q27
  · refine zV.aload_n C dL_thrown_30 rfl rfl ?_
    refine zV.ic (v := (-1)) C dL_thrown_31 (by decide) ?_
    refine zV.ic (v := nI 0) C dL_thrown_32 (by decide) ?_
    refine zV.callSW (n := 3) C G dL_thrown_33 (w_addPath hzs hst q hR (Nat.le_trans (by omega) hb) _ _) rfl ⟨cd_L_addPath, lk_L_208, st_L_addPath, in_L⟩ ⟨⟨by decide, by decide⟩, by decide⟩ rfl (zRm_v 4000 100000 rfl rfl rfl (by omega) (by omega)) rfl (zafCe (v := (-1001)) ((anI_1 (jx_33 hw hX)).trans (by decide)) (fun h9 p9 => ?_)) (zno)
    obtain ⟨f9, q⟩ := chgP_1 (Or.inl (jx_33 hw hX)) p9
    have f := f.trans f9
    refine zV.si (v := (-1001)) C dL_thrown_36 (by decide) ?_
    refine zV.icmp_ne (tgt := 304) C dL_thrown_39 (by decide) (fun q39 => ?_) (fun q39 => ?_)
    · exact absurd rfl q39
    · refine zV.aload_n C dL_thrown_42 rfl rfl ?_
      refine zV.ic (v := nI 3) C dL_thrown_43 (by decide) ?_
      refine zV.ic (v := nI 3) C dL_thrown_44 (by decide) ?_
      refine zV.callSW (n := 3) C G dL_thrown_45 (w_addPath hzs hst q hR (Nat.le_trans (by omega) hb) _ _) rfl ⟨cd_L_addPath, lk_L_208, st_L_addPath, in_L⟩ ⟨⟨by decide, by decide⟩, by decide⟩ rfl (zRm_v 4000 100000 rfl rfl rfl (by omega) (by omega)) rfl (zafCe (v := (-1002)) ((anI_2 (jx_45 hw hX)).trans (by decide)) (fun h9 p9 => ?_)) (zno)
      obtain ⟨f9, q⟩ := chgP_1 (Or.inr (jx_45 hw hX)) p9
      have f := f.trans f9
      refine zV.si (v := (-1002)) C dL_thrown_48 (by decide) ?_
      refine zV.icmp_ne (tgt := 304) C dL_thrown_51 (by decide) (fun q51 => ?_) (fun q51 => ?_)
      · exact absurd rfl q51
      · refine zV.aload_n C dL_thrown_54 rfl rfl ?_
        refine zV.ic (v := nI 0) C dL_thrown_55 (by decide) ?_
        refine zV.bi (v := nI 6) C dL_thrown_56 (by decide) ?_
        refine zV.callSW (n := 3) C G dL_thrown_58 (w_removePath hzs hst q hR (Nat.le_trans (by omega) hb) _ _) rfl ⟨cd_L_removePath, lk_L_286, st_L_removePath, in_L⟩ ⟨⟨by decide, by decide⟩, by decide⟩ rfl (zRm_v 4000 100000 rfl rfl rfl (by omega) (by omega)) rfl (zafCe (v := (-1001)) ((anI_1 (jx_58 hw hX)).trans (by decide)) (fun h9 p9 => ?_)) (zno)
        obtain ⟨f9, q⟩ := chgP_1 (Or.inl (jx_58 hw hX)) p9
        have f := f.trans f9
        refine zV.si (v := (-1001)) C dL_thrown_61 (by decide) ?_
        refine zV.icmp_ne (tgt := 304) C dL_thrown_64 (by decide) (fun q64 => ?_) (fun q64 => ?_)
        · exact absurd rfl q64
        · refine zV.aload_n C dL_thrown_67 rfl rfl ?_
          refine zV.ic (v := nI 3) C dL_thrown_68 (by decide) ?_
          refine zV.ic (v := nI 3) C dL_thrown_69 (by decide) ?_
          refine zV.callSW (n := 3) C G dL_thrown_70 (w_removePath hzs hst q hR (Nat.le_trans (by omega) hb) _ _) rfl ⟨cd_L_removePath, lk_L_286, st_L_removePath, in_L⟩ ⟨⟨by decide, by decide⟩, by decide⟩ rfl (zRm_v 4000 100000 rfl rfl rfl (by omega) (by omega)) rfl (zafCe (v := (-1002)) ((anI_2 (jx_70 hw hX)).trans (by decide)) (fun h9 p9 => ?_)) (zno)
          obtain ⟨f9, q⟩ := chgP_1 (Or.inr (jx_70 hw hX)) p9
          have f := f.trans f9
          refine zV.si (v := (-1002)) C dL_thrown_73 (by decide) ?_
          refine zV.icmp_ne (tgt := 304) C dL_thrown_76 (by decide) (fun q76 => ?_) (fun q76 => ?_)
          · exact absurd rfl q76
          · refine zV.aload_n C dL_thrown_79 rfl rfl ?_
            refine zV.bi (v := nI 6) C dL_thrown_80 (by decide) ?_
            refine zV.bi (v := nI 30) C dL_thrown_82 (by decide) ?_
            refine zV.callSW (n := 3) C G dL_thrown_84 (w_setShade hzs hst q hR (Nat.le_trans (by omega) hb) _ _) rfl ⟨cd_L_setShade, lk_L_211, st_L_setShade, in_L⟩ ⟨⟨by decide, by decide⟩, by decide⟩ rfl (zRm_v 4000 100000 rfl rfl rfl (by omega) (by omega)) rfl (zafCe (v := (-1001)) ((anI_1 (jx_84 hw hX)).trans (by decide)) (fun h9 p9 => ?_)) (zno)
            obtain ⟨f9, q⟩ := chgP_1 (Or.inl (jx_84 hw hX)) p9
            have f := f.trans f9
            refine zV.si (v := (-1001)) C dL_thrown_87 (by decide) ?_
            refine zV.icmp_ne (tgt := 304) C dL_thrown_90 (by decide) (fun q90 => ?_) (fun q90 => ?_)
            · exact absurd rfl q90
            · refine zV.aload_n C dL_thrown_93 rfl rfl ?_
              refine zV.ic (v := nI 0) C dL_thrown_94 (by decide) ?_
              refine zV.bi (v := nI 21) C dL_thrown_95 (by decide) ?_
              refine zV.callSW (n := 3) C G dL_thrown_97 (w_setShade hzs hst q hR (Nat.le_trans (by omega) hb) _ _) rfl ⟨cd_L_setShade, lk_L_211, st_L_setShade, in_L⟩ ⟨⟨by decide, by decide⟩, by decide⟩ rfl (zRm_v 4000 100000 rfl rfl rfl (by omega) (by omega)) rfl (zafCe (v := (-1002)) ((anI_2 (jx_97 hw hX)).trans (by decide)) (fun h9 p9 => ?_)) (zno)
              obtain ⟨f9, q⟩ := chgP_1 (Or.inr (jx_97 hw hX)) p9
              have f := f.trans f9
              refine zV.si (v := (-1002)) C dL_thrown_100 (by decide) ?_
              refine zV.icmp_ne (tgt := 304) C dL_thrown_103 (by decide) (fun q103 => ?_) (fun q103 => ?_)
              · exact absurd rfl q103
              · refine zV.aload_n C dL_thrown_106 rfl rfl ?_
                refine zV.ic (v := nI 0) C dL_thrown_107 (by decide) ?_
                refine zV.ic (v := (-1)) C dL_thrown_108 (by decide) ?_
                refine zV.callSW (n := 3) C G dL_thrown_109 (w_setShade hzs hst q hR (Nat.le_trans (by omega) hb) _ _) rfl ⟨cd_L_setShade, lk_L_211, st_L_setShade, in_L⟩ ⟨⟨by decide, by decide⟩, by decide⟩ rfl (zRm_v 4000 100000 rfl rfl rfl (by omega) (by omega)) rfl (zafCe (v := (-1002)) ((anI_2 (jx_109 hw hX)).trans (by decide)) (fun h9 p9 => ?_)) (zno)
                obtain ⟨f9, q⟩ := chgP_1 (Or.inr (jx_109 hw hX)) p9
                have f := f.trans f9
                refine zV.si (v := (-1002)) C dL_thrown_112 (by decide) ?_
                refine zV.icmp_ne (tgt := 304) C dL_thrown_115 (by decide) (fun q115 => ?_) (fun q115 => ?_)
                · exact absurd rfl q115
                · refine zV.aload_n C dL_thrown_118 rfl rfl ?_
                  refine zV.bi (v := nI 6) C dL_thrown_119 (by decide) ?_
                  refine zV.bi (v := nI 30) C dL_thrown_121 (by decide) ?_
                  refine zV.callSW (n := 3) C G dL_thrown_123 (w_addChair hzs hst q hR (Nat.le_trans (by omega) hb) _ _) rfl ⟨cd_L_addChair, lk_L_213, st_L_addChair, in_L⟩ ⟨⟨by decide, by decide⟩, by decide⟩ rfl (zRm_v 4000 100000 rfl rfl rfl (by omega) (by omega)) rfl (zafCe (v := (-1001)) ((anI_1 (jx_123 hw hX)).trans (by decide)) (fun h9 p9 => ?_)) (zno)
                  obtain ⟨f9, q⟩ := chgP_1 (Or.inl (jx_123 hw hX)) p9
                  have f := f.trans f9
                  refine zV.si (v := (-1001)) C dL_thrown_126 (by decide) ?_
                  refine zV.icmp_ne (tgt := 304) C dL_thrown_129 (by decide) (fun q129 => ?_) (fun q129 => ?_)
                  · exact absurd rfl q129
                  · refine zV.aload_n C dL_thrown_132 rfl rfl ?_
                    refine zV.ic (v := nI 0) C dL_thrown_133 (by decide) ?_
                    refine zV.bi (v := nI 10) C dL_thrown_134 (by decide) ?_
                    refine zV.callSW (n := 3) C G dL_thrown_136 (w_addChair hzs hst q hR (Nat.le_trans (by omega) hb) _ _) rfl ⟨cd_L_addChair, lk_L_213, st_L_addChair, in_L⟩ ⟨⟨by decide, by decide⟩, by decide⟩ rfl (zRm_v 4000 100000 rfl rfl rfl (by omega) (by omega)) rfl (zafCe (v := (-1002)) ((anI_2 (jx_136 hw hX)).trans (by decide)) (fun h9 p9 => ?_)) (zno)
                    obtain ⟨f9, q⟩ := chgP_1 (Or.inr (jx_136 hw hX)) p9
                    have f := f.trans f9
                    refine zV.si (v := (-1002)) C dL_thrown_139 (by decide) ?_
                    refine zV.icmp_ne (tgt := 304) C dL_thrown_142 (by decide) (fun q142 => ?_) (fun q142 => ?_)
                    · exact absurd rfl q142
                    · refine zV.aload_n C dL_thrown_145 rfl rfl ?_
                      refine zV.ic (v := nI 0) C dL_thrown_146 (by decide) ?_
                      refine zV.ic (v := (-1)) C dL_thrown_147 (by decide) ?_
                      refine zV.callSW (n := 3) C G dL_thrown_148 (w_addChair hzs hst q hR (Nat.le_trans (by omega) hb) _ _) rfl ⟨cd_L_addChair, lk_L_213, st_L_addChair, in_L⟩ ⟨⟨by decide, by decide⟩, by decide⟩ rfl (zRm_v 4000 100000 rfl rfl rfl (by omega) (by omega)) rfl (zafCe (v := (-1002)) ((anI_2 (jx_148 hw hX)).trans (by decide)) (fun h9 p9 => ?_)) (zno)
                      obtain ⟨f9, q⟩ := chgP_1 (Or.inr (jx_148 hw hX)) p9
                      have f := f.trans f9
                      refine zV.si (v := (-1002)) C dL_thrown_151 (by decide) ?_
                      refine zV.icmp_ne (tgt := 304) C dL_thrown_154 (by decide) (fun q154 => ?_) (fun q154 => ?_)
                      · exact absurd rfl q154
                      · refine zV.aload_n C dL_thrown_157 rfl rfl ?_
                        refine zV.bi (v := nI 99) C dL_thrown_158 (by decide) ?_
                        refine zV.callSW (n := 2) C G dL_thrown_160 (w_scrap hzs hst q hR (Nat.le_trans (by omega) hb) _) rfl ⟨cd_L_scrap, lk_L_288, st_L_scrap, in_L⟩ ⟨⟨by decide, by decide⟩, by decide⟩ rfl (zRm_v 4000 100000 rfl rfl rfl (by omega) (by omega)) rfl (zafCe (v := (-1001)) ((anI_1 (jx_160 hw hX)).trans (by decide)) (fun h9 p9 => ?_)) (zno)
                        obtain ⟨f9, q⟩ := chgP_1 (Or.inl (jx_160 hw hX)) p9
                        have f := f.trans f9
                        refine zV.si (v := (-1001)) C dL_thrown_163 (by decide) ?_
                        refine zV.icmp_ne (tgt := 304) C dL_thrown_166 (by decide) (fun q166 => ?_) (fun q166 => ?_)
                        · exact absurd rfl q166
                        · refine zV.aload_n C dL_thrown_169 rfl rfl ?_
                          refine zV.ic (v := (-1)) C dL_thrown_170 (by decide) ?_
                          refine zV.callSW (n := 2) C G dL_thrown_171 (w_scrap hzs hst q hR (Nat.le_trans (by omega) hb) _) rfl ⟨cd_L_scrap, lk_L_288, st_L_scrap, in_L⟩ ⟨⟨by decide, by decide⟩, by decide⟩ rfl (zRm_v 4000 100000 rfl rfl rfl (by omega) (by omega)) rfl (zafCe (v := (-1001)) ((anI_1 (jx_171 hw hX)).trans (by decide)) (fun h9 p9 => ?_)) (zno)
                          obtain ⟨f9, q⟩ := chgP_1 (Or.inl (jx_171 hw hX)) p9
                          have f := f.trans f9
                          refine zV.si (v := (-1001)) C dL_thrown_174 (by decide) ?_
                          refine zV.icmp_ne (tgt := 304) C dL_thrown_177 (by decide) (fun q177 => ?_) (fun q177 => ?_)
                          · exact absurd rfl q177
                          · refine zV.aload_n C dL_thrown_180 rfl rfl ?_
                            refine zV.bi (v := nI 99) C dL_thrown_181 (by decide) ?_
                            refine zV.callSW (n := 2) C G dL_thrown_183 (w_fold hzs hst q hR (Nat.le_trans (by omega) hb) _) rfl ⟨cd_L_fold, lk_L_215, st_L_fold, in_L⟩ ⟨⟨by decide, by decide⟩, by decide⟩ rfl (zRm_v 4000 100000 rfl rfl rfl (by omega) (by omega)) rfl (zafCe (v := (-1001)) ((anI_1 (jx_183 hw hX)).trans (by decide)) (fun h9 p9 => ?_)) (zno)
                            obtain ⟨f9, q⟩ := chgP_1 (Or.inl (jx_183 hw hX)) p9
                            have f := f.trans f9
                            refine zV.si (v := (-1001)) C dL_thrown_186 (by decide) ?_
                            refine zV.icmp_ne (tgt := 304) C dL_thrown_189 (by decide) (fun q189 => ?_) (fun q189 => ?_)
                            · exact absurd rfl q189
                            · refine zV.aload_n C dL_thrown_192 rfl rfl ?_
                              refine zV.bi (v := nI 99) C dL_thrown_193 (by decide) ?_
                              refine zV.callSW (n := 2) C G dL_thrown_195 (w_unfold hzs hst q hR (Nat.le_trans (by omega) hb) _) rfl ⟨cd_L_unfold, lk_L_291, st_L_unfold, in_L⟩ ⟨⟨by decide, by decide⟩, by decide⟩ rfl (zRm_v 4000 100000 rfl rfl rfl (by omega) (by omega)) rfl (zafCe (v := (-1001)) ((anI_1 (jx_195 hw hX)).trans (by decide)) (fun h9 p9 => ?_)) (zno)
                              obtain ⟨f9, q⟩ := chgP_1 (Or.inl (jx_195 hw hX)) p9
                              have f := f.trans f9
                              refine zV.si (v := (-1001)) C dL_thrown_198 (by decide) ?_
                              refine zV.icmp_ne (tgt := 304) C dL_thrown_201 (by decide) (fun q201 => ?_) (fun q201 => ?_)
                              · exact absurd rfl q201
                              · refine zV.aload_n C dL_thrown_204 rfl rfl ?_
                                refine zV.bi (v := nI 99) C dL_thrown_205 (by decide) ?_
                                refine zV.ic (v := nI 0) C dL_thrown_207 (by decide) ?_
                                refine zV.callSW (n := 3) C G dL_thrown_208 (w_move hzs hst q hR (Nat.le_trans (by omega) hb) _ _) rfl ⟨cd_L_move, lk_L_293, st_L_move, in_L⟩ ⟨⟨by decide, by decide⟩, by decide⟩ rfl (zRm_v 4000 100000 rfl rfl rfl (by omega) (by omega)) rfl (zafCe (v := (-1001)) ((anI_1 (jx_208 hw hX)).trans (by decide)) (fun h9 p9 => ?_)) (zno)
                                obtain ⟨f9, q⟩ := chgP_1 (Or.inl (jx_208 hw hX)) p9
                                have f := f.trans f9
                                refine zV.si (v := (-1001)) C dL_thrown_211 (by decide) ?_
                                refine zV.icmp_ne (tgt := 304) C dL_thrown_214 (by decide) (fun q214 => ?_) (fun q214 => ?_)
                                · exact absurd rfl q214
                                · refine zV.aload_n C dL_thrown_217 rfl rfl ?_
                                  refine zV.ic (v := nI 0) C dL_thrown_218 (by decide) ?_
                                  refine zV.bi (v := nI 6) C dL_thrown_219 (by decide) ?_
                                  refine zV.callSW (n := 3) C G dL_thrown_221 (w_migrate hzs hst q hR (Nat.le_trans (by omega) hb) _ _) rfl ⟨cd_L_migrate, lk_L_296, st_L_migrate, in_L⟩ ⟨⟨by decide, by decide⟩, by decide⟩ rfl (zRm_v 4000 100000 rfl rfl rfl (by omega) (by omega)) rfl (zafCe (v := (-1001)) ((anI_1 (jx_221 hw hX)).trans (by decide)) (fun h9 p9 => ?_)) (zno)
                                  obtain ⟨f9, q⟩ := chgP_1 (Or.inl (jx_221 hw hX)) p9
                                  have f := f.trans f9
                                  refine zV.si (v := (-1001)) C dL_thrown_224 (by decide) ?_
                                  refine zV.icmp_ne (tgt := 304) C dL_thrown_227 (by decide) (fun q227 => ?_) (fun q227 => ?_)
                                  · exact absurd rfl q227
                                  · refine zV.aload_n C dL_thrown_230 rfl rfl ?_
                                    refine zV.ic (v := (-1)) C dL_thrown_231 (by decide) ?_
                                    refine zV.ic (v := nI 0) C dL_thrown_232 (by decide) ?_
                                    refine zV.callSW (n := 3) C G dL_thrown_233 (w_migrate hzs hst q hR (Nat.le_trans (by omega) hb) _ _) rfl ⟨cd_L_migrate, lk_L_296, st_L_migrate, in_L⟩ ⟨⟨by decide, by decide⟩, by decide⟩ rfl (zRm_v 4000 100000 rfl rfl rfl (by omega) (by omega)) rfl (zafCe (v := (-1001)) ((anI_1 (jx_233 hw hX)).trans (by decide)) (fun h9 p9 => ?_)) (zno)
                                    obtain ⟨f9, q⟩ := chgP_1 (Or.inl (jx_233 hw hX)) p9
                                    have f := f.trans f9
                                    refine zV.si (v := (-1001)) C dL_thrown_236 (by decide) ?_
                                    refine zV.icmp_ne (tgt := 304) C dL_thrown_239 (by decide) (fun q239 => ?_) (fun q239 => ?_)
                                    · exact absurd rfl q239
                                    · refine zV.aload_n C dL_thrown_242 rfl rfl ?_
                                      refine zV.bi (v := nI 99) C dL_thrown_243 (by decide) ?_
                                      refine zV.callSW (n := 2) C G dL_thrown_245 (w_oilChair hzs hst q hR (Nat.le_trans (by omega) hb) _) rfl ⟨cd_L_oilChair, lk_L_298, st_L_oilChair, in_L⟩ ⟨⟨by decide, by decide⟩, by decide⟩ rfl (zRm_v 4000 100000 rfl rfl rfl (by omega) (by omega)) rfl (zafCe (v := (-1001)) ((anI_1 (jx_245 hw hX)).trans (by decide)) (fun h9 p9 => ?_)) (zno)
                                      obtain ⟨f9, q⟩ := chgP_1 (Or.inl (jx_245 hw hX)) p9
                                      have f := f.trans f9
                                      refine zV.si (v := (-1001)) C dL_thrown_248 (by decide) ?_
                                      refine zV.icmp_ne (tgt := 304) C dL_thrown_251 (by decide) (fun q251 => ?_) (fun q251 => ?_)
                                      · exact absurd rfl q251
                                      · refine zV.aload_n C dL_thrown_254 rfl rfl ?_
                                        refine zV.ic (v := nI 0) C dL_thrown_255 (by decide) ?_
                                        refine zV.callSW (n := 2) C G dL_thrown_256 (w_addOil hzs hst q hR (Nat.le_trans (by omega) hb) _) rfl ⟨cd_L_addOil, lk_L_300, st_L_addOil, in_L⟩ ⟨⟨by decide, by decide⟩, by decide⟩ rfl (zRm_v 4000 100000 rfl rfl rfl (by omega) (by omega)) rfl (zafCe (v := (-1001)) ((anI_2 (jx_256 hw hX)).trans (by decide)) (fun h9 p9 => ?_)) (zno)
                                        obtain ⟨f9, q⟩ := chgP_1 (Or.inr (jx_256 hw hX)) p9
                                        have f := f.trans f9
                                        refine zV.si (v := (-1001)) C dL_thrown_259 (by decide) ?_
                                        refine zV.icmp_ne (tgt := 304) C dL_thrown_262 (by decide) (fun q262 => ?_) (fun q262 => ?_)
                                        · exact absurd rfl q262
                                        · refine zV.aload_n C dL_thrown_265 rfl rfl ?_
                                          refine zV.bi (v := nI 11) C dL_thrown_266 (by decide) ?_
                                          refine zV.callSW (n := 2) C G dL_thrown_268 (w_addOil hzs hst q hR (Nat.le_trans (by omega) hb) _) rfl ⟨cd_L_addOil, lk_L_300, st_L_addOil, in_L⟩ ⟨⟨by decide, by decide⟩, by decide⟩ rfl (zRm_v 4000 100000 rfl rfl rfl (by omega) (by omega)) rfl (zafCe (v := (-1001)) ((anI_2 (jx_268 hw hX)).trans (by decide)) (fun h9 p9 => ?_)) (zno)
                                          obtain ⟨f9, q⟩ := chgP_1 (Or.inr (jx_268 hw hX)) p9
                                          have f := f.trans f9
                                          refine zV.si (v := (-1001)) C dL_thrown_271 (by decide) ?_
                                          refine zV.icmp_ne (tgt := 304) C dL_thrown_274 (by decide) (fun q274 => ?_) (fun q274 => ?_)
                                          · exact absurd rfl q274
                                          · refine zV.aload_n C dL_thrown_277 rfl rfl ?_
                                            refine zV.ic (v := nI 0) C dL_thrown_278 (by decide) ?_
                                            refine zV.callSW (n := 2) C G dL_thrown_279 (w_passDays hzs hst q hR (Nat.le_trans (by omega) hb) _) rfl ⟨cd_L_passDays, lk_L_220, st_L_passDays, in_L⟩ ⟨⟨by decide, by decide⟩, by decide⟩ rfl (zRm_v 4000 100000 rfl rfl rfl (by omega) (by omega)) rfl (zafCe (v := (-1001)) ((anI_2 (jx_279 hw hX)).trans (by decide)) (fun h9 p9 => ?_)) (zno)
                                            obtain ⟨f9, q⟩ := chgP_1 (Or.inr (jx_279 hw hX)) p9
                                            have f := f.trans f9
                                            refine zV.si (v := (-1001)) C dL_thrown_282 (by decide) ?_
                                            refine zV.icmp_ne (tgt := 304) C dL_thrown_285 (by decide) (fun q285 => ?_) (fun q285 => ?_)
                                            · exact absurd rfl q285
                                            · refine zV.aload_n C dL_thrown_288 rfl rfl ?_
                                              refine zV.bi (v := nI 21) C dL_thrown_289 (by decide) ?_
                                              refine zV.callSW (n := 2) C G dL_thrown_291 (w_passDays hzs hst q hR (Nat.le_trans (by omega) hb) _) rfl ⟨cd_L_passDays, lk_L_220, st_L_passDays, in_L⟩ ⟨⟨by decide, by decide⟩, by decide⟩ rfl (zRm_v 4000 100000 rfl rfl rfl (by omega) (by omega)) rfl (zafCe (v := (-1001)) ((anI_2 (jx_291 hw hX)).trans (by decide)) (fun h9 p9 => ?_)) (zno)
                                              obtain ⟨f9, q⟩ := chgP_1 (Or.inr (jx_291 hw hX)) p9
                                              have f := f.trans f9
                                              refine zV.si (v := (-1001)) C dL_thrown_294 (by decide) ?_
                                              refine zV.icmp_ne (tgt := 304) C dL_thrown_297 (by decide) (fun q297 => ?_) (fun q297 => ?_)
                                              · exact absurd rfl q297
                                              · refine zV.ic (v := nI 1) C dL_thrown_300 (by decide) ?_
                                                refine zV.goto (tgt := 305) C dL_thrown_301 (by decide) ?_
                                                refine zV.jstore (lo' := [(0, _), (1, _), (3, _), (4, _), (5, _)]) C dL_thrown_305 (by decide) rfl rfl rfl ?_
                                                exact zV.up (by omega) (by omega) (kk _ ⟨f, _, _, _, _, q, by first | exact h11 | decide⟩)
set_option maxHeartbeats 4000000 in
set_option maxRecDepth 100000 in
theorem L_thB2 {X : zX} {l : Launch} {E : zG} {rm : Room} (hzs : zS E) (hst : l.stackTraces = false) (C : zC X cL_thrown RL 9) (G : zGX X l E rm) {h0 : zH} {a lo m : Nat} {g : zGd} {us : List zGd} {sn : Option zGd} {S : Int64} (hr : rm = ({ frames := 10, cells := 4000, slots := 100000, locals := 254 } : Room)) (hR : gR m g) (hb : m + 50000 ≤ big) (hX : gX g ≤ 99) (hO : gO g = 3) (hlN : lo ≤ hN h0) {i j : Nat} (hi : i < 6) (hj : j < 6) {h : zH} {kc ks : Nat} (S9 : thS h0 h a lo g us sn) (hk : kc + 6 ≤ 4000) (hs : ks + 36 ≤ 100000) (kk : ∀ h', thS h0 h' a lo g us sn → zV X (kc + 6) (ks + 36) h' 436 [(0, .ref a), (1, .long S), (3, .int (nI (gC g).length)), (4, .int (nI 3)), (5, .int (nI 1)), (6, .int (nI i)), (7, .int (nI j)), (8, .int (anI (q_distance g (nI i) (nI j)) (fun Ex => if Ex = IOB then -1001 else -1002)))] []) : zV X kc ks h 379 [(0, .ref a), (1, .long S), (3, .int (nI (gC g).length)), (4, .int (nI 3)), (5, .int (nI 1)), (6, .int (nI i)), (7, .int (nI j)), (8, .int (anI (q_distance g (nI i) (nI j)) (fun Ex => if Ex = IOB then -1001 else -1002)))] [] := by
  subst hr
  have hw : gW g := gW_of hR.1.1 hR.1.2.2.2 (Nat.le_trans (Nat.le_add_right _ _) hb)
  have h59 : ∀ l, l < 6 → hsz (gC g) l ≤ 5 := hR.1.2.2.1
  have n12 := gW_len hw
  obtain ⟨f, off, rs, dt, cs, q, h11⟩ := S9
  refine zV.iload C dL_thrown_379 rfl ?_
  refine zV.iload C dL_thrown_381 rfl ?_
  refine zV.icmp_eq (tgt := 436) C dL_thrown_383 (by decide) (fun q383 => ?_) (fun q383 => ?_)
  · exact zV.up (by omega) (by omega) (kk _ ⟨f, _, _, _, _, q, by first | exact h11 | decide⟩)
  · have hij : i ≠ j := fun z => q383 (congrArg nI z)
    refine zV.aload_n C dL_thrown_386 rfl rfl ?_
    refine zV.iload C dL_thrown_387 rfl ?_
    refine zV.iload C dL_thrown_389 rfl ?_
    refine zV.callSW (n := 3) C G dL_thrown_391 (w_isPath hzs hst q hw _ _) rfl ⟨cd_L_isPath, lk_L_333, st_L_isPath, in_L⟩ ⟨⟨by decide, by decide⟩, by decide⟩ rfl (zRm_v 4000 100000 rfl rfl rfl (by omega) (by omega)) rfl (zafBe (isPath_v hi hj) ?_) (zno)
    refine zV.ic (v := nI 1) C dL_thrown_394 (by decide) ?_
    refine zV.icmp_ne (tgt := 436) C dL_thrown_395 (by decide) (fun q395 => ?_) (fun q395 => ?_)
    · exact zV.up (by omega) (by omega) (kk _ ⟨f, _, _, _, _, q, by first | exact h11 | decide⟩)
    · have b : (gN g i).testBit j = true := Classical.byContradiction (fun z => by rw [if_neg z] at q395; exact absurd q395 (by decide))
      refine zV.iload C dL_thrown_398 rfl ?_
      refine zV.if_eq (tgt := 433) C dL_thrown_400 (by decide) (fun q400 => ?_) (fun q400 => ?_)
      · exact absurd q400 (by decide)
      · refine zV.aload_n C dL_thrown_403 rfl rfl ?_
        refine zV.iload C dL_thrown_404 rfl ?_
        refine zV.iload C dL_thrown_406 rfl ?_
        refine zV.callSW (n := 3) C G dL_thrown_408 (w_addPath hzs hst q hR (Nat.le_trans (by omega) hb) _ _) rfl ⟨cd_L_addPath, lk_L_208, st_L_addPath, in_L⟩ ⟨⟨by decide, by decide⟩, by decide⟩ rfl (zRm_v 4000 100000 rfl rfl rfl (by omega) (by omega)) rfl (zafCe (v := -1003) ((anI_3 (by rw [jr_112 hi hj hij b])).trans (by decide)) (fun h9 p9 => ?_)) (zno)
        obtain ⟨f9, q⟩ := chgP_3 (jr_112 hi hj hij b) p9
        have f := f.trans f9
        refine zV.si (v := (-1003)) C dL_thrown_411 (by decide) ?_
        refine zV.icmp_ne (tgt := 433) C dL_thrown_414 (by decide) (fun q414 => ?_) (fun q414 => ?_)
        · exact absurd rfl q414
        · refine zV.aload_n C dL_thrown_417 rfl rfl ?_
          refine zV.ic (v := nI 1) C dL_thrown_418 (by decide) ?_
          refine zV.aload_n C dL_thrown_419 rfl rfl ?_
          refine zV.callV (n := 0) C G dL_thrown_420 (s_pathCount hzs hst _ a g q.1 q.2.1.1 hw) rfl ⟨cd_X9_pathCount, lk_L_245, im_X9_pathCount, se_X9_X9_pathCount, in_X9⟩ ⟨⟨by decide, by decide⟩, by decide⟩ rfl (zRm_v 4000 100000 rfl rfl rfl (by omega) (by omega)) rfl q.1.1 ⟨rfl, by decide⟩ (zaf ?_) (zno)
          refine zV.callS (n := 3) C G dL_thrown_423 (s_is hzs hst _ a lo g us sn _ _ _ _ [] _ q (by decide) (by decide)) rfl ⟨cd_L_is, lk_L_329, st_L_is, in_L⟩ ⟨⟨by decide, by decide⟩, by decide⟩ rfl (zRm_v 4000 100000 rfl rfl rfl (by omega) (by omega)) rfl (zaf ?_) (zno)
          refine zV.if_eq (tgt := 433) C dL_thrown_426 (by decide) (fun q426 => ?_) (fun q426 => ?_)
          · exact absurd q426 (by decide)
          · refine zV.ic (v := nI 1) C dL_thrown_429 (by decide) ?_
            refine zV.goto (tgt := 434) C dL_thrown_430 (by decide) ?_
            refine zV.jstore (lo' := [(0, _), (1, _), (3, _), (4, _), (5, _), (6, _), (7, _), (8, _)]) C dL_thrown_434 (by decide) rfl rfl rfl ?_
            exact zV.up (by omega) (by omega) (kk _ ⟨f, _, _, _, _, q, by first | exact h11 | decide⟩)
set_option maxHeartbeats 4000000 in
set_option maxRecDepth 100000 in
theorem L_thB3 {X : zX} {l : Launch} {E : zG} {rm : Room} (hzs : zS E) (hst : l.stackTraces = false) (C : zC X cL_thrown RL 9) (G : zGX X l E rm) {h0 : zH} {a lo m : Nat} {g : zGd} {us : List zGd} {sn : Option zGd} {S : Int64} (hr : rm = ({ frames := 10, cells := 4000, slots := 100000, locals := 254 } : Room)) (hR : gR m g) (hb : m + 50000 ≤ big) (hX : gX g ≤ 99) (hO : gO g = 3) (hlN : lo ≤ hN h0) {i j : Nat} (hi : i < 6) (hj : j < 6) {h : zH} {kc ks : Nat} (S9 : thS h0 h a lo g us sn) (hk : kc + 6 ≤ 4000) (hs : ks + 36 ≤ 100000) (kk : ∀ h', thS h0 h' a lo g us sn → zV X (kc + 6) (ks + 36) h' 499 [(0, .ref a), (1, .long S), (3, .int (nI (gC g).length)), (4, .int (nI 3)), (5, .int (nI 1)), (6, .int (nI i)), (7, .int (nI j)), (8, .int (anI (q_distance g (nI i) (nI j)) (fun Ex => if Ex = IOB then -1001 else -1002)))] []) : zV X kc ks h 436 [(0, .ref a), (1, .long S), (3, .int (nI (gC g).length)), (4, .int (nI 3)), (5, .int (nI 1)), (6, .int (nI i)), (7, .int (nI j)), (8, .int (anI (q_distance g (nI i) (nI j)) (fun Ex => if Ex = IOB then -1001 else -1002)))] [] := by
  subst hr
  have hw : gW g := gW_of hR.1.1 hR.1.2.2.2 (Nat.le_trans (Nat.le_add_right _ _) hb)
  have h59 : ∀ l, l < 6 → hsz (gC g) l ≤ 5 := hR.1.2.2.1
  have n12 := gW_len hw
  obtain ⟨f, off, rs, dt, cs, q, h11⟩ := S9
  refine zV.iload C dL_thrown_436 rfl ?_
  refine zV.iload C dL_thrown_438 rfl ?_
  refine zV.icmp_eq (tgt := 499) C dL_thrown_440 (by decide) (fun q440 => ?_) (fun q440 => ?_)
  · exact zV.up (by omega) (by omega) (kk _ ⟨f, _, _, _, _, q, by first | exact h11 | decide⟩)
  · have hij : i ≠ j := fun z => q440 (congrArg nI z)
    refine zV.aload_n C dL_thrown_443 rfl rfl ?_
    refine zV.iload C dL_thrown_444 rfl ?_
    refine zV.iload C dL_thrown_446 rfl ?_
    refine zV.callSW (n := 3) C G dL_thrown_448 (w_isPath hzs hst q hw _ _) rfl ⟨cd_L_isPath, lk_L_333, st_L_isPath, in_L⟩ ⟨⟨by decide, by decide⟩, by decide⟩ rfl (zRm_v 4000 100000 rfl rfl rfl (by omega) (by omega)) rfl (zafBe (isPath_v hi hj) ?_) (zno)
    refine zV.if_ne (tgt := 499) C dL_thrown_451 (by decide) (fun q451 => ?_) (fun q451 => ?_)
    · exact zV.up (by omega) (by omega) (kk _ ⟨f, _, _, _, _, q, by first | exact h11 | decide⟩)
    · have b : ¬ (gN g i).testBit j = true := fun z => by rw [if_pos z] at q451; exact absurd q451 (by decide)
      refine zV.iload C dL_thrown_454 rfl ?_
      refine zV.if_eq (tgt := 496) C dL_thrown_456 (by decide) (fun q456 => ?_) (fun q456 => ?_)
      · exact absurd q456 (by decide)
      · refine zV.aload_n C dL_thrown_459 rfl rfl ?_
        refine zV.iload C dL_thrown_460 rfl ?_
        refine zV.iload C dL_thrown_462 rfl ?_
        refine zV.callSW (n := 3) C G dL_thrown_464 (w_removePath hzs hst q hR (Nat.le_trans (by omega) hb) _ _) rfl ⟨cd_L_removePath, lk_L_286, st_L_removePath, in_L⟩ ⟨⟨by decide, by decide⟩, by decide⟩ rfl (zRm_v 4000 100000 rfl rfl rfl (by omega) (by omega)) rfl (zafCe (v := -1003) ((anI_3 (by rw [jr_113 hi hj hij b])).trans (by decide)) (fun h9 p9 => ?_)) (zno)
        obtain ⟨f9, q⟩ := chgP_3 (jr_113 hi hj hij b) p9
        have f := f.trans f9
        refine zV.si (v := (-1003)) C dL_thrown_467 (by decide) ?_
        refine zV.icmp_ne (tgt := 496) C dL_thrown_470 (by decide) (fun q470 => ?_) (fun q470 => ?_)
        · exact absurd rfl q470
        · refine zV.aload_n C dL_thrown_473 rfl rfl ?_
          refine zV.ic (v := nI 2) C dL_thrown_474 (by decide) ?_
          refine zV.iload C dL_thrown_475 rfl ?_
          refine zV.if_ge (tgt := 484) C dL_thrown_477 (by decide) (fun q477 => ?_) (fun q477 => ?_)
          · have eD : oI (far (gN g) i j) = anI (q_distance g (nI i) (nI j)) (fun Ex => if Ex = IOB then -1001 else -1002) := by
              rcases dist_c (g := g) hi hj with ⟨z1, z2⟩ | ⟨k, hk9, z1, z2⟩
              · rw [z2] at q477; exact absurd q477 (by decide)
              · rw [z1, z2]
            rw [eD] at q
            refine zV.iload C dL_thrown_484 rfl ?_
            refine zV.callS (n := 3) C G dL_thrown_486 (s_is hzs hst _ a lo g us sn _ _ _ _ [] _ q (by decide) (by decide)) rfl ⟨cd_L_is, lk_L_329, st_L_is, in_L⟩ ⟨⟨by decide, by decide⟩, by decide⟩ rfl (zRm_v 4000 100000 rfl rfl rfl (by omega) (by omega)) rfl (zaf ?_) (zno)
            refine zV.if_eq (tgt := 496) C dL_thrown_489 (by decide) (fun q489 => ?_) (fun q489 => ?_)
            · exact absurd q489 (by decide)
            · refine zV.ic (v := nI 1) C dL_thrown_492 (by decide) ?_
              refine zV.goto (tgt := 497) C dL_thrown_493 (by decide) ?_
              refine zV.jstore (lo' := [(0, _), (1, _), (3, _), (4, _), (5, _), (6, _), (7, _), (8, _)]) C dL_thrown_497 (by decide) rfl rfl rfl ?_
              exact zV.up (by omega) (by omega) (kk _ ⟨f, _, _, _, _, q, by first | exact h11 | decide⟩)
          · have eD : oI (far (gN g) i j) = -1 := by
              rcases dist_c (g := g) hi hj with ⟨z1, z2⟩ | ⟨k, hk9, z1, z2⟩
              · exact z1
              · rw [z2] at q477; exact absurd (Int32.not_lt.mp (nI_pos hk9)) q477
            rw [eD] at q
            refine zV.ic (v := (-1)) C dL_thrown_480 (by decide) ?_
            refine zV.goto (tgt := 486) C dL_thrown_481 (by decide) ?_
            refine zV.callS (n := 3) C G dL_thrown_486 (s_is hzs hst _ a lo g us sn _ _ _ _ [] _ q (by decide) (by decide)) rfl ⟨cd_L_is, lk_L_329, st_L_is, in_L⟩ ⟨⟨by decide, by decide⟩, by decide⟩ rfl (zRm_v 4000 100000 rfl rfl rfl (by omega) (by omega)) rfl (zaf ?_) (zno)
            refine zV.if_eq (tgt := 496) C dL_thrown_489 (by decide) (fun q489 => ?_) (fun q489 => ?_)
            · exact absurd q489 (by decide)
            · refine zV.ic (v := nI 1) C dL_thrown_492 (by decide) ?_
              refine zV.goto (tgt := 497) C dL_thrown_493 (by decide) ?_
              refine zV.jstore (lo' := [(0, _), (1, _), (3, _), (4, _), (5, _), (6, _), (7, _), (8, _)]) C dL_thrown_497 (by decide) rfl rfl rfl ?_
              exact zV.up (by omega) (by omega) (kk _ ⟨f, _, _, _, _, q, by first | exact h11 | decide⟩)
set_option maxHeartbeats 4000000 in
set_option maxRecDepth 100000 in
theorem L_thB4 {X : zX} {l : Launch} {E : zG} {rm : Room} (hzs : zS E) (hst : l.stackTraces = false) (C : zC X cL_thrown RL 9) (G : zGX X l E rm) {h0 : zH} {a lo m : Nat} {g : zGd} {us : List zGd} {sn : Option zGd} {S : Int64} (hr : rm = ({ frames := 10, cells := 4000, slots := 100000, locals := 254 } : Room)) (hR : gR m g) (hb : m + 50000 ≤ big) (hX : gX g ≤ 99) (hO : gO g = 3) (hlN : lo ≤ hN h0) {i j : Nat} (hi : i < 6) (hj : j < 6) {h : zH} {kc ks : Nat} (S9 : thS h0 h a lo g us sn) (hk : kc + 7 ≤ 4000) (hs : ks + 42 ≤ 100000) (kk : ∀ h', thS h0 h' a lo g us sn → zV X (kc + 7) (ks + 42) h' 603 [(0, .ref a), (1, .long S), (3, .int (nI (gC g).length)), (4, .int (nI 3)), (5, .int (nI 1)), (6, .int (nI i)), (7, .int (nI j)), (8, .int (anI (q_distance g (nI i) (nI j)) (fun Ex => if Ex = IOB then -1001 else -1002)))] []) : zV X kc ks h 499 [(0, .ref a), (1, .long S), (3, .int (nI (gC g).length)), (4, .int (nI 3)), (5, .int (nI 1)), (6, .int (nI i)), (7, .int (nI j)), (8, .int (anI (q_distance g (nI i) (nI j)) (fun Ex => if Ex = IOB then -1001 else -1002)))] [] := by
  subst hr
  have hw : gW g := gW_of hR.1.1 hR.1.2.2.2 (Nat.le_trans (Nat.le_add_right _ _) hb)
  have h59 : ∀ l, l < 6 → hsz (gC g) l ≤ 5 := hR.1.2.2.1
  have n12 := gW_len hw
  obtain ⟨f, off, rs, dt, cs, q, h11⟩ := S9
  refine zV.aload_n C dL_thrown_499 rfl rfl ?_
  refine zV.iload C dL_thrown_500 rfl ?_
  refine zV.iload C dL_thrown_502 rfl ?_
  refine zV.callSW (n := 3) C G dL_thrown_504 (w_isPath hzs hst q hw _ _) rfl ⟨cd_L_isPath, lk_L_333, st_L_isPath, in_L⟩ ⟨⟨by decide, by decide⟩, by decide⟩ rfl (zRm_v 4000 100000 rfl rfl rfl (by omega) (by omega)) rfl (zafBe (isPath_v hi hj) ?_) (zno)
  refine zV.if_ne (tgt := 558) C dL_thrown_507 (by decide) (fun q507 => ?_) (fun q507 => ?_)
  · have b : (gN g i).testBit j = true := Classical.byContradiction (fun z => by rw [if_neg z] at q507; exact q507 rfl)
    refine zV.aload_n C dL_thrown_558 rfl rfl ?_
    refine zV.iload C dL_thrown_559 rfl ?_
    refine zV.callSW (n := 2) C G dL_thrown_561 (w_herdSize hzs hst q hw _) rfl ⟨cd_L_herdSize, lk_L_335, st_L_herdSize, in_L⟩ ⟨⟨by decide, by decide⟩, by decide⟩ rfl (zRm_v 4000 100000 rfl rfl rfl (by omega) (by omega)) rfl (zafQe (hs_v hi) ?_) (zno)
    refine zV.if_ne (tgt := 603) C dL_thrown_564 (by decide) (fun q564 => ?_) (fun q564 => ?_)
    · exact zV.up (by omega) (by omega) (kk _ ⟨f, _, _, _, _, q, by first | exact h11 | decide⟩)
    · have hz : hsz (gC g) i = 0 := (n0 (by have := h59 i hi; omega)).mp q564
      refine zV.iload C dL_thrown_567 rfl ?_
      refine zV.if_eq (tgt := 600) C dL_thrown_569 (by decide) (fun q569 => ?_) (fun q569 => ?_)
      · exact absurd q569 (by decide)
      · refine zV.aload_n C dL_thrown_572 rfl rfl ?_
        refine zV.iload C dL_thrown_573 rfl ?_
        refine zV.iload C dL_thrown_575 rfl ?_
        refine zV.callSW (n := 3) C G dL_thrown_577 (w_migrate hzs hst q hR (Nat.le_trans (by omega) hb) _ _) rfl ⟨cd_L_migrate, lk_L_296, st_L_migrate, in_L⟩ ⟨⟨by decide, by decide⟩, by decide⟩ rfl (zRm_v 4000 100000 rfl rfl rfl (by omega) (by omega)) rfl (zafCe (v := -1002) ((anI_3 (by rw [jr_103h hi hj b hz])).trans (by decide)) (fun h9 p9 => ?_)) (zno)
        obtain ⟨f9, q⟩ := chgP_3 (jr_103h hi hj b hz) p9
        have f := f.trans f9
        refine zV.si (v := (-1002)) C dL_thrown_580 (by decide) ?_
        refine zV.icmp_ne (tgt := 600) C dL_thrown_583 (by decide) (fun q583 => ?_) (fun q583 => ?_)
        · exact absurd rfl q583
        · refine zV.aload_n C dL_thrown_586 rfl rfl ?_
          refine zV.bi (v := nI 7) C dL_thrown_587 (by decide) ?_
          refine zV.ic (v := nI 0) C dL_thrown_589 (by decide) ?_
          refine zV.callS (n := 3) C G dL_thrown_590 (s_is hzs hst _ a lo g us sn _ _ _ _ [] _ q (by decide) (by decide)) rfl ⟨cd_L_is, lk_L_329, st_L_is, in_L⟩ ⟨⟨by decide, by decide⟩, by decide⟩ rfl (zRm_v 4000 100000 rfl rfl rfl (by omega) (by omega)) rfl (zaf ?_) (zno)
          refine zV.if_eq (tgt := 600) C dL_thrown_593 (by decide) (fun q593 => ?_) (fun q593 => ?_)
          · exact absurd q593 (by decide)
          · refine zV.ic (v := nI 1) C dL_thrown_596 (by decide) ?_
            refine zV.goto (tgt := 601) C dL_thrown_597 (by decide) ?_
            refine zV.jstore (lo' := [(0, _), (1, _), (3, _), (4, _), (5, _), (6, _), (7, _), (8, _)]) C dL_thrown_601 (by decide) rfl rfl rfl ?_
            exact zV.up (by omega) (by omega) (kk _ ⟨f, _, _, _, _, q, by first | exact h11 | decide⟩)
  · have b : ¬ (gN g i).testBit j = true := fun z => by rw [if_pos z] at q507; exact absurd q507 (by decide)
    refine zV.iload C dL_thrown_510 rfl ?_
    refine zV.if_eq (tgt := 552) C dL_thrown_512 (by decide) (fun q512 => ?_) (fun q512 => ?_)
    · exact absurd q512 (by decide)
    · refine zV.aload_n C dL_thrown_515 rfl rfl ?_
      refine zV.iload C dL_thrown_516 rfl ?_
      refine zV.iload C dL_thrown_518 rfl ?_
      refine zV.callSW (n := 3) C G dL_thrown_520 (w_migrate hzs hst q hR (Nat.le_trans (by omega) hb) _ _) rfl ⟨cd_L_migrate, lk_L_296, st_L_migrate, in_L⟩ ⟨⟨by decide, by decide⟩, by decide⟩ rfl (zRm_v 4000 100000 rfl rfl rfl (by omega) (by omega)) rfl (zafCe (v := -1002) ((anI_3 (by rw [jr_103 hi hj b])).trans (by decide)) (fun h9 p9 => ?_)) (zno)
      obtain ⟨f9, q⟩ := chgP_3 (jr_103 hi hj b) p9
      have f := f.trans f9
      refine zV.si (v := (-1002)) C dL_thrown_523 (by decide) ?_
      refine zV.icmp_ne (tgt := 552) C dL_thrown_526 (by decide) (fun q526 => ?_) (fun q526 => ?_)
      · exact absurd rfl q526
      · refine zV.aload_n C dL_thrown_529 rfl rfl ?_
        refine zV.ic (v := nI 2) C dL_thrown_530 (by decide) ?_
        refine zV.iload C dL_thrown_531 rfl ?_
        refine zV.if_ge (tgt := 540) C dL_thrown_533 (by decide) (fun q533 => ?_) (fun q533 => ?_)
        · have eD : oI (far (gN g) i j) = anI (q_distance g (nI i) (nI j)) (fun Ex => if Ex = IOB then -1001 else -1002) := by
            rcases dist_c (g := g) hi hj with ⟨z1, z2⟩ | ⟨k, hk9, z1, z2⟩
            · rw [z2] at q533; exact absurd q533 (by decide)
            · rw [z1, z2]
          rw [eD] at q
          refine zV.iload C dL_thrown_540 rfl ?_
          refine zV.callS (n := 3) C G dL_thrown_542 (s_is hzs hst _ a lo g us sn _ _ _ _ [] _ q (by decide) (by decide)) rfl ⟨cd_L_is, lk_L_329, st_L_is, in_L⟩ ⟨⟨by decide, by decide⟩, by decide⟩ rfl (zRm_v 4000 100000 rfl rfl rfl (by omega) (by omega)) rfl (zaf ?_) (zno)
          refine zV.if_eq (tgt := 552) C dL_thrown_545 (by decide) (fun q545 => ?_) (fun q545 => ?_)
          · exact absurd q545 (by decide)
          · refine zV.ic (v := nI 1) C dL_thrown_548 (by decide) ?_
            refine zV.goto (tgt := 553) C dL_thrown_549 (by decide) ?_
            refine zV.jstore (lo' := [(0, _), (1, _), (3, _), (4, _), (5, _), (6, _), (7, _), (8, _)]) C dL_thrown_553 (by decide) rfl rfl rfl ?_
            refine zV.goto (tgt := 603) C dL_thrown_555 (by decide) ?_
            exact zV.up (by omega) (by omega) (kk _ ⟨f, _, _, _, _, q, by first | exact h11 | decide⟩)
        · have eD : oI (far (gN g) i j) = -1 := by
            rcases dist_c (g := g) hi hj with ⟨z1, z2⟩ | ⟨k, hk9, z1, z2⟩
            · exact z1
            · rw [z2] at q533; exact absurd (Int32.not_lt.mp (nI_pos hk9)) q533
          rw [eD] at q
          refine zV.ic (v := (-1)) C dL_thrown_536 (by decide) ?_
          refine zV.goto (tgt := 542) C dL_thrown_537 (by decide) ?_
          refine zV.callS (n := 3) C G dL_thrown_542 (s_is hzs hst _ a lo g us sn _ _ _ _ [] _ q (by decide) (by decide)) rfl ⟨cd_L_is, lk_L_329, st_L_is, in_L⟩ ⟨⟨by decide, by decide⟩, by decide⟩ rfl (zRm_v 4000 100000 rfl rfl rfl (by omega) (by omega)) rfl (zaf ?_) (zno)
          refine zV.if_eq (tgt := 552) C dL_thrown_545 (by decide) (fun q545 => ?_) (fun q545 => ?_)
          · exact absurd q545 (by decide)
          · refine zV.ic (v := nI 1) C dL_thrown_548 (by decide) ?_
            refine zV.goto (tgt := 553) C dL_thrown_549 (by decide) ?_
            refine zV.jstore (lo' := [(0, _), (1, _), (3, _), (4, _), (5, _), (6, _), (7, _), (8, _)]) C dL_thrown_553 (by decide) rfl rfl rfl ?_
            refine zV.goto (tgt := 603) C dL_thrown_555 (by decide) ?_
            exact zV.up (by omega) (by omega) (kk _ ⟨f, _, _, _, _, q, by first | exact h11 | decide⟩)
set_option maxHeartbeats 4000000 in
set_option maxRecDepth 100000 in
theorem L_thB {X : zX} {l : Launch} {E : zG} {rm : Room} (hzs : zS E) (hst : l.stackTraces = false) (C : zC X cL_thrown RL 9) (G : zGX X l E rm) {h0 : zH} {a lo m : Nat} {g : zGd} {us : List zGd} {sn : Option zGd} {S : Int64} (hr : rm = ({ frames := 10, cells := 4000, slots := 100000, locals := 254 } : Room)) (hR : gR m g) (hb : m + 50000 ≤ big) (hX : gX g ≤ 99) (hO : gO g = 3) (hlN : lo ≤ hN h0) {K KS : Nat} (hK : K ≤ 4000) (hKS : KS ≤ 100000) {i : Nat} (hi : i < 6) : ∀ n j (h : zH) kc ks, j + n = 6 → kc + 22 * n ≤ K → ks + 132 * n ≤ KS → thS h0 h a lo g us sn → (∀ h', thS h0 h' a lo g us sn → zV X K KS h' 609 [(0, .ref a), (1, .long S), (3, .int (nI (gC g).length)), (4, .int (nI 3)), (5, .int (nI 1)), (6, .int (nI i))] []) → zV X kc ks h 362 [(0, .ref a), (1, .long S), (3, .int (nI (gC g).length)), (4, .int (nI 3)), (5, .int (nI 1)), (6, .int (nI i)), (7, .int (nI j))] [] := by
  have hr0 := hr
  subst hr
  have hw : gW g := gW_of hR.1.1 hR.1.2.2.2 (Nat.le_trans (Nat.le_add_right _ _) hb)
  have h59 : ∀ l, l < 6 → hsz (gC g) l ≤ 5 := hR.1.2.2.1
  have n12 := gW_len hw
  intro n
  induction n with
  | zero =>
    intro j h kc ks hi9 h1 h2 S9 kk
    obtain rfl : j = 6 := by omega
    refine zV.iload C dL_thrown_362 rfl ?_
    refine zV.bi (v := nI 6) C dL_thrown_364 (by decide) ?_
    refine zV.icmp_ge (tgt := 609) C dL_thrown_366 (by decide) (fun q366 => ?_) (fun q366 => ?_)
    · exact zV.up (by omega) (by omega) (zV.sub [0, 1, 2, 3, 4, 5] rfl (kk h S9))
    · exact absurd (nI_le (Nat.le_refl 6) (by decide)) q366
  | succ n ih =>
    intro j h kc ks hi9 h1 h2 S9 kk
    have S0 := S9
    obtain ⟨f, off, rs, dt, cs, q, h11⟩ := S9
    have hj : j < 6 := by omega
    refine zV.iload C dL_thrown_362 rfl ?_
    refine zV.bi (v := nI 6) C dL_thrown_364 (by decide) ?_
    refine zV.icmp_ge (tgt := 609) C dL_thrown_366 (by decide) (fun q366 => ?_) (fun q366 => ?_)
    · exact absurd (nle (by omega) (by omega) q366) (by omega)
    · refine zV.aload_n C dL_thrown_369 rfl rfl ?_
      refine zV.iload C dL_thrown_370 rfl ?_
      refine zV.iload C dL_thrown_372 rfl ?_
      refine zV.callSW (n := 3) C G dL_thrown_374 (w_distance hzs hst q hw _ _) rfl ⟨cd_L_distance, lk_L_276, st_L_distance, in_L⟩ ⟨⟨by decide, by decide⟩, by decide⟩ rfl (zRm_v 4000 100000 rfl rfl rfl (by omega) (by omega)) rfl (zafQ ?_) (zno)
      refine zV.jstore (lo' := [(0, _), (1, _), (3, _), (4, _), (5, _), (6, _), (7, _), (8, _)]) C dL_thrown_377 (by decide) rfl rfl rfl ?_
      refine L_thB2 hzs hst C G hr0 hR hb hX hO hlN hi hj S0 (by omega) (by omega) (fun h1 S1 => ?_)
      refine L_thB3 hzs hst C G hr0 hR hb hX hO hlN hi hj S1 (by omega) (by omega) (fun h2 S2 => ?_)
      refine L_thB4 hzs hst C G hr0 hR hb hX hO hlN hi hj S2 (by omega) (by omega) (fun h3 S3 => ?_)
      refine zV.kinc (lo' := [(0, _), (1, _), (3, _), (4, _), (5, _), (6, _), (7, _), (8, _)]) C dL_thrown_603 rfl (by decide) rfl rfl rfl ?_
      refine zV.goto (tgt := 362) C dL_thrown_606 (by decide) ?_
      rw [show nI j + Int32.ofInt 1 = nI (j + 1) from nI_add j 1]
      exact zV.sub [0, 1, 2, 3, 4, 5, 6] rfl (ih (j + 1) h3 _ _ (by omega) (by omega) (by omega) S3 kk)
set_option maxHeartbeats 4000000 in
set_option maxRecDepth 100000 in
theorem L_thA1 {X : zX} {l : Launch} {E : zG} {rm : Room} (hzs : zS E) (hst : l.stackTraces = false) (C : zC X cL_thrown RL 9) (G : zGX X l E rm) {h0 : zH} {a lo m : Nat} {g : zGd} {us : List zGd} {sn : Option zGd} {S : Int64} (hr : rm = ({ frames := 10, cells := 4000, slots := 100000, locals := 254 } : Room)) (hR : gR m g) (hb : m + 50000 ≤ big) (hX : gX g ≤ 99) (hO : gO g = 3) (hlN : lo ≤ hN h0) {i : Nat} (hi : i < 6) {h : zH} {kc ks : Nat} (S9 : thS h0 h a lo g us sn) (hk : kc + 5 ≤ 4000) (hs : ks + 30 ≤ 100000) (kk : ∀ h', thS h0 h' a lo g us sn → zV X (kc + 5) (ks + 30) h' 660 [(0, .ref a), (1, .long S), (3, .int (nI (gC g).length)), (4, .int (nI 3)), (5, .int (nI 1)), (6, .int (nI i))] []) : zV X kc ks h 609 [(0, .ref a), (1, .long S), (3, .int (nI (gC g).length)), (4, .int (nI 3)), (5, .int (nI 1)), (6, .int (nI i))] [] := by
  subst hr
  have hw : gW g := gW_of hR.1.1 hR.1.2.2.2 (Nat.le_trans (Nat.le_add_right _ _) hb)
  have h59 : ∀ l, l < 6 → hsz (gC g) l ≤ 5 := hR.1.2.2.1
  have n12 := gW_len hw
  obtain ⟨f, off, rs, dt, cs, q, h11⟩ := S9
  refine zV.iload_n C dL_thrown_609 rfl ?_
  refine zV.bi (v := nI 12) C dL_thrown_610 (by decide) ?_
  refine zV.icmp_ge (tgt := 660) C dL_thrown_612 (by decide) (fun q612 => ?_) (fun q612 => ?_)
  · exact zV.up (by omega) (by omega) (kk _ ⟨f, _, _, _, _, q, by first | exact h11 | decide⟩)
  · have hl : (gC g).length < 12 := Nat.lt_of_not_le (fun z => q612 (nI_le z (by omega)))
    refine zV.aload_n C dL_thrown_615 rfl rfl ?_
    refine zV.iload C dL_thrown_616 rfl ?_
    refine zV.callSW (n := 2) C G dL_thrown_618 (w_herdSize hzs hst q hw _) rfl ⟨cd_L_herdSize, lk_L_335, st_L_herdSize, in_L⟩ ⟨⟨by decide, by decide⟩, by decide⟩ rfl (zRm_v 4000 100000 rfl rfl rfl (by omega) (by omega)) rfl (zafQe (hs_v hi) ?_) (zno)
    refine zV.ic (v := nI 5) C dL_thrown_621 (by decide) ?_
    refine zV.icmp_ne (tgt := 660) C dL_thrown_622 (by decide) (fun q622 => ?_) (fun q622 => ?_)
    · exact zV.up (by omega) (by omega) (kk _ ⟨f, _, _, _, _, q, by first | exact h11 | decide⟩)
    · have h5 : 5 ≤ hsz (gC g) i := Nat.le_of_eq (neq (by have := h59 i hi; omega) (by decide) q622).symm
      refine zV.iload C dL_thrown_625 rfl ?_
      refine zV.if_eq (tgt := 657) C dL_thrown_627 (by decide) (fun q627 => ?_) (fun q627 => ?_)
      · exact absurd q627 (by decide)
      · refine zV.aload_n C dL_thrown_630 rfl rfl ?_
        refine zV.iload C dL_thrown_631 rfl ?_
        refine zV.ic (v := nI 0) C dL_thrown_633 (by decide) ?_
        refine zV.callSW (n := 3) C G dL_thrown_634 (w_addChair hzs hst q hR (Nat.le_trans (by omega) hb) _ _) rfl ⟨cd_L_addChair, lk_L_213, st_L_addChair, in_L⟩ ⟨⟨by decide, by decide⟩, by decide⟩ rfl (zRm_v 4000 100000 rfl rfl rfl (by omega) (by omega)) rfl (zafCe (v := -1003) ((anI_3 (by rw [jr_99h hi hl h5])).trans (by decide)) (fun h9 p9 => ?_)) (zno)
        obtain ⟨f9, q⟩ := chgP_3 (jr_99h hi hl h5) p9
        have f := f.trans f9
        refine zV.si (v := (-1003)) C dL_thrown_637 (by decide) ?_
        refine zV.icmp_ne (tgt := 657) C dL_thrown_640 (by decide) (fun q640 => ?_) (fun q640 => ?_)
        · exact absurd rfl q640
        · refine zV.aload_n C dL_thrown_643 rfl rfl ?_
          refine zV.ic (v := nI 4) C dL_thrown_644 (by decide) ?_
          refine zV.iload C dL_thrown_645 rfl ?_
          refine zV.callS (n := 3) C G dL_thrown_647 (s_is hzs hst _ a lo g us sn _ _ _ _ [] _ q (by decide) (by decide)) rfl ⟨cd_L_is, lk_L_329, st_L_is, in_L⟩ ⟨⟨by decide, by decide⟩, by decide⟩ rfl (zRm_v 4000 100000 rfl rfl rfl (by omega) (by omega)) rfl (zaf ?_) (zno)
          refine zV.if_eq (tgt := 657) C dL_thrown_650 (by decide) (fun q650 => ?_) (fun q650 => ?_)
          · exact absurd q650 (by decide)
          · refine zV.ic (v := nI 1) C dL_thrown_653 (by decide) ?_
            refine zV.goto (tgt := 658) C dL_thrown_654 (by decide) ?_
            refine zV.jstore (lo' := [(0, _), (1, _), (3, _), (4, _), (5, _), (6, _)]) C dL_thrown_658 (by decide) rfl rfl rfl ?_
            exact zV.up (by omega) (by omega) (kk _ ⟨f, _, _, _, _, q, by first | exact h11 | decide⟩)
set_option maxHeartbeats 4000000 in
set_option maxRecDepth 100000 in
theorem L_thA2 {X : zX} {l : Launch} {E : zG} {rm : Room} (hzs : zS E) (hst : l.stackTraces = false) (C : zC X cL_thrown RL 9) (G : zGX X l E rm) {h0 : zH} {a lo m : Nat} {g : zGd} {us : List zGd} {sn : Option zGd} {S : Int64} (hr : rm = ({ frames := 10, cells := 4000, slots := 100000, locals := 254 } : Room)) (hR : gR m g) (hb : m + 50000 ≤ big) (hX : gX g ≤ 99) (hO : gO g = 3) (hlN : lo ≤ hN h0) {i : Nat} (hi : i < 6) {h : zH} {kc ks : Nat} (S9 : thS h0 h a lo g us sn) (hk : kc + 4 ≤ 4000) (hs : ks + 24 ≤ 100000) (kk : ∀ h', thS h0 h' a lo g us sn → zV X (kc + 4) (ks + 24) h' 701 [(0, .ref a), (1, .long S), (3, .int (nI (gC g).length)), (4, .int (nI 3)), (5, .int (nI 1)), (6, .int (nI i))] []) : zV X kc ks h 660 [(0, .ref a), (1, .long S), (3, .int (nI (gC g).length)), (4, .int (nI 3)), (5, .int (nI 1)), (6, .int (nI i))] [] := by
  subst hr
  have hw : gW g := gW_of hR.1.1 hR.1.2.2.2 (Nat.le_trans (Nat.le_add_right _ _) hb)
  have h59 : ∀ l, l < 6 → hsz (gC g) l ≤ 5 := hR.1.2.2.1
  have n12 := gW_len hw
  obtain ⟨f, off, rs, dt, cs, q, h11⟩ := S9
  refine zV.iload_n C dL_thrown_660 rfl ?_
  refine zV.bi (v := nI 12) C dL_thrown_661 (by decide) ?_
  refine zV.icmp_ne (tgt := 701) C dL_thrown_663 (by decide) (fun q663 => ?_) (fun q663 => ?_)
  · exact zV.up (by omega) (by omega) (kk _ ⟨f, _, _, _, _, q, by first | exact h11 | decide⟩)
  · have hl : 12 ≤ (gC g).length := Nat.le_of_eq (neq (by omega) (by decide) q663).symm
    refine zV.iload C dL_thrown_666 rfl ?_
    refine zV.if_eq (tgt := 698) C dL_thrown_668 (by decide) (fun q668 => ?_) (fun q668 => ?_)
    · exact absurd q668 (by decide)
    · refine zV.aload_n C dL_thrown_671 rfl rfl ?_
      refine zV.iload C dL_thrown_672 rfl ?_
      refine zV.ic (v := nI 0) C dL_thrown_674 (by decide) ?_
      refine zV.callSW (n := 3) C G dL_thrown_675 (w_addChair hzs hst q hR (Nat.le_trans (by omega) hb) _ _) rfl ⟨cd_L_addChair, lk_L_213, st_L_addChair, in_L⟩ ⟨⟨by decide, by decide⟩, by decide⟩ rfl (zRm_v 4000 100000 rfl rfl rfl (by omega) (by omega)) rfl (zafCe (v := -1003) ((anI_3 (by rw [jr_99f hi hl])).trans (by decide)) (fun h9 p9 => ?_)) (zno)
      obtain ⟨f9, q⟩ := chgP_3 (jr_99f hi hl) p9
      have f := f.trans f9
      refine zV.si (v := (-1003)) C dL_thrown_678 (by decide) ?_
      refine zV.icmp_ne (tgt := 698) C dL_thrown_681 (by decide) (fun q681 => ?_) (fun q681 => ?_)
      · exact absurd rfl q681
      · refine zV.aload_n C dL_thrown_684 rfl rfl ?_
        refine zV.ic (v := nI 3) C dL_thrown_685 (by decide) ?_
        refine zV.bi (v := nI 12) C dL_thrown_686 (by decide) ?_
        refine zV.callS (n := 3) C G dL_thrown_688 (s_is hzs hst _ a lo g us sn _ _ _ _ [] _ q (by decide) (by decide)) rfl ⟨cd_L_is, lk_L_329, st_L_is, in_L⟩ ⟨⟨by decide, by decide⟩, by decide⟩ rfl (zRm_v 4000 100000 rfl rfl rfl (by omega) (by omega)) rfl (zaf ?_) (zno)
        refine zV.if_eq (tgt := 698) C dL_thrown_691 (by decide) (fun q691 => ?_) (fun q691 => ?_)
        · exact absurd q691 (by decide)
        · refine zV.ic (v := nI 1) C dL_thrown_694 (by decide) ?_
          refine zV.goto (tgt := 699) C dL_thrown_695 (by decide) ?_
          refine zV.jstore (lo' := [(0, _), (1, _), (3, _), (4, _), (5, _), (6, _)]) C dL_thrown_699 (by decide) rfl rfl rfl ?_
          exact zV.up (by omega) (by omega) (kk _ ⟨f, _, _, _, _, q, by first | exact h11 | decide⟩)
set_option maxHeartbeats 4000000 in
set_option maxRecDepth 100000 in
theorem L_thA {X : zX} {l : Launch} {E : zG} {rm : Room} (hzs : zS E) (hst : l.stackTraces = false) (C : zC X cL_thrown RL 9) (G : zGX X l E rm) {h0 : zH} {a lo m : Nat} {g : zGd} {us : List zGd} {sn : Option zGd} {S : Int64} (hr : rm = ({ frames := 10, cells := 4000, slots := 100000, locals := 254 } : Room)) (hR : gR m g) (hb : m + 50000 ≤ big) (hX : gX g ≤ 99) (hO : gO g = 3) (hlN : lo ≤ hN h0) {K KS : Nat} (hK : K ≤ 4000) (hKS : KS ≤ 100000) : ∀ n i (h : zH) kc ks, i + n = 6 → kc + 141 * n ≤ K → ks + 846 * n ≤ KS → thS h0 h a lo g us sn → (∀ h', thS h0 h' a lo g us sn → zV X K KS h' 707 [(0, .ref a), (1, .long S), (3, .int (nI (gC g).length)), (4, .int (nI 3)), (5, .int (nI 1))] []) → zV X kc ks h 352 [(0, .ref a), (1, .long S), (3, .int (nI (gC g).length)), (4, .int (nI 3)), (5, .int (nI 1)), (6, .int (nI i))] [] := by
  have hr0 := hr
  subst hr
  have hw : gW g := gW_of hR.1.1 hR.1.2.2.2 (Nat.le_trans (Nat.le_add_right _ _) hb)
  have h59 : ∀ l, l < 6 → hsz (gC g) l ≤ 5 := hR.1.2.2.1
  have n12 := gW_len hw
  intro n
  induction n with
  | zero =>
    intro i h kc ks hi9 h1 h2 S9 kk
    obtain rfl : i = 6 := by omega
    refine zV.iload C dL_thrown_352 rfl ?_
    refine zV.bi (v := nI 6) C dL_thrown_354 (by decide) ?_
    refine zV.icmp_ge (tgt := 707) C dL_thrown_356 (by decide) (fun q356 => ?_) (fun q356 => ?_)
    · exact zV.up (by omega) (by omega) (zV.sub [0, 1, 2, 3, 4] rfl (kk h S9))
    · exact absurd (nI_le (Nat.le_refl 6) (by decide)) q356
  | succ n ih =>
    intro i h kc ks hi9 h1 h2 S9 kk
    have S0 := S9
    obtain ⟨f, off, rs, dt, cs, q, h11⟩ := S9
    have hi : i < 6 := by omega
    refine zV.iload C dL_thrown_352 rfl ?_
    refine zV.bi (v := nI 6) C dL_thrown_354 (by decide) ?_
    refine zV.icmp_ge (tgt := 707) C dL_thrown_356 (by decide) (fun q356 => ?_) (fun q356 => ?_)
    · exact absurd (nle (by omega) (by omega) q356) (by omega)
    · refine zV.ic (v := nI 0) C dL_thrown_359 (by decide) ?_
      refine zV.jstore (lo' := [(0, _), (1, _), (3, _), (4, _), (5, _), (6, _), (7, _)]) C dL_thrown_360 (by decide) rfl rfl rfl ?_
      refine L_thB hzs hst C G hr0 hR hb hX hO hlN (K := kc + 132) (KS := ks + 792) (by omega) (by omega) hi 6 0 h _ _ rfl (by omega) (by omega) S0 (fun h1 S1 => ?_)
      refine L_thA1 hzs hst C G hr0 hR hb hX hO hlN hi S1 (by omega) (by omega) (fun h2 S2 => ?_)
      refine L_thA2 hzs hst C G hr0 hR hb hX hO hlN hi S2 (by omega) (by omega) (fun h3 S3 => ?_)
      refine zV.kinc (lo' := [(0, _), (1, _), (3, _), (4, _), (5, _), (6, _)]) C dL_thrown_701 rfl (by decide) rfl rfl rfl ?_
      refine zV.goto (tgt := 352) C dL_thrown_704 (by decide) ?_
      rw [show nI i + Int32.ofInt 1 = nI (i + 1) from nI_add i 1]
      exact ih (i + 1) h3 _ _ (by omega) (by omega) (by omega) S3 kk
set_option maxHeartbeats 4000000 in
set_option maxRecDepth 100000 in
theorem L_thC1 {X : zX} {l : Launch} {E : zG} {rm : Room} (hzs : zS E) (hst : l.stackTraces = false) (C : zC X cL_thrown RL 9) (G : zGX X l E rm) {h0 : zH} {a lo m : Nat} {g : zGd} {us : List zGd} {sn : Option zGd} {S : Int64} (hr : rm = ({ frames := 10, cells := 4000, slots := 100000, locals := 254 } : Room)) (hR : gR m g) (hb : m + 50000 ≤ big) (hX : gX g ≤ 99) (hO : gO g = 3) (hlN : lo ≤ hN h0) {k i k9 : Nat} {c9 : zCh} (hi99 : i < 99) (ek : kc g (nI i) = some (k9, c9)) {h : zH} {kc ks : Nat} (S9 : thS h0 h a lo g us sn) (hk : kc + 11 ≤ 4000) (hs : ks + 66 ≤ 100000) (kk : ∀ h', thS h0 h' a lo g us sn → zV X (kc + 11) (ks + 66) h' 863 [(0, .ref a), (1, .long S), (3, .int (nI (gC g).length)), (4, .int (nI 3)), (5, .int (nI 1)), (6, .int (nI k)), (7, .int (nI i))] []) : zV X kc ks h 724 [(0, .ref a), (1, .long S), (3, .int (nI (gC g).length)), (4, .int (nI 3)), (5, .int (nI 1)), (6, .int (nI k)), (7, .int (nI i))] [] := by
  subst hr
  have hw : gW g := gW_of hR.1.1 hR.1.2.2.2 (Nat.le_trans (Nat.le_add_right _ _) hb)
  have h59 : ∀ l, l < 6 → hsz (gC g) l ≤ 5 := hR.1.2.2.1
  have n12 := gW_len hw
  obtain ⟨f, off, rs, dt, cs, q, h11⟩ := S9
  refine zV.iload C dL_thrown_724 rfl ?_
  refine zV.if_eq (tgt := 860) C dL_thrown_726 (by decide) (fun q726 => ?_) (fun q726 => ?_)
  · exact absurd q726 (by decide)
  · refine zV.aload_n C dL_thrown_729 rfl rfl ?_
    refine zV.iload C dL_thrown_730 rfl ?_
    refine zV.bi (v := nI 6) C dL_thrown_732 (by decide) ?_
    refine zV.callSW (n := 3) C G dL_thrown_734 (w_move hzs hst q hR (Nat.le_trans (by omega) hb) _ _) rfl ⟨cd_L_move, lk_L_293, st_L_move, in_L⟩ ⟨⟨by decide, by decide⟩, by decide⟩ rfl (zRm_v 4000 100000 rfl rfl rfl (by omega) (by omega)) rfl (zafCe (v := -1001) ((anI_1 (jr_109o ek)).trans (by decide)) (fun h9 p9 => ?_)) (zno)
    obtain ⟨f9, q⟩ := chgP_1 (Or.inl (jr_109o ek)) p9
    have f := f.trans f9
    refine zV.si (v := (-1001)) C dL_thrown_737 (by decide) ?_
    refine zV.icmp_ne (tgt := 860) C dL_thrown_740 (by decide) (fun q740 => ?_) (fun q740 => ?_)
    · exact absurd rfl q740
    · refine zV.aload_n C dL_thrown_743 rfl rfl ?_
      refine zV.iload C dL_thrown_744 rfl ?_
      refine zV.callSW (n := 2) C G dL_thrown_746 (w_isFolded hzs hst q hw _) rfl ⟨cd_L_isFolded, lk_L_337, st_L_isFolded, in_L⟩ ⟨⟨by decide, by decide⟩, by decide⟩ rfl (zRm_v 4000 100000 rfl rfl rfl (by omega) (by omega)) rfl (zafBe (fo_v ek) ?_) (zno)
      refine zV.ic (v := nI 1) C dL_thrown_749 (by decide) ?_
      refine zV.icmp_ne (tgt := 806) C dL_thrown_750 (by decide) (fun q750 => ?_) (fun q750 => ?_)
      · have b : ¬ chF c9 = true := fun z => by rw [if_pos z] at q750; exact q750 rfl
        refine zV.aload_n C dL_thrown_806 rfl rfl ?_
        refine zV.iload C dL_thrown_807 rfl ?_
        refine zV.callSW (n := 2) C G dL_thrown_809 (w_unfold hzs hst q hR (Nat.le_trans (by omega) hb) _) rfl ⟨cd_L_unfold, lk_L_291, st_L_unfold, in_L⟩ ⟨⟨by decide, by decide⟩, by decide⟩ rfl (zRm_v 4000 100000 rfl rfl rfl (by omega) (by omega)) rfl (zafCe (v := -1002) ((anI_3 (by rw [jr_117 ek b])).trans (by decide)) (fun h9 p9 => ?_)) (zno)
        obtain ⟨f9, q⟩ := chgP_3 (jr_117 ek b) p9
        have f := f.trans f9
        refine zV.si (v := (-1002)) C dL_thrown_812 (by decide) ?_
        refine zV.icmp_ne (tgt := 860) C dL_thrown_815 (by decide) (fun q815 => ?_) (fun q815 => ?_)
        · exact absurd rfl q815
        · refine zV.aload_n C dL_thrown_818 rfl rfl ?_
          refine zV.bi (v := nI 6) C dL_thrown_819 (by decide) ?_
          refine zV.iload C dL_thrown_821 rfl ?_
          refine zV.callS (n := 3) C G dL_thrown_823 (s_is hzs hst _ a lo g us sn _ _ _ _ [] _ q (by decide) (by decide)) rfl ⟨cd_L_is, lk_L_329, st_L_is, in_L⟩ ⟨⟨by decide, by decide⟩, by decide⟩ rfl (zRm_v 4000 100000 rfl rfl rfl (by omega) (by omega)) rfl (zaf ?_) (zno)
          refine zV.if_eq (tgt := 860) C dL_thrown_826 (by decide) (fun q826 => ?_) (fun q826 => ?_)
          · exact absurd q826 (by decide)
          · refine zV.aload_n C dL_thrown_829 rfl rfl ?_
            refine zV.iload C dL_thrown_830 rfl ?_
            refine zV.aload_n C dL_thrown_832 rfl rfl ?_
            refine zV.iload C dL_thrown_833 rfl ?_
            refine zV.callSW (n := 2) C G dL_thrown_835 (w_lawnOf hzs hst q hw _) rfl ⟨cd_L_lawnOf, lk_L_339, st_L_lawnOf, in_L⟩ ⟨⟨by decide, by decide⟩, by decide⟩ rfl (zRm_v 4000 100000 rfl rfl rfl (by omega) (by omega)) rfl (zafQe (lo_v ek) ?_) (zno)
            refine zV.callSW (n := 3) C G dL_thrown_838 (w_move hzs hst q hR (Nat.le_trans (by omega) hb) _ _) rfl ⟨cd_L_move, lk_L_293, st_L_move, in_L⟩ ⟨⟨by decide, by decide⟩, by decide⟩ rfl (zRm_v 4000 100000 rfl rfl rfl (by omega) (by omega)) rfl (zafCe (v := -1002) ((anI_3 (by rw [jr_109l hR.2 hw ek b])).trans (by decide)) (fun h9 p9 => ?_)) (zno)
            obtain ⟨f9, q⟩ := chgP_3 (jr_109l hR.2 hw ek b) p9
            have f := f.trans f9
            refine zV.si (v := (-1002)) C dL_thrown_841 (by decide) ?_
            refine zV.icmp_ne (tgt := 860) C dL_thrown_844 (by decide) (fun q844 => ?_) (fun q844 => ?_)
            · exact absurd rfl q844
            · refine zV.aload_n C dL_thrown_847 rfl rfl ?_
              refine zV.ic (v := nI 2) C dL_thrown_848 (by decide) ?_
              refine zV.ic (v := nI 0) C dL_thrown_849 (by decide) ?_
              refine zV.callS (n := 3) C G dL_thrown_850 (s_is hzs hst _ a lo g us sn _ _ _ _ [] _ q (by decide) (by decide)) rfl ⟨cd_L_is, lk_L_329, st_L_is, in_L⟩ ⟨⟨by decide, by decide⟩, by decide⟩ rfl (zRm_v 4000 100000 rfl rfl rfl (by omega) (by omega)) rfl (zaf ?_) (zno)
              refine zV.if_eq (tgt := 860) C dL_thrown_853 (by decide) (fun q853 => ?_) (fun q853 => ?_)
              · exact absurd q853 (by decide)
              · refine zV.ic (v := nI 1) C dL_thrown_856 (by decide) ?_
                refine zV.goto (tgt := 861) C dL_thrown_857 (by decide) ?_
                refine zV.jstore (lo' := [(0, _), (1, _), (3, _), (4, _), (5, _), (6, _), (7, _)]) C dL_thrown_861 (by decide) rfl rfl rfl ?_
                exact zV.up (by omega) (by omega) (kk _ ⟨f, _, _, _, _, q, by first | exact h11 | decide⟩)
      · have b : chF c9 = true := Classical.byContradiction (fun z => by rw [if_neg z] at q750; exact absurd q750 (by decide))
        refine zV.aload_n C dL_thrown_753 rfl rfl ?_
        refine zV.iload C dL_thrown_754 rfl ?_
        refine zV.callSW (n := 2) C G dL_thrown_756 (w_fold hzs hst q hR (Nat.le_trans (by omega) hb) _) rfl ⟨cd_L_fold, lk_L_215, st_L_fold, in_L⟩ ⟨⟨by decide, by decide⟩, by decide⟩ rfl (zRm_v 4000 100000 rfl rfl rfl (by omega) (by omega)) rfl (zafCe (v := -1002) ((anI_3 (by rw [jr_102 ek b])).trans (by decide)) (fun h9 p9 => ?_)) (zno)
        obtain ⟨f9, q⟩ := chgP_3 (jr_102 ek b) p9
        have f := f.trans f9
        refine zV.si (v := (-1002)) C dL_thrown_759 (by decide) ?_
        refine zV.icmp_ne (tgt := 860) C dL_thrown_762 (by decide) (fun q762 => ?_) (fun q762 => ?_)
        · exact absurd rfl q762
        · refine zV.aload_n C dL_thrown_765 rfl rfl ?_
          refine zV.ic (v := nI 5) C dL_thrown_766 (by decide) ?_
          refine zV.iload C dL_thrown_767 rfl ?_
          refine zV.callS (n := 3) C G dL_thrown_769 (s_is hzs hst _ a lo g us sn _ _ _ _ [] _ q (by decide) (by decide)) rfl ⟨cd_L_is, lk_L_329, st_L_is, in_L⟩ ⟨⟨by decide, by decide⟩, by decide⟩ rfl (zRm_v 4000 100000 rfl rfl rfl (by omega) (by omega)) rfl (zaf ?_) (zno)
          refine zV.if_eq (tgt := 860) C dL_thrown_772 (by decide) (fun q772 => ?_) (fun q772 => ?_)
          · exact absurd q772 (by decide)
          · refine zV.aload_n C dL_thrown_775 rfl rfl ?_
            refine zV.iload C dL_thrown_776 rfl ?_
            refine zV.aload_n C dL_thrown_778 rfl rfl ?_
            refine zV.iload C dL_thrown_779 rfl ?_
            refine zV.callSW (n := 2) C G dL_thrown_781 (w_lawnOf hzs hst q hw _) rfl ⟨cd_L_lawnOf, lk_L_339, st_L_lawnOf, in_L⟩ ⟨⟨by decide, by decide⟩, by decide⟩ rfl (zRm_v 4000 100000 rfl rfl rfl (by omega) (by omega)) rfl (zafQe (lo_v ek) ?_) (zno)
            refine zV.callSW (n := 3) C G dL_thrown_784 (w_move hzs hst q hR (Nat.le_trans (by omega) hb) _ _) rfl ⟨cd_L_move, lk_L_293, st_L_move, in_L⟩ ⟨⟨by decide, by decide⟩, by decide⟩ rfl (zRm_v 4000 100000 rfl rfl rfl (by omega) (by omega)) rfl (zafCe (v := -1002) ((anI_3 (by rw [jr_109 hw ek b])).trans (by decide)) (fun h9 p9 => ?_)) (zno)
            obtain ⟨f9, q⟩ := chgP_3 (jr_109 hw ek b) p9
            have f := f.trans f9
            refine zV.si (v := (-1002)) C dL_thrown_787 (by decide) ?_
            refine zV.icmp_ne (tgt := 860) C dL_thrown_790 (by decide) (fun q790 => ?_) (fun q790 => ?_)
            · exact absurd rfl q790
            · refine zV.aload_n C dL_thrown_793 rfl rfl ?_
              refine zV.ic (v := nI 5) C dL_thrown_794 (by decide) ?_
              refine zV.iload C dL_thrown_795 rfl ?_
              refine zV.callS (n := 3) C G dL_thrown_797 (s_is hzs hst _ a lo g us sn _ _ _ _ [] _ q (by decide) (by decide)) rfl ⟨cd_L_is, lk_L_329, st_L_is, in_L⟩ ⟨⟨by decide, by decide⟩, by decide⟩ rfl (zRm_v 4000 100000 rfl rfl rfl (by omega) (by omega)) rfl (zaf ?_) (zno)
              refine zV.if_eq (tgt := 860) C dL_thrown_800 (by decide) (fun q800 => ?_) (fun q800 => ?_)
              · exact absurd q800 (by decide)
              · refine zV.goto (tgt := 856) C dL_thrown_803 (by decide) ?_
                refine zV.ic (v := nI 1) C dL_thrown_856 (by decide) ?_
                refine zV.goto (tgt := 861) C dL_thrown_857 (by decide) ?_
                refine zV.jstore (lo' := [(0, _), (1, _), (3, _), (4, _), (5, _), (6, _), (7, _)]) C dL_thrown_861 (by decide) rfl rfl rfl ?_
                exact zV.up (by omega) (by omega) (kk _ ⟨f, _, _, _, _, q, by first | exact h11 | decide⟩)
set_option maxHeartbeats 4000000 in
set_option maxRecDepth 100000 in
theorem L_thC2 {X : zX} {l : Launch} {E : zG} {rm : Room} (hzs : zS E) (hst : l.stackTraces = false) (C : zC X cL_thrown RL 9) (G : zGX X l E rm) {h0 : zH} {a lo m : Nat} {g : zGd} {us : List zGd} {sn : Option zGd} {S : Int64} (hr : rm = ({ frames := 10, cells := 4000, slots := 100000, locals := 254 } : Room)) (hR : gR m g) (hb : m + 50000 ≤ big) (hX : gX g ≤ 99) (hO : gO g = 3) (hlN : lo ≤ hN h0) {k i k9 : Nat} {c9 : zCh} (hi99 : i < 99) (ek : kc g (nI i) = some (k9, c9)) {h : zH} {kc ks : Nat} (S9 : thS h0 h a lo g us sn) (hk : kc + 5 ≤ 4000) (hs : ks + 30 ≤ 100000) (kk : ∀ h', thS h0 h' a lo g us sn → zV X (kc + 5) (ks + 30) h' 954 [(0, .ref a), (1, .long S), (3, .int (nI (gC g).length)), (4, .int (nI 3)), (5, .int (nI 1)), (6, .int (nI k)), (7, .int (nI i))] []) : zV X kc ks h 863 [(0, .ref a), (1, .long S), (3, .int (nI (gC g).length)), (4, .int (nI 3)), (5, .int (nI 1)), (6, .int (nI k)), (7, .int (nI i))] [] := by
  subst hr
  have hw : gW g := gW_of hR.1.1 hR.1.2.2.2 (Nat.le_trans (Nat.le_add_right _ _) hb)
  have h59 : ∀ l, l < 6 → hsz (gC g) l ≤ 5 := hR.1.2.2.1
  have n12 := gW_len hw
  obtain ⟨f, off, rs, dt, cs, q, h11⟩ := S9
  refine zV.aload_n C dL_thrown_863 rfl rfl ?_
  refine zV.iload C dL_thrown_864 rfl ?_
  refine zV.callSW (n := 2) C G dL_thrown_866 (w_rust hzs hst q hw _) rfl ⟨cd_L_rust, lk_L_341, st_L_rust, in_L⟩ ⟨⟨by decide, by decide⟩, by decide⟩ rfl (zRm_v 4000 100000 rfl rfl rfl (by omega) (by omega)) rfl (zafQe (ru_v ek) ?_) (zno)
  refine zV.if_ne (tgt := 910) C dL_thrown_869 (by decide) (fun q869 => ?_) (fun q869 => ?_)
  · refine zV.iload C dL_thrown_910 rfl ?_
    refine zV.if_ne (tgt := 954) C dL_thrown_912 (by decide) (fun q912 => ?_) (fun q912 => ?_)
    · exact zV.up (by omega) (by omega) (kk _ ⟨f, _, _, _, _, q, by first | exact h11 | decide⟩)
    · exact absurd q912 (by decide)
  · have b : chR c9 = 0 := (n0 (by have := gW_c hw (kc_some ek).2.1; omega)).mp q869
    refine zV.iload C dL_thrown_872 rfl ?_
    refine zV.if_eq (tgt := 904) C dL_thrown_874 (by decide) (fun q874 => ?_) (fun q874 => ?_)
    · exact absurd q874 (by decide)
    · refine zV.aload_n C dL_thrown_877 rfl rfl ?_
      refine zV.iload C dL_thrown_878 rfl ?_
      refine zV.callSW (n := 2) C G dL_thrown_880 (w_oilChair hzs hst q hR (Nat.le_trans (by omega) hb) _) rfl ⟨cd_L_oilChair, lk_L_298, st_L_oilChair, in_L⟩ ⟨⟨by decide, by decide⟩, by decide⟩ rfl (zRm_v 4000 100000 rfl rfl rfl (by omega) (by omega)) rfl (zafCe (v := -1002) ((anI_3 (by rw [(jr_111 ek b).trans (by rw [hO])])).trans (by decide)) (fun h9 p9 => ?_)) (zno)
      obtain ⟨f9, q⟩ := chgP_3 ((jr_111 ek b).trans (by rw [hO])) p9
      have f := f.trans f9
      refine zV.si (v := (-1002)) C dL_thrown_883 (by decide) ?_
      refine zV.icmp_ne (tgt := 904) C dL_thrown_886 (by decide) (fun q886 => ?_) (fun q886 => ?_)
      · exact absurd rfl q886
      · refine zV.aload_n C dL_thrown_889 rfl rfl ?_
        refine zV.bi (v := nI 8) C dL_thrown_890 (by decide) ?_
        refine zV.iload C dL_thrown_892 rfl ?_
        refine zV.callS (n := 3) C G dL_thrown_894 (s_is hzs hst _ a lo g us sn _ _ _ _ [] _ q (by decide) (by decide)) rfl ⟨cd_L_is, lk_L_329, st_L_is, in_L⟩ ⟨⟨by decide, by decide⟩, by decide⟩ rfl (zRm_v 4000 100000 rfl rfl rfl (by omega) (by omega)) rfl (zaf ?_) (zno)
        refine zV.if_eq (tgt := 904) C dL_thrown_897 (by decide) (fun q897 => ?_) (fun q897 => ?_)
        · exact absurd q897 (by decide)
        · refine zV.ic (v := nI 1) C dL_thrown_900 (by decide) ?_
          refine zV.goto (tgt := 905) C dL_thrown_901 (by decide) ?_
          refine zV.jstore (lo' := [(0, _), (1, _), (3, _), (4, _), (5, _), (6, _), (7, _)]) C dL_thrown_905 (by decide) rfl rfl rfl ?_
          refine zV.goto (tgt := 954) C dL_thrown_907 (by decide) ?_
          exact zV.up (by omega) (by omega) (kk _ ⟨f, _, _, _, _, q, by first | exact h11 | decide⟩)
set_option maxHeartbeats 4000000 in
set_option maxRecDepth 100000 in
theorem L_thC {X : zX} {l : Launch} {E : zG} {rm : Room} (hzs : zS E) (hst : l.stackTraces = false) (C : zC X cL_thrown RL 9) (G : zGX X l E rm) {h0 : zH} {a lo m : Nat} {g : zGd} {us : List zGd} {sn : Option zGd} {S : Int64} (hr : rm = ({ frames := 10, cells := 4000, slots := 100000, locals := 254 } : Room)) (hR : gR m g) (hb : m + 50000 ≤ big) (hX : gX g ≤ 99) (hO : gO g = 3) (hlN : lo ≤ hN h0) {K KS : Nat} (hK : K ≤ 4000) (hKS : KS ≤ 100000) : ∀ n k (h : zH) kc ks, k + n = (gC g).length → kc + 17 * n ≤ K → ks + 102 * n ≤ KS → thS h0 h a lo g us sn → (∀ h', thS h0 h' a lo g us sn → zV X K KS h' 960 [(0, .ref a), (1, .long S), (3, .int (nI (gC g).length)), (4, .int (nI 3)), (5, .int (nI 1))] []) → zV X kc ks h 710 [(0, .ref a), (1, .long S), (3, .int (nI (gC g).length)), (4, .int (nI 3)), (5, .int (nI 1)), (6, .int (nI k))] [] := by
  have hr0 := hr
  subst hr
  have hw : gW g := gW_of hR.1.1 hR.1.2.2.2 (Nat.le_trans (Nat.le_add_right _ _) hb)
  have h59 : ∀ l, l < 6 → hsz (gC g) l ≤ 5 := hR.1.2.2.1
  have n12 := gW_len hw
  intro n
  induction n with
  | zero =>
    intro k h kc ks hi9 h1 h2 S9 kk
    obtain rfl : k = (gC g).length := by omega
    refine zV.iload C dL_thrown_710 rfl ?_
    refine zV.iload_n C dL_thrown_712 rfl ?_
    refine zV.icmp_ge (tgt := 960) C dL_thrown_713 (by decide) (fun q713 => ?_) (fun q713 => ?_)
    · exact zV.up (by omega) (by omega) (zV.sub [0, 1, 2, 3, 4] rfl (kk h S9))
    · exact absurd (nI_le (Nat.le_refl _) (by omega)) q713
  | succ n ih =>
    intro k h kc ks hi9 h1 h2 S9 kk
    have S0 := S9
    obtain ⟨f, off, rs, dt, cs, q, h11⟩ := S9
    have hkn : k < (gC g).length := by omega
    obtain ⟨i, ch, k9, c9, -, -, ei, hi99, ek⟩ := br_k hw hX hkn
    refine zV.iload C dL_thrown_710 rfl ?_
    refine zV.iload_n C dL_thrown_712 rfl ?_
    refine zV.icmp_ge (tgt := 960) C dL_thrown_713 (by decide) (fun q713 => ?_) (fun q713 => ?_)
    · exact absurd (nle (by omega) (by omega) q713) (by omega)
    · refine zV.aload_n C dL_thrown_716 rfl rfl ?_
      refine zV.iload C dL_thrown_717 rfl ?_
      refine zV.callSW (n := 2) C G dL_thrown_719 (w_byRust hzs hst q hw _) rfl ⟨cd_L_byRust, lk_L_280, st_L_byRust, in_L⟩ ⟨⟨by decide, by decide⟩, by decide⟩ rfl (zRm_v 4000 100000 rfl rfl rfl (by omega) (by omega)) rfl (zafQe ei ?_) (zno)
      refine zV.jstore (lo' := [(0, _), (1, _), (3, _), (4, _), (5, _), (6, _), (7, _)]) C dL_thrown_722 (by decide) rfl rfl rfl ?_
      refine L_thC1 hzs hst C G hr0 hR hb hX hO hlN hi99 ek S0 (by omega) (by omega) (fun h1 S1 => ?_)
      refine L_thC2 hzs hst C G hr0 hR hb hX hO hlN hi99 ek S1 (by omega) (by omega) (fun h2 S2 => ?_)
      refine zV.kinc (lo' := [(0, _), (1, _), (3, _), (4, _), (5, _), (6, _), (7, _)]) C dL_thrown_954 rfl (by decide) rfl rfl rfl ?_
      refine zV.goto (tgt := 710) C dL_thrown_957 (by decide) ?_
      rw [show nI k + Int32.ofInt 1 = nI (k + 1) from nI_add k 1]
      exact zV.sub [0, 1, 2, 3, 4, 5] rfl (ih (k + 1) h2 _ _ (by omega) (by omega) (by omega) S2 kk)
set_option maxHeartbeats 4000000 in
set_option maxRecDepth 100000 in
theorem L_th4 {X : zX} {l : Launch} {E : zG} {rm : Room} (hzs : zS E) (hst : l.stackTraces = false) (C : zC X cL_thrown RL 9) (G : zGX X l E rm) {h0 : zH} {a lo m : Nat} {g : zGd} {us : List zGd} {sn : Option zGd} {S : Int64} (hr : rm = ({ frames := 10, cells := 4000, slots := 100000, locals := 254 } : Room)) (hR : gR m g) (hb : m + 50000 ≤ big) (hX : gX g ≤ 99) (hO : gO g = 3) (hlN : lo ≤ hN h0) {h : zH} {kc ks : Nat} (S9 : thS h0 h a lo g us sn) (hk : kc + 80 ≤ 4000) (hs : ks + 6300 ≤ 100000) (kk : ∀ h', thS h0 h' a lo g us sn → zV X (kc + 80) (ks + 6300) h' 1326 [(0, .ref a), (1, .long S), (3, .int (nI (gC g).length)), (4, .int (nI 3)), (5, .int (nI 1))] []) : zV X kc ks h 960 [(0, .ref a), (1, .long S), (3, .int (nI (gC g).length)), (4, .int (nI 3)), (5, .int (nI 1))] [] := by
  subst hr
  have hw : gW g := gW_of hR.1.1 hR.1.2.2.2 (Nat.le_trans (Nat.le_add_right _ _) hb)
  have h59 : ∀ l, l < 6 → hsz (gC g) l ≤ 5 := hR.1.2.2.1
  have n12 := gW_len hw
  obtain ⟨f, off, rs, dt, cs, q, h11⟩ := S9
  refine zV.iload C dL_thrown_960 rfl ?_
  refine zV.if_eq (tgt := 1323) C dL_thrown_962 (by decide) (fun q962 => ?_) (fun q962 => ?_)
  · exact absurd q962 (by decide)
  · refine zV.aload_n C dL_thrown_965 rfl rfl ?_
    refine zV.bi (v := nI 6) C dL_thrown_966 (by decide) ?_
    refine zV.ic (v := nI 0) C dL_thrown_968 (by decide) ?_
    refine zV.callSW (n := 3) C G dL_thrown_969 (w_isPath hzs hst q hw _ _) rfl ⟨cd_L_isPath, lk_L_333, st_L_isPath, in_L⟩ ⟨⟨by decide, by decide⟩, by decide⟩ rfl (zRm_v 4000 100000 rfl rfl rfl (by omega) (by omega)) rfl (zafBe (by unfold q_isPath; rw [lawA_n ln_6] <;> rfl) ?_) (zno)
    refine zV.si (v := (-1001)) C dL_thrown_972 (by decide) ?_
    refine zV.icmp_ne (tgt := 1323) C dL_thrown_975 (by decide) (fun q975 => ?_) (fun q975 => ?_)
    · exact absurd rfl q975
    · refine zV.aload_n C dL_thrown_978 rfl rfl ?_
      refine zV.ic (v := nI 2) C dL_thrown_979 (by decide) ?_
      refine zV.ic (v := nI 2) C dL_thrown_980 (by decide) ?_
      refine zV.callSW (n := 3) C G dL_thrown_981 (w_isPath hzs hst q hw _ _) rfl ⟨cd_L_isPath, lk_L_333, st_L_isPath, in_L⟩ ⟨⟨by decide, by decide⟩, by decide⟩ rfl (zRm_v 4000 100000 rfl rfl rfl (by omega) (by omega)) rfl (zafBe ((isPath_v (by decide) (by decide)).trans (if_neg (by rw [hR.2.2.2.1 2 (by decide)]; decide))) ?_) (zno)
      refine zV.if_ne (tgt := 1323) C dL_thrown_984 (by decide) (fun q984 => ?_) (fun q984 => ?_)
      · exact absurd rfl q984
      · refine zV.aload_n C dL_thrown_987 rfl rfl ?_
        refine zV.ic (v := (-1)) C dL_thrown_988 (by decide) ?_
        refine zV.ic (v := nI 0) C dL_thrown_989 (by decide) ?_
        refine zV.callSW (n := 3) C G dL_thrown_990 (w_distance hzs hst q hw _ _) rfl ⟨cd_L_distance, lk_L_276, st_L_distance, in_L⟩ ⟨⟨by decide, by decide⟩, by decide⟩ rfl (zRm_v 4000 100000 rfl rfl rfl (by omega) (by omega)) rfl (zafQe (by unfold q_distance; rw [lawA_n ln_m] <;> decide) ?_) (zno)
        refine zV.si (v := (-1001)) C dL_thrown_993 (by decide) ?_
        refine zV.icmp_ne (tgt := 1323) C dL_thrown_996 (by decide) (fun q996 => ?_) (fun q996 => ?_)
        · exact absurd rfl q996
        · refine zV.aload_n C dL_thrown_999 rfl rfl ?_
          refine zV.ic (v := nI 0) C dL_thrown_1000 (by decide) ?_
          refine zV.bi (v := nI 6) C dL_thrown_1001 (by decide) ?_
          refine zV.callSW (n := 3) C G dL_thrown_1003 (w_distanceAgain hzs hst q _ _) rfl ⟨cd_L_distanceAgain, lk_L_344, st_L_distanceAgain, in_L⟩ ⟨⟨by decide, by decide⟩, by decide⟩ rfl (zRm_v 4000 100000 rfl rfl rfl (by omega) (by omega)) rfl (zafCe (by unfold q_distanceAgain; rw [lawA_s (ln_n 0 (by decide)), lawA_n ln_6] <;> decide) (fun h9 p9 => ?_)) (zno)
          have f := f.trans p9.1
          have q := p9.2
          refine zV.si (v := (-1001)) C dL_thrown_1006 (by decide) ?_
          refine zV.icmp_ne (tgt := 1323) C dL_thrown_1009 (by decide) (fun q1009 => ?_) (fun q1009 => ?_)
          · exact absurd rfl q1009
          · refine zV.aload_n C dL_thrown_1012 rfl rfl ?_
            refine zV.bi (v := nI 6) C dL_thrown_1013 (by decide) ?_
            refine zV.ic (v := nI 0) C dL_thrown_1015 (by decide) ?_
            refine zV.ic (v := nI 0) C dL_thrown_1016 (by decide) ?_
            refine zV.callSW (n := 4) C G dL_thrown_1017 (w_routeAt hzs hst q hw _ _ _) rfl ⟨cd_L_routeAt, lk_L_347, st_L_routeAt, in_L⟩ ⟨⟨by decide, by decide⟩, by decide⟩ rfl (zRm_v 4000 100000 rfl rfl rfl (by omega) (by omega)) rfl (zafQe (by unfold q_routeAt; rw [lawA_n ln_6] <;> decide) ?_) (zno)
            refine zV.si (v := (-1001)) C dL_thrown_1020 (by decide) ?_
            refine zV.icmp_ne (tgt := 1323) C dL_thrown_1023 (by decide) (fun q1023 => ?_) (fun q1023 => ?_)
            · exact absurd rfl q1023
            · refine zV.aload_n C dL_thrown_1026 rfl rfl ?_
              refine zV.bi (v := nI 6) C dL_thrown_1027 (by decide) ?_
              refine zV.callSW (n := 2) C G dL_thrown_1029 (w_reachable hzs hst q hw _) rfl ⟨cd_L_reachable, lk_L_350, st_L_reachable, in_L⟩ ⟨⟨by decide, by decide⟩, by decide⟩ rfl (zRm_v 4000 100000 rfl rfl rfl (by omega) (by omega)) rfl (zafQe (by unfold q_reachable; rw [lawA_n ln_6] <;> decide) ?_) (zno)
              refine zV.si (v := (-1001)) C dL_thrown_1032 (by decide) ?_
              refine zV.icmp_ne (tgt := 1323) C dL_thrown_1035 (by decide) (fun q1035 => ?_) (fun q1035 => ?_)
              · exact absurd rfl q1035
              · refine zV.aload_n C dL_thrown_1038 rfl rfl ?_
                refine zV.ic (v := (-1)) C dL_thrown_1039 (by decide) ?_
                refine zV.callSW (n := 2) C G dL_thrown_1040 (w_shade hzs hst q hw _) rfl ⟨cd_L_shade, lk_L_353, st_L_shade, in_L⟩ ⟨⟨by decide, by decide⟩, by decide⟩ rfl (zRm_v 4000 100000 rfl rfl rfl (by omega) (by omega)) rfl (zafQe (by unfold q_shade; rw [lawA_n ln_m] <;> decide) ?_) (zno)
                refine zV.si (v := (-1001)) C dL_thrown_1043 (by decide) ?_
                refine zV.icmp_ne (tgt := 1323) C dL_thrown_1046 (by decide) (fun q1046 => ?_) (fun q1046 => ?_)
                · exact absurd rfl q1046
                · refine zV.aload_n C dL_thrown_1049 rfl rfl ?_
                  refine zV.bi (v := nI 99) C dL_thrown_1050 (by decide) ?_
                  refine zV.callSW (n := 2) C G dL_thrown_1052 (w_lawnOf hzs hst q hw _) rfl ⟨cd_L_lawnOf, lk_L_339, st_L_lawnOf, in_L⟩ ⟨⟨by decide, by decide⟩, by decide⟩ rfl (zRm_v 4000 100000 rfl rfl rfl (by omega) (by omega)) rfl (zafQe (by unfold q_lawnOf; rw [chQ_n (kc_99 hw hX)] <;> decide) ?_) (zno)
                  refine zV.si (v := (-1001)) C dL_thrown_1055 (by decide) ?_
                  refine zV.icmp_ne (tgt := 1323) C dL_thrown_1058 (by decide) (fun q1058 => ?_) (fun q1058 => ?_)
                  · exact absurd rfl q1058
                  · refine zV.aload_n C dL_thrown_1061 rfl rfl ?_
                    refine zV.ic (v := (-1)) C dL_thrown_1062 (by decide) ?_
                    refine zV.callSW (n := 2) C G dL_thrown_1063 (w_rust hzs hst q hw _) rfl ⟨cd_L_rust, lk_L_341, st_L_rust, in_L⟩ ⟨⟨by decide, by decide⟩, by decide⟩ rfl (zRm_v 4000 100000 rfl rfl rfl (by omega) (by omega)) rfl (zafQe (by unfold q_rust; rw [chQ_n (kc_m hw hX)] <;> decide) ?_) (zno)
                    refine zV.si (v := (-1001)) C dL_thrown_1066 (by decide) ?_
                    refine zV.icmp_ne (tgt := 1323) C dL_thrown_1069 (by decide) (fun q1069 => ?_) (fun q1069 => ?_)
                    · exact absurd rfl q1069
                    · refine zV.aload_n C dL_thrown_1072 rfl rfl ?_
                      refine zV.bi (v := nI 99) C dL_thrown_1073 (by decide) ?_
                      refine zV.callSW (n := 2) C G dL_thrown_1075 (w_isFolded hzs hst q hw _) rfl ⟨cd_L_isFolded, lk_L_337, st_L_isFolded, in_L⟩ ⟨⟨by decide, by decide⟩, by decide⟩ rfl (zRm_v 4000 100000 rfl rfl rfl (by omega) (by omega)) rfl (zafBe (by unfold q_isFolded; rw [chQ_n (kc_99 hw hX)] <;> rfl) ?_) (zno)
                      refine zV.si (v := (-1001)) C dL_thrown_1078 (by decide) ?_
                      refine zV.icmp_ne (tgt := 1323) C dL_thrown_1081 (by decide) (fun q1081 => ?_) (fun q1081 => ?_)
                      · exact absurd rfl q1081
                      · refine zV.aload_n C dL_thrown_1084 rfl rfl ?_
                        refine zV.bi (v := nI 99) C dL_thrown_1085 (by decide) ?_
                        refine zV.callSW (n := 2) C G dL_thrown_1087 (w_age hzs hst q hw _) rfl ⟨cd_L_age, lk_L_283, st_L_age, in_L⟩ ⟨⟨by decide, by decide⟩, by decide⟩ rfl (zRm_v 4000 100000 rfl rfl rfl (by omega) (by omega)) rfl (zafQe (by unfold q_age; rw [chQ_n (kc_99 hw hX)] <;> decide) ?_) (zno)
                        refine zV.si (v := (-1001)) C dL_thrown_1090 (by decide) ?_
                        refine zV.icmp_ne (tgt := 1323) C dL_thrown_1093 (by decide) (fun q1093 => ?_) (fun q1093 => ?_)
                        · exact absurd rfl q1093
                        · refine zV.aload_n C dL_thrown_1096 rfl rfl ?_
                          refine zV.bi (v := nI 99) C dL_thrown_1097 (by decide) ?_
                          refine zV.callSW (n := 2) C G dL_thrown_1099 (w_position hzs hst q hw _) rfl ⟨cd_L_position, lk_L_356, st_L_position, in_L⟩ ⟨⟨by decide, by decide⟩, by decide⟩ rfl (zRm_v 4000 100000 rfl rfl rfl (by omega) (by omega)) rfl (zafQe (by unfold q_position; rw [chQ_n (kc_99 hw hX)] <;> decide) ?_) (zno)
                          refine zV.si (v := (-1001)) C dL_thrown_1102 (by decide) ?_
                          refine zV.icmp_ne (tgt := 1323) C dL_thrown_1105 (by decide) (fun q1105 => ?_) (fun q1105 => ?_)
                          · exact absurd rfl q1105
                          · refine zV.aload_n C dL_thrown_1108 rfl rfl ?_
                            refine zV.bi (v := nI 6) C dL_thrown_1109 (by decide) ?_
                            refine zV.callSW (n := 2) C G dL_thrown_1111 (w_herdSize hzs hst q hw _) rfl ⟨cd_L_herdSize, lk_L_335, st_L_herdSize, in_L⟩ ⟨⟨by decide, by decide⟩, by decide⟩ rfl (zRm_v 4000 100000 rfl rfl rfl (by omega) (by omega)) rfl (zafQe (by unfold q_herdSize; rw [lawA_n ln_6] <;> decide) ?_) (zno)
                            refine zV.si (v := (-1001)) C dL_thrown_1114 (by decide) ?_
                            refine zV.icmp_ne (tgt := 1323) C dL_thrown_1117 (by decide) (fun q1117 => ?_) (fun q1117 => ?_)
                            · exact absurd rfl q1117
                            · refine zV.aload_n C dL_thrown_1120 rfl rfl ?_
                              refine zV.ic (v := (-1)) C dL_thrown_1121 (by decide) ?_
                              refine zV.callSW (n := 2) C G dL_thrown_1122 (w_herdSizeAgain hzs hst q hw _) rfl ⟨cd_L_herdSizeAgain, lk_L_359, st_L_herdSizeAgain, in_L⟩ ⟨⟨by decide, by decide⟩, by decide⟩ rfl (zRm_v 4000 100000 rfl rfl rfl (by omega) (by omega)) rfl (zafQe (by unfold q_herdSizeAgain; rw [lawA_n ln_m] <;> decide) ?_) (zno)
                              refine zV.si (v := (-1001)) C dL_thrown_1125 (by decide) ?_
                              refine zV.icmp_ne (tgt := 1323) C dL_thrown_1128 (by decide) (fun q1128 => ?_) (fun q1128 => ?_)
                              · exact absurd rfl q1128
                              · refine zV.aload_n C dL_thrown_1131 rfl rfl ?_
                                refine zV.bi (v := nI 6) C dL_thrown_1132 (by decide) ?_
                                refine zV.ic (v := nI 0) C dL_thrown_1134 (by decide) ?_
                                refine zV.callSW (n := 3) C G dL_thrown_1135 (w_chairAt hzs hst q hw _ _) rfl ⟨cd_L_chairAt, lk_L_362, st_L_chairAt, in_L⟩ ⟨⟨by decide, by decide⟩, by decide⟩ rfl (zRm_v 4000 100000 rfl rfl rfl (by omega) (by omega)) rfl (zafQe (by unfold q_chairAt; rw [lawA_n ln_6] <;> decide) ?_) (zno)
                                refine zV.si (v := (-1001)) C dL_thrown_1138 (by decide) ?_
                                refine zV.icmp_ne (tgt := 1323) C dL_thrown_1141 (by decide) (fun q1141 => ?_) (fun q1141 => ?_)
                                · exact absurd rfl q1141
                                · refine zV.aload_n C dL_thrown_1144 rfl rfl ?_
                                  refine zV.ic (v := nI 0) C dL_thrown_1145 (by decide) ?_
                                  refine zV.ic (v := nI 5) C dL_thrown_1146 (by decide) ?_
                                  refine zV.callSW (n := 3) C G dL_thrown_1147 (w_chairAt hzs hst q hw _ _) rfl ⟨cd_L_chairAt, lk_L_362, st_L_chairAt, in_L⟩ ⟨⟨by decide, by decide⟩, by decide⟩ rfl (zRm_v 4000 100000 rfl rfl rfl (by omega) (by omega)) rfl (zafQe (ca_5 (h59 0 (by decide))) ?_) (zno)
                                  refine zV.si (v := (-1002)) C dL_thrown_1150 (by decide) ?_
                                  refine zV.icmp_ne (tgt := 1323) C dL_thrown_1153 (by decide) (fun q1153 => ?_) (fun q1153 => ?_)
                                  · exact absurd rfl q1153
                                  · refine zV.aload_n C dL_thrown_1156 rfl rfl ?_
                                    refine zV.ic (v := nI 0) C dL_thrown_1157 (by decide) ?_
                                    refine zV.ic (v := (-1)) C dL_thrown_1158 (by decide) ?_
                                    refine zV.callSW (n := 3) C G dL_thrown_1159 (w_chairAt hzs hst q hw _ _) rfl ⟨cd_L_chairAt, lk_L_362, st_L_chairAt, in_L⟩ ⟨⟨by decide, by decide⟩, by decide⟩ rfl (zRm_v 4000 100000 rfl rfl rfl (by omega) (by omega)) rfl (zafQe (ca_m (h59 0 (by decide))) ?_) (zno)
                                    refine zV.si (v := (-1002)) C dL_thrown_1162 (by decide) ?_
                                    refine zV.icmp_ne (tgt := 1323) C dL_thrown_1165 (by decide) (fun q1165 => ?_) (fun q1165 => ?_)
                                    · exact absurd rfl q1165
                                    · refine zV.aload_n C dL_thrown_1168 rfl rfl ?_
                                      refine zV.bi (v := nI 6) C dL_thrown_1169 (by decide) ?_
                                      refine zV.callSW (n := 2) C G dL_thrown_1171 (w_elder hzs hst q hw _) rfl ⟨cd_L_elder, lk_L_268, st_L_elder, in_L⟩ ⟨⟨by decide, by decide⟩, by decide⟩ rfl (zRm_v 4000 100000 rfl rfl rfl (by omega) (by omega)) rfl (zafQe (by unfold q_elder; rw [lawA_n ln_6] <;> decide) ?_) (zno)
                                      refine zV.si (v := (-1001)) C dL_thrown_1174 (by decide) ?_
                                      refine zV.icmp_ne (tgt := 1323) C dL_thrown_1177 (by decide) (fun q1177 => ?_) (fun q1177 => ?_)
                                      · exact absurd rfl q1177
                                      · refine zV.aload_n C dL_thrown_1180 rfl rfl ?_
                                        refine zV.bi (v := nI 6) C dL_thrown_1181 (by decide) ?_
                                        refine zV.callSW (n := 2) C G dL_thrown_1183 (w_hungry hzs hst q hw _) rfl ⟨cd_L_hungry, lk_L_364, st_L_hungry, in_L⟩ ⟨⟨by decide, by decide⟩, by decide⟩ rfl (zRm_v 4000 100000 rfl rfl rfl (by omega) (by omega)) rfl (zafQe (by unfold q_hungry; rw [lawA_n ln_6] <;> decide) ?_) (zno)
                                        refine zV.si (v := (-1001)) C dL_thrown_1186 (by decide) ?_
                                        refine zV.icmp_ne (tgt := 1323) C dL_thrown_1189 (by decide) (fun q1189 => ?_) (fun q1189 => ?_)
                                        · exact absurd rfl q1189
                                        · refine zV.aload_n C dL_thrown_1192 rfl rfl ?_
                                          refine zV.bi (v := nI 6) C dL_thrown_1193 (by decide) ?_
                                          refine zV.callSW (n := 2) C G dL_thrown_1195 (w_bestNeighbour hzs hst q hw _) rfl ⟨cd_L_bestNeighbour, lk_L_271, st_L_bestNeighbour, in_L⟩ ⟨⟨by decide, by decide⟩, by decide⟩ rfl (zRm_v 4000 100000 rfl rfl rfl (by omega) (by omega)) rfl (zafQe (by unfold q_bestNeighbour; rw [lawA_n ln_6] <;> decide) ?_) (zno)
                                          refine zV.si (v := (-1001)) C dL_thrown_1198 (by decide) ?_
                                          refine zV.icmp_ne (tgt := 1323) C dL_thrown_1201 (by decide) (fun q1201 => ?_) (fun q1201 => ?_)
                                          · exact absurd rfl q1201
                                          · refine zV.aload_n C dL_thrown_1204 rfl rfl ?_
                                            refine zV.ic (v := (-1)) C dL_thrown_1205 (by decide) ?_
                                            refine zV.callSW (n := 2) C G dL_thrown_1206 (w_daysUntil hzs hst q hw _) rfl ⟨cd_L_daysUntil, lk_L_367, st_L_daysUntil, in_L⟩ ⟨⟨by decide, by decide⟩, by decide⟩ rfl (zRm_v 4000 100000 rfl rfl rfl (by omega) (by omega)) rfl (zafQe (by unfold q_daysUntil; rw [du_n (show s4 (-1) = none by decide)] <;> decide) ?_) (zno)
                                            refine zV.si (v := (-1001)) C dL_thrown_1209 (by decide) ?_
                                            refine zV.icmp_ne (tgt := 1323) C dL_thrown_1212 (by decide) (fun q1212 => ?_) (fun q1212 => ?_)
                                            · exact absurd rfl q1212
                                            · refine zV.aload_n C dL_thrown_1215 rfl rfl ?_
                                              refine zV.ic (v := nI 4) C dL_thrown_1216 (by decide) ?_
                                              refine zV.callSW (n := 2) C G dL_thrown_1217 (w_daysUntil hzs hst q hw _) rfl ⟨cd_L_daysUntil, lk_L_367, st_L_daysUntil, in_L⟩ ⟨⟨by decide, by decide⟩, by decide⟩ rfl (zRm_v 4000 100000 rfl rfl rfl (by omega) (by omega)) rfl (zafQe (by unfold q_daysUntil; rw [du_n (show s4 (nI 4) = none by decide)] <;> decide) ?_) (zno)
                                              refine zV.si (v := (-1001)) C dL_thrown_1220 (by decide) ?_
                                              refine zV.icmp_ne (tgt := 1323) C dL_thrown_1223 (by decide) (fun q1223 => ?_) (fun q1223 => ?_)
                                              · exact absurd rfl q1223
                                              · refine zV.aload_n C dL_thrown_1226 rfl rfl ?_
                                                refine zV.ic (v := nI 0) C dL_thrown_1227 (by decide) ?_
                                                refine zV.callSW (n := 2) C G dL_thrown_1228 (w_wouldCollapse hzs hst q hR.1 (Nat.le_trans (by omega) hb) _) rfl ⟨cd_L_wouldCollapse, lk_L_266, st_L_wouldCollapse, in_L⟩ ⟨⟨by decide, by decide⟩, by decide⟩ rfl (zRm_v 4000 100000 rfl rfl rfl (by omega) (by omega)) rfl (zafCe (by unfold q_wouldCollapse wcA; rw [if_neg (by decide)] <;> decide) (fun h9 p9 => ?_)) (zno)
                                                have f := f.trans p9.1
                                                have q := p9.2
                                                refine zV.si (v := (-1001)) C dL_thrown_1231 (by decide) ?_
                                                refine zV.icmp_ne (tgt := 1323) C dL_thrown_1234 (by decide) (fun q1234 => ?_) (fun q1234 => ?_)
                                                · exact absurd rfl q1234
                                                · refine zV.aload_n C dL_thrown_1237 rfl rfl ?_
                                                  refine zV.bi (v := nI 99) C dL_thrown_1238 (by decide) ?_
                                                  refine zV.callSW (n := 2) C G dL_thrown_1240 (w_collapseDay hzs hst q hR.1 (Nat.le_trans (by omega) hb) _) rfl ⟨cd_L_collapseDay, lk_L_369, st_L_collapseDay, in_L⟩ ⟨⟨by decide, by decide⟩, by decide⟩ rfl (zRm_v 4000 100000 rfl rfl rfl (by omega) (by omega)) rfl (zafCe (by unfold q_collapseDay cdA; rw [chQ_n (kc_99 hw hX)] <;> decide) (fun h9 p9 => ?_)) (zno)
                                                  have f := f.trans p9.1
                                                  have q := p9.2
                                                  refine zV.si (v := (-1001)) C dL_thrown_1243 (by decide) ?_
                                                  refine zV.icmp_ne (tgt := 1323) C dL_thrown_1246 (by decide) (fun q1246 => ?_) (fun q1246 => ?_)
                                                  · exact absurd rfl q1246
                                                  · refine zV.aload_n C dL_thrown_1249 rfl rfl ?_
                                                    refine zV.iload_n C dL_thrown_1250 rfl ?_
                                                    refine zV.callSW (n := 2) C G dL_thrown_1251 (w_byRust hzs hst q hw _) rfl ⟨cd_L_byRust, lk_L_280, st_L_byRust, in_L⟩ ⟨⟨by decide, by decide⟩, by decide⟩ rfl (zRm_v 4000 100000 rfl rfl rfl (by omega) (by omega)) rfl (zafQe (br_n hw) ?_) (zno)
                                                    refine zV.si (v := (-1001)) C dL_thrown_1254 (by decide) ?_
                                                    refine zV.icmp_ne (tgt := 1323) C dL_thrown_1257 (by decide) (fun q1257 => ?_) (fun q1257 => ?_)
                                                    · exact absurd rfl q1257
                                                    · refine zV.aload_n C dL_thrown_1260 rfl rfl ?_
                                                      refine zV.ic (v := (-1)) C dL_thrown_1261 (by decide) ?_
                                                      refine zV.callSW (n := 2) C G dL_thrown_1262 (w_byShade hzs hst q hw _) rfl ⟨cd_L_byShade, lk_L_273, st_L_byShade, in_L⟩ ⟨⟨by decide, by decide⟩, by decide⟩ rfl (zRm_v 4000 100000 rfl rfl rfl (by omega) (by omega)) rfl (zafQe bs_m ?_) (zno)
                                                      refine zV.si (v := (-1001)) C dL_thrown_1265 (by decide) ?_
                                                      refine zV.icmp_ne (tgt := 1323) C dL_thrown_1268 (by decide) (fun q1268 => ?_) (fun q1268 => ?_)
                                                      · exact absurd rfl q1268
                                                      · refine zV.aload_n C dL_thrown_1271 rfl rfl ?_
                                                        refine zV.bi (v := nI 6) C dL_thrown_1272 (by decide) ?_
                                                        refine zV.callSW (n := 2) C G dL_thrown_1274 (w_writeLawn hzs hst q hw (by omega) h59 (Nat.le_trans hlN f.1) _) rfl ⟨cd_L_writeLawn, lk_L_278, st_L_writeLawn, in_L⟩ ⟨⟨by decide, by decide⟩, by decide⟩ rfl (zRm_v 4000 100000 rfl rfl rfl (by omega) (by omega)) rfl (zafCe (by unfold q_writeLawn wlA; rw [lawA_n ln_6] <;> decide) (fun h9 p9 => ?_)) (zno)
                                                        have f := f.trans p9.1
                                                        have q := p9.2
                                                        rw [show wlO g (nI 6) (wl g 5) = wl g 5 by unfold wlO; rw [ln_6]] at q
                                                        refine zV.si (v := (-1001)) C dL_thrown_1277 (by decide) ?_
                                                        refine zV.icmp_ne (tgt := 1323) C dL_thrown_1280 (by decide) (fun q1280 => ?_) (fun q1280 => ?_)
                                                        · exact absurd rfl q1280
                                                        · refine zV.aload_n C dL_thrown_1283 rfl rfl ?_
                                                          refine zV.ic (v := (-1)) C dL_thrown_1284 (by decide) ?_
                                                          refine zV.callSW (n := 2) C G dL_thrown_1285 (w_outputAt hzs hst q _) rfl ⟨cd_L_outputAt, lk_L_198, st_L_outputAt, in_L⟩ ⟨⟨by decide, by decide⟩, by decide⟩ rfl (zRm_v 4000 100000 rfl rfl rfl (by omega) (by omega)) rfl (zafQe (by unfold q_outputAt ouA; rw [if_pos (by decide)] <;> decide) ?_) (zno)
                                                          refine zV.si (v := (-1001)) C dL_thrown_1288 (by decide) ?_
                                                          refine zV.icmp_ne (tgt := 1323) C dL_thrown_1291 (by decide) (fun q1291 => ?_) (fun q1291 => ?_)
                                                          · exact absurd rfl q1291
                                                          · refine zV.aload_n C dL_thrown_1294 rfl rfl ?_
                                                            refine zV.bi (v := nI 60) C dL_thrown_1295 (by decide) ?_
                                                            refine zV.callSW (n := 2) C G dL_thrown_1297 (w_outputAt hzs hst q _) rfl ⟨cd_L_outputAt, lk_L_198, st_L_outputAt, in_L⟩ ⟨⟨by decide, by decide⟩, by decide⟩ rfl (zRm_v 4000 100000 rfl rfl rfl (by omega) (by omega)) rfl (zafQe (ou_60 (wl_60 hw hX hR.1.2.1 (h59 5 (by decide)) (by decide))) ?_) (zno)
                                                            refine zV.si (v := (-1001)) C dL_thrown_1300 (by decide) ?_
                                                            refine zV.icmp_ne (tgt := 1323) C dL_thrown_1303 (by decide) (fun q1303 => ?_) (fun q1303 => ?_)
                                                            · exact absurd rfl q1303
                                                            · refine zV.aload_n C dL_thrown_1306 rfl rfl ?_
                                                              refine zV.si (v := nI 200) C dL_thrown_1307 (by decide) ?_
                                                              refine zV.callSW (n := 2) C G dL_thrown_1310 (w_append hzs hst q _) rfl ⟨cd_L_append, lk_L_180, st_L_append, in_L⟩ ⟨⟨by decide, by decide⟩, by decide⟩ rfl (zRm_v 4000 100000 rfl rfl rfl (by omega) (by omega)) rfl (zafCe (by unfold q_append aiA; rw [if_pos (Or.inr (by decide))] <;> decide) (fun h9 p9 => ?_)) (zno)
                                                              have f := f.trans p9.1
                                                              have q := p9.2
                                                              rw [show aiT [] (nI 200) = [] by unfold aiT; rw [if_pos (Or.inr (by decide))]] at q
                                                              refine zV.si (v := (-1001)) C dL_thrown_1313 (by decide) ?_
                                                              refine zV.icmp_ne (tgt := 1323) C dL_thrown_1316 (by decide) (fun q1316 => ?_) (fun q1316 => ?_)
                                                              · exact absurd rfl q1316
                                                              · refine zV.ic (v := nI 1) C dL_thrown_1319 (by decide) ?_
                                                                refine zV.goto (tgt := 1324) C dL_thrown_1320 (by decide) ?_
                                                                refine zV.jstore (lo' := [(0, _), (1, _), (3, _), (4, _), (5, _)]) C dL_thrown_1324 (by decide) rfl rfl rfl ?_
                                                                exact zV.up (by omega) (by omega) (kk _ ⟨f, _, _, _, _, q, by first | exact h11 | decide⟩)
