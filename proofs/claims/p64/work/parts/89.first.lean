/-! the law: its first object -/
/-- a change that is done: from g to g' with the answer v -/
def stE (g : zGd) (d : Nat) (x y : Int32) (g' : zGd) (v : Int32) : Prop := (jd g d x y).1 = 0 ∧ (ap g d x y).1 = g' ∧ (ap g d x y).2 = v
theorem stE_v {g g' : zGd} {d : Nat} {x y v : Int32} {cf : String → Int32} (S : stE g d x y g' v) : anI (chgA g d x y) cf = v := (anI_0 S.1).trans S.2.2
theorem stE_p {h h' : zH} {a lo : Nat} {g : zGd} {us : List zGd} {sn : Option zGd} {off rs dt cs : Int32} {t o : List Nat} {d : Nat} {x y v : Int32} {g' : zGd} (S : stE g d x y g' v) (p : chgP h a lo d x y g us sn off rs dt cs t o h') : zXa h' a lo g' (kp us g) sn off rs dt cs t o := by
  have p2 := p.2
  rw [if_pos S.1, S.2.1] at p2
  exact p2
theorem rjE_p {h h' : zH} {a lo : Nat} {g : zGd} {us : List zGd} {sn : Option zGd} {off rs dt cs : Int32} {t o : List Nat} {d r : Nat} {x y v : Int32} (e : jd g d x y = (3, r, v)) (p : chgP h a lo d x y g us sn off rs dt cs t o h') : zXa h' a lo g us sn off (nI r) v 0 t o := by
  have p2 := p.2
  rw [e] at p2
  rw [if_neg (by show (3 : Nat) ≠ 0; decide), if_pos rfl] at p2
  exact p2
theorem rjE_v {g : zGd} {d r : Nat} {x y v : Int32} {cf : String → Int32} (e : jd g d x y = (3, r, v)) : anI (chgA g d x y) cf = cf UOE := anI_3 (by rw [e])
theorem un_v {us vs : List zGd} {g' : zGd} {cf : String → Int32} (e : us = vs ++ [g']) : anI (q_undo us) cf = nI vs.length := by
  subst e
  unfold q_undo unA
  rw [if_neg (List.append_ne_nil_of_right_ne_nil _ (List.cons_ne_nil _ _)), List.length_append]
  rfl
theorem un_p {h h' : zH} {a lo : Nat} {g : zGd} {us : List zGd} {sn : Option zGd} {off rs dt cs : Int32} {t o : List Nat} {vs : List zGd} {g' : zGd} (e : us = vs ++ [g']) (p : unP h a lo g us sn off rs dt cs t o h') : zXf h h' a lo ∧ zXa h' a lo g' vs sn off rs dt cs t o := by
  subst e
  obtain ⟨f, p2⟩ := p
  rw [List.getLast?_concat, List.dropLast_concat] at p2
  exact ⟨f, p2⟩
theorem un_v0 {cf : String → Int32} : anI (q_undo []) cf = cf ISE := by
  unfold q_undo unA
  rw [if_pos rfl]
  rfl
theorem un_p0 {h h' : zH} {a lo : Nat} {g : zGd} {sn : Option zGd} {off rs dt cs : Int32} {t o : List Nat} (p : unP h a lo g [] sn off rs dt cs t o h') : zXf h h' a lo ∧ zXa h' a lo g [] sn off rs dt cs t o := p
theorem rs_v {z : zGd} {cf : String → Int32} : anI (q_restore (some z)) cf = nI (gC z).length := rfl
theorem rs_p {h h' : zH} {a lo : Nat} {g z : zGd} {us : List zGd} {off rs dt cs : Int32} {t o : List Nat} (p : rsP h a lo g us (some z) off rs dt cs t o h') : zXf h h' a lo ∧ zXa h' a lo z [] (some z) off rs dt cs t o := p
theorem rs_vn {cf : String → Int32} : anI (q_restore none) cf = cf ISE := rfl
theorem rs_pn {h h' : zH} {a lo : Nat} {g : zGd} {us : List zGd} {off rs dt cs : Int32} {t o : List Nat} (p : rsP h a lo g us none off rs dt cs t o h') : zXf h h' a lo ∧ zXa h' a lo g us none off rs dt cs t o := p
theorem hd_v {g : zGd} {x : Int32} {i : Nat} {cf : String → Int32} (e : ln x = some i) : anI (q_herdSize g x) cf = nI (hsz (gC g) i) := by
  unfold q_herdSize lawA
  rw [e]
  rfl
theorem se_v {off : Int32} {cf : String → Int32} (e : off ≠ -1) : anI (q_syntaxError off) cf = off := by
  unfold q_syntaxError elA
  rw [if_neg e]
  rfl
def txE (k : Nat) : List Nat := (List.range k).map (65 + ·)
theorem txE_l (k : Nat) : (txE k).length = k := by unfold txE; rw [List.length_map, List.length_range]
theorem txE_s (k : Nat) : txE (k + 1) = txE k ++ [65 + k] := by
  unfold txE
  rw [List.range_succ, List.map_append]
  rfl
theorem chrE (k : Nat) (hk : k < 60) : ((nI 65 + nI k).toUInt32 % 65536).toInt32 = nI (65 + k) ∧ ¬ (nI (65 + k) < nI 32 ∨ nI 126 < nI (65 + k)) ∧ (nI (65 + k)).toNatClampNeg = 65 + k := (show ∀ k, k < 60 → ((nI 65 + nI k).toUInt32 % 65536).toInt32 = nI (65 + k) ∧ ¬ (nI (65 + k) < nI 32 ∨ nI 126 < nI (65 + k)) ∧ (nI (65 + k)).toNatClampNeg = 65 + k by decide +kernel) k hk
theorem apE_v {k : Nat} {cf : String → Int32} (hk : k < 60) : anI (q_append (txE k) (nI (65 + k))) cf = nI (k + 1) := by
  unfold q_append aiA
  rw [if_neg (chrE k hk).2.1, if_pos (by rw [txE_l]; exact hk), txE_l]
  rfl
theorem apE_t {k : Nat} (hk : k < 60) : aiT (txE k) (nI (65 + k)) = txE (k + 1) := by
  unfold aiT
  rw [if_neg (chrE k hk).2.1, if_pos (by rw [txE_l]; exact hk), (chrE k hk).2.2, txE_s]
theorem apF_v {cf : String → Int32} : anI (q_append (txE 60) (nI 100)) cf = cf ISE := by
  unfold q_append aiA
  rw [if_neg (by decide), if_neg (by rw [txE_l]; decide)]
  rfl
theorem apF_t : aiT (txE 60) (nI 100) = txE 60 := by
  unfold aiT
  rw [if_neg (by decide), if_neg (by rw [txE_l]; decide)]
theorem apD_v {cf : String → Int32} : anI (q_append [] (nI 100)) cf = nI 1 := by
  unfold q_append aiA
  rw [if_neg (by decide), if_pos (by decide)]
  rfl
theorem apD_t : aiT [] (nI 100) = [100] := by
  unfold aiT
  rw [if_neg (by decide), if_pos (by decide)]
  rfl
theorem rdE_60 : rdS (txE 60) 61 0 [] = (some 0, []) := by decide +kernel
theorem rdE_d : rdS [100] 61 0 [] = (some 1, []) := by decide +kernel
theorem exE_v {g : zGd} {t : List Nat} {p : Nat} {K : List (Nat × Nat × Nat)} (e : rdS t 61 0 [] = (some p, K)) : anI (q_execute g t) (fun Ex => if Ex = IAE then -1001 else if Ex = ISE then -1002 else -1003) = -1001 := by
  unfold q_execute exA
  rw [e]
  show ((fun Ex => if Ex = IAE then -1001 else if Ex = ISE then -1002 else -1003) : String → Int32) IAE = -1001
  decide
/-- the kept gardens after k changes along c -/
def hsE (c : Nat → zGd) (u : List zGd) : Nat → List zGd
  | 0 => u
  | k + 1 => kp (hsE c u k) (c k)
theorem hsE_12 (c : Nat → zGd) (u d1 d2 d3 : zGd) : kp (kp (kp (kp (hsE c [u] 12) (c 12)) d1) d2) d3 = [c 8, c 9, c 10, c 11, c 12, d1, d2, d3] := by simp [hsE, kp]
set_option maxHeartbeats 4000000 in
set_option maxRecDepth 100000 in
theorem L_e57 {X : zX} {l : Launch} {E : zG} {rm : Room} (hzs : zS E) (hst : l.stackTraces = false) (C : zC X cL_law RL 11) (G : zGX X l E rm) (hr : rm = room_1) {sq : Nat} {g : zGd} {us : List zGd} {sn : Option zGd} {off rs dt cs : Int32} {o : List Nat} : ∀ n k (h : zH) kc ks, k + n = 60 → kc + n ≤ 400 → ks + 6 * n ≤ 3000 → zXa h 0 271 g us sn off rs dt cs (txE k) o → (∀ h', zXa h' 0 271 g us sn off rs dt cs (txE 60) o → zV X 400 3000 h' 86 [(0, .retAddr sq), (1, .ref 0)] []) → zV X kc ks h 57 [(0, .retAddr sq), (1, .ref 0), (2, .int (nI k))] [] := by
  subst hr
  intro n
  induction n with
  | zero =>
    intro k h kc ks hk h1 h2 q kk
    obtain rfl : k = 60 := by omega
    refine zV.iload_n C dL_law_57 rfl ?_
    refine zV.bi (v := nI 60) C dL_law_58 (by decide) ?_
    refine zV.icmp_ge (tgt := 86) C dL_law_60 (by decide) (fun q60 => ?_) (fun q60 => ?_)
    · exact zV.up (by omega) (by omega) (zV.sub [0, 1] rfl (kk h q))
    · exact absurd (nI_le (Nat.le_refl 60) (by decide)) q60
  | succ n ih =>
    intro k h kc ks hk h1 h2 q kk
    have h9 : k < 60 := by omega
    refine zV.iload_n C dL_law_57 rfl ?_
    refine zV.bi (v := nI 60) C dL_law_58 (by decide) ?_
    refine zV.icmp_ge (tgt := 86) C dL_law_60 (by decide) (fun q60 => ?_) (fun q60 => ?_)
    · exact absurd (nle (by omega) (by omega) q60) (by omega)
    · refine zV.aload_n C dL_law_63 rfl rfl ?_
      refine zV.bi (v := nI 65) C dL_law_64 (by decide) ?_
      refine zV.iload_n C dL_law_66 rfl ?_
      refine zV.iadd C dL_law_67 ?_
      refine zV.i2c C dL_law_68 ?_
      rw [(chrE k h9).1]
      refine zV.callSW (n := 2) C G dL_law_69 (w_append hzs hst q _) rfl ⟨cd_L_append, lk_L_180, st_L_append, in_L⟩ ⟨⟨by decide, by decide⟩, by decide⟩ rfl (zRm_v 600390 7286520 rfl rfl rfl (by omega) (by omega)) rfl (zafCe (v := nI (k + 1)) (apE_v h9) (fun h9 p9 => ?_)) (zno)
      have q := p9.2
      rw [apE_t (by omega)] at q
      refine zV.iload_n C dL_law_72 rfl ?_
      refine zV.ic (v := nI 1) C dL_law_73 (by decide) ?_
      refine zV.iadd C dL_law_74 ?_
      refine zV.icmp_eq (tgt := 80) C dL_law_75 (by decide) (fun q75 => ?_) (fun q75 => ?_)
      · refine zV.kinc (lo' := [(0, _), (1, _), (2, _)]) C dL_law_80 rfl (by decide) rfl rfl rfl ?_
        refine zV.goto (tgt := 57) C dL_law_83 (by decide) ?_
        rw [show nI k + Int32.ofInt 1 = nI (k + 1) from nI_add k 1]
        exact zV.sub [0, 1, 2] rfl (ih (k + 1) _ _ _ (by omega) (by omega) (by omega) q kk)
      · exact absurd (nI_add k 1).symm q75
set_option maxHeartbeats 4000000 in
set_option maxRecDepth 100000 in
theorem L_e86 {X : zX} {l : Launch} {E : zG} {rm : Room} (hzs : zS E) (hst : l.stackTraces = false) (C : zC X cL_law RL 11) (G : zGX X l E rm) (hr : rm = room_1) {sq : Nat} {g : zGd} {us : List zGd} {sn : Option zGd} {off rs dt cs : Int32} {o : List Nat} (hR : gR 20000 g) {h : zH} {kc ks : Nat} (hk : kc ≤ 400) (hs : ks ≤ 3000) (q : zXa h 0 271 g us sn off rs dt cs (txE 60) o) (kk : ∀ h', zXa h' 0 271 g us sn (nI 1) rs dt cs [] o → zV X 410 3100 h' 147 [(0, .retAddr sq), (1, .ref 0), (2, .int (nI 0))] []) : zV X kc ks h 86 [(0, .retAddr sq), (1, .ref 0)] [] := by
  subst hr
  refine zV.aload_n C dL_law_86 rfl rfl ?_
  refine zV.bi (v := nI 100) C dL_law_87 (by decide) ?_
  refine zV.callSW (n := 2) C G dL_law_89 (w_append hzs hst q _) rfl ⟨cd_L_append, lk_L_180, st_L_append, in_L⟩ ⟨⟨by decide, by decide⟩, by decide⟩ rfl (zRm_v 600390 7286520 rfl rfl rfl (by omega) (by omega)) rfl (zafCe (v := -1002) (apF_v.trans (by decide)) (fun h1 p1 => ?_)) (zno)
  have q := p1.2
  rw [apF_t] at q
  refine zV.si (v := (-1002)) C dL_law_92 (by decide) ?_
  refine zV.icmp_ne (tgt := 143) C dL_law_95 (by decide) (fun q95 => ?_) (fun q95 => ?_)
  · exact absurd rfl q95
  · refine zV.aload_n C dL_law_98 rfl rfl ?_
    refine zV.callSW (n := 1) C G dL_law_99 (w_execute hzs hst q hR (show 20000 + 50000 ≤ 1000000000 by decide)) rfl ⟨cd_L_execute, lk_L_186, st_L_execute, in_L⟩ ⟨⟨by decide, by decide⟩, by decide⟩ rfl (zRm_v 600390 7286520 rfl rfl rfl (by omega) (by omega)) rfl (zafCe (v := -1001) (exE_v rdE_60) (fun h2 p2 => ?_)) (zno)
    have q := ex_e rdE_60 p2
    refine zV.si (v := (-1001)) C dL_law_102 (by decide) ?_
    refine zV.icmp_ne (tgt := 143) C dL_law_105 (by decide) (fun q105 => ?_) (fun q105 => ?_)
    · exact absurd rfl q105
    · refine zV.aload_n C dL_law_108 rfl rfl ?_
      refine zV.callSW (n := 1) C G dL_law_109 (w_syntaxError hzs hst q) rfl ⟨cd_L_syntaxError, lk_L_373, st_L_syntaxError, in_L⟩ ⟨⟨by decide, by decide⟩, by decide⟩ rfl (zRm_v 600390 7286520 rfl rfl rfl (by omega) (by omega)) rfl (zafQe (v := nI 0) (se_v (by decide)) ?_) (zno)
      refine zV.if_ne (tgt := 143) C dL_law_112 (by decide) (fun q112 => ?_) (fun q112 => ?_)
      · exact absurd rfl q112
      · refine zV.aload_n C dL_law_115 rfl rfl ?_
        refine zV.bi (v := nI 100) C dL_law_116 (by decide) ?_
        refine zV.callSW (n := 2) C G dL_law_118 (w_append hzs hst q _) rfl ⟨cd_L_append, lk_L_180, st_L_append, in_L⟩ ⟨⟨by decide, by decide⟩, by decide⟩ rfl (zRm_v 600390 7286520 rfl rfl rfl (by omega) (by omega)) rfl (zafCe (v := nI 1) apD_v (fun h3 p3 => ?_)) (zno)
        have q := p3.2
        rw [apD_t] at q
        refine zV.ic (v := nI 1) C dL_law_121 (by decide) ?_
        refine zV.icmp_ne (tgt := 143) C dL_law_122 (by decide) (fun q122 => ?_) (fun q122 => ?_)
        · exact absurd rfl q122
        · refine zV.aload_n C dL_law_125 rfl rfl ?_
          refine zV.callSW (n := 1) C G dL_law_126 (w_execute hzs hst q hR (show 20000 + 50000 ≤ 1000000000 by decide)) rfl ⟨cd_L_execute, lk_L_186, st_L_execute, in_L⟩ ⟨⟨by decide, by decide⟩, by decide⟩ rfl (zRm_v 600390 7286520 rfl rfl rfl (by omega) (by omega)) rfl (zafCe (v := -1001) (exE_v rdE_d) (fun h4 p4 => ?_)) (zno)
          have q := ex_e rdE_d p4
          refine zV.si (v := (-1001)) C dL_law_129 (by decide) ?_
          refine zV.icmp_ne (tgt := 143) C dL_law_132 (by decide) (fun q132 => ?_) (fun q132 => ?_)
          · exact absurd rfl q132
          · refine zV.aload_n C dL_law_135 rfl rfl ?_
            refine zV.callSW (n := 1) C G dL_law_136 (w_syntaxError hzs hst q) rfl ⟨cd_L_syntaxError, lk_L_373, st_L_syntaxError, in_L⟩ ⟨⟨by decide, by decide⟩, by decide⟩ rfl (zRm_v 600390 7286520 rfl rfl rfl (by omega) (by omega)) rfl (zafQe (v := nI 1) (se_v (by decide)) ?_) (zno)
            refine zV.ic (v := nI 1) C dL_law_139 (by decide) ?_
            refine zV.icmp_eq (tgt := 145) C dL_law_140 (by decide) (fun q140 => ?_) (fun q140 => ?_)
            · refine zV.ic (v := nI 0) C dL_law_145 (by decide) ?_
              refine zV.jstore_n (lo' := [(0, _), (1, _), (2, _)]) C dL_law_146 (by decide) rfl rfl rfl ?_
              exact zV.up (by omega) (by omega) (kk _ q)
            · exact absurd rfl q140
set_option maxHeartbeats 4000000 in
set_option maxRecDepth 100000 in
theorem L_e147 {X : zX} {l : Launch} {E : zG} {rm : Room} (hzs : zS E) (hst : l.stackTraces = false) (C : zC X cL_law RL 11) (G : zGX X l E rm) (hr : rm = room_1) {sq : Nat} {sn : Option zGd} {off rs dt cs : Int32} {t o : List Nat} {c : Nat → zGd} {u : List zGd} (HR : ∀ k, k < 12 → gR 20000 (c k)) (HS : ∀ k, k < 12 → stE (c k) 99 (nI (k % 6)) (nI (k % 10)) (c (k + 1)) (nI k)) : ∀ n k (h : zH) kc ks, k + n = 12 → kc + n ≤ 430 → ks + 6 * n ≤ 3300 → zXa h 0 271 (c k) (hsE c u k) sn off rs dt cs t o → (∀ h', zXa h' 0 271 (c 12) (hsE c u 12) sn off rs dt cs t o → zV X 430 3300 h' 177 [(0, .retAddr sq), (1, .ref 0)] []) → zV X kc ks h 147 [(0, .retAddr sq), (1, .ref 0), (2, .int (nI k))] [] := by
  subst hr
  intro n
  induction n with
  | zero =>
    intro k h kc ks hk h1 h2 q kk
    obtain rfl : k = 12 := by omega
    refine zV.iload_n C dL_law_147 rfl ?_
    refine zV.bi (v := nI 12) C dL_law_148 (by decide) ?_
    refine zV.icmp_ge (tgt := 177) C dL_law_150 (by decide) (fun q150 => ?_) (fun q150 => ?_)
    · exact zV.up (by omega) (by omega) (zV.sub [0, 1] rfl (kk h q))
    · exact absurd (nI_le (Nat.le_refl 12) (by decide)) q150
  | succ n ih =>
    intro k h kc ks hk h1 h2 q kk
    have h9 : k < 12 := by omega
    refine zV.iload_n C dL_law_147 rfl ?_
    refine zV.bi (v := nI 12) C dL_law_148 (by decide) ?_
    refine zV.icmp_ge (tgt := 177) C dL_law_150 (by decide) (fun q150 => ?_) (fun q150 => ?_)
    · exact absurd (nle (by omega) (by omega) q150) (by omega)
    · refine zV.aload_n C dL_law_153 rfl rfl ?_
      refine zV.iload_n C dL_law_154 rfl ?_
      refine zV.bi (v := nI 6) C dL_law_155 (by decide) ?_
      refine zV.irem C dL_law_157 (by decide) ?_
      refine zV.iload_n C dL_law_158 rfl ?_
      refine zV.bi (v := nI 10) C dL_law_159 (by decide) ?_
      refine zV.irem C dL_law_161 (by decide) ?_
      rw [pk_rem (a := k) (d := 6) (by omega) (by decide) (by decide), pk_rem (a := k) (d := 10) (by omega) (by decide) (by decide)]
      refine zV.callSW (n := 3) C G dL_law_162 (w_addChair hzs hst q (HR k h9) (show 20000 + 3000 ≤ 1000000000 by decide) _ _) rfl ⟨cd_L_addChair, lk_L_213, st_L_addChair, in_L⟩ ⟨⟨by decide, by decide⟩, by decide⟩ rfl (zRm_v 600390 7286520 rfl rfl rfl (by omega) (by omega)) rfl (zafCe (v := nI k) (stE_v (HS k h9)) (fun h9 p9 => ?_)) (zno)
      have q := stE_p (HS k (by omega)) p9
      refine zV.iload_n C dL_law_165 rfl ?_
      refine zV.icmp_eq (tgt := 171) C dL_law_166 (by decide) (fun q166 => ?_) (fun q166 => ?_)
      · refine zV.kinc (lo' := [(0, _), (1, _), (2, _)]) C dL_law_171 rfl (by decide) rfl rfl rfl ?_
        refine zV.goto (tgt := 147) C dL_law_174 (by decide) ?_
        rw [show nI k + Int32.ofInt 1 = nI (k + 1) from nI_add k 1]
        exact zV.sub [0, 1, 2] rfl (ih (k + 1) _ _ _ (by omega) (by omega) (by omega) q kk)
      · exact absurd rfl q166
set_option maxHeartbeats 4000000 in
set_option maxRecDepth 100000 in
theorem L_e177 {X : zX} {l : Launch} {E : zG} {rm : Room} (hzs : zS E) (hst : l.stackTraces = false) (C : zC X cL_law RL 11) (G : zGX X l E rm) (hr : rm = room_1) {sq : Nat} {g0 d1 d2 d3 d4 : zGd} {us : List zGd} {sn : Option zGd} {off rs dt cs : Int32} {t o : List Nat} (R0 : gR 20000 g0) (R1 : gR 20000 d1) (R2 : gR 20000 d2) (R3 : gR 20000 d3) (hw : gW d2) (e0 : jd g0 99 (nI 0) (nI 0) = (3, 3, nI 12)) (S1 : stE g0 112 (nI 0) (nI 1) d1 (nI 1)) (S2 : stE d1 103 (nI 0) (nI 1) d2 (nI 2)) (e4 : hsz (gC d2) 1 = 4) (e2 : jd d2 99 (nI 1) (nI 1) = (3, 3, nI 12)) (S3 : stE d2 115 (nI 11) 0 d3 (nI 1)) (S4 : stE d3 99 (nI 5) (nI 0) d4 (nI 12)) {h : zH} {kc ks : Nat} (hk : kc ≤ 430) (hs : ks ≤ 3300) (q : zXa h 0 271 g0 us sn off rs dt cs t o) (kk : ∀ h', zXa h' 0 271 d4 (kp (kp (kp (kp us g0) d1) d2) d3) sn off (nI 3) (nI 12) 0 t o → zV X 460 3600 h' 273 [(0, .retAddr sq), (1, .ref 0)] []) : zV X kc ks h 177 [(0, .retAddr sq), (1, .ref 0)] [] := by
  subst hr
  refine zV.aload_n C dL_law_177 rfl rfl ?_
  refine zV.ic (v := nI 0) C dL_law_178 (by decide) ?_
  refine zV.ic (v := nI 0) C dL_law_179 (by decide) ?_
  refine zV.callSW (n := 3) C G dL_law_180 (w_addChair hzs hst q R0 (show 20000 + 3000 ≤ 1000000000 by decide) _ _) rfl ⟨cd_L_addChair, lk_L_213, st_L_addChair, in_L⟩ ⟨⟨by decide, by decide⟩, by decide⟩ rfl (zRm_v 600390 7286520 rfl rfl rfl (by omega) (by omega)) rfl (zafCe (v := -1003) ((rjE_v e0).trans (by decide)) (fun h1 p9 => ?_)) (zno)
  have q := rjE_p e0 p9
  refine zV.si (v := (-1003)) C dL_law_183 (by decide) ?_
  refine zV.icmp_ne (tgt := 271) C dL_law_186 (by decide) (fun q186 => ?_) (fun q186 => ?_)
  · exact absurd rfl q186
  · refine zV.aload_n C dL_law_189 rfl rfl ?_
    refine zV.ic (v := nI 3) C dL_law_190 (by decide) ?_
    refine zV.bi (v := nI 12) C dL_law_191 (by decide) ?_
    refine zV.callS (n := 3) C G dL_law_193 (s_is hzs hst _ 0 271 _ _ _ _ _ _ _ _ _ q (by decide) (by decide)) rfl ⟨cd_L_is, lk_L_329, st_L_is, in_L⟩ ⟨⟨by decide, by decide⟩, by decide⟩ rfl (zRm_v 600390 7286520 rfl rfl rfl (by omega) (by omega)) rfl (zaf ?_) (zno)
    refine zV.if_eq (tgt := 271) C dL_law_196 (by decide) (fun q196 => ?_) (fun q196 => ?_)
    · exact absurd q196 (by decide)
    · refine zV.aload_n C dL_law_199 rfl rfl ?_
      refine zV.ic (v := nI 0) C dL_law_200 (by decide) ?_
      refine zV.ic (v := nI 1) C dL_law_201 (by decide) ?_
      refine zV.callSW (n := 3) C G dL_law_202 (w_addPath hzs hst q R0 (show 20000 + 3000 ≤ 1000000000 by decide) _ _) rfl ⟨cd_L_addPath, lk_L_208, st_L_addPath, in_L⟩ ⟨⟨by decide, by decide⟩, by decide⟩ rfl (zRm_v 600390 7286520 rfl rfl rfl (by omega) (by omega)) rfl (zafCe (v := nI 1) (stE_v S1) (fun h2 p9 => ?_)) (zno)
      have q := stE_p S1 p9
      refine zV.ic (v := nI 1) C dL_law_205 (by decide) ?_
      refine zV.icmp_ne (tgt := 271) C dL_law_206 (by decide) (fun q206 => ?_) (fun q206 => ?_)
      · exact absurd rfl q206
      · refine zV.aload_n C dL_law_209 rfl rfl ?_
        refine zV.ic (v := nI 0) C dL_law_210 (by decide) ?_
        refine zV.ic (v := nI 1) C dL_law_211 (by decide) ?_
        refine zV.callSW (n := 3) C G dL_law_212 (w_migrate hzs hst q R1 (show 20000 + 3000 ≤ 1000000000 by decide) _ _) rfl ⟨cd_L_migrate, lk_L_296, st_L_migrate, in_L⟩ ⟨⟨by decide, by decide⟩, by decide⟩ rfl (zRm_v 600390 7286520 rfl rfl rfl (by omega) (by omega)) rfl (zafCe (v := nI 2) (stE_v S2) (fun h3 p9 => ?_)) (zno)
        have q := stE_p S2 p9
        refine zV.ic (v := nI 2) C dL_law_215 (by decide) ?_
        refine zV.icmp_ne (tgt := 271) C dL_law_216 (by decide) (fun q216 => ?_) (fun q216 => ?_)
        · exact absurd rfl q216
        · refine zV.aload_n C dL_law_219 rfl rfl ?_
          refine zV.ic (v := nI 1) C dL_law_220 (by decide) ?_
          refine zV.callSW (n := 2) C G dL_law_221 (w_herdSize hzs hst q hw _) rfl ⟨cd_L_herdSize, lk_L_335, st_L_herdSize, in_L⟩ ⟨⟨by decide, by decide⟩, by decide⟩ rfl (zRm_v 600390 7286520 rfl rfl rfl (by omega) (by omega)) rfl (zafQe (v := nI 4) ((hd_v (ln_n 1 (by decide))).trans (by rw [e4])) ?_) (zno)
          refine zV.ic (v := nI 4) C dL_law_224 (by decide) ?_
          refine zV.icmp_ne (tgt := 271) C dL_law_225 (by decide) (fun q225 => ?_) (fun q225 => ?_)
          · exact absurd rfl q225
          · refine zV.aload_n C dL_law_228 rfl rfl ?_
            refine zV.ic (v := nI 1) C dL_law_229 (by decide) ?_
            refine zV.ic (v := nI 1) C dL_law_230 (by decide) ?_
            refine zV.callSW (n := 3) C G dL_law_231 (w_addChair hzs hst q R2 (show 20000 + 3000 ≤ 1000000000 by decide) _ _) rfl ⟨cd_L_addChair, lk_L_213, st_L_addChair, in_L⟩ ⟨⟨by decide, by decide⟩, by decide⟩ rfl (zRm_v 600390 7286520 rfl rfl rfl (by omega) (by omega)) rfl (zafCe (v := -1003) ((rjE_v e2).trans (by decide)) (fun h4 p9 => ?_)) (zno)
            have q := rjE_p e2 p9
            refine zV.si (v := (-1003)) C dL_law_234 (by decide) ?_
            refine zV.icmp_ne (tgt := 271) C dL_law_237 (by decide) (fun q237 => ?_) (fun q237 => ?_)
            · exact absurd rfl q237
            · refine zV.aload_n C dL_law_240 rfl rfl ?_
              refine zV.ic (v := nI 3) C dL_law_241 (by decide) ?_
              refine zV.bi (v := nI 12) C dL_law_242 (by decide) ?_
              refine zV.callS (n := 3) C G dL_law_244 (s_is hzs hst _ 0 271 _ _ _ _ _ _ _ _ _ q (by decide) (by decide)) rfl ⟨cd_L_is, lk_L_329, st_L_is, in_L⟩ ⟨⟨by decide, by decide⟩, by decide⟩ rfl (zRm_v 600390 7286520 rfl rfl rfl (by omega) (by omega)) rfl (zaf ?_) (zno)
              refine zV.if_eq (tgt := 271) C dL_law_247 (by decide) (fun q247 => ?_) (fun q247 => ?_)
              · exact absurd q247 (by decide)
              · refine zV.aload_n C dL_law_250 rfl rfl ?_
                refine zV.bi (v := nI 11) C dL_law_251 (by decide) ?_
                refine zV.callSW (n := 2) C G dL_law_253 (w_scrap hzs hst q R2 (show 20000 + 3000 ≤ 1000000000 by decide) _) rfl ⟨cd_L_scrap, lk_L_288, st_L_scrap, in_L⟩ ⟨⟨by decide, by decide⟩, by decide⟩ rfl (zRm_v 600390 7286520 rfl rfl rfl (by omega) (by omega)) rfl (zafCe (v := nI 1) (stE_v S3) (fun h5 p9 => ?_)) (zno)
                have q := stE_p S3 p9
                refine zV.ic (v := nI 1) C dL_law_256 (by decide) ?_
                refine zV.icmp_ne (tgt := 271) C dL_law_257 (by decide) (fun q257 => ?_) (fun q257 => ?_)
                · exact absurd rfl q257
                · refine zV.aload_n C dL_law_260 rfl rfl ?_
                  refine zV.ic (v := nI 5) C dL_law_261 (by decide) ?_
                  refine zV.ic (v := nI 0) C dL_law_262 (by decide) ?_
                  refine zV.callSW (n := 3) C G dL_law_263 (w_addChair hzs hst q R3 (show 20000 + 3000 ≤ 1000000000 by decide) _ _) rfl ⟨cd_L_addChair, lk_L_213, st_L_addChair, in_L⟩ ⟨⟨by decide, by decide⟩, by decide⟩ rfl (zRm_v 600390 7286520 rfl rfl rfl (by omega) (by omega)) rfl (zafCe (v := nI 12) (stE_v S4) (fun h6 p9 => ?_)) (zno)
                  have q := stE_p S4 p9
                  refine zV.bi (v := nI 12) C dL_law_266 (by decide) ?_
                  refine zV.icmp_eq (tgt := 273) C dL_law_268 (by decide) (fun q268 => ?_) (fun q268 => ?_)
                  · exact zV.up (by omega) (by omega) (kk _ q)
                  · exact absurd rfl q268
set_option maxHeartbeats 4000000 in
set_option maxRecDepth 100000 in
theorem L_e273 {X : zX} {l : Launch} {E : zG} {rm : Room} (hzs : zS E) (hst : l.stackTraces = false) (C : zC X cL_law RL 11) (G : zGX X l E rm) (hr : rm = room_1) {sq : Nat} {c8 c9 c10 c11 c12 d1 d2 d3 d4 e1 z : zGd} {off rs dt cs : Int32} {t o : List Nat} (w3 : gW d3) (w2 : gW d2) (w1 : gW d1) (w12 : gW c12) (w11 : gW c11) (w8 : gW c8) (R8 : gR 20000 c8) (x3 : kc d3 (nI 12) = none) (x2 : (kc d2 (nI 11)).isSome = true) (x1 : hsz (gC d1) 0 = 2) (x12 : gP c12 = 0) (x11 : (gC c11).length = 11) (x8 : (gC c8).length = 8) (S8 : stE c8 99 (nI 2) (nI 2) e1 (nI 8)) {h : zH} {kc ks : Nat} (hk : kc ≤ 460) (hs : ks ≤ 3600) (q : zXa h 0 271 d4 [c8, c9, c10, c11, c12, d1, d2, d3] (some z) off rs dt cs t o) (kk : ∀ h', zXa h' 0 271 e1 [c8] (some z) off rs dt cs t o → zV X 480 3800 h' 413 [(0, .retAddr sq), (1, .ref 0)] []) : zV X kc ks h 273 [(0, .retAddr sq), (1, .ref 0)] [] := by
  subst hr
  refine zV.aload_n C dL_law_273 rfl rfl ?_
  refine zV.callSW (n := 1) C G dL_law_274 (w_undo hzs hst q) rfl ⟨cd_L_undo, lk_L_387, st_L_undo, in_L⟩ ⟨⟨by decide, by decide⟩, by decide⟩ rfl (zRm_v 600390 7286520 rfl rfl rfl (by omega) (by omega)) rfl (zafCe (v := nI 7) (un_v (show [c8, c9, c10, c11, c12, d1, d2, d3] = [c8, c9, c10, c11, c12, d1, d2] ++ [d3] from rfl)) (fun h1 p9 => ?_)) (zno)
  have q := (un_p (show [c8, c9, c10, c11, c12, d1, d2, d3] = [c8, c9, c10, c11, c12, d1, d2] ++ [d3] from rfl) p9).2
  refine zV.bi (v := nI 7) C dL_law_277 (by decide) ?_
  refine zV.icmp_ne (tgt := 411) C dL_law_279 (by decide) (fun q279 => ?_) (fun q279 => ?_)
  · exact absurd rfl q279
  · refine zV.aload_n C dL_law_282 rfl rfl ?_
    refine zV.bi (v := nI 12) C dL_law_283 (by decide) ?_
    refine zV.callV (n := 1) C G dL_law_285 (s_exists hzs hst _ 0 d3 _ q.1 q.2.1.1 w3) rfl ⟨cd_X9_exists, lk_L_217, im_X9_exists, se_X9_X9_exists, in_X9⟩ ⟨⟨by decide, by decide⟩, by decide⟩ rfl (zRm_v 600390 7286520 rfl rfl rfl (by omega) (by omega)) rfl q.1.1 ⟨rfl, by decide⟩ (zaf ?_) (zno)
    refine zV.if_ne (tgt := 411) C dL_law_288 (by decide) (fun q288 => ?_) (fun q288 => ?_)
    · exact absurd (by rw [x3]; rfl) q288
    · refine zV.aload_n C dL_law_291 rfl rfl ?_
      refine zV.callSW (n := 1) C G dL_law_292 (w_undo hzs hst q) rfl ⟨cd_L_undo, lk_L_387, st_L_undo, in_L⟩ ⟨⟨by decide, by decide⟩, by decide⟩ rfl (zRm_v 600390 7286520 rfl rfl rfl (by omega) (by omega)) rfl (zafCe (v := nI 6) (un_v (show [c8, c9, c10, c11, c12, d1, d2] = [c8, c9, c10, c11, c12, d1] ++ [d2] from rfl)) (fun h2 p9 => ?_)) (zno)
      have q := (un_p (show [c8, c9, c10, c11, c12, d1, d2] = [c8, c9, c10, c11, c12, d1] ++ [d2] from rfl) p9).2
      refine zV.bi (v := nI 6) C dL_law_295 (by decide) ?_
      refine zV.icmp_ne (tgt := 411) C dL_law_297 (by decide) (fun q297 => ?_) (fun q297 => ?_)
      · exact absurd rfl q297
      · refine zV.aload_n C dL_law_300 rfl rfl ?_
        refine zV.bi (v := nI 11) C dL_law_301 (by decide) ?_
        refine zV.callV (n := 1) C G dL_law_303 (s_exists hzs hst _ 0 d2 _ q.1 q.2.1.1 w2) rfl ⟨cd_X9_exists, lk_L_217, im_X9_exists, se_X9_X9_exists, in_X9⟩ ⟨⟨by decide, by decide⟩, by decide⟩ rfl (zRm_v 600390 7286520 rfl rfl rfl (by omega) (by omega)) rfl q.1.1 ⟨rfl, by decide⟩ (zaf ?_) (zno)
        refine zV.if_eq (tgt := 411) C dL_law_306 (by decide) (fun q306 => ?_) (fun q306 => ?_)
        · exact absurd q306 (by rw [x2]; decide)
        · refine zV.aload_n C dL_law_309 rfl rfl ?_
          refine zV.callSW (n := 1) C G dL_law_310 (w_undo hzs hst q) rfl ⟨cd_L_undo, lk_L_387, st_L_undo, in_L⟩ ⟨⟨by decide, by decide⟩, by decide⟩ rfl (zRm_v 600390 7286520 rfl rfl rfl (by omega) (by omega)) rfl (zafCe (v := nI 5) (un_v (show [c8, c9, c10, c11, c12, d1] = [c8, c9, c10, c11, c12] ++ [d1] from rfl)) (fun h3 p9 => ?_)) (zno)
          have q := (un_p (show [c8, c9, c10, c11, c12, d1] = [c8, c9, c10, c11, c12] ++ [d1] from rfl) p9).2
          refine zV.ic (v := nI 5) C dL_law_313 (by decide) ?_
          refine zV.icmp_ne (tgt := 411) C dL_law_314 (by decide) (fun q314 => ?_) (fun q314 => ?_)
          · exact absurd rfl q314
          · refine zV.aload_n C dL_law_317 rfl rfl ?_
            refine zV.ic (v := nI 0) C dL_law_318 (by decide) ?_
            refine zV.callSW (n := 2) C G dL_law_319 (w_herdSize hzs hst q w1 _) rfl ⟨cd_L_herdSize, lk_L_335, st_L_herdSize, in_L⟩ ⟨⟨by decide, by decide⟩, by decide⟩ rfl (zRm_v 600390 7286520 rfl rfl rfl (by omega) (by omega)) rfl (zafQe (v := nI 2) ((hd_v (ln_n 0 (by decide))).trans (by rw [x1])) ?_) (zno)
            refine zV.ic (v := nI 2) C dL_law_322 (by decide) ?_
            refine zV.icmp_ne (tgt := 411) C dL_law_323 (by decide) (fun q323 => ?_) (fun q323 => ?_)
            · exact absurd rfl q323
            · refine zV.aload_n C dL_law_326 rfl rfl ?_
              refine zV.callSW (n := 1) C G dL_law_327 (w_undo hzs hst q) rfl ⟨cd_L_undo, lk_L_387, st_L_undo, in_L⟩ ⟨⟨by decide, by decide⟩, by decide⟩ rfl (zRm_v 600390 7286520 rfl rfl rfl (by omega) (by omega)) rfl (zafCe (v := nI 4) (un_v (show [c8, c9, c10, c11, c12] = [c8, c9, c10, c11] ++ [c12] from rfl)) (fun h4 p9 => ?_)) (zno)
              have q := (un_p (show [c8, c9, c10, c11, c12] = [c8, c9, c10, c11] ++ [c12] from rfl) p9).2
              refine zV.ic (v := nI 4) C dL_law_330 (by decide) ?_
              refine zV.icmp_ne (tgt := 411) C dL_law_331 (by decide) (fun q331 => ?_) (fun q331 => ?_)
              · exact absurd rfl q331
              · refine zV.aload_n C dL_law_334 rfl rfl ?_
                refine zV.callV (n := 0) C G dL_law_335 (s_pathCount hzs hst _ 0 c12  q.1 q.2.1.1 w12) rfl ⟨cd_X9_pathCount, lk_L_245, im_X9_pathCount, se_X9_X9_pathCount, in_X9⟩ ⟨⟨by decide, by decide⟩, by decide⟩ rfl (zRm_v 600390 7286520 rfl rfl rfl (by omega) (by omega)) rfl q.1.1 ⟨rfl, by decide⟩ (zaf ?_) (zno)
                refine zV.if_ne (tgt := 411) C dL_law_338 (by decide) (fun q338 => ?_) (fun q338 => ?_)
                · exact absurd (by rw [x12]; rfl) q338
                · refine zV.aload_n C dL_law_341 rfl rfl ?_
                  refine zV.callSW (n := 1) C G dL_law_342 (w_undo hzs hst q) rfl ⟨cd_L_undo, lk_L_387, st_L_undo, in_L⟩ ⟨⟨by decide, by decide⟩, by decide⟩ rfl (zRm_v 600390 7286520 rfl rfl rfl (by omega) (by omega)) rfl (zafCe (v := nI 3) (un_v (show [c8, c9, c10, c11] = [c8, c9, c10] ++ [c11] from rfl)) (fun h5 p9 => ?_)) (zno)
                  have q := (un_p (show [c8, c9, c10, c11] = [c8, c9, c10] ++ [c11] from rfl) p9).2
                  refine zV.ic (v := nI 3) C dL_law_345 (by decide) ?_
                  refine zV.icmp_ne (tgt := 411) C dL_law_346 (by decide) (fun q346 => ?_) (fun q346 => ?_)
                  · exact absurd rfl q346
                  · refine zV.aload_n C dL_law_349 rfl rfl ?_
                    refine zV.callV (n := 0) C G dL_law_350 (s_chairCount hzs hst _ 0 c11  q.1 q.2.1.1 w11) rfl ⟨cd_X9_chairCount, lk_L_222, im_X9_chairCount, se_X9_X9_chairCount, in_X9⟩ ⟨⟨by decide, by decide⟩, by decide⟩ rfl (zRm_v 600390 7286520 rfl rfl rfl (by omega) (by omega)) rfl q.1.1 ⟨rfl, by decide⟩ (zaf ?_) (zno)
                    refine zV.bi (v := nI 11) C dL_law_353 (by decide) ?_
                    refine zV.icmp_ne (tgt := 411) C dL_law_355 (by decide) (fun q355 => ?_) (fun q355 => ?_)
                    · exact absurd (by rw [x11]) q355
                    · refine zV.aload_n C dL_law_358 rfl rfl ?_
                      refine zV.callSW (n := 1) C G dL_law_359 (w_undo hzs hst q) rfl ⟨cd_L_undo, lk_L_387, st_L_undo, in_L⟩ ⟨⟨by decide, by decide⟩, by decide⟩ rfl (zRm_v 600390 7286520 rfl rfl rfl (by omega) (by omega)) rfl (zafCe (v := nI 2) (un_v (show [c8, c9, c10] = [c8, c9] ++ [c10] from rfl)) (fun h6 p9 => ?_)) (zno)
                      have q := (un_p (show [c8, c9, c10] = [c8, c9] ++ [c10] from rfl) p9).2
                      refine zV.ic (v := nI 2) C dL_law_362 (by decide) ?_
                      refine zV.icmp_ne (tgt := 411) C dL_law_363 (by decide) (fun q363 => ?_) (fun q363 => ?_)
                      · exact absurd rfl q363
                      · refine zV.aload_n C dL_law_366 rfl rfl ?_
                        refine zV.callSW (n := 1) C G dL_law_367 (w_undo hzs hst q) rfl ⟨cd_L_undo, lk_L_387, st_L_undo, in_L⟩ ⟨⟨by decide, by decide⟩, by decide⟩ rfl (zRm_v 600390 7286520 rfl rfl rfl (by omega) (by omega)) rfl (zafCe (v := nI 1) (un_v (show [c8, c9] = [c8] ++ [c9] from rfl)) (fun h7 p9 => ?_)) (zno)
                        have q := (un_p (show [c8, c9] = [c8] ++ [c9] from rfl) p9).2
                        refine zV.ic (v := nI 1) C dL_law_370 (by decide) ?_
                        refine zV.icmp_ne (tgt := 411) C dL_law_371 (by decide) (fun q371 => ?_) (fun q371 => ?_)
                        · exact absurd rfl q371
                        · refine zV.aload_n C dL_law_374 rfl rfl ?_
                          refine zV.callSW (n := 1) C G dL_law_375 (w_undo hzs hst q) rfl ⟨cd_L_undo, lk_L_387, st_L_undo, in_L⟩ ⟨⟨by decide, by decide⟩, by decide⟩ rfl (zRm_v 600390 7286520 rfl rfl rfl (by omega) (by omega)) rfl (zafCe (v := nI 0) (un_v (show [c8] = [] ++ [c8] from rfl)) (fun h8 p9 => ?_)) (zno)
                          have q := (un_p (show [c8] = [] ++ [c8] from rfl) p9).2
                          refine zV.if_ne (tgt := 411) C dL_law_378 (by decide) (fun q378 => ?_) (fun q378 => ?_)
                          · exact absurd rfl q378
                          · refine zV.aload_n C dL_law_381 rfl rfl ?_
                            refine zV.callV (n := 0) C G dL_law_382 (s_chairCount hzs hst _ 0 c8  q.1 q.2.1.1 w8) rfl ⟨cd_X9_chairCount, lk_L_222, im_X9_chairCount, se_X9_X9_chairCount, in_X9⟩ ⟨⟨by decide, by decide⟩, by decide⟩ rfl (zRm_v 600390 7286520 rfl rfl rfl (by omega) (by omega)) rfl q.1.1 ⟨rfl, by decide⟩ (zaf ?_) (zno)
                            refine zV.bi (v := nI 8) C dL_law_385 (by decide) ?_
                            refine zV.icmp_ne (tgt := 411) C dL_law_387 (by decide) (fun q387 => ?_) (fun q387 => ?_)
                            · exact absurd (by rw [x8]) q387
                            · refine zV.aload_n C dL_law_390 rfl rfl ?_
                              refine zV.callSW (n := 1) C G dL_law_391 (w_undo hzs hst q) rfl ⟨cd_L_undo, lk_L_387, st_L_undo, in_L⟩ ⟨⟨by decide, by decide⟩, by decide⟩ rfl (zRm_v 600390 7286520 rfl rfl rfl (by omega) (by omega)) rfl (zafCe (v := -1001) un_v0 (fun h9 p9 => ?_)) (zno)
                              have q := (un_p0 p9).2
                              refine zV.si (v := (-1001)) C dL_law_394 (by decide) ?_
                              refine zV.icmp_ne (tgt := 411) C dL_law_397 (by decide) (fun q397 => ?_) (fun q397 => ?_)
                              · exact absurd rfl q397
                              · refine zV.aload_n C dL_law_400 rfl rfl ?_
                                refine zV.ic (v := nI 2) C dL_law_401 (by decide) ?_
                                refine zV.ic (v := nI 2) C dL_law_402 (by decide) ?_
                                refine zV.callSW (n := 3) C G dL_law_403 (w_addChair hzs hst q R8 (show 20000 + 3000 ≤ 1000000000 by decide) _ _) rfl ⟨cd_L_addChair, lk_L_213, st_L_addChair, in_L⟩ ⟨⟨by decide, by decide⟩, by decide⟩ rfl (zRm_v 600390 7286520 rfl rfl rfl (by omega) (by omega)) rfl (zafCe (v := nI 8) (stE_v S8) (fun h10 p9 => ?_)) (zno)
                                have q := stE_p S8 p9
                                refine zV.bi (v := nI 8) C dL_law_406 (by decide) ?_
                                refine zV.icmp_eq (tgt := 413) C dL_law_408 (by decide) (fun q408 => ?_) (fun q408 => ?_)
                                · exact zV.up (by omega) (by omega) (kk _ q)
                                · exact absurd rfl q408
set_option maxHeartbeats 4000000 in
set_option maxRecDepth 100000 in
theorem L_e413 {X : zX} {l : Launch} {E : zG} {rm : Room} (hzs : zS E) (hst : l.stackTraces = false) (C : zC X cL_law RL 11) (G : zGX X l E rm) (hr : rm = room_1) {sq : Nat} {g z e2 : zGd} {us : List zGd} {off rs dt cs : Int32} {t o : List Nat} (wz : gW z) (Rz : gR 20000 z) (xC : (gC z).length = 0) (xD : gD z = 0) (Sz : stE z 99 (nI 0) (nI 0) e2 (nI 0)) {h : zH} {kc ks : Nat} (hk : kc ≤ 480) (hs : ks ≤ 3800) (q : zXa h 0 271 g us (some z) off rs dt cs t o) (kk : ∀ h', zV X 490 3900 h' 455 [(0, .retAddr sq), (1, .ref 0)] []) : zV X kc ks h 413 [(0, .retAddr sq), (1, .ref 0)] [] := by
  subst hr
  refine zV.aload_n C dL_law_413 rfl rfl ?_
  refine zV.callSW (n := 1) C G dL_law_414 (w_restore hzs hst q) rfl ⟨cd_L_restore, lk_L_389, st_L_restore, in_L⟩ ⟨⟨by decide, by decide⟩, by decide⟩ rfl (zRm_v 600390 7286520 rfl rfl rfl (by omega) (by omega)) rfl (zafCe (v := nI 0) (rs_v.trans (by rw [xC])) (fun h1 p9 => ?_)) (zno)
  have q := (rs_p p9).2
  refine zV.if_ne (tgt := 453) C dL_law_417 (by decide) (fun q417 => ?_) (fun q417 => ?_)
  · exact absurd rfl q417
  · refine zV.aload_n C dL_law_420 rfl rfl ?_
    refine zV.callV (n := 0) C G dL_law_421 (s_chairCount hzs hst _ 0 z  q.1 q.2.1.1 wz) rfl ⟨cd_X9_chairCount, lk_L_222, im_X9_chairCount, se_X9_X9_chairCount, in_X9⟩ ⟨⟨by decide, by decide⟩, by decide⟩ rfl (zRm_v 600390 7286520 rfl rfl rfl (by omega) (by omega)) rfl q.1.1 ⟨rfl, by decide⟩ (zaf ?_) (zno)
    refine zV.if_ne (tgt := 453) C dL_law_424 (by decide) (fun q424 => ?_) (fun q424 => ?_)
    · exact absurd (by rw [xC]; rfl) q424
    · refine zV.aload_n C dL_law_427 rfl rfl ?_
      refine zV.callV (n := 0) C G dL_law_428 (s_day hzs hst _ 0 z  q.1 q.2.1.1 wz) rfl ⟨cd_X9_day, lk_L_248, im_X9_day, se_X9_X9_day, in_X9⟩ ⟨⟨by decide, by decide⟩, by decide⟩ rfl (zRm_v 600390 7286520 rfl rfl rfl (by omega) (by omega)) rfl q.1.1 ⟨rfl, by decide⟩ (zaf ?_) (zno)
      refine zV.if_ne (tgt := 453) C dL_law_431 (by decide) (fun q431 => ?_) (fun q431 => ?_)
      · exact absurd (by rw [xD]; rfl) q431
      · refine zV.aload_n C dL_law_434 rfl rfl ?_
        refine zV.callSW (n := 1) C G dL_law_435 (w_undo hzs hst q) rfl ⟨cd_L_undo, lk_L_387, st_L_undo, in_L⟩ ⟨⟨by decide, by decide⟩, by decide⟩ rfl (zRm_v 600390 7286520 rfl rfl rfl (by omega) (by omega)) rfl (zafCe (v := -1001) un_v0 (fun h2 p9 => ?_)) (zno)
        have q := (un_p0 p9).2
        refine zV.si (v := (-1001)) C dL_law_438 (by decide) ?_
        refine zV.icmp_ne (tgt := 453) C dL_law_441 (by decide) (fun q441 => ?_) (fun q441 => ?_)
        · exact absurd rfl q441
        · refine zV.aload_n C dL_law_444 rfl rfl ?_
          refine zV.ic (v := nI 0) C dL_law_445 (by decide) ?_
          refine zV.ic (v := nI 0) C dL_law_446 (by decide) ?_
          refine zV.callSW (n := 3) C G dL_law_447 (w_addChair hzs hst q Rz (show 20000 + 3000 ≤ 1000000000 by decide) _ _) rfl ⟨cd_L_addChair, lk_L_213, st_L_addChair, in_L⟩ ⟨⟨by decide, by decide⟩, by decide⟩ rfl (zRm_v 600390 7286520 rfl rfl rfl (by omega) (by omega)) rfl (zafCe (v := nI 0) (stE_v Sz) (fun h3 p9 => ?_)) (zno)
          have q := stE_p Sz p9
          refine zV.if_eq (tgt := 455) C dL_law_450 (by decide) (fun q450 => ?_) (fun q450 => ?_)
          · exact zV.up (by omega) (by omega) (kk _)
          · exact absurd rfl q450
