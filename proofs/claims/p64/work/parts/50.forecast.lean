/-! ChairMigration: forecasts, the measured distances -/
/-- nothing of the object's values is other -/
def sm9 (h : zH) (a lo : Nat) (g : zGd) (us : List zGd) (sn : Option zGd) (off rs dt cs : Int32) (t o : List Nat) (h' : zH) : Prop := zXf h h' a lo ∧ zXa h' a lo g us sn off rs dt cs t o
theorem elS_k {X : zX} {kc ks : Nat} {h h9 : zH} {pc : Nat} {lo : List (Nat × Value)} {n : Nat} {B : zAn} {x : Int32} {P : zH → Prop} {cc : ByteArray} {own : String} {nL : Nat} {mc ms : Nat} {Qx : String → zH → Prop} (C : zC X cc own nL) (F : zF X (some .int) mc ms (sQ9 h B P) Qx) (e : B = elA x) (p : P h9) (d : decode cc pc = .ok (.ireturn, 1)) (hc : Nat.ble kc mc && Nat.ble ks ms) : ∀ (r : Option Value) (h' : zH), aQ h9 (elA x) r h' → n ≤ hN h' → zV X kc ks h' pc lo (r.toList ++ []) := fun r h' q _ => by
  obtain ⟨⟨w, e1, rfl⟩, rfl⟩ := q
  have e2 := e1
  unfold elA at e1
  split at e1
  · cases e1
  · cases e1
    exact zV.iret C F d hc (sQ_of (e.trans e2) p)
theorem elS_x {X : zX} {kc ks : Nat} {h h9 : zH} {pc : Nat} {lo : List (Nat × Value)} {rest : List Value} {n : Nat} {B : zAn} {x : Int32} {P : zH → Prop} {cc : ByteArray} {own : String} {nL : Nat} {ret : Option FieldType} {mc ms : Nat} {Qr : Option Value → zH → Prop} (C : zC X cc own nL) (F : zF X ret mc ms Qr (sX9 h B P)) (e : B = elA x) (p : P h9) (hc : kc ≤ mc ∧ ks ≤ ms) : ∀ (Ex : String) (h' : zH), aX h9 (elA x) Ex h' → n ≤ hN h' → zVX X kc ks h' pc lo rest Ex := fun Ex h' q _ => by
  obtain ⟨e1, rfl⟩ := q
  exact zVX.out C F ⟨e.trans e1, p⟩ hc
/-- a lawn's or a chair's demand is not met -/
theorem dlS_x {X : zX} {kc ks : Nat} {h : zH} {pc : Nat} {lo : List (Nat × Value)} {rest : List Value} {n : Nat} {x : Int32} {B : zAn} {P : zH → Prop} {cc : ByteArray} {own : String} {nL : Nat} {ret : Option FieldType} {mc ms : Nat} {Qr : Option Value → zH → Prop} (C : zC X cc own nL) (F : zF X ret mc ms Qr (sX9 h B P)) (e2 : B = .inl IOB) (p : P h) (hc : kc ≤ mc ∧ ks ≤ ms) : ∀ (Ex : String) (h' : zH), (Ex = IOB ∧ h' = h ∧ (ln x).isSome = false) → n ≤ hN h' → zVX X kc ks h' pc lo rest Ex := fun Ex h' q _ => by
  obtain ⟨rfl, rfl, -⟩ := q
  exact zVX.out C F ⟨e2, p⟩ hc
theorem zxS {X : zX} {kc ks : Nat} {h : zH} {pc : Nat} {lo : List (Nat × Value)} {rest : List Value} {n : Nat} {A B : zAn} {Ex0 : String} {P : zH → Prop} {cc : ByteArray} {own : String} {nL : Nat} {ret : Option FieldType} {mc ms : Nat} {Qr : Option Value → zH → Prop} (C : zC X cc own nL) (F : zF X ret mc ms Qr (sX9 h B P)) (e : A = .inl Ex0) (e2 : B = .inl Ex0) (p : P h) (hc : kc ≤ mc ∧ ks ≤ ms) : ∀ (Ex : String) (h' : zH), aX h A Ex h' → n ≤ hN h' → zVX X kc ks h' pc lo rest Ex := fun Ex h' q _ => by
  obtain ⟨e1, rfl⟩ := q
  rw [e] at e1
  cases e1
  exact zVX.out C F ⟨e2, p⟩ hc
set_option maxHeartbeats 4000000 in
set_option maxRecDepth 100000 in
theorem s_distanceByImprovement {l : Launch} {E : zG} (hzs : zS E) (hst : l.stackTraces = false) (h : zH) (a lo : Nat) (x y : Int32) (g : zGd) (us : List zGd) (sn : Option zGd) (off rs dt cs : Int32) (t o : List Nat) (q : zXa h a lo g us sn off rs dt cs t o) : zMet l E yX9_distanceByImprovement cX9_distanceByImprovement 3 (some .int) ({ frames := 7, cells := 3, slots := 18, locals := 115 } : Room) 3 18 [.ref a, .int x, .int y] h (sQ9 h (lawA x (fun i => lawA y (fun j => elA (oI (far (gN g) i j))))) (sm9 h a lo g us sn off rs dt cs t o)) (sX9 h (lawA x (fun i => lawA y (fun j => elA (oI (far (gN g) i j))))) (sm9 h a lo g us sn off rs dt cs t o)) := by
  refine zM_start hzs hst (by decide) (Nat.le_of_ble_eq_true rfl) (fun X C G F I => ?_)
  show zV X 0 0 _ 0 [(0, _), (1, _), (2, _)] []
  obtain ⟨hx, ⟨hg, hf, hb⟩, hs, hH, hI, hJ, hin, hou, hn, hlo, hl9⟩ := id q
  rcases e1 : ln x with _ | i
  · refine zV.iload_n C dX9_distanceByImprovement_0 rfl ?_
    refine zV.callS (n := 1) C G dX9_distanceByImprovement_1 (s_demandLawn hzs hst h x) rfl ⟨cd_X9_demandLawn, lk_X9_70, st_X9_demandLawn, in_X9⟩ ⟨⟨by decide, by decide⟩, by decide⟩ rfl rfl rfl (dl_no e1) (dlS_x C F (lawA_n e1) ⟨zXf.refl h a lo, q⟩ ⟨by decide, by decide⟩)
  · obtain ⟨hi, rfl⟩ := ln_some e1
    rcases e2 : ln y with _ | j
    · refine zV.iload_n C dX9_distanceByImprovement_0 rfl ?_
      refine zV.callS (n := 1) C G dX9_distanceByImprovement_1 (s_demandLawn hzs hst h (nI i)) rfl ⟨cd_X9_demandLawn, lk_X9_70, st_X9_demandLawn, in_X9⟩ ⟨⟨by decide, by decide⟩, by decide⟩ rfl rfl rfl (dl_ok ?_) (dl_nx e1)
      refine zV.iload_n C dX9_distanceByImprovement_4 rfl ?_
      refine zV.callS (n := 1) C G dX9_distanceByImprovement_5 (s_demandLawn hzs hst h y) rfl ⟨cd_X9_demandLawn, lk_X9_70, st_X9_demandLawn, in_X9⟩ ⟨⟨by decide, by decide⟩, by decide⟩ rfl rfl rfl (dl_no e2) (dlS_x C F ((lawA_s e1).trans (lawA_n e2)) ⟨zXf.refl h a lo, q⟩ ⟨by decide, by decide⟩)
    · obtain ⟨hj, rfl⟩ := ln_some e2
      refine zV.iload_n C dX9_distanceByImprovement_0 rfl ?_
      refine zV.callS (n := 1) C G dX9_distanceByImprovement_1 (s_demandLawn hzs hst h (nI i)) rfl ⟨cd_X9_demandLawn, lk_X9_70, st_X9_demandLawn, in_X9⟩ ⟨⟨by decide, by decide⟩, by decide⟩ rfl rfl rfl (dl_ok ?_) (dl_nx e1)
      refine zV.iload_n C dX9_distanceByImprovement_4 rfl ?_
      refine zV.callS (n := 1) C G dX9_distanceByImprovement_5 (s_demandLawn hzs hst h (nI j)) rfl ⟨cd_X9_demandLawn, lk_X9_70, st_X9_demandLawn, in_X9⟩ ⟨⟨by decide, by decide⟩, by decide⟩ rfl rfl rfl (dl_ok ?_) (dl_nx e2)
      refine zV.aload_n C dX9_distanceByImprovement_8 rfl rfl ?_
      refine zV.gR 389 (k := 5) C dX9_distanceByImprovement_9 zcl_X9 (by decide) rfl lk_X9_35 (hx.1) rfl (hx.2.2.2.2.2.2.1) ?_
      refine zV.aload_n C dX9_distanceByImprovement_12 rfl rfl ?_
      refine zV.gR 384 (k := 0) C dX9_distanceByImprovement_13 zcl_X9 (by decide) rfl lk_X9_10 (hx.1) rfl (hx.2.1) ?_
      refine zV.gNR 192 (k := 0) C dX9_distanceByImprovement_16 zcl_X3 (by decide) rfl lk_X9_74 (hg.1.1) rfl (hg.1.2.1) ?_
      refine zV.callV (n := 1) C G dX9_distanceByImprovement_19 (s_measure hzs hst h (a + 255) (a + 1 + 1) (gN g) hI (zGa_pa hg) (by omega)) rfl ⟨cd_X5_measure, lk_X9_92, im_X5_measure, se_X5_X5_measure, in_X5⟩ ⟨⟨by decide, by decide⟩, by decide⟩ rfl rfl rfl hI.1 ⟨rfl, by decide⟩ (zafRv (fun h9 ⟨g7, f7⟩ => ?_)) (zno)
      have q := zXa_i q f7 g7.1
      clear hx hg hf hb hs hH hI hJ hin hou hn
      obtain ⟨hx, ⟨hg, hf, hb⟩, hs, hH, hI, hJ, hin, hou, hn, hlo2, hl92⟩ := id q
      refine zV.aload_n C dX9_distanceByImprovement_22 rfl rfl ?_
      refine zV.gR 389 (k := 5) C dX9_distanceByImprovement_23 zcl_X9 (by decide) rfl lk_X9_35 (hx.1) rfl (hx.2.2.2.2.2.2.1) ?_
      refine zV.iload_n C dX9_distanceByImprovement_26 rfl ?_
      refine zV.iload_n C dX9_distanceByImprovement_27 rfl ?_
      refine zV.callV (n := 2) C G dX9_distanceByImprovement_28 (s_between hzs hst h9 (a + 255) i j (gN g) hi hj g7) rfl ⟨cd_X5_between, lk_X9_96, im_X5_between, se_X5_X5_between, in_X5⟩ ⟨⟨by decide, by decide⟩, by decide⟩ rfl rfl rfl g7.1.1 ⟨rfl, by decide⟩ (zaf ?_) (zno)
      refine zV.callS (n := 1) C G dX9_distanceByImprovement_31 (s_demandElement hzs hst h9 (oI (far (gN g) i j))) rfl ⟨cd_X9_demandElement, lk_X9_88, st_X9_demandElement, in_X9⟩ ⟨⟨by decide, by decide⟩, by decide⟩ rfl rfl rfl (elS_k C F ((lawA_s e1).trans (lawA_s e2)) ⟨zXf.q f7 (by omega) (by omega), q⟩ dX9_distanceByImprovement_34 rfl) (elS_x C F ((lawA_s e1).trans (lawA_s e2)) ⟨zXf.q f7 (by omega) (by omega), q⟩ ⟨by decide, by decide⟩)
def wcA (g : zGd) (x : Int32) : zAn := if dyB x = true then .inr (.int (nI (gF (days g x.toNatClampNeg) - gF g))) else .inl IAE
set_option maxHeartbeats 4000000 in
set_option maxRecDepth 100000 in
theorem s_wouldCollapse {l : Launch} {E : zG} (hzs : zS E) (hst : l.stackTraces = false) (h : zH) (a lo m : Nat) (x : Int32) (g : zGd) (us : List zGd) (sn : Option zGd) (off rs dt cs : Int32) (t o : List Nat) (q : zXa h a lo g us sn off rs dt cs t o) (hq : gQ m g) (hm : m + 3000 ≤ big) : zMet l E yX9_wouldCollapse cX9_wouldCollapse 2 (some .int) ({ frames := 6, cells := 1, slots := 6, locals := 164 } : Room) 1 6 [.ref a, .int x] h (sQ9 h (wcA g x) (sm9 h a lo g us sn off rs dt cs t o)) (sX9 h (wcA g x) (sm9 h a lo g us sn off rs dt cs t o)) := by
  refine zM_start hzs hst (by decide) (Nat.le_of_ble_eq_true rfl) (fun X C G F I => ?_)
  show zV X 0 0 _ 0 [(0, _), (1, _)] []
  obtain ⟨hx, ⟨hg, hf, hb⟩, hs, hH, hI, hJ, hin, hou, hn, hlo, hl9⟩ := id q
  refine zV.iload_n C dX9_wouldCollapse_0 rfl ?_
  refine zV.callS (n := 1) C G dX9_wouldCollapse_1 (s_areDays hzs hst h x) rfl ⟨cd_X9_areDays, lk_X9_185, st_X9_areDays, in_X9⟩ ⟨⟨by decide, by decide⟩, by decide⟩ rfl rfl rfl (zaf ?_) (zno)
  refine zV.if_ne (tgt := 17) C dX9_wouldCollapse_4 (by decide) (fun q4 => ?_) (fun q4 => ?_)
  · have e : dyB x = true := Bool.of_not_eq_false (fun z => q4 (b2n.mpr z))
    obtain ⟨N, rfl, hN1, hN2⟩ := dyB_t e
    refine zV.aload_n C dX9_wouldCollapse_17 rfl rfl ?_
    refine zV.gR 385 (k := 1) C dX9_wouldCollapse_18 zcl_X9 (by decide) rfl lk_X9_16 (hx.1) rfl (hx.2.2.1) ?_
    refine zV.aload_n C dX9_wouldCollapse_21 rfl rfl ?_
    refine zV.gR 384 (k := 0) C dX9_wouldCollapse_22 zcl_X9 (by decide) rfl lk_X9_10 (hx.1) rfl (hx.2.1) ?_
    refine zV.callV (n := 1) C G dX9_wouldCollapse_25 (s_become hzs hst h (a + 22) (a + 1) g hf hg hl9 (by omega)) rfl ⟨cd_X3_become, lk_X9_191, im_X3_become, se_X3_X3_become, in_X3⟩ ⟨⟨by decide, by decide⟩, by decide⟩ rfl rfl rfl hf.1.1 ⟨rfl, by decide⟩ (zafRv (fun h9 ⟨g7, f7⟩ => ?_)) (zno)
    have q := zXa_f q f7.q (zGa_t g7)
    clear hx hg hf hb hs hH hI hJ hin hou hn
    obtain ⟨hx, ⟨hg, hf, hb⟩, hs, hH, hI, hJ, hin, hou, hn, hlo2, hl92⟩ := id q
    refine zV.aload_n C dX9_wouldCollapse_28 rfl rfl ?_
    refine zV.gR 385 (k := 1) C dX9_wouldCollapse_29 zcl_X9 (by decide) rfl lk_X9_16 (hx.1) rfl (hx.2.2.1) ?_
    refine zV.iload_n C dX9_wouldCollapse_32 rfl ?_
    refine zV.callV (n := 1) C G dX9_wouldCollapse_33 (s_pass hzs hst h9 (a + 22) g N m (by omega) g7 hq hm) rfl ⟨cd_X3_pass, lk_X9_195, im_X3_pass, se_X3_X3_pass, in_X3⟩ ⟨⟨by decide, by decide⟩, by decide⟩ rfl rfl rfl g7.1.1 ⟨rfl, by decide⟩ (zafR (fun h8 ⟨g8, f8⟩ => ?_)) (zno)
    refine zV.iret C F dX9_wouldCollapse_36 rfl ?_
    exact sQ_of ((if_pos e).trans (by rw [nI_cl (by omega)])) ⟨(zXf.q f7.q (by omega) (by omega)).trans (zXf.q f8.q (by omega) (by omega)), zXa_f q f8.q (zGa_t g8)⟩
  · have e : ¬ dyB x = true := fun z => by rw [b2n.mp q4] at z; cases z
    exact zV.throwX _ C G dX9_wouldCollapse_7 dX9_wouldCollapse_10 dX9_wouldCollapse_11 dX9_wouldCollapse_13 dX9_wouldCollapse_16 hz_iae lk_X9_180 in_java_lang_IllegalArgumentException hs_189 hp_iae zUW rfl (zVX.out C F (⟨if_neg e, zXf.refl h a lo, q⟩) ⟨by decide, by decide⟩)
def s4 (x : Int32) : Option Nat := (List.range 4).find? (fun j => decide (x = nI j))
theorem s4_some {x : Int32} {j : Nat} (h : s4 x = some j) : j < 4 ∧ x = nI j := ⟨List.mem_range.mp (List.mem_of_find?_eq_some h), of_decide_eq_true (List.find?_some (p := fun j => decide (x = nI j)) h)⟩
theorem s4_none {x : Int32} (h : s4 x = none) : x < 0 ∨ ¬ x < nI 4 := by
  by_cases h0 : x < 0
  · exact Or.inl h0
  · refine Or.inr (fun h4 => ?_)
    obtain ⟨n, h3, h5⟩ := nI_of2 (n := 4) (x := x) (by decide) h0 (Int32.le_of_lt h4)
    subst h5
    have h6 : n < 4 := by
      rcases Nat.lt_or_ge n 4 with z | z
      · exact z
      · exact absurd h4 (Int32.not_lt.mpr (nI_le z (by omega)))
    exact absurd (List.find?_eq_none.mp h n (List.mem_range.mpr h6)) (by simp)
def duN (i s r : Nat) : Nat := if (i + 4 - s) % 4 = 0 then 0 else (i + 4 - s) % 4 * 5 - r
def duA (g : zGd) (x : Int32) : zAn := match s4 x with
  | none => .inl IAE
  | some i => .inr (.int (nI (duN i (gD g / 5 % 4) (gD g % 5))))
theorem du_n {g : zGd} {x : Int32} (e : s4 x = none) : duA g x = .inl IAE := by unfold duA; rw [e]
theorem du_s {g : zGd} {x : Int32} {i : Nat} (e : s4 x = some i) : duA g x = .inr (.int (nI (duN i (gD g / 5 % 4) (gD g % 5)))) := by unfold duA; rw [e]
theorem du1 : ∀ i, i < 4 → ∀ s, s < 4 → (nI i - nI s + nI 4) - (nI i - nI s + nI 4) / nI 4 * nI 4 = nI ((i + 4 - s) % 4) := by decide +kernel
theorem du2 : ∀ d, d < 4 → d ≠ 0 → ∀ r, r < 5 → nI d * nI 5 - nI r = nI (d * 5 - r) := by decide +kernel
theorem sm4 : ∀ i, i < 4 → ¬ nI i < nI 0 ∧ nI i < nI 4 := by decide +kernel
set_option maxHeartbeats 4000000 in
set_option maxRecDepth 100000 in
theorem s_daysUntil {l : Launch} {E : zG} (hzs : zS E) (hst : l.stackTraces = false) (h : zH) (a : Nat) (g : zGd) (x : Int32) (hx : zXs h a) (hg : zGa h (a + 1) g) (hw : gW g) : zMet l E yX9_daysUntil cX9_daysUntil 3 (some .int) ({ frames := 6, cells := 1, slots := 6, locals := 95 } : Room) 1 6 [.ref a, .int x] h (aQ h (duA g x)) (aX h (duA g x)) := by
  refine zM_start hzs hst (by decide) (Nat.le_of_ble_eq_true rfl) (fun X C G F I => ?_)
  show zV X 0 0 _ 0 [(0, _), (1, _)] []
  rcases e : s4 x with _ | i
  · have e0 := s4_none e
    refine zV.iload_n C dX9_daysUntil_0 rfl ?_
    refine zV.if_lt (tgt := 9) C dX9_daysUntil_1 (by decide) (fun q1 => ?_) (fun q1 => ?_)
    · exact zV.throwX _ C G dX9_daysUntil_9 dX9_daysUntil_12 dX9_daysUntil_13 dX9_daysUntil_15 dX9_daysUntil_18 hz_iae lk_X9_180 in_java_lang_IllegalArgumentException hs_182 hp_iae zUW rfl (zVX.out C F (⟨du_n e, rfl⟩) ⟨by decide, by decide⟩)
    · refine zV.iload_n C dX9_daysUntil_4 rfl ?_
      refine zV.ic (v := nI 4) C dX9_daysUntil_5 (by decide) ?_
      refine zV.icmp_lt (tgt := 19) C dX9_daysUntil_6 (by decide) (fun q6 => ?_) (fun q6 => ?_)
      · exact absurd q6 (by rcases e0 with z | z; exact absurd z q1; exact z)
      · exact zV.throwX _ C G dX9_daysUntil_9 dX9_daysUntil_12 dX9_daysUntil_13 dX9_daysUntil_15 dX9_daysUntil_18 hz_iae lk_X9_180 in_java_lang_IllegalArgumentException hs_182 hp_iae zUW rfl (zVX.out C F (⟨du_n e, rfl⟩) ⟨by decide, by decide⟩)
  · obtain ⟨hi, rfl⟩ := s4_some e
    have b1 := sm4 i hi
    have hs4 : gD g / 5 % 4 < 4 := Nat.mod_lt _ (by decide)
    refine zV.iload_n C dX9_daysUntil_0 rfl ?_
    refine zV.if_lt (tgt := 9) C dX9_daysUntil_1 (by decide) (fun q1 => ?_) (fun q1 => ?_)
    · exact absurd q1 b1.1
    · refine zV.iload_n C dX9_daysUntil_4 rfl ?_
      refine zV.ic (v := nI 4) C dX9_daysUntil_5 (by decide) ?_
      refine zV.icmp_lt (tgt := 19) C dX9_daysUntil_6 (by decide) (fun q6 => ?_) (fun q6 => ?_)
      · refine zV.iload_n C dX9_daysUntil_19 rfl ?_
        refine zV.aload_n C dX9_daysUntil_20 rfl rfl ?_
        refine zV.gR 384 (k := 0) C dX9_daysUntil_21 zcl_X9 (by decide) rfl lk_X9_10 (hx.1) rfl (hx.2.1) ?_
        refine zV.callV (n := 0) C G dX9_daysUntil_24 (s_comingSeason hzs hst h (a + 1) g hg hw) rfl ⟨cd_X3_comingSeason, lk_X9_176, im_X3_comingSeason, se_X3_X3_comingSeason, in_X3⟩ ⟨⟨by decide, by decide⟩, by decide⟩ rfl rfl rfl hg.1.1 ⟨rfl, by decide⟩ (zaf ?_) (zno)
        refine zV.isub C dX9_daysUntil_27 ?_
        refine zV.ic (v := nI 4) C dX9_daysUntil_28 (by decide) ?_
        refine zV.iadd C dX9_daysUntil_29 ?_
        refine zV.ic (v := nI 4) C dX9_daysUntil_30 (by decide) ?_
        refine zV.irem C dX9_daysUntil_31 (by decide) ?_
        rw [du1 i hi _ hs4]
        refine zV.istore_n (lo' := [(0, _), (1, _), (2, _)]) C dX9_daysUntil_32 (by decide) rfl rfl rfl ?_
        refine zV.iload_n C dX9_daysUntil_33 rfl ?_
        refine zV.if_ne (tgt := 41) C dX9_daysUntil_34 (by decide) (fun q34 => ?_) (fun q34 => ?_)
        · have e9 : (i + 4 - gD g / 5 % 4) % 4 ≠ 0 := fun z => q34 (by rw [z]; rfl)
          refine zV.iload_n C dX9_daysUntil_41 rfl ?_
          refine zV.ic (v := nI 5) C dX9_daysUntil_42 (by decide) ?_
          refine zV.imul C dX9_daysUntil_43 ?_
          refine zV.aload_n C dX9_daysUntil_44 rfl rfl ?_
          refine zV.gR 384 (k := 0) C dX9_daysUntil_45 zcl_X9 (by decide) rfl lk_X9_10 (hx.1) rfl (hx.2.1) ?_
          refine zV.gNIv 198 (k := 6) C dX9_daysUntil_48 zcl_X3 (by decide) rfl lk_X9_143 (hg.1.1) rfl ((zGa_n hg).2.2.1) ?_
          refine zV.ic (v := nI 5) C dX9_daysUntil_51 (by decide) ?_
          refine zV.irem C dX9_daysUntil_52 (by decide) ?_
          rw [pk_rem (by have := gW_b hw; omega) (by decide) (by decide)]
          refine zV.isub C dX9_daysUntil_53 ?_
          try rw [du2 _ (Nat.mod_lt _ (by decide)) e9 _ (Nat.mod_lt _ (by decide))]
          refine zV.iret C F dX9_daysUntil_54 rfl ?_
          exact aQ_of ((du_s e).trans (by unfold duN; first | rw [if_pos e9] | rw [if_neg e9]))
        · have e9 : (i + 4 - gD g / 5 % 4) % 4 = 0 := (n0 (by omega)).mp q34
          refine zV.ic (v := nI 0) C dX9_daysUntil_37 (by decide) ?_
          refine zV.goto (tgt := 54) C dX9_daysUntil_38 (by decide) ?_
          try rw [du2 _ (Nat.mod_lt _ (by decide)) e9 _ (Nat.mod_lt _ (by decide))]
          refine zV.iret C F dX9_daysUntil_54 rfl ?_
          exact aQ_of ((du_s e).trans (by unfold duN; first | rw [if_pos e9] | rw [if_neg e9]))
      · exact absurd b1.2 q6
