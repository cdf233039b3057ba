/-! the law: a change, and whether it was made -/
theorem sc_L_305 {E : zG} (hzs : zS E) : ∃ q q2, zSq RL 305 "d2;f" E q ∧ zSt E q q2 [100, 50, 59, 102] := by
  refine zSt_of hzs (by decide) lk_L_305 (List.mem_of_getElem? (i := 883) (by decide +kernel)) (List.mem_of_getElem? (i := 884) (by decide +kernel)) (List.mem_of_getElem? (i := 885) (by decide +kernel)) (List.mem_of_getElem? (i := 886) (by decide +kernel)) (fun j hj => by
    have hj2 : j < 4 := hj
    match j, hj2 with
    | 0, _ => exact List.mem_of_getElem? (i := 887) (by decide +kernel)
    | 1, _ => exact List.mem_of_getElem? (i := 888) (by decide +kernel)
    | 2, _ => exact List.mem_of_getElem? (i := 889) (by decide +kernel)
    | 3, _ => exact List.mem_of_getElem? (i := 890) (by decide +kernel))
theorem sc_L_317 {E : zG} (hzs : zS E) : ∃ q q2, zSq RL 317 "a1;m" E q ∧ zSt E q q2 [97, 49, 59, 109] := by
  refine zSt_of hzs (by decide) lk_L_317 (List.mem_of_getElem? (i := 891) (by decide +kernel)) (List.mem_of_getElem? (i := 892) (by decide +kernel)) (List.mem_of_getElem? (i := 893) (by decide +kernel)) (List.mem_of_getElem? (i := 894) (by decide +kernel)) (fun j hj => by
    have hj2 : j < 4 := hj
    match j, hj2 with
    | 0, _ => exact List.mem_of_getElem? (i := 895) (by decide +kernel)
    | 1, _ => exact List.mem_of_getElem? (i := 896) (by decide +kernel)
    | 2, _ => exact List.mem_of_getElem? (i := 897) (by decide +kernel)
    | 3, _ => exact List.mem_of_getElem? (i := 898) (by decide +kernel))
theorem sc_L_319 {E : zG} (hzs : zS E) : ∃ q q2, zSq RL 319 ">" E q ∧ zSt E q q2 [62] := by
  refine zSt_of hzs (by decide) lk_L_319 (List.mem_of_getElem? (i := 899) (by decide +kernel)) (List.mem_of_getElem? (i := 900) (by decide +kernel)) (List.mem_of_getElem? (i := 901) (by decide +kernel)) (List.mem_of_getElem? (i := 902) (by decide +kernel)) (fun j hj => by
    have hj2 : j < 1 := hj
    match j, hj2 with
    | 0, _ => exact List.mem_of_getElem? (i := 903) (by decide +kernel))
theorem sc_L_371 {E : zG} (hzs : zS E) : ∃ q q2, zSq RL 371 "x" E q ∧ zSt E q q2 [120] := by
  refine zSt_of hzs (by decide) lk_L_371 (List.mem_of_getElem? (i := 1000) (by decide +kernel)) (List.mem_of_getElem? (i := 1001) (by decide +kernel)) (List.mem_of_getElem? (i := 1002) (by decide +kernel)) (List.mem_of_getElem? (i := 1003) (by decide +kernel)) (fun j hj => by
    have hj2 : j < 1 := hj
    match j, hj2 with
    | 0, _ => exact List.mem_of_getElem? (i := 1004) (by decide +kernel))
theorem sc_L_376 {E : zG} (hzs : zS E) : ∃ q q2, zSq RL 376 "d1;s99" E q ∧ zSt E q q2 [100, 49, 59, 115, 57, 57] := by
  refine zSt_of hzs (by decide) lk_L_376 (List.mem_of_getElem? (i := 1005) (by decide +kernel)) (List.mem_of_getElem? (i := 1006) (by decide +kernel)) (List.mem_of_getElem? (i := 1007) (by decide +kernel)) (List.mem_of_getElem? (i := 1008) (by decide +kernel)) (fun j hj => by
    have hj2 : j < 6 := hj
    match j, hj2 with
    | 0, _ => exact List.mem_of_getElem? (i := 1009) (by decide +kernel)
    | 1, _ => exact List.mem_of_getElem? (i := 1010) (by decide +kernel)
    | 2, _ => exact List.mem_of_getElem? (i := 1011) (by decide +kernel)
    | 3, _ => exact List.mem_of_getElem? (i := 1012) (by decide +kernel)
    | 4, _ => exact List.mem_of_getElem? (i := 1013) (by decide +kernel)
    | 5, _ => exact List.mem_of_getElem? (i := 1014) (by decide +kernel))
theorem sc_L_378 {E : zG} (hzs : zS E) : ∃ q q2, zSq RL 378 "a1;d0" E q ∧ zSt E q q2 [97, 49, 59, 100, 48] := by
  refine zSt_of hzs (by decide) lk_L_378 (List.mem_of_getElem? (i := 1015) (by decide +kernel)) (List.mem_of_getElem? (i := 1016) (by decide +kernel)) (List.mem_of_getElem? (i := 1017) (by decide +kernel)) (List.mem_of_getElem? (i := 1018) (by decide +kernel)) (fun j hj => by
    have hj2 : j < 5 := hj
    match j, hj2 with
    | 0, _ => exact List.mem_of_getElem? (i := 1019) (by decide +kernel)
    | 1, _ => exact List.mem_of_getElem? (i := 1020) (by decide +kernel)
    | 2, _ => exact List.mem_of_getElem? (i := 1021) (by decide +kernel)
    | 3, _ => exact List.mem_of_getElem? (i := 1022) (by decide +kernel)
    | 4, _ => exact List.mem_of_getElem? (i := 1023) (by decide +kernel))
theorem sc_L_380 {E : zG} (hzs : zS E) : ∃ q q2, zSq RL 380 "d5;h0=9;m" E q ∧ zSt E q q2 [100, 53, 59, 104, 48, 61, 57, 59, 109] := by
  refine zSt_of hzs (by decide) lk_L_380 (List.mem_of_getElem? (i := 1024) (by decide +kernel)) (List.mem_of_getElem? (i := 1025) (by decide +kernel)) (List.mem_of_getElem? (i := 1026) (by decide +kernel)) (List.mem_of_getElem? (i := 1027) (by decide +kernel)) (fun j hj => by
    have hj2 : j < 9 := hj
    match j, hj2 with
    | 0, _ => exact List.mem_of_getElem? (i := 1028) (by decide +kernel)
    | 1, _ => exact List.mem_of_getElem? (i := 1029) (by decide +kernel)
    | 2, _ => exact List.mem_of_getElem? (i := 1030) (by decide +kernel)
    | 3, _ => exact List.mem_of_getElem? (i := 1031) (by decide +kernel)
    | 4, _ => exact List.mem_of_getElem? (i := 1032) (by decide +kernel)
    | 5, _ => exact List.mem_of_getElem? (i := 1033) (by decide +kernel)
    | 6, _ => exact List.mem_of_getElem? (i := 1034) (by decide +kernel)
    | 7, _ => exact List.mem_of_getElem? (i := 1035) (by decide +kernel)
    | 8, _ => exact List.mem_of_getElem? (i := 1036) (by decide +kernel))
/-- the class's object stays where its own cells and those from lo on stay -/
theorem zXa_x {h h' : zH} {a lo : Nat} {g : zGd} {us : List zGd} {sn : Option zGd} {off rs dt cs : Int32} {t o : List Nat} (q : zXa h a lo g us sn off rs dt cs t o) (hn9 : hN h ≤ hN h') (e1 : ∀ c, a ≤ c → c < a + 271 → zEq h h' c) (e2 : ∀ c, lo ≤ c → c < hN h → zEq h h' c) : zXa h' a lo g us sn off rs dt cs t o := by
  obtain ⟨hx, ⟨hg, hf, hb⟩, hs, hH, hI, hJ, hin, hou, hn, hlo, hl9⟩ := id q
  obtain ⟨v0, u0⟩ := zOu_v hou
  have ev : zEq h h' v0 := by
    rcases u0.2.2.2.2.1 with z | z
    · exact e1 v0 (by omega) (by omega)
    · exact e2 v0 z u0.2.2.2.2.2.1
  have e : ∀ c, a ≤ c → c < a + 269 → zEq h h' c := fun c h1 h2 => e1 c h1 (by omega)
  have ea := e a (by omega) (by omega)
  exact ⟨zXs_e hx ea, ⟨zGa_e hg hl9 (fun c h1 h2 => e c (by omega) (by omega)), zGt_e hf (fun c h1 h2 => e c (by omega) (by omega)), zGt_e hb (fun c h1 h2 => e c (by omega) (by omega))⟩, ⟨zGt_e hs.1 (fun c h1 h2 => e c (by omega) (by omega)), fun s hs9 => ⟨zGa_e (hs.2 s hs9).1 (hs.2 s hs9).2 (fun c h1 h2 => e c (by omega) (by omega)), (hs.2 s hs9).2⟩⟩, zHi_e hH (fun c h1 h2 => e c (by omega) (by omega)), zIs_e hI (fun c h1 h2 => e c (by omega) (by omega)), (e (a + 263) (by omega) (by omega)).1.trans hJ, zIn_e hin (fun c h1 h2 => e c (by omega) (by omega)), zOv_u (zOv_e u0 hn9 (e1 _ (by omega) (by omega)) ev), ⟨(ea.2.2.2.1 _).trans hn.1, (ea.2.2.2.1 _).trans hn.2.1, (ea.2.2.2.1 _).trans hn.2.2.1, (ea.2.2.2.1 _).trans hn.2.2.2.1, (ea.2.2.2.1 _).trans hn.2.2.2.2⟩, hlo, hl9⟩

theorem sbm_L {h : zH} {a : Nat} (hn : hN h = a + 1) : hL (sI (sR (hNew h 101 16) 32 a (some (hN h))) 33 a (nI 0)) (a + 1) = 16 := by
  rw [← hn]
  exact hL_newE (k := 101) (z := 16)
theorem zafS {X : zX} {kc ks : Nat} {h2 : zH} {pc : Nat} {lo : List (Nat × Value)} {rest : List Value} {n k9 : Nat} (k : ∀ j, j < k9 → zV X kc ks h2 pc lo (.int (nI j) :: rest)) : ∀ (r : Option Value) (h' : zH), ((∃ j, j < k9 ∧ r = some (.int (nI j))) ∧ h' = h2) → n ≤ hN h' → zV X kc ks h' pc lo (r.toList ++ rest) := fun r h' q _ => by
  obtain ⟨⟨j, hj, rfl⟩, rfl⟩ := q
  exact k j hj
theorem chsP_tr {h h1 h' : zH} {a lo m : Nat} {g : zGd} {us : List zGd} {sn : Option zGd} {v : Int32} (f : zXf h h1 a lo) (p : chsP h1 a lo m g us sn v h') : chsP h a lo m g us sn v h' := ⟨f.trans p.1, p.2⟩
/-- all that was there is as it was -/
theorem kept {h h' : zH} {a lo : Nat} {g : zGd} {us : List zGd} {sn : Option zGd} {off rs dt cs : Int32} {t o : List Nat} (q : zXa h a lo g us sn off rs dt cs t o) (hlN : lo ≤ hN h) (hn : hN h ≤ hN h') (e : ∀ c, c < hN h → zEq h h' c) : zXa h' a lo g us sn off rs dt cs t o ∧ zXf h h' a lo := by
  obtain ⟨hx, ⟨hg, hf, hb⟩, hs, hH, hI, hJ, hin, hou, hnn, hlo, hl9⟩ := id q
  exact ⟨zXa_x q hn (fun c h1 h2 => e c (by omega)) (fun c h1 h2 => e c h2), hn, fun c h1 h2 => e c (by omega)⟩
theorem zXa_lo {h : zH} {a lo : Nat} {g : zGd} {us : List zGd} {sn : Option zGd} {off rs dt cs : Int32} {t o : List Nat} (q : zXa h a lo g us sn off rs dt cs t o) : a + 271 ≤ lo := by
  obtain ⟨hx, ⟨hg, hf, hb⟩, hs, hH, hI, hJ, hin, hou, hnn, hlo, hl9⟩ := id q
  omega
theorem dcs_t {n : Nat} (h : n < 100) : (dcs n).length ≤ 2 := dcs_le 1 n (by omega)
set_option maxHeartbeats 4000000 in
set_option maxRecDepth 100000 in
theorem s_TSB5 {l : Launch} {E : zG} (hzs : zS E) (hst : l.stackTraces = false) (h : zH) (a : Nat) (hk : hK h a = 2) (hn : hN h = a + 1) (h9 : ∀ f, hI h f a = 0) : zMet l E yJ5_init_d00df cJ5_init_d00df 2 none ({ frames := 1, cells := 1, slots := 16, locals := 20 } : Room) 1 16 [.ref a, .int (nI 16)] h (fun r h' => r = none ∧ zOw h' a [] ∧ hN h' = a + 2 ∧ zEx h h' a) (fun _ _ => False) := by
  refine zM_start hzs hst (by decide) (Nat.le_of_ble_eq_true rfl) (fun X C G F I => ?_)
  show zV X 0 0 _ 0 [(0, _), (1, _)] []
  have I := I rfl
  refine zV.aload_n C dJ5_init_d00df_0 rfl rfl ?_
  refine zV.obj C G dJ5_init_d00df_1 ⟨lk_J5_3, im_Oinit, cd_Oinit⟩ rfl rfl ?_
  refine zV.gstI C G dJ5_init_d00df_4 (st_compact hzs) lk_J5_18 ?_
  refine zV.if_eq (tgt := 25) C dJ5_init_d00df_7 (by decide) (fun q7 => ?_) (fun q7 => ?_)
  · exact absurd q7 (by decide)
  · refine zV.aload_n C dJ5_init_d00df_10 rfl rfl ?_
    refine zV.iload_n C dJ5_init_d00df_11 rfl ?_
    refine zV.newB (n := 16) C G dJ5_init_d00df_12 ac_byte (rfl) (by decide) rfl ?_
    refine zV.pR 32 (k := 0) C dJ5_init_d00df_14 zcl_J4 (by decide) rfl lk_J5_15 rfl ((hK_new (k := 101) (z := 16) (a := a) (by omega)).trans hk) rfl (fun _ => ⟨rfl, rfl⟩) ?_
    refine zV.aload_n C dJ5_init_d00df_17 rfl rfl ?_
    refine zV.ic (v := nI 0) C dJ5_init_d00df_18 (by decide) ?_
    refine zV.pI 33 (k := 1) C dJ5_init_d00df_19 zcl_J4 (by decide) rfl lk_J5_22 rfl ((hK_new (k := 101) (z := 16) (a := a) (by omega)).trans hk) rfl ⟨rfl, rfl⟩ ?_
    refine zV.goto (tgt := 38) C dJ5_init_d00df_22 (by decide) ?_
    refine zV.vret C F dJ5_init_d00df_38 rfl ?_
    exact ⟨rfl, ⟨fun lo => (sbm hk hn h9).1, sbm_L hn⟩, (sbm (lo := 0) hk hn h9).2⟩
set_option maxHeartbeats 4000000 in
set_option maxRecDepth 100000 in
theorem s_TSB {l : Launch} {E : zG} (hzs : zS E) (hst : l.stackTraces = false) (h : zH) (a : Nat) (hk : hK h a = 2) (hn : hN h = a + 1) (h9 : ∀ f, hI h f a = 0) : zMet l E yJ4_init_da8c8 cJ4_init_da8c8 1 none ({ frames := 2, cells := 1, slots := 16, locals := 41 } : Room) 1 16 [.ref a] h (fun r h' => r = none ∧ zOw h' a [] ∧ hN h' = a + 2 ∧ zEx h h' a) (fun _ _ => False) := by
  refine zM_start hzs hst (by decide) (Nat.le_of_ble_eq_true rfl) (fun X C G F I => ?_)
  show zV X 0 0 _ 0 [(0, _)] []
  have I := I rfl
  refine zV.aload_n C dJ4_init_da8c8_0 rfl rfl ?_
  refine zV.bi (v := nI 16) C dJ4_init_da8c8_1 (by decide) ?_
  refine zV.callI (n := 1) C G dJ4_init_da8c8_3 (s_TSB5 hzs hst h a hk hn h9) rfl ⟨cd_J5_init_d00df, lk_J4_1, im_J5_init_d00df, in_J5⟩ rfl ⟨⟨by decide, by decide⟩, by decide⟩ rfl rfl rfl (zafRv (fun h1 p1 => ?_)) (zno)
  refine zV.vret C F dJ4_init_da8c8_6 rfl ?_
  exact ⟨rfl, p1⟩
set_option maxHeartbeats 4000000 in
set_option maxRecDepth 100000 in
theorem L_ch140 {X : zX} {l : Launch} {E : zG} {rm : Room} (hzs : zS E) (hst : l.stackTraces = false) (C : zC X cL_changes RL 5) (G : zGX X l E rm) {h : zH} {a lo m : Nat} {g : zGd} {us : List zGd} {sn : Option zGd} {off rs dt cs : Int32} {o : List Nat} {x l9 k9 c9 : Int32} {Qx : String → zH → Prop} (hr : rm = ({ frames := 10, cells := 80, slots := 500, locals := 254 } : Room)) (F : zF X (some .boolean) 80 500 (chsQ h a lo m g us sn) Qx) (hR : gR m g) (hb : m + 50000 ≤ big) (hlN : lo ≤ hN h) (q : zXa h a lo g us sn off rs dt cs [] o) : zV X 0 0 h 140 [(0, .ref a), (1, .int x), (2, .int l9), (3, .int k9), (4, .int c9)] [] := by
  subst hr
  refine zV.aload_n C dL_changes_140 rfl rfl ?_
  refine zV.iload_n C dL_changes_141 rfl ?_
  refine zV.iload_n C dL_changes_142 rfl ?_
  refine zV.callSW (n := 3) C G dL_changes_143 (w_addPath hzs hst q hR (Nat.le_trans (by omega) hb) _ _) rfl ⟨cd_L_addPath, lk_L_208, st_L_addPath, in_L⟩ ⟨⟨by decide, by decide⟩, by decide⟩ rfl rfl rfl (zafC (fun h9 p9 => ?_)) (zno)
  have p := chg_s (cf := (fun Ex => if Ex = IOB then -1001 else if Ex = IAE then -1002 else -1003)) isD_112 hR (Nat.le_trans (by omega) hb) cf3 p9
  refine zV.if_lt (tgt := 153) C dL_changes_146 (by decide) (fun q146 => ?_) (fun q146 => ?_)
  · refine zV.ic (v := nI 0) C dL_changes_153 (by decide) ?_
    refine zV.zret C F dL_changes_154 rfl rfl ?_
    first | exact chs_1 p (by first | assumption | exact Int32.not_lt.mpr (by assumption)) | exact chs_0 p (by first | assumption | exact Int32.not_le.mp (by assumption))
  · refine zV.ic (v := nI 1) C dL_changes_149 (by decide) ?_
    refine zV.goto (tgt := 154) C dL_changes_150 (by decide) ?_
    refine zV.zret C F dL_changes_154 rfl rfl ?_
    first | exact chs_1 p (by first | assumption | exact Int32.not_lt.mpr (by assumption)) | exact chs_0 p (by first | assumption | exact Int32.not_le.mp (by assumption))
set_option maxHeartbeats 4000000 in
set_option maxRecDepth 100000 in
theorem L_ch155 {X : zX} {l : Launch} {E : zG} {rm : Room} (hzs : zS E) (hst : l.stackTraces = false) (C : zC X cL_changes RL 5) (G : zGX X l E rm) {h : zH} {a lo m : Nat} {g : zGd} {us : List zGd} {sn : Option zGd} {off rs dt cs : Int32} {o : List Nat} {x l9 k9 c9 : Int32} {Qx : String → zH → Prop} (hr : rm = ({ frames := 10, cells := 80, slots := 500, locals := 254 } : Room)) (F : zF X (some .boolean) 80 500 (chsQ h a lo m g us sn) Qx) (hR : gR m g) (hb : m + 50000 ≤ big) (hlN : lo ≤ hN h) (q : zXa h a lo g us sn off rs dt cs [] o) : zV X 0 0 h 155 [(0, .ref a), (1, .int x), (2, .int l9), (3, .int k9), (4, .int c9)] [] := by
  subst hr
  refine zV.aload_n C dL_changes_155 rfl rfl ?_
  refine zV.iload_n C dL_changes_156 rfl ?_
  refine zV.iload_n C dL_changes_157 rfl ?_
  refine zV.callSW (n := 3) C G dL_changes_158 (w_removePath hzs hst q hR (Nat.le_trans (by omega) hb) _ _) rfl ⟨cd_L_removePath, lk_L_286, st_L_removePath, in_L⟩ ⟨⟨by decide, by decide⟩, by decide⟩ rfl rfl rfl (zafC (fun h9 p9 => ?_)) (zno)
  have p := chg_s (cf := (fun Ex => if Ex = IOB then -1001 else if Ex = IAE then -1002 else -1003)) isD_113 hR (Nat.le_trans (by omega) hb) cf3 p9
  refine zV.if_lt (tgt := 168) C dL_changes_161 (by decide) (fun q161 => ?_) (fun q161 => ?_)
  · refine zV.ic (v := nI 0) C dL_changes_168 (by decide) ?_
    refine zV.zret C F dL_changes_169 rfl rfl ?_
    first | exact chs_1 p (by first | assumption | exact Int32.not_lt.mpr (by assumption)) | exact chs_0 p (by first | assumption | exact Int32.not_le.mp (by assumption))
  · refine zV.ic (v := nI 1) C dL_changes_164 (by decide) ?_
    refine zV.goto (tgt := 169) C dL_changes_165 (by decide) ?_
    refine zV.zret C F dL_changes_169 rfl rfl ?_
    first | exact chs_1 p (by first | assumption | exact Int32.not_lt.mpr (by assumption)) | exact chs_0 p (by first | assumption | exact Int32.not_le.mp (by assumption))
set_option maxHeartbeats 4000000 in
set_option maxRecDepth 100000 in
theorem L_ch170 {X : zX} {l : Launch} {E : zG} {rm : Room} (hzs : zS E) (hst : l.stackTraces = false) (C : zC X cL_changes RL 5) (G : zGX X l E rm) {h : zH} {a lo m : Nat} {g : zGd} {us : List zGd} {sn : Option zGd} {off rs dt cs : Int32} {o : List Nat} {x l9 k9 c9 : Int32} {Qx : String → zH → Prop} (hr : rm = ({ frames := 10, cells := 80, slots := 500, locals := 254 } : Room)) (F : zF X (some .boolean) 80 500 (chsQ h a lo m g us sn) Qx) (hR : gR m g) (hb : m + 50000 ≤ big) (hlN : lo ≤ hN h) (q : zXa h a lo g us sn off rs dt cs [] o) : zV X 0 0 h 170 [(0, .ref a), (1, .int x), (2, .int l9), (3, .int k9), (4, .int c9)] [] := by
  subst hr
  refine zV.aload_n C dL_changes_170 rfl rfl ?_
  refine zV.iload_n C dL_changes_171 rfl ?_
  refine zV.iload_n C dL_changes_172 rfl ?_
  refine zV.bi (v := nI 7) C dL_changes_173 (by decide) ?_
  refine zV.ishr C dL_changes_175 ?_
  refine zV.bi (v := nI 22) C dL_changes_176 (by decide) ?_
  refine zV.callS (n := 2) C G dL_changes_178 (s_some hzs hst _ _ _ (by decide) (by decide)) rfl ⟨cd_L_some, lk_L_205, st_L_some, in_L⟩ ⟨⟨by decide, by decide⟩, by decide⟩ rfl rfl rfl (zafS (fun j hj => ?_)) (zno)
  refine zV.callSW (n := 3) C G dL_changes_181 (w_setShade hzs hst q hR (Nat.le_trans (by omega) hb) _ _) rfl ⟨cd_L_setShade, lk_L_211, st_L_setShade, in_L⟩ ⟨⟨by decide, by decide⟩, by decide⟩ rfl rfl rfl (zafC (fun h9 p9 => ?_)) (zno)
  have p := chg_s (cf := (fun Ex => if Ex = IOB then -1001 else -1002)) isD_104 hR (Nat.le_trans (by omega) hb) cf2 p9
  refine zV.if_lt (tgt := 191) C dL_changes_184 (by decide) (fun q184 => ?_) (fun q184 => ?_)
  · refine zV.ic (v := nI 0) C dL_changes_191 (by decide) ?_
    refine zV.zret C F dL_changes_192 rfl rfl ?_
    first | exact chs_1 p (by first | assumption | exact Int32.not_lt.mpr (by assumption)) | exact chs_0 p (by first | assumption | exact Int32.not_le.mp (by assumption))
  · refine zV.ic (v := nI 1) C dL_changes_187 (by decide) ?_
    refine zV.goto (tgt := 192) C dL_changes_188 (by decide) ?_
    refine zV.zret C F dL_changes_192 rfl rfl ?_
    first | exact chs_1 p (by first | assumption | exact Int32.not_lt.mpr (by assumption)) | exact chs_0 p (by first | assumption | exact Int32.not_le.mp (by assumption))
set_option maxHeartbeats 4000000 in
set_option maxRecDepth 100000 in
theorem L_ch193 {X : zX} {l : Launch} {E : zG} {rm : Room} (hzs : zS E) (hst : l.stackTraces = false) (C : zC X cL_changes RL 5) (G : zGX X l E rm) {h : zH} {a lo m : Nat} {g : zGd} {us : List zGd} {sn : Option zGd} {off rs dt cs : Int32} {o : List Nat} {x l9 k9 c9 : Int32} {Qx : String → zH → Prop} (hr : rm = ({ frames := 10, cells := 80, slots := 500, locals := 254 } : Room)) (F : zF X (some .boolean) 80 500 (chsQ h a lo m g us sn) Qx) (hR : gR m g) (hb : m + 50000 ≤ big) (hlN : lo ≤ hN h) (q : zXa h a lo g us sn off rs dt cs [] o) : zV X 0 0 h 193 [(0, .ref a), (1, .int x), (2, .int l9), (3, .int k9), (4, .int c9)] [] := by
  subst hr
  refine zV.aload_n C dL_changes_193 rfl rfl ?_
  refine zV.iload_n C dL_changes_194 rfl ?_
  refine zV.iload_n C dL_changes_195 rfl ?_
  refine zV.bi (v := nI 7) C dL_changes_196 (by decide) ?_
  refine zV.ishr C dL_changes_198 ?_
  refine zV.bi (v := nI 11) C dL_changes_199 (by decide) ?_
  refine zV.callS (n := 2) C G dL_changes_201 (s_some hzs hst _ _ _ (by decide) (by decide)) rfl ⟨cd_L_some, lk_L_205, st_L_some, in_L⟩ ⟨⟨by decide, by decide⟩, by decide⟩ rfl rfl rfl (zafS (fun j hj => ?_)) (zno)
  refine zV.callSW (n := 3) C G dL_changes_204 (w_addChair hzs hst q hR (Nat.le_trans (by omega) hb) _ _) rfl ⟨cd_L_addChair, lk_L_213, st_L_addChair, in_L⟩ ⟨⟨by decide, by decide⟩, by decide⟩ rfl rfl rfl (zafC (fun h9 p9 => ?_)) (zno)
  have p := chg_s (cf := (fun Ex => if Ex = IOB then -1001 else if Ex = IAE then -1002 else -1003)) isD_99 hR (Nat.le_trans (by omega) hb) cf3 p9
  refine zV.if_lt (tgt := 214) C dL_changes_207 (by decide) (fun q207 => ?_) (fun q207 => ?_)
  · refine zV.ic (v := nI 0) C dL_changes_214 (by decide) ?_
    refine zV.zret C F dL_changes_215 rfl rfl ?_
    first | exact chs_1 p (by first | assumption | exact Int32.not_lt.mpr (by assumption)) | exact chs_0 p (by first | assumption | exact Int32.not_le.mp (by assumption))
  · refine zV.ic (v := nI 1) C dL_changes_210 (by decide) ?_
    refine zV.goto (tgt := 215) C dL_changes_211 (by decide) ?_
    refine zV.zret C F dL_changes_215 rfl rfl ?_
    first | exact chs_1 p (by first | assumption | exact Int32.not_lt.mpr (by assumption)) | exact chs_0 p (by first | assumption | exact Int32.not_le.mp (by assumption))
set_option maxHeartbeats 4000000 in
set_option maxRecDepth 100000 in
theorem L_ch216 {X : zX} {l : Launch} {E : zG} {rm : Room} (hzs : zS E) (hst : l.stackTraces = false) (C : zC X cL_changes RL 5) (G : zGX X l E rm) {h : zH} {a lo m : Nat} {g : zGd} {us : List zGd} {sn : Option zGd} {off rs dt cs : Int32} {o : List Nat} {x l9 k9 c9 : Int32} {Qx : String → zH → Prop} (hr : rm = ({ frames := 10, cells := 80, slots := 500, locals := 254 } : Room)) (F : zF X (some .boolean) 80 500 (chsQ h a lo m g us sn) Qx) (hR : gR m g) (hb : m + 50000 ≤ big) (hlN : lo ≤ hN h) (q : zXa h a lo g us sn off rs dt cs [] o) : zV X 0 0 h 216 [(0, .ref a), (1, .int x), (2, .int l9), (3, .int k9), (4, .int c9)] [] := by
  subst hr
  refine zV.aload_n C dL_changes_216 rfl rfl ?_
  refine zV.iload C dL_changes_217 rfl ?_
  refine zV.callSW (n := 2) C G dL_changes_219 (w_scrap hzs hst q hR (Nat.le_trans (by omega) hb) _) rfl ⟨cd_L_scrap, lk_L_288, st_L_scrap, in_L⟩ ⟨⟨by decide, by decide⟩, by decide⟩ rfl rfl rfl (zafC (fun h9 p9 => ?_)) (zno)
  have p := chg_s (cf := (fun _ => -1001)) isD_115 hR (Nat.le_trans (by omega) hb) cf1 p9
  refine zV.if_lt (tgt := 229) C dL_changes_222 (by decide) (fun q222 => ?_) (fun q222 => ?_)
  · refine zV.ic (v := nI 0) C dL_changes_229 (by decide) ?_
    refine zV.zret C F dL_changes_230 rfl rfl ?_
    first | exact chs_1 p (by first | assumption | exact Int32.not_lt.mpr (by assumption)) | exact chs_0 p (by first | assumption | exact Int32.not_le.mp (by assumption))
  · refine zV.ic (v := nI 1) C dL_changes_225 (by decide) ?_
    refine zV.goto (tgt := 230) C dL_changes_226 (by decide) ?_
    refine zV.zret C F dL_changes_230 rfl rfl ?_
    first | exact chs_1 p (by first | assumption | exact Int32.not_lt.mpr (by assumption)) | exact chs_0 p (by first | assumption | exact Int32.not_le.mp (by assumption))
set_option maxHeartbeats 4000000 in
set_option maxRecDepth 100000 in
theorem L_ch231 {X : zX} {l : Launch} {E : zG} {rm : Room} (hzs : zS E) (hst : l.stackTraces = false) (C : zC X cL_changes RL 5) (G : zGX X l E rm) {h : zH} {a lo m : Nat} {g : zGd} {us : List zGd} {sn : Option zGd} {off rs dt cs : Int32} {o : List Nat} {x l9 k9 c9 : Int32} {Qx : String → zH → Prop} (hr : rm = ({ frames := 10, cells := 80, slots := 500, locals := 254 } : Room)) (F : zF X (some .boolean) 80 500 (chsQ h a lo m g us sn) Qx) (hR : gR m g) (hb : m + 50000 ≤ big) (hlN : lo ≤ hN h) (q : zXa h a lo g us sn off rs dt cs [] o) : zV X 0 0 h 231 [(0, .ref a), (1, .int x), (2, .int l9), (3, .int k9), (4, .int c9)] [] := by
  subst hr
  refine zV.aload_n C dL_changes_231 rfl rfl ?_
  refine zV.iload C dL_changes_232 rfl ?_
  refine zV.callSW (n := 2) C G dL_changes_234 (w_fold hzs hst q hR (Nat.le_trans (by omega) hb) _) rfl ⟨cd_L_fold, lk_L_215, st_L_fold, in_L⟩ ⟨⟨by decide, by decide⟩, by decide⟩ rfl rfl rfl (zafC (fun h9 p9 => ?_)) (zno)
  have p := chg_s (cf := (fun Ex => if Ex = IOB then -1001 else -1002)) isD_102 hR (Nat.le_trans (by omega) hb) cf2 p9
  refine zV.if_lt (tgt := 244) C dL_changes_237 (by decide) (fun q237 => ?_) (fun q237 => ?_)
  · refine zV.ic (v := nI 0) C dL_changes_244 (by decide) ?_
    refine zV.zret C F dL_changes_245 rfl rfl ?_
    first | exact chs_1 p (by first | assumption | exact Int32.not_lt.mpr (by assumption)) | exact chs_0 p (by first | assumption | exact Int32.not_le.mp (by assumption))
  · refine zV.ic (v := nI 1) C dL_changes_240 (by decide) ?_
    refine zV.goto (tgt := 245) C dL_changes_241 (by decide) ?_
    refine zV.zret C F dL_changes_245 rfl rfl ?_
    first | exact chs_1 p (by first | assumption | exact Int32.not_lt.mpr (by assumption)) | exact chs_0 p (by first | assumption | exact Int32.not_le.mp (by assumption))
set_option maxHeartbeats 4000000 in
set_option maxRecDepth 100000 in
theorem L_ch246 {X : zX} {l : Launch} {E : zG} {rm : Room} (hzs : zS E) (hst : l.stackTraces = false) (C : zC X cL_changes RL 5) (G : zGX X l E rm) {h : zH} {a lo m : Nat} {g : zGd} {us : List zGd} {sn : Option zGd} {off rs dt cs : Int32} {o : List Nat} {x l9 k9 c9 : Int32} {Qx : String → zH → Prop} (hr : rm = ({ frames := 10, cells := 80, slots := 500, locals := 254 } : Room)) (F : zF X (some .boolean) 80 500 (chsQ h a lo m g us sn) Qx) (hR : gR m g) (hb : m + 50000 ≤ big) (hlN : lo ≤ hN h) (q : zXa h a lo g us sn off rs dt cs [] o) : zV X 0 0 h 246 [(0, .ref a), (1, .int x), (2, .int l9), (3, .int k9), (4, .int c9)] [] := by
  subst hr
  refine zV.aload_n C dL_changes_246 rfl rfl ?_
  refine zV.iload C dL_changes_247 rfl ?_
  refine zV.callSW (n := 2) C G dL_changes_249 (w_unfold hzs hst q hR (Nat.le_trans (by omega) hb) _) rfl ⟨cd_L_unfold, lk_L_291, st_L_unfold, in_L⟩ ⟨⟨by decide, by decide⟩, by decide⟩ rfl rfl rfl (zafC (fun h9 p9 => ?_)) (zno)
  have p := chg_s (cf := (fun Ex => if Ex = IOB then -1001 else -1002)) isD_117 hR (Nat.le_trans (by omega) hb) cf2 p9
  refine zV.if_lt (tgt := 259) C dL_changes_252 (by decide) (fun q252 => ?_) (fun q252 => ?_)
  · refine zV.ic (v := nI 0) C dL_changes_259 (by decide) ?_
    refine zV.zret C F dL_changes_260 rfl rfl ?_
    first | exact chs_1 p (by first | assumption | exact Int32.not_lt.mpr (by assumption)) | exact chs_0 p (by first | assumption | exact Int32.not_le.mp (by assumption))
  · refine zV.ic (v := nI 1) C dL_changes_255 (by decide) ?_
    refine zV.goto (tgt := 260) C dL_changes_256 (by decide) ?_
    refine zV.zret C F dL_changes_260 rfl rfl ?_
    first | exact chs_1 p (by first | assumption | exact Int32.not_lt.mpr (by assumption)) | exact chs_0 p (by first | assumption | exact Int32.not_le.mp (by assumption))
set_option maxHeartbeats 4000000 in
set_option maxRecDepth 100000 in
theorem L_ch261 {X : zX} {l : Launch} {E : zG} {rm : Room} (hzs : zS E) (hst : l.stackTraces = false) (C : zC X cL_changes RL 5) (G : zGX X l E rm) {h : zH} {a lo m : Nat} {g : zGd} {us : List zGd} {sn : Option zGd} {off rs dt cs : Int32} {o : List Nat} {x l9 k9 c9 : Int32} {Qx : String → zH → Prop} (hr : rm = ({ frames := 10, cells := 80, slots := 500, locals := 254 } : Room)) (F : zF X (some .boolean) 80 500 (chsQ h a lo m g us sn) Qx) (hR : gR m g) (hb : m + 50000 ≤ big) (hlN : lo ≤ hN h) (q : zXa h a lo g us sn off rs dt cs [] o) : zV X 0 0 h 261 [(0, .ref a), (1, .int x), (2, .int l9), (3, .int k9), (4, .int c9)] [] := by
  subst hr
  refine zV.aload_n C dL_changes_261 rfl rfl ?_
  refine zV.iload C dL_changes_262 rfl ?_
  refine zV.iload_n C dL_changes_264 rfl ?_
  refine zV.callSW (n := 3) C G dL_changes_265 (w_move hzs hst q hR (Nat.le_trans (by omega) hb) _ _) rfl ⟨cd_L_move, lk_L_293, st_L_move, in_L⟩ ⟨⟨by decide, by decide⟩, by decide⟩ rfl rfl rfl (zafC (fun h9 p9 => ?_)) (zno)
  have p := chg_s (cf := (fun Ex => if Ex = IOB then -1001 else -1002)) isD_109 hR (Nat.le_trans (by omega) hb) cf2 p9
  refine zV.if_lt (tgt := 275) C dL_changes_268 (by decide) (fun q268 => ?_) (fun q268 => ?_)
  · refine zV.ic (v := nI 0) C dL_changes_275 (by decide) ?_
    refine zV.zret C F dL_changes_276 rfl rfl ?_
    first | exact chs_1 p (by first | assumption | exact Int32.not_lt.mpr (by assumption)) | exact chs_0 p (by first | assumption | exact Int32.not_le.mp (by assumption))
  · refine zV.ic (v := nI 1) C dL_changes_271 (by decide) ?_
    refine zV.goto (tgt := 276) C dL_changes_272 (by decide) ?_
    refine zV.zret C F dL_changes_276 rfl rfl ?_
    first | exact chs_1 p (by first | assumption | exact Int32.not_lt.mpr (by assumption)) | exact chs_0 p (by first | assumption | exact Int32.not_le.mp (by assumption))
set_option maxHeartbeats 4000000 in
set_option maxRecDepth 100000 in
theorem L_ch277 {X : zX} {l : Launch} {E : zG} {rm : Room} (hzs : zS E) (hst : l.stackTraces = false) (C : zC X cL_changes RL 5) (G : zGX X l E rm) {h : zH} {a lo m : Nat} {g : zGd} {us : List zGd} {sn : Option zGd} {off rs dt cs : Int32} {o : List Nat} {x l9 k9 c9 : Int32} {Qx : String → zH → Prop} (hr : rm = ({ frames := 10, cells := 80, slots := 500, locals := 254 } : Room)) (F : zF X (some .boolean) 80 500 (chsQ h a lo m g us sn) Qx) (hR : gR m g) (hb : m + 50000 ≤ big) (hlN : lo ≤ hN h) (q : zXa h a lo g us sn off rs dt cs [] o) : zV X 0 0 h 277 [(0, .ref a), (1, .int x), (2, .int l9), (3, .int k9), (4, .int c9)] [] := by
  subst hr
  refine zV.aload_n C dL_changes_277 rfl rfl ?_
  refine zV.iload_n C dL_changes_278 rfl ?_
  refine zV.iload_n C dL_changes_279 rfl ?_
  refine zV.callSW (n := 3) C G dL_changes_280 (w_migrate hzs hst q hR (Nat.le_trans (by omega) hb) _ _) rfl ⟨cd_L_migrate, lk_L_296, st_L_migrate, in_L⟩ ⟨⟨by decide, by decide⟩, by decide⟩ rfl rfl rfl (zafC (fun h9 p9 => ?_)) (zno)
  have p := chg_s (cf := (fun Ex => if Ex = IOB then -1001 else -1002)) isD_103 hR (Nat.le_trans (by omega) hb) cf2 p9
  refine zV.if_lt (tgt := 290) C dL_changes_283 (by decide) (fun q283 => ?_) (fun q283 => ?_)
  · refine zV.ic (v := nI 0) C dL_changes_290 (by decide) ?_
    refine zV.zret C F dL_changes_291 rfl rfl ?_
    first | exact chs_1 p (by first | assumption | exact Int32.not_lt.mpr (by assumption)) | exact chs_0 p (by first | assumption | exact Int32.not_le.mp (by assumption))
  · refine zV.ic (v := nI 1) C dL_changes_286 (by decide) ?_
    refine zV.goto (tgt := 291) C dL_changes_287 (by decide) ?_
    refine zV.zret C F dL_changes_291 rfl rfl ?_
    first | exact chs_1 p (by first | assumption | exact Int32.not_lt.mpr (by assumption)) | exact chs_0 p (by first | assumption | exact Int32.not_le.mp (by assumption))
set_option maxHeartbeats 4000000 in
set_option maxRecDepth 100000 in
theorem L_ch292 {X : zX} {l : Launch} {E : zG} {rm : Room} (hzs : zS E) (hst : l.stackTraces = false) (C : zC X cL_changes RL 5) (G : zGX X l E rm) {h : zH} {a lo m : Nat} {g : zGd} {us : List zGd} {sn : Option zGd} {off rs dt cs : Int32} {o : List Nat} {x l9 k9 c9 : Int32} {Qx : String → zH → Prop} (hr : rm = ({ frames := 10, cells := 80, slots := 500, locals := 254 } : Room)) (F : zF X (some .boolean) 80 500 (chsQ h a lo m g us sn) Qx) (hR : gR m g) (hb : m + 50000 ≤ big) (hlN : lo ≤ hN h) (q : zXa h a lo g us sn off rs dt cs [] o) : zV X 0 0 h 292 [(0, .ref a), (1, .int x), (2, .int l9), (3, .int k9), (4, .int c9)] [] := by
  subst hr
  refine zV.aload_n C dL_changes_292 rfl rfl ?_
  refine zV.iload C dL_changes_293 rfl ?_
  refine zV.callSW (n := 2) C G dL_changes_295 (w_oilChair hzs hst q hR (Nat.le_trans (by omega) hb) _) rfl ⟨cd_L_oilChair, lk_L_298, st_L_oilChair, in_L⟩ ⟨⟨by decide, by decide⟩, by decide⟩ rfl rfl rfl (zafC (fun h9 p9 => ?_)) (zno)
  have p := chg_s (cf := (fun Ex => if Ex = IOB then -1001 else -1002)) isD_111 hR (Nat.le_trans (by omega) hb) cf2 p9
  refine zV.if_lt (tgt := 305) C dL_changes_298 (by decide) (fun q298 => ?_) (fun q298 => ?_)
  · refine zV.ic (v := nI 0) C dL_changes_305 (by decide) ?_
    refine zV.zret C F dL_changes_306 rfl rfl ?_
    first | exact chs_1 p (by first | assumption | exact Int32.not_lt.mpr (by assumption)) | exact chs_0 p (by first | assumption | exact Int32.not_le.mp (by assumption))
  · refine zV.ic (v := nI 1) C dL_changes_301 (by decide) ?_
    refine zV.goto (tgt := 306) C dL_changes_302 (by decide) ?_
    refine zV.zret C F dL_changes_306 rfl rfl ?_
    first | exact chs_1 p (by first | assumption | exact Int32.not_lt.mpr (by assumption)) | exact chs_0 p (by first | assumption | exact Int32.not_le.mp (by assumption))
set_option maxHeartbeats 4000000 in
set_option maxRecDepth 100000 in
theorem L_ch307 {X : zX} {l : Launch} {E : zG} {rm : Room} (hzs : zS E) (hst : l.stackTraces = false) (C : zC X cL_changes RL 5) (G : zGX X l E rm) {h : zH} {a lo m : Nat} {g : zGd} {us : List zGd} {sn : Option zGd} {off rs dt cs : Int32} {o : List Nat} {x l9 k9 c9 : Int32} {Qx : String → zH → Prop} (hr : rm = ({ frames := 10, cells := 80, slots := 500, locals := 254 } : Room)) (F : zF X (some .boolean) 80 500 (chsQ h a lo m g us sn) Qx) (hR : gR m g) (hb : m + 50000 ≤ big) (hlN : lo ≤ hN h) (q : zXa h a lo g us sn off rs dt cs [] o) : zV X 0 0 h 307 [(0, .ref a), (1, .int x), (2, .int l9), (3, .int k9), (4, .int c9)] [] := by
  subst hr
  refine zV.aload_n C dL_changes_307 rfl rfl ?_
  refine zV.iload_n C dL_changes_308 rfl ?_
  refine zV.ic (v := nI 4) C dL_changes_309 (by decide) ?_
  refine zV.ishr C dL_changes_310 ?_
  refine zV.bi (v := nI 12) C dL_changes_311 (by decide) ?_
  refine zV.callS (n := 2) C G dL_changes_313 (s_some hzs hst _ _ _ (by decide) (by decide)) rfl ⟨cd_L_some, lk_L_205, st_L_some, in_L⟩ ⟨⟨by decide, by decide⟩, by decide⟩ rfl rfl rfl (zafS (fun j hj => ?_)) (zno)
  refine zV.callSW (n := 2) C G dL_changes_316 (w_addOil hzs hst q hR (Nat.le_trans (by omega) hb) _) rfl ⟨cd_L_addOil, lk_L_300, st_L_addOil, in_L⟩ ⟨⟨by decide, by decide⟩, by decide⟩ rfl rfl rfl (zafC (fun h9 p9 => ?_)) (zno)
  have p := chg_s (cf := (fun Ex => if Ex = IAE then -1001 else -1002)) isD_97 hR (Nat.le_trans (by omega) hb) cf2 p9
  refine zV.if_lt (tgt := 326) C dL_changes_319 (by decide) (fun q319 => ?_) (fun q319 => ?_)
  · refine zV.ic (v := nI 0) C dL_changes_326 (by decide) ?_
    refine zV.zret C F dL_changes_327 rfl rfl ?_
    first | exact chs_1 p (by first | assumption | exact Int32.not_lt.mpr (by assumption)) | exact chs_0 p (by first | assumption | exact Int32.not_le.mp (by assumption))
  · refine zV.ic (v := nI 1) C dL_changes_322 (by decide) ?_
    refine zV.goto (tgt := 327) C dL_changes_323 (by decide) ?_
    refine zV.zret C F dL_changes_327 rfl rfl ?_
    first | exact chs_1 p (by first | assumption | exact Int32.not_lt.mpr (by assumption)) | exact chs_0 p (by first | assumption | exact Int32.not_le.mp (by assumption))
set_option maxHeartbeats 4000000 in
set_option maxRecDepth 100000 in
theorem L_ch425 {X : zX} {l : Launch} {E : zG} {rm : Room} (hzs : zS E) (hst : l.stackTraces = false) (C : zC X cL_changes RL 5) (G : zGX X l E rm) {h : zH} {a lo m : Nat} {g : zGd} {us : List zGd} {sn : Option zGd} {off rs dt cs : Int32} {o : List Nat} {x l9 k9 c9 : Int32} {Qx : String → zH → Prop} (hr : rm = ({ frames := 10, cells := 80, slots := 500, locals := 254 } : Room)) (F : zF X (some .boolean) 80 500 (chsQ h a lo m g us sn) Qx) (hR : gR m g) (hb : m + 50000 ≤ big) (hlN : lo ≤ hN h) (q : zXa h a lo g us sn off rs dt cs [] o) : zV X 0 0 h 425 [(0, .ref a), (1, .int x), (2, .int l9), (3, .int k9), (4, .int c9)] [] := by
  subst hr
  refine zV.aload_n C dL_changes_425 rfl rfl ?_
  refine zV.iload_n C dL_changes_426 rfl ?_
  refine zV.ic (v := nI 4) C dL_changes_427 (by decide) ?_
  refine zV.ishr C dL_changes_428 ?_
  refine zV.bi (v := nI 22) C dL_changes_429 (by decide) ?_
  refine zV.callS (n := 2) C G dL_changes_431 (s_some hzs hst _ _ _ (by decide) (by decide)) rfl ⟨cd_L_some, lk_L_205, st_L_some, in_L⟩ ⟨⟨by decide, by decide⟩, by decide⟩ rfl rfl rfl (zafS (fun j hj => ?_)) (zno)
  refine zV.callSW (n := 2) C G dL_changes_434 (w_passDays hzs hst q hR (Nat.le_trans (by omega) hb) _) rfl ⟨cd_L_passDays, lk_L_220, st_L_passDays, in_L⟩ ⟨⟨by decide, by decide⟩, by decide⟩ rfl rfl rfl (zafC (fun h9 p9 => ?_)) (zno)
  have p := chg_s (cf := (fun _ => -1001)) isD_100 hR (Nat.le_trans (by omega) hb) cf1 p9
  refine zV.if_lt (tgt := 444) C dL_changes_437 (by decide) (fun q437 => ?_) (fun q437 => ?_)
  · refine zV.ic (v := nI 0) C dL_changes_444 (by decide) ?_
    refine zV.zret C F dL_changes_445 rfl rfl ?_
    first | exact chs_1 p (by first | assumption | exact Int32.not_lt.mpr (by assumption)) | exact chs_0 p (by first | assumption | exact Int32.not_le.mp (by assumption))
  · refine zV.ic (v := nI 1) C dL_changes_440 (by decide) ?_
    refine zV.goto (tgt := 445) C dL_changes_441 (by decide) ?_
    refine zV.zret C F dL_changes_445 rfl rfl ?_
    first | exact chs_1 p (by first | assumption | exact Int32.not_lt.mpr (by assumption)) | exact chs_0 p (by first | assumption | exact Int32.not_le.mp (by assumption))
set_option maxHeartbeats 4000000 in
set_option maxRecDepth 100000 in
theorem L_ch328 {X : zX} {l : Launch} {E : zG} {rm : Room} (hzs : zS E) (hst : l.stackTraces = false) (C : zC X cL_changes RL 5) (G : zGX X l E rm) {h : zH} {a lo m : Nat} {g : zGd} {us : List zGd} {sn : Option zGd} {off rs dt cs : Int32} {o : List Nat} {x l9 k9 c9 : Int32} {Qx : String → zH → Prop} (hr : rm = ({ frames := 10, cells := 80, slots := 500, locals := 254 } : Room)) (F : zF X (some .boolean) 80 500 (chsQ h a lo m g us sn) Qx) (hR : gR m g) (hb : m + 50000 ≤ big) (hlN : lo ≤ hN h) (q : zXa h a lo g us sn off rs dt cs [] o) : zV X 0 0 h 328 [(0, .ref a), (1, .int x), (2, .int l9), (3, .int k9), (4, .int c9)] [] := by
  subst hr
  obtain ⟨s305, t305, hq305, hs305⟩ := sc_L_305 hzs
  obtain ⟨s317, t317, hq317, hs317⟩ := sc_L_317 hzs
  obtain ⟨s319, t319, hq319, hs319⟩ := sc_L_319 hzs
  refine zV.aload_n C dL_changes_328 rfl rfl ?_
  refine zV.iload_n C dL_changes_329 rfl ?_
  refine zV.bi (v := nI 6) C dL_changes_330 (by decide) ?_
  refine zV.ishr C dL_changes_332 ?_
  refine zV.ic (v := nI 1) C dL_changes_333 (by decide) ?_
  refine zV.iand C dL_changes_334 ?_
  refine zV.if_ne (tgt := 368) C dL_changes_335 (by decide) (fun q335 => ?_) (fun q335 => ?_)
  · refine zV.new C G dL_changes_368 zcl_J4 ⟨lk_L_302, it_J4, in_J4⟩ (by decide) rfl ?_
    refine zV.dup C dL_changes_371 rfl ?_
    refine zV.callI (n := 0) C G dL_changes_372 (s_TSB hzs hst (hNew h 2 0) (hN h) hK_newE rfl (fun f => hI_newE)) rfl ⟨cd_J4_init_da8c8, lk_L_304, im_J4_init_da8c8, in_J4⟩ rfl ⟨⟨by decide, by decide⟩, by decide⟩ rfl rfl rfl (zafRv (fun h1 ⟨w1, n1, x1⟩ => ?_)) (zno)
    refine zV.ldcSw C G dL_changes_375 hq317 ?_
    refine zV.callV (n := 1) C G dL_changes_378 (s_TappS hzs hst h1 (hN h) [] w1 s317 t317 [97, 49, 59, 109] hs317 (by decide) (fun i c hc => (show ∀ c ∈ ([97, 49, 59, 109] : List Nat), c < 128 by decide) c (List.mem_of_getElem? hc)) (by decide)) rfl ⟨cd_J4_append_15ec4, lk_L_307, im_J4_append_15ec4, se_J4_J4_append_15ec4, in_J4⟩ ⟨⟨by decide, by decide⟩, by decide⟩ rfl rfl rfl (w1.1 0).1 ⟨rfl, by decide⟩ (zafR (fun h2 ⟨w2, g2⟩ => ?_)) (zno)
    obtain ⟨o2, e2⟩ : ∃ o : List Nat, o = [] ++ [97, 49, 59, 109] := ⟨_, rfl⟩
    rw [← e2] at w2
    have l2 : o2.length = 4 := by rw [e2]; rfl
    refine zV.iload_n C dL_changes_381 rfl ?_
    refine zV.ic (v := nI 4) C dL_changes_382 (by decide) ?_
    refine zV.ishr C dL_changes_383 ?_
    refine zV.bi (v := nI 12) C dL_changes_384 (by decide) ?_
    refine zV.callS (n := 2) C G dL_changes_386 (s_some hzs hst _ _ _ (by decide) (by decide)) rfl ⟨cd_L_some, lk_L_205, st_L_some, in_L⟩ ⟨⟨by decide, by decide⟩, by decide⟩ rfl rfl rfl (zafS (fun j hj => ?_)) (zno)
    refine zV.callV (n := 1) C G dL_changes_389 (s_TappI hzs hst h2 (hN h) o2 w2 j (by omega) (by have := dcs_t (n := j) (by omega); omega)) rfl ⟨cd_J4_append_bf812, lk_L_310, im_J4_append_bf812, se_J4_J4_append_bf812, in_J4⟩ ⟨⟨by decide, by decide⟩, by decide⟩ rfl rfl rfl (w2.1 0).1 ⟨rfl, by decide⟩ (zafR (fun h5 ⟨w5, g5⟩ => ?_)) (zno)
    obtain ⟨o5, e5⟩ : ∃ o : List Nat, o = o2 ++ dcs j := ⟨_, rfl⟩
    rw [← e5] at w5
    have l5 : o5.length ≤ 6 := by have := dcs_t (n := j) (by omega); rw [e5, List.length_append]; omega
    refine zV.ldcSw C G dL_changes_392 hq319 ?_
    refine zV.callV (n := 1) C G dL_changes_395 (s_TappS hzs hst h5 (hN h) o5 w5 s319 t319 [62] hs319 (by decide) (fun i c hc => (show ∀ c ∈ ([62] : List Nat), c < 128 by decide) c (List.mem_of_getElem? hc)) (by show o5.length + 1 ≤ 16; omega)) rfl ⟨cd_J4_append_15ec4, lk_L_307, im_J4_append_15ec4, se_J4_J4_append_15ec4, in_J4⟩ ⟨⟨by decide, by decide⟩, by decide⟩ rfl rfl rfl (w5.1 0).1 ⟨rfl, by decide⟩ (zafR (fun h6 ⟨w6, g6⟩ => ?_)) (zno)
    obtain ⟨o6, e6⟩ : ∃ o : List Nat, o = o5 ++ [62] := ⟨_, rfl⟩
    rw [← e6] at w6
    have l6 : o6.length ≤ 7 := by rw [e6, List.length_append]; show o5.length + 1 ≤ 7; omega
    refine zV.iload_n C dL_changes_398 rfl ?_
    refine zV.bi (v := nI 8) C dL_changes_399 (by decide) ?_
    refine zV.ishr C dL_changes_401 ?_
    refine zV.bi (v := nI 6) C dL_changes_402 (by decide) ?_
    refine zV.callS (n := 2) C G dL_changes_404 (s_some hzs hst _ _ _ (by decide) (by decide)) rfl ⟨cd_L_some, lk_L_205, st_L_some, in_L⟩ ⟨⟨by decide, by decide⟩, by decide⟩ rfl rfl rfl (zafS (fun i hi => ?_)) (zno)
    refine zV.callV (n := 1) C G dL_changes_407 (s_TappI hzs hst h6 (hN h) o6 w6 i (by omega) (by have := dcs_t (n := i) (by omega); omega)) rfl ⟨cd_J4_append_bf812, lk_L_310, im_J4_append_bf812, se_J4_J4_append_bf812, in_J4⟩ ⟨⟨by decide, by decide⟩, by decide⟩ rfl rfl rfl (w6.1 0).1 ⟨rfl, by decide⟩ (zafR (fun h3 ⟨w3, g3⟩ => ?_)) (zno)
    obtain ⟨o3, e3⟩ : ∃ o : List Nat, o = o6 ++ dcs i := ⟨_, rfl⟩
    rw [← e3] at w3
    have l3 : o3.length ≤ 9 := by have := dcs_t (n := i) (by omega); rw [e3, List.length_append]; omega
    refine zV.callV (n := 0) C G dL_changes_410 (s_TtoS hzs hst h3 (hN h) o3 (by have := g3.1; have := g6.1; have := g5.1; have := g2.1; omega) w3 (by omega)) rfl ⟨cd_J4_toString_0e30d, lk_L_313, im_J4_toString_0e30d, se_J4_J4_toString_0e30d, in_J4⟩ ⟨⟨by decide, by decide⟩, by decide⟩ rfl rfl rfl (w3.1 0).1 ⟨rfl, by decide⟩ (zafR (fun h4 ⟨s4, n4, f4⟩ => ?_)) (zno)
    have hn3 : hN h3 = hN h + 2 := by rw [g3.1, g6.1, g5.1, g2.1, n1]
    have e0 : ∀ c, c < hN h → zEq h h4 c := fun c hc => ((((((zEq_new (k := 2) (z := 0) (by omega)).trans (x1.2 c (by omega))).trans (g2.2 c (by omega) (by omega))).trans (g5.2 c (by omega) (by omega))).trans (g6.2 c (by omega) (by omega))).trans (g3.2 c (by omega) (by omega))).trans (f4 c (by omega))
    obtain ⟨q4, f4x⟩ := kept q hlN (by omega) e0
    have hlo := zXa_lo q
    have hl60 : o3.length ≤ 60 := by omega
    have hch : ∀ (k c : Nat), o3[k]? = some c → 32 ≤ c ∧ c ≤ 126 := fun k c hc => by
      rw [e3, e6, e5, e2] at hc
      rcases List.mem_append.mp (List.mem_of_getElem? hc) with z | z
      · rcases List.mem_append.mp z with z | z
        · rcases List.mem_append.mp z with z | z
          · exact (show ∀ c ∈ ([] ++ [97, 49, 59, 109] : List Nat), 32 ≤ c ∧ c ≤ 126 by decide) c z
          · have := dcs_c z; omega
        · exact (show ∀ c ∈ ([62] : List Nat), 32 ≤ c ∧ c ≤ 126 by decide) c z
      · have := dcs_c z; omega
    refine zV.callS (n := 2) C G dL_changes_413 (s_runsH hzs hst h4 a lo m g us sn off rs dt cs o q4 hR hb (hN h3) o3 s4 (Or.inr (by omega)) hl60 hch) rfl ⟨cd_L_runs, lk_L_321, st_L_runs, in_L⟩ ⟨⟨by decide, by decide⟩, by decide⟩ rfl rfl rfl (zafC (fun h9 p9 => ?_)) (zno)
    have p := chsP_tr f4x (exec_s (cf := (fun Ex => if Ex = IAE then -1001 else if Ex = ISE then -1002 else -1003)) hl60 hR cf3 p9)
    refine zV.if_lt (tgt := 423) C dL_changes_416 (by decide) (fun q416 => ?_) (fun q416 => ?_)
    · refine zV.ic (v := nI 0) C dL_changes_423 (by decide) ?_
      refine zV.zret C F dL_changes_424 rfl rfl ?_
      first | exact chs_1 p (by first | assumption | exact Int32.not_lt.mpr (by assumption)) | exact chs_0 p (by first | assumption | exact Int32.not_le.mp (by assumption))
    · refine zV.ic (v := nI 1) C dL_changes_419 (by decide) ?_
      refine zV.goto (tgt := 424) C dL_changes_420 (by decide) ?_
      refine zV.zret C F dL_changes_424 rfl rfl ?_
      first | exact chs_1 p (by first | assumption | exact Int32.not_lt.mpr (by assumption)) | exact chs_0 p (by first | assumption | exact Int32.not_le.mp (by assumption))
  · refine zV.new C G dL_changes_338 zcl_J4 ⟨lk_L_302, it_J4, in_J4⟩ (by decide) rfl ?_
    refine zV.dup C dL_changes_341 rfl ?_
    refine zV.callI (n := 0) C G dL_changes_342 (s_TSB hzs hst (hNew h 2 0) (hN h) hK_newE rfl (fun f => hI_newE)) rfl ⟨cd_J4_init_da8c8, lk_L_304, im_J4_init_da8c8, in_J4⟩ rfl ⟨⟨by decide, by decide⟩, by decide⟩ rfl rfl rfl (zafRv (fun h1 ⟨w1, n1, x1⟩ => ?_)) (zno)
    refine zV.ldcSw C G dL_changes_345 hq305 ?_
    refine zV.callV (n := 1) C G dL_changes_348 (s_TappS hzs hst h1 (hN h) [] w1 s305 t305 [100, 50, 59, 102] hs305 (by decide) (fun i c hc => (show ∀ c ∈ ([100, 50, 59, 102] : List Nat), c < 128 by decide) c (List.mem_of_getElem? hc)) (by decide)) rfl ⟨cd_J4_append_15ec4, lk_L_307, im_J4_append_15ec4, se_J4_J4_append_15ec4, in_J4⟩ ⟨⟨by decide, by decide⟩, by decide⟩ rfl rfl rfl (w1.1 0).1 ⟨rfl, by decide⟩ (zafR (fun h2 ⟨w2, g2⟩ => ?_)) (zno)
    obtain ⟨o2, e2⟩ : ∃ o : List Nat, o = [] ++ [100, 50, 59, 102] := ⟨_, rfl⟩
    rw [← e2] at w2
    have l2 : o2.length = 4 := by rw [e2]; rfl
    refine zV.iload_n C dL_changes_351 rfl ?_
    refine zV.ic (v := nI 4) C dL_changes_352 (by decide) ?_
    refine zV.ishr C dL_changes_353 ?_
    refine zV.bi (v := nI 12) C dL_changes_354 (by decide) ?_
    refine zV.callS (n := 2) C G dL_changes_356 (s_some hzs hst _ _ _ (by decide) (by decide)) rfl ⟨cd_L_some, lk_L_205, st_L_some, in_L⟩ ⟨⟨by decide, by decide⟩, by decide⟩ rfl rfl rfl (zafS (fun j hj => ?_)) (zno)
    refine zV.callV (n := 1) C G dL_changes_359 (s_TappI hzs hst h2 (hN h) o2 w2 j (by omega) (by have := dcs_t (n := j) (by omega); omega)) rfl ⟨cd_J4_append_bf812, lk_L_310, im_J4_append_bf812, se_J4_J4_append_bf812, in_J4⟩ ⟨⟨by decide, by decide⟩, by decide⟩ rfl rfl rfl (w2.1 0).1 ⟨rfl, by decide⟩ (zafR (fun h3 ⟨w3, g3⟩ => ?_)) (zno)
    obtain ⟨o3, e3⟩ : ∃ o : List Nat, o = o2 ++ dcs j := ⟨_, rfl⟩
    rw [← e3] at w3
    have l3 : o3.length ≤ 6 := by have := dcs_t (n := j) (by omega); rw [e3, List.length_append]; omega
    refine zV.callV (n := 0) C G dL_changes_362 (s_TtoS hzs hst h3 (hN h) o3 (by have := g3.1; have := g2.1; omega) w3 (by omega)) rfl ⟨cd_J4_toString_0e30d, lk_L_313, im_J4_toString_0e30d, se_J4_J4_toString_0e30d, in_J4⟩ ⟨⟨by decide, by decide⟩, by decide⟩ rfl rfl rfl (w3.1 0).1 ⟨rfl, by decide⟩ (zafR (fun h4 ⟨s4, n4, f4⟩ => ?_)) (zno)
    have e0 : ∀ c, c < hN h → zEq h h4 c := fun c hc => ((((zEq_new (k := 2) (z := 0) (by omega)).trans (x1.2 c (by omega))).trans (g2.2 c (by omega) (by omega))).trans (g3.2 c (by omega) (by omega))).trans (f4 c (by have := g3.1; have := g2.1; omega))
    have hn3 : hN h3 = hN h + 2 := by rw [g3.1, g2.1, n1]
    obtain ⟨q4, f4x⟩ := kept q hlN (by omega) e0
    have hlo := zXa_lo q
    have hl60 : o3.length ≤ 60 := by omega
    have hch : ∀ (i c : Nat), o3[i]? = some c → 32 ≤ c ∧ c ≤ 126 := fun i c hc => by
      rw [e3, e2] at hc
      rcases List.mem_append.mp (List.mem_of_getElem? hc) with z | z
      · exact (show ∀ c ∈ ([] ++ [100, 50, 59, 102] : List Nat), 32 ≤ c ∧ c ≤ 126 by decide) c z
      · have := dcs_c z; omega
    refine zV.goto (tgt := 413) C dL_changes_365 (by decide) ?_
    refine zV.callS (n := 2) C G dL_changes_413 (s_runsH hzs hst h4 a lo m g us sn off rs dt cs o q4 hR hb (hN h3) o3 s4 (Or.inr (by omega)) hl60 hch) rfl ⟨cd_L_runs, lk_L_321, st_L_runs, in_L⟩ ⟨⟨by decide, by decide⟩, by decide⟩ rfl rfl rfl (zafC (fun h9 p9 => ?_)) (zno)
    have p := chsP_tr f4x (exec_s (cf := (fun Ex => if Ex = IAE then -1001 else if Ex = ISE then -1002 else -1003)) hl60 hR cf3 p9)
    refine zV.if_lt (tgt := 423) C dL_changes_416 (by decide) (fun q416 => ?_) (fun q416 => ?_)
    · refine zV.ic (v := nI 0) C dL_changes_423 (by decide) ?_
      refine zV.zret C F dL_changes_424 rfl rfl ?_
      first | exact chs_1 p (by first | assumption | exact Int32.not_lt.mpr (by assumption)) | exact chs_0 p (by first | assumption | exact Int32.not_le.mp (by assumption))
    · refine zV.ic (v := nI 1) C dL_changes_419 (by decide) ?_
      refine zV.goto (tgt := 424) C dL_changes_420 (by decide) ?_
      refine zV.zret C F dL_changes_424 rfl rfl ?_
      first | exact chs_1 p (by first | assumption | exact Int32.not_lt.mpr (by assumption)) | exact chs_0 p (by first | assumption | exact Int32.not_le.mp (by assumption))
theorem L_chD {X : zX} {l : Launch} {E : zG} {rm : Room} (hzs : zS E) (hst : l.stackTraces = false) (C : zC X cL_changes RL 5) (G : zGX X l E rm) {h : zH} {a lo m : Nat} {g : zGd} {us : List zGd} {sn : Option zGd} {off rs dt cs : Int32} {o : List Nat} {x l9 k9 c9 : Int32} {Qx : String → zH → Prop} (hr : rm = ({ frames := 10, cells := 80, slots := 500, locals := 254 } : Room)) (F : zF X (some .boolean) 80 500 (chsQ h a lo m g us sn) Qx) (hR : gR m g) (hb : m + 50000 ≤ big) (hlN : lo ≤ hN h) (q : zXa h a lo g us sn off rs dt cs [] o) {j : Nat} (hj : j < 26) : zV X 0 0 h 35 [(0, .ref a), (1, .int x), (2, .int l9), (3, .int k9), (4, .int c9)] [.int (nI j)] := by
  rcases (show j = 0 ∨ j = 1 ∨ j = 2 ∨ j = 3 ∨ j = 4 ∨ j = 5 ∨ j = 6 ∨ j = 7 ∨ j = 8 ∨ j = 9 ∨ j = 10 ∨ j = 11 ∨ j = 12 ∨ j = 13 ∨ j = 14 ∨ j = 15 ∨ j = 16 ∨ j = 17 ∨ j = 18 ∨ j = 19 ∨ j = 20 ∨ j = 21 ∨ j = 22 ∨ j = 23 ∨ j = 24 ∨ j = 25 by omega) with rfl | rfl | rfl | rfl | rfl | rfl | rfl | rfl | rfl | rfl | rfl | rfl | rfl | rfl | rfl | rfl | rfl | rfl | rfl | rfl | rfl | rfl | rfl | rfl | rfl | rfl
  · exact zV.tIn (off := 105) 140 C dL_changes_35 (by decide) (by decide) (by decide) (by decide) (L_ch140 hzs hst C G hr F hR hb hlN q)
  · exact zV.tIn (off := 105) 140 C dL_changes_35 (by decide) (by decide) (by decide) (by decide) (L_ch140 hzs hst C G hr F hR hb hlN q)
  · exact zV.tIn (off := 105) 140 C dL_changes_35 (by decide) (by decide) (by decide) (by decide) (L_ch140 hzs hst C G hr F hR hb hlN q)
  · exact zV.tIn (off := 120) 155 C dL_changes_35 (by decide) (by decide) (by decide) (by decide) (L_ch155 hzs hst C G hr F hR hb hlN q)
  · exact zV.tIn (off := 135) 170 C dL_changes_35 (by decide) (by decide) (by decide) (by decide) (L_ch170 hzs hst C G hr F hR hb hlN q)
  · exact zV.tIn (off := 135) 170 C dL_changes_35 (by decide) (by decide) (by decide) (by decide) (L_ch170 hzs hst C G hr F hR hb hlN q)
  · exact zV.tIn (off := 158) 193 C dL_changes_35 (by decide) (by decide) (by decide) (by decide) (L_ch193 hzs hst C G hr F hR hb hlN q)
  · exact zV.tIn (off := 158) 193 C dL_changes_35 (by decide) (by decide) (by decide) (by decide) (L_ch193 hzs hst C G hr F hR hb hlN q)
  · exact zV.tIn (off := 158) 193 C dL_changes_35 (by decide) (by decide) (by decide) (by decide) (L_ch193 hzs hst C G hr F hR hb hlN q)
  · exact zV.tIn (off := 181) 216 C dL_changes_35 (by decide) (by decide) (by decide) (by decide) (L_ch216 hzs hst C G hr F hR hb hlN q)
  · exact zV.tIn (off := 196) 231 C dL_changes_35 (by decide) (by decide) (by decide) (by decide) (L_ch231 hzs hst C G hr F hR hb hlN q)
  · exact zV.tIn (off := 196) 231 C dL_changes_35 (by decide) (by decide) (by decide) (by decide) (L_ch231 hzs hst C G hr F hR hb hlN q)
  · exact zV.tIn (off := 211) 246 C dL_changes_35 (by decide) (by decide) (by decide) (by decide) (L_ch246 hzs hst C G hr F hR hb hlN q)
  · exact zV.tIn (off := 226) 261 C dL_changes_35 (by decide) (by decide) (by decide) (by decide) (L_ch261 hzs hst C G hr F hR hb hlN q)
  · exact zV.tIn (off := 226) 261 C dL_changes_35 (by decide) (by decide) (by decide) (by decide) (L_ch261 hzs hst C G hr F hR hb hlN q)
  · exact zV.tIn (off := 226) 261 C dL_changes_35 (by decide) (by decide) (by decide) (by decide) (L_ch261 hzs hst C G hr F hR hb hlN q)
  · exact zV.tIn (off := 242) 277 C dL_changes_35 (by decide) (by decide) (by decide) (by decide) (L_ch277 hzs hst C G hr F hR hb hlN q)
  · exact zV.tIn (off := 242) 277 C dL_changes_35 (by decide) (by decide) (by decide) (by decide) (L_ch277 hzs hst C G hr F hR hb hlN q)
  · exact zV.tIn (off := 242) 277 C dL_changes_35 (by decide) (by decide) (by decide) (by decide) (L_ch277 hzs hst C G hr F hR hb hlN q)
  · exact zV.tIn (off := 257) 292 C dL_changes_35 (by decide) (by decide) (by decide) (by decide) (L_ch292 hzs hst C G hr F hR hb hlN q)
  · exact zV.tIn (off := 272) 307 C dL_changes_35 (by decide) (by decide) (by decide) (by decide) (L_ch307 hzs hst C G hr F hR hb hlN q)
  · exact zV.tIn (off := 293) 328 C dL_changes_35 (by decide) (by decide) (by decide) (by decide) (L_ch328 hzs hst C G hr F hR hb hlN q)
  · exact zV.tIn (off := 293) 328 C dL_changes_35 (by decide) (by decide) (by decide) (by decide) (L_ch328 hzs hst C G hr F hR hb hlN q)
  · exact zV.tOut 425 C dL_changes_35 (Or.inr (by decide)) (by decide) (L_ch425 hzs hst C G hr F hR hb hlN q)
  · exact zV.tOut 425 C dL_changes_35 (Or.inr (by decide)) (by decide) (L_ch425 hzs hst C G hr F hR hb hlN q)
  · exact zV.tOut 425 C dL_changes_35 (Or.inr (by decide)) (by decide) (L_ch425 hzs hst C G hr F hR hb hlN q)
set_option maxHeartbeats 4000000 in
set_option maxRecDepth 100000 in
theorem s_changes {l : Launch} {E : zG} (hzs : zS E) (hst : l.stackTraces = false) (h : zH) (a lo m : Nat) (x : Int32) (g : zGd) (us : List zGd) (sn : Option zGd) (off rs dt cs : Int32) (o : List Nat) (hR : gR m g) (hb : m + 50000 ≤ big) (hlN : lo ≤ hN h) (q : zXa h a lo g us sn off rs dt cs [] o) : zMet l E yL_changes cL_changes 5 (some .boolean) ({ frames := 10, cells := 80, slots := 500, locals := 254 } : Room) 80 500 [.ref a, .int x] h (chsQ h a lo m g us sn) (fun _ _ => False) := by
  refine zM_start hzs hst (by decide) (Nat.le_of_ble_eq_true rfl) (fun X C G F I => ?_)
  show zV X 0 0 _ 0 [(0, _), (1, _)] []
  refine zV.iload_n C dL_changes_0 rfl ?_
  refine zV.ic (v := nI 4) C dL_changes_1 (by decide) ?_
  refine zV.ishr C dL_changes_2 ?_
  refine zV.bi (v := nI 7) C dL_changes_3 (by decide) ?_
  refine zV.callS (n := 2) C G dL_changes_5 (s_some hzs hst _ _ _ (by decide) (by decide)) rfl ⟨cd_L_some, lk_L_205, st_L_some, in_L⟩ ⟨⟨by decide, by decide⟩, by decide⟩ rfl rfl rfl (zafS (fun j hj => ?_)) (zno)
  refine zV.istore_n (lo' := [(0, _), (1, _), (2, _)]) C dL_changes_8 (by decide) rfl rfl rfl ?_
  refine zV.iload_n C dL_changes_9 rfl ?_
  refine zV.bi (v := nI 7) C dL_changes_10 (by decide) ?_
  refine zV.ishr C dL_changes_12 ?_
  refine zV.bi (v := nI 7) C dL_changes_13 (by decide) ?_
  refine zV.callS (n := 2) C G dL_changes_15 (s_some hzs hst _ _ _ (by decide) (by decide)) rfl ⟨cd_L_some, lk_L_205, st_L_some, in_L⟩ ⟨⟨by decide, by decide⟩, by decide⟩ rfl rfl rfl (zafS (fun j hj => ?_)) (zno)
  refine zV.istore_n (lo' := [(0, _), (1, _), (2, _), (3, _)]) C dL_changes_18 (by decide) rfl rfl rfl ?_
  refine zV.iload_n C dL_changes_19 rfl ?_
  refine zV.ic (v := nI 4) C dL_changes_20 (by decide) ?_
  refine zV.ishr C dL_changes_21 ?_
  refine zV.bi (v := nI 12) C dL_changes_22 (by decide) ?_
  refine zV.callS (n := 2) C G dL_changes_24 (s_some hzs hst _ _ _ (by decide) (by decide)) rfl ⟨cd_L_some, lk_L_205, st_L_some, in_L⟩ ⟨⟨by decide, by decide⟩, by decide⟩ rfl rfl rfl (zafS (fun j hj => ?_)) (zno)
  refine zV.istore (lo' := [(0, _), (1, _), (2, _), (3, _), (4, _)]) C dL_changes_27 (by decide) rfl rfl rfl ?_
  refine zV.iload_n C dL_changes_29 rfl ?_
  refine zV.bi (v := nI 26) C dL_changes_30 (by decide) ?_
  refine zV.callS (n := 2) C G dL_changes_32 (s_some hzs hst _ _ _ (by decide) (by decide)) rfl ⟨cd_L_some, lk_L_205, st_L_some, in_L⟩ ⟨⟨by decide, by decide⟩, by decide⟩ rfl rfl rfl (zafS (fun j hj => ?_)) (zno)
  exact L_chD hzs hst C G rfl F hR hb hlN q hj
