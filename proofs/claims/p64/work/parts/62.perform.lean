/-! ChairMigration: the commands performed -/
/-- the commands performed: how many, the garden then, the last verdict -/
def pfC : zGd → List (Nat × Nat × Nat) → Nat × zGd × zJ
  | g, [] => (0, g, (0, 0, 0))
  | g, c :: ks => if (jd g c.1 (nI c.2.1) (nI c.2.2)).1 = 0 then ((pfC (ap g c.1 (nI c.2.1) (nI c.2.2)).1 ks).1 + 1, (pfC (ap g c.1 (nI c.2.1) (nI c.2.2)).1 ks).2) else (0, g, jd g c.1 (nI c.2.1) (nI c.2.2))
theorem pfC_t {g : zGd} {c : Nat × Nat × Nat} {ks : List (Nat × Nat × Nat)} (e : (jd g c.1 (nI c.2.1) (nI c.2.2)).1 = 0) : pfC g (c :: ks) = ((pfC (ap g c.1 (nI c.2.1) (nI c.2.2)).1 ks).1 + 1, (pfC (ap g c.1 (nI c.2.1) (nI c.2.2)).1 ks).2) := by rw [pfC, if_pos e]
theorem pfC_f {g : zGd} {c : Nat × Nat × Nat} {ks : List (Nat × Nat × Nat)} (e : (jd g c.1 (nI c.2.1) (nI c.2.2)).1 ≠ 0) : pfC g (c :: ks) = (0, g, jd g c.1 (nI c.2.1) (nI c.2.2)) := by rw [pfC, if_neg e]
/-- as zXf, and nothing but the garden and what lies behind a + 263 is other -/
def zXm (h h' : zH) (a lo : Nat) : Prop := zXf h h' a lo ∧ ∀ c, a + 22 ≤ c → c < a + 263 → zEq h h' c
theorem zXm.refl (h : zH) (a lo : Nat) : zXm h h a lo := ⟨zXf.refl h a lo, fun c _ _ => zEq.refl h c⟩
theorem zXm.trans {h h1 h2 : zH} {a lo : Nat} (p : zXm h h1 a lo) (q : zXm h1 h2 a lo) : zXm h h2 a lo := ⟨p.1.trans q.1, fun c h1 h2 => (p.2 c h1 h2).trans (q.2 c h1 h2)⟩
theorem zXm.q {h h' : zH} {a lo x y : Nat} (f : zFq h h' x y) (h1 : (a ≤ x ∧ y ≤ a + 22) ∨ (a + 263 ≤ x ∧ y ≤ a + 271)) : zXm h h' a lo := ⟨zXf.q f (by omega) (by omega), fun c h2 h3 => f.e (by omega)⟩
theorem zIp_e {h h' : zH} {a p n : Nat} {t : List Nat} (q : zIp h a t p n) (e : ∀ c, a ≤ c → c < a + 5 → zEq h h' c) : zIp h' a t p n :=
  ⟨zIn_e q.1 e, ((e a (Nat.le_refl _) (by omega)).2.2.2.1 _).trans q.2.1, ((e a (Nat.le_refl _) (by omega)).2.2.2.1 _).trans q.2.2⟩
theorem zCm_e {h h' : zH} {a : Nat} {cs : List (Nat × Nat × Nat)} (q : zCm h a cs) (e : ∀ c, a ≤ c → c < a + 5 → zEq h h' c) : zCm h' a cs := fun i c hc => by
  obtain ⟨q1, q2, q3, q4⟩ := q i c hc
  exact ⟨(congrFun (e (a + 2) (by omega) (by omega)).2.2.2.2.1 i).trans q1, (congrFun (e (a + 3) (by omega) (by omega)).2.2.2.2.1 i).trans q2, (congrFun (e (a + 4) (by omega) (by omega)).2.2.2.2.1 i).trans q3, q4⟩
set_option maxHeartbeats 4000000 in
set_option maxRecDepth 100000 in
theorem L_performCommands {X : zX} {l : Launch} {E : zG} {rm : Room} (hzs : zS E) (hst : l.stackTraces = false) (C : zC X cX9_performCommands RX9 5) (G : zGX X l E rm) {h0 : zH} {a lo N p : Nat} {us : List zGd} {sn : Option zGd} {off rs dt cz : Int32} {t o : List Nat} {cms : List (Nat × Nat × Nat)} {G9 : zGd × zJ} {Qr : Option Value → zH → Prop} {Qx : String → zH → Prop} (hr : rm = ({ frames := 5, cells := 0, slots := 0, locals := 116 } : Room)) (F : zF X (some .int) 0 0 Qr Qx) (hD : ∀ c ∈ cms, isD c.1) (hcl : cms.length ≤ 60) (hq : ∀ h', zXm h0 h' a lo → zXa h' a lo G9.1 us sn off rs dt cz t o → hI h' 166 (a + 264) = nI cms.length → (N < cms.length → hI h' 288 (a + 263) = nI G9.2.1 ∧ (G9.2.1 = 3 → hI h' 289 (a + 263) = nI G9.2.2.1)) → Qr (some (.int (nI N))) h') : ∀ ks k g h m, k ≤ cms.length → cms.drop k = ks → gR m g → m + 600 * ks.length + 3000 ≤ big → zXm h0 h a lo → zXa h a lo g us sn off rs dt cz t o → zIp h (a + 264) t p cms.length → zCm h (a + 264) cms → k + (pfC g ks).1 = N → (pfC g ks).2 = G9 → zV X 0 0 h 2 [(0, .ref a), (1, .int (nI k))] [] := by
  subst hr
  intro ks
  induction ks with
  | nil =>
    intro k g h m hk ed hm hb9 f q zi zc eN eG
    have hi := List.drop_eq_nil_iff.mp ed
    have e : k = cms.length := by omega
    subst e
    have eN : cms.length = N := eN
    obtain ⟨-, -, -, -, -, -, hin, -⟩ := id q
    refine zV.iload_n C dX9_performCommands_2 rfl ?_
    refine zV.aload_n C dX9_performCommands_3 rfl rfl ?_
    refine zV.gR 391 (k := 7) C dX9_performCommands_4 zcl_X9 (by decide) rfl lk_X9_49 (q.1.1) rfl (q.1.2.2.2.2.2.2.2.2.1) ?_
    refine zV.gNIv 166 (k := 6) C dX9_performCommands_7 zcl_X1 (by decide) rfl lk_X9_294 (zi.1.1.1) rfl (zi.2.2) ?_
    refine zV.icmp_ge (tgt := 79) C dX9_performCommands_10 (by decide) (fun q10 => ?_) (fun q10 => ?_)
    · refine zV.aload_n C dX9_performCommands_79 rfl rfl ?_
      refine zV.gR 391 (k := 7) C dX9_performCommands_80 zcl_X9 (by decide) rfl lk_X9_49 (q.1.1) rfl (q.1.2.2.2.2.2.2.2.2.1) ?_
      refine zV.gNIv 166 (k := 6) C dX9_performCommands_83 zcl_X1 (by decide) rfl lk_X9_294 (zi.1.1.1) rfl (zi.2.2) ?_
      refine zV.iret C F dX9_performCommands_86 rfl ?_
      rw [eN]
      exact hq h f (by rw [← eG]; exact q) zi.2.2 (fun y => absurd y (by omega))
    · exact absurd (Int32.le_refl _) q10
  | cons c ks ih =>
    intro k g h m hk ed hm hb9 f q zi zc eN eG
    have ec := (drop_c ed).1
    have hi : k < cms.length := (List.getElem?_eq_some_iff.mp ec).1
    have hd := hD c (List.mem_of_getElem? ec)
    have hln : (c :: ks).length = ks.length + 1 := rfl
    have bb : big = 1000000000 := rfl
    have hw := gQ_W hm.1 (by omega : m ≤ big)
    have h3 := jd_3 (g := g) (x := nI c.2.1) (y := nI c.2.2) hd
    obtain ⟨hx, ⟨hg, hf, hb⟩, hs, hH, hI, hJ, hin, hou, hn, hlo, hl9⟩ := id q
    refine zV.iload_n C dX9_performCommands_2 rfl ?_
    refine zV.aload_n C dX9_performCommands_3 rfl rfl ?_
    refine zV.gR 391 (k := 7) C dX9_performCommands_4 zcl_X9 (by decide) rfl lk_X9_49 (hx.1) rfl (hx.2.2.2.2.2.2.2.2.1) ?_
    refine zV.gNIv 166 (k := 6) C dX9_performCommands_7 zcl_X1 (by decide) rfl lk_X9_294 (hin.1.1) rfl (zi.2.2) ?_
    refine zV.icmp_ge (tgt := 79) C dX9_performCommands_10 (by decide) (fun q10 => ?_) (fun q10 => ?_)
    · exact absurd (nle (by omega) (by omega) q10) (by omega)
    · refine zV.aload_n C dX9_performCommands_13 rfl rfl ?_
      refine zV.gR 391 (k := 7) C dX9_performCommands_14 zcl_X9 (by decide) rfl lk_X9_49 (hx.1) rfl (hx.2.2.2.2.2.2.2.2.1) ?_
      refine zV.iload_n C dX9_performCommands_17 rfl ?_
      refine zV.callV (n := 1) C G dX9_performCommands_18 (s_deedOf hzs hst h (a + 264) t p k cms c zi hcl zc ec) rfl ⟨cd_X1_deedOf, lk_X9_371, im_X1_deedOf, se_X1_X1_deedOf, in_X1⟩ ⟨⟨by decide, by decide⟩, by decide⟩ rfl rfl rfl (hin.1.1) ⟨rfl, by decide⟩ (zaf ?_) (zno)
      refine zV.istore_n (lo' := [(0, _), (1, _), (2, _)]) C dX9_performCommands_21 (by decide) rfl rfl rfl ?_
      refine zV.aload_n C dX9_performCommands_22 rfl rfl ?_
      refine zV.gR 391 (k := 7) C dX9_performCommands_23 zcl_X9 (by decide) rfl lk_X9_49 (hx.1) rfl (hx.2.2.2.2.2.2.2.2.1) ?_
      refine zV.iload_n C dX9_performCommands_26 rfl ?_
      refine zV.callV (n := 1) C G dX9_performCommands_27 (s_firstOf hzs hst h (a + 264) t p k cms c zi hcl zc ec) rfl ⟨cd_X1_firstOf, lk_X9_374, im_X1_firstOf, se_X1_X1_firstOf, in_X1⟩ ⟨⟨by decide, by decide⟩, by decide⟩ rfl rfl rfl (hin.1.1) ⟨rfl, by decide⟩ (zaf ?_) (zno)
      refine zV.istore_n (lo' := [(0, _), (1, _), (2, _), (3, _)]) C dX9_performCommands_30 (by decide) rfl rfl rfl ?_
      refine zV.aload_n C dX9_performCommands_31 rfl rfl ?_
      refine zV.gR 391 (k := 7) C dX9_performCommands_32 zcl_X9 (by decide) rfl lk_X9_49 (hx.1) rfl (hx.2.2.2.2.2.2.2.2.1) ?_
      refine zV.iload_n C dX9_performCommands_35 rfl ?_
      refine zV.callV (n := 1) C G dX9_performCommands_36 (s_secondOf hzs hst h (a + 264) t p k cms c zi hcl zc ec) rfl ⟨cd_X1_secondOf, lk_X9_377, im_X1_secondOf, se_X1_X1_secondOf, in_X1⟩ ⟨⟨by decide, by decide⟩, by decide⟩ rfl rfl rfl (hin.1.1) ⟨rfl, by decide⟩ (zaf ?_) (zno)
      refine zV.istore (lo' := [(0, _), (1, _), (2, _), (3, _), (4, _)]) C dX9_performCommands_39 (by decide) rfl rfl rfl ?_
      refine zV.aload_n C dX9_performCommands_41 rfl rfl ?_
      refine zV.gR 390 (k := 6) C dX9_performCommands_42 zcl_X9 (by decide) rfl lk_X9_42 (hx.1) rfl (hx.2.2.2.2.2.2.2.1) ?_
      refine zV.aload_n C dX9_performCommands_45 rfl rfl ?_
      refine zV.gR 384 (k := 0) C dX9_performCommands_46 zcl_X9 (by decide) rfl lk_X9_10 (hx.1) rfl (hx.2.1) ?_
      refine zV.iload_n C dX9_performCommands_49 rfl ?_
      refine zV.iload_n C dX9_performCommands_50 rfl ?_
      refine zV.iload C dX9_performCommands_51 rfl ?_
      refine zV.callV (n := 4) C G dX9_performCommands_53 (s_examine hzs hst h (a + 263) (a + 1) g c.1 (nI c.2.1) (nI c.2.2) hd hg hw hJ (by omega)) rfl ⟨cd_X6_examine, lk_X9_345, im_X6_examine, se_X6_X6_examine, in_X6⟩ ⟨⟨by decide, by decide⟩, by decide⟩ rfl rfl rfl hJ ⟨rfl, by decide⟩ (zafR (fun h9 hp => ?_)) (zno)
      have q9 := zXa_j q hp.2.2
      refine zV.if_eq (tgt := 61) C dX9_performCommands_56 (by decide) (fun q56 => ?_) (fun q56 => ?_)
      · have e0 : (jd g c.1 (nI c.2.1) (nI c.2.2)).1 = 0 := (n0 (by omega)).mp q56
        clear hx hg hf hb hs hH hI hJ hin hou hn
        obtain ⟨hx, ⟨hg, hf, hb⟩, hs, hH, hI, hJ, hin, hou, hn, hlo2, hl92⟩ := id q9
        refine zV.aload_n C dX9_performCommands_61 rfl rfl ?_
        refine zV.gR 384 (k := 0) C dX9_performCommands_62 zcl_X9 (by decide) rfl lk_X9_10 (hx.1) rfl (hx.2.1) ?_
        refine zV.iload_n C dX9_performCommands_65 rfl ?_
        refine zV.iload_n C dX9_performCommands_66 rfl ?_
        refine zV.iload C dX9_performCommands_67 rfl ?_
        refine zV.callV (n := 3) C G dX9_performCommands_69 (s_perform hzs hst h9 (a + 1) m c.1 g (nI c.2.1) (nI c.2.2) hd hg hm (by omega) e0) rfl ⟨cd_X3_perform, lk_X9_368, im_X3_perform, se_X3_X3_perform, in_X3⟩ ⟨⟨by decide, by decide⟩, by decide⟩ rfl rfl rfl (hg.1.1) ⟨rfl, by decide⟩ (zafR (fun h7 ⟨g7, f7⟩ => ?_)) (zno)
        refine zV.pop C dX9_performCommands_72 rfl ?_
        refine zV.iinc (lo' := [(0, _), (1, _), (2, _), (3, _), (4, _)]) C dX9_performCommands_73 rfl (by decide) rfl rfl rfl ?_
        refine zV.goto (tgt := 2) C dX9_performCommands_76 (by decide) ?_
        rw [inc1]
        rw [pfC_t e0] at eN eG
        have r7 := ap_R hd hm e0
        have w7 := gQ_W r7.1 (by omega : m + 600 ≤ big)
        have x7 := (hp.2.2.e (c := a + 264) (by omega))
        have ee : ∀ c, a + 264 ≤ c → c < a + 264 + 5 → zEq h h7 c := fun c h1 h2 => (hp.2.2.e (by omega)).trans (f7.q.e (by omega))
        exact zV.sub [0, 1] rfl (ih (k + 1) _ h7 (m + 600) (by omega) (drop_c ed).2 r7 (by omega) ((f.trans (zXm.q hp.2.2 (by omega))).trans (zXm.q f7.q (by omega))) (zXa_g q9 f7.q g7 (gW_len w7)) (zIp_e zi ee) (zCm_e zc ee) (by have eN : k + ((pfC (ap g c.1 (nI c.2.1) (nI c.2.2)).1 ks).1 + 1) = N := eN; omega) eG)
      · have e0 : (jd g c.1 (nI c.2.1) (nI c.2.2)).1 ≠ 0 := fun y => q56 (by rw [y]; rfl)
        refine zV.iload_n C dX9_performCommands_59 rfl ?_
        refine zV.iret C F dX9_performCommands_60 rfl ?_
        rw [pfC_f e0] at eN eG
        have eN : k = N := eN
        subst eN
        subst eG
        exact hq h9 (f.trans (zXm.q hp.2.2 (by omega))) q9 (((hp.2.2.e (by omega)).2.2.2.1 _).trans zi.2.2) (fun _ => ⟨hp.1, fun y => (hp.2.1 y).1⟩)
set_option maxHeartbeats 4000000 in
set_option maxRecDepth 100000 in
theorem s_performCommands {l : Launch} {E : zG} (hzs : zS E) (hst : l.stackTraces = false) (h : zH) (a lo m p : Nat) (g : zGd) (us : List zGd) (sn : Option zGd) (off rs dt cz : Int32) (t o : List Nat) (cms : List (Nat × Nat × Nat)) (q : zXa h a lo g us sn off rs dt cz t o) (hm : gR m g) (zi : zIp h (a + 264) t p cms.length) (zc : zCm h (a + 264) cms) (hD : ∀ c ∈ cms, isD c.1) (hcl : cms.length ≤ 60) (hb9 : m + 40000 + 3000 ≤ big) : zMet l E yX9_performCommands cX9_performCommands 5 (some .int) ({ frames := 5, cells := 0, slots := 0, locals := 116 } : Room) 0 0 [.ref a] h (fun r h' => r = some (.int (nI (pfC g cms).1)) ∧ zXm h h' a lo ∧ zXa h' a lo (pfC g cms).2.1 us sn off rs dt cz t o ∧ hI h' 166 (a + 264) = nI cms.length ∧ ((pfC g cms).1 < cms.length → hI h' 288 (a + 263) = nI (pfC g cms).2.2.1 ∧ ((pfC g cms).2.2.1 = 3 → hI h' 289 (a + 263) = nI (pfC g cms).2.2.2.1))) (fun _ _ => False) := by
  refine zM_start hzs hst (by decide) (Nat.le_of_ble_eq_true rfl) (fun X C G F I => ?_)
  show zV X 0 0 _ 0 [(0, _)] []
  refine zV.ic (v := nI 0) C dX9_performCommands_0 (by decide) ?_
  refine zV.istore_n (lo' := [(0, _), (1, _)]) C dX9_performCommands_1 (by decide) rfl rfl rfl ?_
  exact L_performCommands (h0 := h) (G9 := (pfC g cms).2) hzs hst C G rfl F hD hcl (fun h' x1 x2 x3 x4 => ⟨rfl, x1, x2, x3, x4⟩) cms 0 g h m (Nat.zero_le _) rfl hm (by omega) (zXm.refl h a lo) q zi zc (Nat.zero_add _) rfl
