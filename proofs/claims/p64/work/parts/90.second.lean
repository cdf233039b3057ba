/-! the law: its second object -/
def h00 : zH := (0, fun _ => 0, fun _ => 0, fun _ _ => 0, fun _ _ => none, fun _ _ => 0, fun _ _ => none, fun _ _ => 0, fun _ _ => 0)
theorem g00_R : gR 0 g00 := by
  refine ⟨⟨⟨fun c hc => (by cases hc), List.nodup_nil, Nat.zero_le _, fun j _ => (by show 5 ≤ 20; decide), (by show 3 ≤ 20; decide), Nat.zero_le _⟩, fun c hc => (by cases hc), fun j _ => (by show hsz [] j ≤ 5; exact Nat.zero_le _), ⟨Nat.le_refl 0, Nat.le_refl 0, Nat.le_refl 0, Nat.le_refl 0, Nat.le_refl 0, Nat.le_refl 0⟩⟩, ⟨fun i _ => (by show 0 < 64; decide), fun i j _ _ => (by show (0 : Nat).testBit j = (0 : Nat).testBit i; rw [Nat.zero_testBit, Nat.zero_testBit]), fun i _ => (by show (0 : Nat).testBit i = false; exact Nat.zero_testBit i), (by show 2 * 0 = popc 0 + popc 0 + popc 0 + popc 0 + popc 0 + popc 0; decide)⟩⟩
theorem rmE5 {k n : Nat} (hk : k + (n + 1) = 8) : 20000 + 20000 * k + 50000 ≤ 1000000000 := by omega
theorem rmE1 {kc : Nat} (b : kc ≤ 30000) : kc + 1000 + 80 + 1000 ≤ 600390 := by omega
theorem rmE2 {ks : Nat} (b : ks ≤ 1000000) : ks + 40000 + 500 + 40000 ≤ 7286520 := by omega
theorem hsw_N {σ : Nat → Nat} {h : zH} : hN (hsw σ h) = hN h := rfl
theorem nI_subE (n i : Nat) : nI (n + i) - nI i = nI n := by
  rw [← nI_add]
  exact Int32.add_sub_cancel _ _
/-- the object after k rounds with d changes: what it answered before each of them stands in the row w -/
def hiS (h : zH) (w : Nat) (us : List zGd) : Prop := ∀ (j : Nat) (u : zGd), us[j]? = some u → aJ h w j = askF u ∧ gR 200000 u ∧ gX u ≤ 1000
def lpS (h : zH) (a w k d : Nat) (z : zGd) : Prop := ∃ g us off rs dt cs o, zXa h a (w + 1) g us (some z) off rs dt cs [] o ∧ us.length = d ∧ hiS h w us ∧ (hK h w = 104 ∧ hL h w = 9) ∧ gR (20000 + 20000 * k) g ∧ gX g ≤ 27 + 31 * k ∧ a + 271 ≤ w ∧ w + 1 ≤ hN h
def unS (h : zH) (a w n : Nat) (z : zGd) : Prop := ∃ g us off rs dt cs o, zXa h a (w + 1) g us (some z) off rs dt cs [] o ∧ us.length = n ∧ hiS h w us ∧ (hK h w = 104 ∧ hL h w = 9) ∧ a + 271 ≤ w ∧ w + 1 ≤ hN h
theorem lpS_un {h : zH} {a w k d : Nat} {z : zGd} (S : lpS h a w k d z) : unS h a w d z := by
  obtain ⟨g, us, off, rs, dt, cs, o, q, h1, h2, h3, -, -, h4, h5⟩ := S
  exact ⟨g, us, off, rs, dt, cs, o, q, h1, h2, h3, h4, h5⟩
theorem hiS_e {h h' : zH} {w : Nat} {us : List zGd} (H : hiS h w us) (e : zEq h h' w) : hiS h' w us := fun j u hu => ⟨(congrFun e.2.2.2.2.2.2.1 j).trans (H j u hu).1, (H j u hu).2⟩
theorem row_e {h h' : zH} {w : Nat} (k : hK h w = 104 ∧ hL h w = 9) (e : zEq h h' w) : hK h' w = 104 ∧ hL h' w = 9 := ⟨e.1.trans k.1, e.2.1.trans k.2⟩
theorem zEq_J {h : zH} {w i c : Nat} {v : Int64} (hc : c ≠ w) : zEq h (saJ h w i v) c := ⟨rfl, rfl, fun _ => rfl, fun _ => rfl, rfl, rfl, funext (fun j => up2_ne (fun q => hc q.1)), rfl⟩
theorem lpS_add {h : zH} {a w k d : Nat} {z g g' : zGd} {us : List zGd} {off rs dt cs : Int32} {o : List Nat} (q : zXa h a (w + 1) g' (kp us g) (some z) off rs dt cs [] o) (hl : us.length = d) (hd : d ≤ k) (hk : k < 8) (H : hiS h w us) (K : hK h w = 104 ∧ hL h w = 9) (R : gR (20000 + 20000 * k) g) (Xg : gX g ≤ 27 + 31 * k) (R' : gR (20000 + 20000 * k + 20000) g') (X' : gX g' ≤ gX g + 31) (w1 : a + 271 ≤ w) (w2 : w + 1 ≤ hN h) : lpS (saJ h w d (askF g)) a w (k + 1) (d + 1) z := by
  have e : kp us g = us ++ [g] := by
    unfold kp
    rw [if_pos (by omega)]
  rw [e] at q
  refine ⟨g', us ++ [g], off, rs, dt, cs, o, zXa_x q (Nat.le_refl _) (fun c h1 h2 => zEq_J (by omega)) (fun c h1 h2 => zEq_J (by omega)), ?_, fun j u hu => ?_, K, gR_mono R' (by omega), by omega, w1, w2⟩
  · rw [List.length_append, hl]; rfl
  · rcases Nat.lt_or_ge j us.length with z1 | z1
    · rw [List.getElem?_append_left z1] at hu
      refine ⟨?_, (H j u hu).2⟩
      show up2 (aJ h) w d (askF g) w j = _
      rw [up2_ne (fun y => by omega)]
      exact (H j u hu).1
    · rw [List.getElem?_append_right z1] at hu
      have z2 : j = d := by
        rcases Nat.lt_or_ge (j - us.length) 1 with y | y
        · omega
        · rw [List.getElem?_eq_none (show [g].length ≤ j - us.length from y)] at hu; cases hu
      subst z2
      rw [hl, Nat.sub_self] at hu
      cases hu
      refine ⟨?_, gR_mono R (by omega), by omega⟩
      show up2 (aJ h) w j (askF g) w j = _
      exact if_pos ⟨rfl, rfl⟩
theorem zafS2 {X : zX} {kc ks : Nat} {pc : Nat} {lo9 : List (Nat × Value)} {rest : List Value} {n a lo m : Nat} {h : zH} {g : zGd} {us : List zGd} {sn : Option zGd} (k1 : ∀ h', zXf h h' a lo → (∃ g', gR (m + 20000) g' ∧ gX g' ≤ gX g + 31 ∧ ∃ off rs dt cs o, zXa h' a lo g' (kp us g) sn off rs dt cs [] o) → zV X kc ks h' pc lo9 (.int 1 :: rest)) (k0 : ∀ h', zXf h h' a lo → (∃ off rs dt cs o, zXa h' a lo g us sn off rs dt cs [] o) → zV X kc ks h' pc lo9 (.int 0 :: rest)) : ∀ (r : Option Value) (h' : zH), chsQ h a lo m g us sn r h' → n ≤ hN h' → zV X kc ks h' pc lo9 (r.toList ++ rest) := fun r h' q _ => by
  obtain ⟨f, ⟨rfl, p⟩ | ⟨rfl, p⟩⟩ := q
  · exact k1 h' f p
  · exact k0 h' f p
set_option maxHeartbeats 4000000 in
set_option maxRecDepth 100000 in
theorem L_o455 {X : zX} {l : Launch} {E : zG} {rm : Room} (hzs : zS E) (hst : l.stackTraces = false) (C : zC X cL_law RL 11) (G : zGX X l E rm) (hr : rm = room_1) {sq L : Nat} {xs : Nat → Int32} (T : zSc E sq L xs) (hL : L ≤ 260) (h0 : zX0 X) {h : zH} {kc ks : Nat} (hk : kc ≤ 700) (hs : ks ≤ 5000) (kk : ∀ (h' : zH) (a w : Nat) (z : zGd), lpS h' a w 0 0 z → gR 20000 z → gX z ≤ 27 → zV X 10000 300000 h' 546 [(0, .retAddr sq), (2, .ref a), (3, .long (askF z)), (5, .int (nI (gC z).length)), (6, .ref w)] []) : zV X kc ks h 455 [(0, .retAddr sq), (1, .ref 0)] [] := by
  subst hr
  refine zV.new C G dL_law_455 zcl_X9 ⟨lk_L_8, it_X9, in_X9⟩ (by decide) (zhc (show _ ≤ 600390 by omega) (show _ ≤ 7286520 by omega)) ?_
  refine zV.dup C dL_law_458 rfl ?_
  refine zV.callI (n := 0) C G dL_law_459 (s_init hzs hst (hNew h 13 0) (hN h) hK_newE rfl (fun f => hI_newE)) rfl ⟨cd_X9_init, lk_L_386, im_X9_init, in_X9⟩ rfl ⟨⟨by decide, by decide⟩, by decide⟩ rfl (zRm_v 600390 7286520 rfl rfl rfl (by omega) (by omega)) rfl (zafRv (fun h1 ⟨x1, n1, f1⟩ => ?_)) (zno)
  obtain ⟨a, ea⟩ : ∃ a, a = hN h := ⟨_, rfl⟩
  rw [← ea] at x1 n1 ⊢
  have q := x1 (a + 271) (Nat.le_refl _)
  refine zV.astore_n (lo' := [(0, _), (1, _), (2, _)]) C dL_law_462 rfl (by decide) rfl rfl rfl ?_
  refine zV.aload_n C dL_law_463 rfl rfl ?_
  refine zV.aload_n C dL_law_464 rfl rfl ?_
  refine zV.callS (n := 2) C G dL_law_465 (s_makes hzs hst h1 a (a + 271) sq L xs T hL ⟨zXf.refl _ _ _, g00, [], -1, 0, 0, 0, [], q, gR_mono g00_R (Nat.zero_le _), Nat.le_refl _, rfl, by decide⟩) rfl ⟨cd_L_makes, lk_L_395, st_L_makes, in_L⟩ ⟨⟨by decide, by decide⟩, by decide⟩ rfl (zRm_v 600390 7286520 rfl rfl rfl (by omega) (by omega)) rfl (zafR (fun h2 S2 => ?_)) (zno)
  obtain ⟨f2, g, us, off, rs, dt, cs, o, q, hR, hX, hO, h11⟩ := S2
  have n9 : a + 271 ≤ hN h2 := by have := f2.1; omega
  have hw : gW g := gW_of hR.1.1 hR.1.2.2.2 (show 600 * 27 ≤ 1000000000 by decide)
  refine zV.if_ne (tgt := 473) C dL_law_468 (by decide) (fun q468 => ?_) (fun q468 => ?_)
  · refine zV.aload_n C dL_law_473 rfl rfl ?_
    refine zV.callS (n := 1) C G dL_law_474 (s_asks hzs hst _ a (a + 271) (600 * 27) g us none _ _ _ _ [] _ q hR (show _ ≤ 1000000000 by omega) (by omega) n9) rfl ⟨cd_L_asks, lk_L_325, st_L_asks, in_L⟩ ⟨⟨by decide, by decide⟩, by decide⟩ rfl (zRm_v 600390 7286520 rfl rfl rfl (by omega) (by omega)) rfl (zafR (fun h3 p3 => ?_)) (zno)
    have q := p3.2
    have n9 := Nat.le_trans n9 p3.1.1
    refine zV.lstore_n (lo' := [(0, _), (1, _), (2, _), (3, _)]) C dL_law_477 (by decide) rfl rfl rfl ?_
    refine zV.aload_n C dL_law_478 rfl rfl ?_
    refine zV.callS (n := 1) C G dL_law_479 (s_asks hzs hst _ a (a + 271) (600 * 27) g us none _ _ _ _ [] _ q hR (show _ ≤ 1000000000 by omega) (by omega) n9) rfl ⟨cd_L_asks, lk_L_325, st_L_asks, in_L⟩ ⟨⟨by decide, by decide⟩, by decide⟩ rfl (zRm_v 600390 7286520 rfl rfl rfl (by omega) (by omega)) rfl (zafR (fun h4 p4 => ?_)) (zno)
    have q := p4.2
    have n9 := Nat.le_trans n9 p4.1.1
    refine zV.lload_n C dL_law_482 rfl ?_
    refine zV.lcmp C dL_law_483 ?_
    refine zV.if_ne (tgt := 494) C dL_law_484 (by decide) (fun q484 => ?_) (fun q484 => ?_)
    · exact absurd (lcmp_self _) q484
    · refine zV.aload_n C dL_law_487 rfl rfl ?_
      refine zV.callS (n := 1) C G dL_law_488 (s_thrown hzs hst _ a (a + 271) (600 * 27) g us none _ _ _ _ _ hR (show _ ≤ 1000000000 by omega) (by omega) hO n9 h11 q) rfl ⟨cd_L_thrown, lk_L_399, st_L_thrown, in_L⟩ ⟨⟨by decide, by decide⟩, by decide⟩ rfl (zRm_v 600390 7286520 rfl rfl rfl (by omega) (by omega)) rfl (zafR (fun h5 ⟨f5, off5, rs5, dt5, cs5, o5, q⟩ => ?_)) (zno)
      have n9 := Nat.le_trans n9 f5.1
      refine zV.if_ne (tgt := 496) C dL_law_491 (by decide) (fun q491 => ?_) (fun q491 => ?_)
      · refine zV.aload_n C dL_law_496 rfl rfl ?_
        refine zV.callV (n := 0) C G dL_law_497 (s_saveSnapshot hzs hst _ a (a + 271) g us none _ _ _ _ _ _ q) rfl ⟨cd_X9_saveSnapshot, lk_L_392, im_X9_saveSnapshot, se_X9_X9_saveSnapshot, in_X9⟩ ⟨⟨by decide, by decide⟩, by decide⟩ rfl (zRm_v 600390 7286520 rfl rfl rfl (by omega) (by omega)) rfl q.1.1 ⟨rfl, by decide⟩ (zafR (fun h6 ⟨f6, q⟩ => ?_)) (zno)
        have n9 := Nat.le_trans n9 f6.1
        refine zV.jstore (lo' := [(0, _), (1, _), (2, _), (3, _), (5, _)]) C dL_law_500 (by decide) rfl rfl rfl ?_
        refine zV.iload C dL_law_502 rfl ?_
        refine zV.aload_n C dL_law_504 rfl rfl ?_
        refine zV.callV (n := 0) C G dL_law_505 (s_chairCount hzs hst _ a g q.1 q.2.1.1 hw) rfl ⟨cd_X9_chairCount, lk_L_222, im_X9_chairCount, se_X9_X9_chairCount, in_X9⟩ ⟨⟨by decide, by decide⟩, by decide⟩ rfl (zRm_v 600390 7286520 rfl rfl rfl (by omega) (by omega)) rfl q.1.1 ⟨rfl, by decide⟩ (zaf ?_) (zno)
        refine zV.icmp_ne (tgt := 538) C dL_law_508 (by decide) (fun q508 => ?_) (fun q508 => ?_)
        · exact absurd rfl q508
        · refine zV.aload_n C dL_law_511 rfl rfl ?_
          refine zV.callS (n := 1) C G dL_law_512 (s_asks hzs hst _ a (a + 271) (600 * 27) g us (some g) _ _ _ _ [] _ q hR (show _ ≤ 1000000000 by omega) (by omega) n9) rfl ⟨cd_L_asks, lk_L_325, st_L_asks, in_L⟩ ⟨⟨by decide, by decide⟩, by decide⟩ rfl (zRm_v 600390 7286520 rfl rfl rfl (by omega) (by omega)) rfl (zafR (fun h7 p7 => ?_)) (zno)
          have q := p7.2
          have n9 := Nat.le_trans n9 p7.1.1
          refine zV.lload_n C dL_law_515 rfl ?_
          refine zV.lcmp C dL_law_516 ?_
          refine zV.if_ne (tgt := 538) C dL_law_517 (by decide) (fun q517 => ?_) (fun q517 => ?_)
          · exact absurd (lcmp_self _) q517
          · refine zV.aload_n C dL_law_520 rfl rfl ?_
            refine zV.callSW (n := 1) C G dL_law_521 (w_restore hzs hst q) rfl ⟨cd_L_restore, lk_L_389, st_L_restore, in_L⟩ ⟨⟨by decide, by decide⟩, by decide⟩ rfl (zRm_v 600390 7286520 rfl rfl rfl (by omega) (by omega)) rfl (zafCe (v := nI (gC g).length) rs_v (fun h8 p8 => ?_)) (zno)
            have n9 := Nat.le_trans n9 p8.1.1
            have q := (rs_p p8).2
            refine zV.iload C dL_law_524 rfl ?_
            refine zV.icmp_ne (tgt := 538) C dL_law_526 (by decide) (fun q526 => ?_) (fun q526 => ?_)
            · exact absurd rfl q526
            · refine zV.aload_n C dL_law_529 rfl rfl ?_
              refine zV.callS (n := 1) C G dL_law_530 (s_asks hzs hst _ a (a + 271) (600 * 27) g [] (some g) _ _ _ _ [] _ q hR (show _ ≤ 1000000000 by omega) (by omega) n9) rfl ⟨cd_L_asks, lk_L_325, st_L_asks, in_L⟩ ⟨⟨by decide, by decide⟩, by decide⟩ rfl (zRm_v 600390 7286520 rfl rfl rfl (by omega) (by omega)) rfl (zafR (fun h9 p9 => ?_)) (zno)
              have q := p9.2
              have n9 := Nat.le_trans n9 p9.1.1
              refine zV.lload_n C dL_law_533 rfl ?_
              refine zV.lcmp C dL_law_534 ?_
              refine zV.if_eq (tgt := 540) C dL_law_535 (by decide) (fun q535 => ?_) (fun q535 => ?_)
              · refine zV.bi (v := nI 9) C dL_law_540 (by decide) ?_
                refine zV.newJ (n := 9) C G dL_law_542 ac_long (rfl) (by decide) (zhc (show _ ≤ 600390 by omega) (show _ ≤ 7286520 by omega)) ?_
                refine zV.jstoreA (lo' := [(0, _), (1, _), (2, _), (3, _), (5, _), (6, _)]) C dL_law_544 rfl (by decide) rfl rfl rfl ?_
                obtain ⟨σ, w, s1, s2, sa, sw, w1, w2, qw, kw, lw⟩ := was_new (n := 9) q n9
                refine zV.sub [0, 2, 3, 4, 5] rfl ?_
                refine zV.sw (σ := σ) (lo' := [(0, .retAddr sq), (2, .ref a), (3, .long (askF g)), (5, .int (nI (gC g).length)), (6, .ref w)]) h0 s1 s2 ⟨trivial, (show a < hN h9 + 1 by omega), trivial, trivial, w2, trivial⟩ (fun ad => ?_) ?_
                · show [(0, Value.ref sq), (2, Value.ref (ad (σ a))), (3, Value.long (askF g)), (5, Value.int (nI (gC g).length)), (6, Value.ref (ad (σ w)))] = _
                  rw [sa, sw]
                  rfl
                · exact zV.up (by omega) (by omega) (kk _ a w g ⟨g, [], _, _, _, _, _, qw, rfl, fun j u hu => (by cases hu), ⟨kw, lw⟩, gR_mono hR (by omega), by omega, w1, w2⟩ (gR_mono hR (by omega)) (by omega))
              · exact absurd (lcmp_self _) q535
      · exact absurd q491 (by decide)
  · exact absurd q468 (by decide)
set_option maxHeartbeats 4000000 in
set_option maxRecDepth 100000 in
theorem L_o552 {X : zX} {l : Launch} {E : zG} {rm : Room} (hzs : zS E) (hst : l.stackTraces = false) (C : zC X cL_law RL 11) (G : zGX X l E rm) (hr : rm = room_1) {sq L : Nat} {xs : Nat → Int32} (T : zSc E sq L xs) (hL : L ≤ 260) {a w : Nat} {z : zGd} : ∀ n k d (h : zH) kc ks, k + n = 8 → d ≤ k → kc + 2100 * n ≤ 30000 → ks + 81000 * n ≤ 1000000 → lpS h a w k d z → (∀ h' d, d ≤ 8 → lpS h' a w 8 d z → zV X 30000 1000000 h' 619 [(0, .retAddr sq), (2, .ref a), (3, .long (askF z)), (5, .int (nI (gC z).length)), (6, .ref w), (7, .int (nI d)), (8, .int (nI 8))] []) → zV X kc ks h 552 [(0, .retAddr sq), (2, .ref a), (3, .long (askF z)), (5, .int (nI (gC z).length)), (6, .ref w), (7, .int (nI d)), (8, .int (nI k))] [] := by
  subst hr
  intro n
  induction n with
  | zero =>
    intro k d h kc ks hk hd b1 b2 S kk
    obtain rfl : k = 8 := by omega
    refine zV.iload C dL_law_552 rfl ?_
    refine zV.bi (v := nI 8) C dL_law_554 (by decide) ?_
    refine zV.icmp_ge (tgt := 619) C dL_law_556 (by decide) (fun q556 => ?_) (fun q556 => ?_)
    · exact zV.up (by omega) (by omega) (kk h d hd S)
    · exact absurd (nI_le (Nat.le_refl 8) (by decide)) q556
  | succ n ih =>
    intro k d h kc ks hk hd b1 b2 S kk
    obtain ⟨g, us, off, rs, dt, cs, o, q, hl, H, K, R, Xg, w1, w2⟩ := S
    refine zV.iload C dL_law_552 rfl ?_
    refine zV.bi (v := nI 8) C dL_law_554 (by decide) ?_
    refine zV.icmp_ge (tgt := 619) C dL_law_556 (by decide) (fun q556 => ?_) (fun q556 => ?_)
    · exact absurd (nle (by omega) (by omega) q556) (by omega)
    · refine zV.aload_n C dL_law_559 rfl rfl ?_
      refine zV.callS (n := 1) C G dL_law_560 (s_asks hzs hst _ a (w + 1) (20000 + 20000 * k) g us (some z) _ _ _ _ [] _ q R (show 20000 + 20000 * k + 3000 ≤ 1000000000 by omega) (by omega) w2) rfl ⟨cd_L_asks, lk_L_325, st_L_asks, in_L⟩ ⟨⟨by decide, by decide⟩, by decide⟩ rfl (zRm_v 600390 7286520 rfl rfl rfl (by omega) (by omega)) rfl (zafR (fun h1 p1 => ?_)) (zno)
      have q := p1.2
      have e9 := p1.1.2 w (Or.inr w1) (Nat.lt_succ_self _)
      have H := hiS_e H e9
      have K := row_e K e9
      have w2 := Nat.le_trans w2 p1.1.1
      refine zV.lstore (lo' := [(0, _), (2, _), (3, _), (5, _), (6, _), (7, _), (8, _), (9, _)]) C dL_law_563 (by decide) rfl rfl rfl ?_
      refine zV.aload_n C dL_law_565 rfl rfl ?_
      refine zV.aload_n C dL_law_566 rfl rfl ?_
      refine zV.bi (v := nI 20) C dL_law_567 (by decide) ?_
      refine zV.iload C dL_law_569 rfl ?_
      refine zV.iadd C dL_law_571 ?_
      rw [show nI 20 + nI k = nI (20 + k) from nI_add 20 k]
      refine zV.callS (n := 2) C G dL_law_572 (s_at hzs hst _ sq L (20 + k) xs T hL (by omega)) rfl ⟨cd_L_at, lk_L_201, st_L_at, in_L⟩ ⟨⟨by decide, by decide⟩, by decide⟩ rfl (zRm_v 600390 7286520 rfl rfl rfl (by omega) (by omega)) rfl (zafW (fun x => ?_)) (zno)
      refine zV.iload C dL_law_575 rfl ?_
      refine zV.si (v := nI 977) C dL_law_577 (by decide) ?_
      refine zV.imul C dL_law_580 ?_
      refine zV.ixor C dL_law_581 ?_
      refine zV.callS (n := 2) C G dL_law_582 (s_changes hzs hst _ a (w + 1) (20000 + 20000 * k) _ g us (some z) _ _ _ _ _ R (rmE5 hk) w2 q) rfl ⟨cd_L_changes, lk_L_402, st_L_changes, in_L⟩ ⟨⟨by decide, by decide⟩, by decide⟩ rfl (zRm_v 600390 7286520 rfl rfl rfl (by omega) (by omega)) rfl (zafS2 (fun h2 f2 p2 => ?_) (fun h2 f2 p2 => ?_)) (zno)
      · obtain ⟨g9, R9, X9, off9, rs9, dt9, cs9, o9, q⟩ := p2
        have e9 := f2.2 w (Or.inr w1) (Nat.lt_succ_self _)
        have H := hiS_e H e9
        have K := row_e K e9
        have w2 := Nat.le_trans w2 f2.1
        refine zV.if_eq (tgt := 601) C dL_law_585 (by decide) (fun q585 => ?_) (fun q585 => ?_)
        · exact absurd q585 (by decide)
        · refine zV.aload C dL_law_588 rfl rfl ?_
          refine zV.iload C dL_law_590 rfl ?_
          refine zV.kinc (lo' := [(0, _), (2, _), (3, _), (5, _), (6, _), (7, _), (8, _), (9, _)]) C dL_law_592 rfl (by decide) rfl rfl rfl ?_
          refine zV.lload C dL_law_595 rfl ?_
          refine zV.last (j := d) C dL_law_597 K.1 (rfl) (by rw [K.2]; omega) (by omega) ?_
          refine zV.goto (tgt := 613) C dL_law_598 (by decide) ?_
          refine zV.kinc (lo' := [(0, _), (2, _), (3, _), (5, _), (6, _), (7, _), (8, _), (9, _)]) C dL_law_613 rfl (by decide) rfl rfl rfl ?_
          refine zV.goto (tgt := 552) C dL_law_616 (by decide) ?_
          rw [show nI k + Int32.ofInt 1 = nI (k + 1) from nI_add k 1]
          rw [show nI d + Int32.ofInt 1 = nI (d + 1) from nI_add d 1]
          exact zV.sub [0, 1, 2, 3, 4, 5, 6] rfl (ih (k + 1) (d + 1) _ _ _ (by omega) (by omega) (by omega) (by omega) (lpS_add q hl hd (by omega) H K R Xg R9 X9 w1 w2) kk)
      · obtain ⟨off9, rs9, dt9, cs9, o9, q⟩ := p2
        have e9 := f2.2 w (Or.inr w1) (Nat.lt_succ_self _)
        have H := hiS_e H e9
        have K := row_e K e9
        have w2 := Nat.le_trans w2 f2.1
        refine zV.if_eq (tgt := 601) C dL_law_585 (by decide) (fun q585 => ?_) (fun q585 => ?_)
        · refine zV.aload_n C dL_law_601 rfl rfl ?_
          refine zV.callS (n := 1) C G dL_law_602 (s_asks hzs hst _ a (w + 1) (20000 + 20000 * k) g us (some z) _ _ _ _ [] _ q R (show 20000 + 20000 * k + 3000 ≤ 1000000000 by omega) (by omega) w2) rfl ⟨cd_L_asks, lk_L_325, st_L_asks, in_L⟩ ⟨⟨by decide, by decide⟩, by decide⟩ rfl (zRm_v 600390 7286520 rfl rfl rfl (rmE1 (Nat.le_trans (Nat.le_add_right _ _) b1)) (rmE2 (Nat.le_trans (Nat.le_add_right _ _) b2))) rfl (zafR (fun h3 p3 => ?_)) (zno)
          have q := p3.2
          have e9 := p3.1.2 w (Or.inr w1) (Nat.lt_succ_self _)
          have H := hiS_e H e9
          have K := row_e K e9
          have w2 := Nat.le_trans w2 p3.1.1
          refine zV.lload C dL_law_605 rfl ?_
          refine zV.lcmp C dL_law_607 ?_
          refine zV.if_eq (tgt := 613) C dL_law_608 (by decide) (fun q608 => ?_) (fun q608 => ?_)
          · refine zV.kinc (lo' := [(0, _), (2, _), (3, _), (5, _), (6, _), (7, _), (8, _), (9, _)]) C dL_law_613 rfl (by decide) rfl rfl rfl ?_
            refine zV.goto (tgt := 552) C dL_law_616 (by decide) ?_
            rw [show nI k + Int32.ofInt 1 = nI (k + 1) from nI_add k 1]
            exact zV.sub [0, 1, 2, 3, 4, 5, 6] rfl (ih (k + 1) d _ _ _ (by omega) (by omega) (by omega) (by omega) ⟨g, us, _, _, _, _, _, q, hl, H, K, gR_mono R (by omega), by omega, w1, w2⟩ kk)
          · exact absurd (lcmp_self _) q608
        · exact absurd rfl q585
set_option maxHeartbeats 4000000 in
set_option maxRecDepth 100000 in
theorem L_o622 {X : zX} {l : Launch} {E : zG} {rm : Room} (hzs : zS E) (hst : l.stackTraces = false) (C : zC X cL_law RL 11) (G : zGX X l E rm) (hr : rm = room_1) {sq a w d : Nat} {z : zGd} (hd : d ≤ 8) : ∀ n i (h : zH) kc ks, i + n = d + 1 → kc + 1100 * n ≤ 40000 → ks + 41000 * n ≤ 1400000 → unS h a w n z → (∀ h', unS h' a w 0 z → zV X 40000 1400000 h' 665 [(0, .retAddr sq), (2, .ref a), (3, .long (askF z)), (5, .int (nI (gC z).length))] []) → zV X kc ks h 622 [(0, .retAddr sq), (2, .ref a), (3, .long (askF z)), (5, .int (nI (gC z).length)), (6, .ref w), (7, .int (nI d)), (8, .int (nI i))] [] := by
  subst hr
  intro n
  induction n with
  | zero =>
    intro i h kc ks hi b1 b2 S kk
    obtain rfl : i = d + 1 := by omega
    refine zV.iload C dL_law_622 rfl ?_
    refine zV.iload C dL_law_624 rfl ?_
    refine zV.icmp_gt (tgt := 665) C dL_law_626 (by decide) (fun q626 => ?_) (fun q626 => ?_)
    · exact zV.up (by omega) (by omega) (zV.sub [0, 1, 2, 3] rfl (kk h S))
    · exact absurd (nI_lt (by omega) (by omega)) q626
  | succ n ih =>
    intro i h kc ks hi b1 b2 S kk
    obtain rfl : d = n + i := by omega
    obtain ⟨g, us, off, rs, dt, cs, o, q, hl, H, K, w1, w2⟩ := S
    obtain ⟨vs, u, rfl⟩ : ∃ vs u, us = vs ++ [u] := by
      rcases List.eq_nil_or_concat us with e | ⟨vs, u, e⟩
      · subst e; cases hl
      · exact ⟨vs, u, by rw [e, List.concat_eq_append]⟩
    have hv : vs.length = n := by rw [List.length_append] at hl; exact Nat.succ.inj hl
    have Hu := H n u (by rw [List.getElem?_append_right (by omega), hv, Nat.sub_self]; rfl)
    have Hv : hiS h w vs := fun j x hx => H j x (by rw [List.getElem?_append_left (List.getElem?_eq_some_iff.mp hx).1]; exact hx)
    have R := Hu.2.1
    have Xu := Hu.2.2
    refine zV.iload C dL_law_622 rfl ?_
    refine zV.iload C dL_law_624 rfl ?_
    refine zV.icmp_gt (tgt := 665) C dL_law_626 (by decide) (fun q626 => ?_) (fun q626 => ?_)
    · exact absurd q626 (nI_nlt (by omega) (by omega))
    · refine zV.aload_n C dL_law_629 rfl rfl ?_
      refine zV.callSW (n := 1) C G dL_law_630 (w_undo hzs hst q) rfl ⟨cd_L_undo, lk_L_387, st_L_undo, in_L⟩ ⟨⟨by decide, by decide⟩, by decide⟩ rfl (zRm_v 600390 7286520 rfl rfl rfl (by omega) (by omega)) rfl (zafCe (v := nI n) ((un_v rfl).trans (by rw [hv])) (fun h1 p1 => ?_)) (zno)
      have f1 := (un_p rfl p1).1
      have q := (un_p rfl p1).2
      have e9 := f1.2 w (Or.inr w1) (Nat.lt_succ_self _)
      have Hv := hiS_e Hv e9
      have Hu := (congrFun e9.2.2.2.2.2.2.1 n).trans Hu.1
      have K := row_e K e9
      have w2 := Nat.le_trans w2 f1.1
      refine zV.iload C dL_law_633 rfl ?_
      refine zV.iload C dL_law_635 rfl ?_
      refine zV.isub C dL_law_637 ?_
      rw [nI_subE n i]
      refine zV.icmp_ne (tgt := 657) C dL_law_638 (by decide) (fun q638 => ?_) (fun q638 => ?_)
      · exact absurd rfl q638
      · refine zV.aload_n C dL_law_641 rfl rfl ?_
        refine zV.callS (n := 1) C G dL_law_642 (s_asks hzs hst _ a (w + 1) 200000 u vs (some z) _ _ _ _ [] _ q R (show 200000 + 3000 ≤ 1000000000 by decide) (by omega) w2) rfl ⟨cd_L_asks, lk_L_325, st_L_asks, in_L⟩ ⟨⟨by decide, by decide⟩, by decide⟩ rfl (zRm_v 600390 7286520 rfl rfl rfl (by omega) (by omega)) rfl (zafR (fun h2 p2 => ?_)) (zno)
        have q := p2.2
        have e9 := p2.1.2 w (Or.inr w1) (Nat.lt_succ_self _)
        have Hv := hiS_e Hv e9
        have Hu := (congrFun e9.2.2.2.2.2.2.1 n).trans Hu
        have K := row_e K e9
        have w2 := Nat.le_trans w2 p2.1.1
        refine zV.aload C dL_law_645 rfl rfl ?_
        refine zV.iload C dL_law_647 rfl ?_
        refine zV.iload C dL_law_649 rfl ?_
        refine zV.isub C dL_law_651 ?_
        rw [nI_subE n i]
        refine zV.lald (j := n) C dL_law_652 K.1 (rfl) (by rw [K.2]; omega) (by omega) ?_
        refine zV.lcmp C dL_law_653 ?_
        refine zV.if_eq (tgt := 659) C dL_law_654 (by decide) (fun q654 => ?_) (fun q654 => ?_)
        · refine zV.kinc (lo' := [(0, _), (2, _), (3, _), (5, _), (6, _), (7, _), (8, _)]) C dL_law_659 rfl (by decide) rfl rfl rfl ?_
          refine zV.goto (tgt := 622) C dL_law_662 (by decide) ?_
          rw [show nI i + Int32.ofInt 1 = nI (i + 1) from nI_add i 1]
          exact zV.sub [0, 1, 2, 3, 4, 5, 6] rfl (ih (i + 1) _ _ _ (by omega) (by omega) (by omega) ⟨u, vs, _, _, _, _, _, q, hv, Hv, K, w1, w2⟩ kk)
        · exact absurd (by rw [Hu]; exact lcmp_self _) q654
set_option maxHeartbeats 4000000 in
set_option maxRecDepth 100000 in
theorem L_o665 {X : zX} {l : Launch} {E : zG} {rm : Room} (hzs : zS E) (hst : l.stackTraces = false) (C : zC X cL_law RL 11) (G : zGX X l E rm) (hr : rm = room_1) {sq a w : Nat} {z : zGd} (R : gR 20000 z) (Xz : gX z ≤ 27) {h : zH} {kc ks : Nat} (hk : kc ≤ 40000) (hs : ks ≤ 1400000) (S : unS h a w 0 z) (fin : ∀ (h : zH) (lo : List (Nat × Value)), zV X 42000 1500000 h 703 lo []) : zV X kc ks h 665 [(0, .retAddr sq), (2, .ref a), (3, .long (askF z)), (5, .int (nI (gC z).length))] [] := by
  subst hr
  obtain ⟨g, us, off, rs, dt, cs, o, q, hl, H, K, w1, w2⟩ := S
  obtain rfl : us = [] := List.length_eq_zero_iff.mp hl
  refine zV.aload_n C dL_law_665 rfl rfl ?_
  refine zV.callSW (n := 1) C G dL_law_666 (w_undo hzs hst q) rfl ⟨cd_L_undo, lk_L_387, st_L_undo, in_L⟩ ⟨⟨by decide, by decide⟩, by decide⟩ rfl (zRm_v 600390 7286520 rfl rfl rfl (by omega) (by omega)) rfl (zafCe (v := -1001) un_v0 (fun h1 p1 => ?_)) (zno)
  have w2 := Nat.le_trans w2 p1.1.1
  have q := (un_p0 p1).2
  refine zV.si (v := (-1001)) C dL_law_669 (by decide) ?_
  refine zV.icmp_ne (tgt := 707) C dL_law_672 (by decide) (fun q672 => ?_) (fun q672 => ?_)
  · exact absurd rfl q672
  · refine zV.aload_n C dL_law_675 rfl rfl ?_
    refine zV.callSW (n := 1) C G dL_law_676 (w_restore hzs hst q) rfl ⟨cd_L_restore, lk_L_389, st_L_restore, in_L⟩ ⟨⟨by decide, by decide⟩, by decide⟩ rfl (zRm_v 600390 7286520 rfl rfl rfl (by omega) (by omega)) rfl (zafCe (v := nI (gC z).length) rs_v (fun h2 p2 => ?_)) (zno)
    have w2 := Nat.le_trans w2 p2.1.1
    have q := (rs_p p2).2
    refine zV.iload C dL_law_679 rfl ?_
    refine zV.icmp_ne (tgt := 707) C dL_law_681 (by decide) (fun q681 => ?_) (fun q681 => ?_)
    · exact absurd rfl q681
    · refine zV.aload_n C dL_law_684 rfl rfl ?_
      refine zV.callS (n := 1) C G dL_law_685 (s_asks hzs hst _ a (w + 1) 20000 z [] (some z) _ _ _ _ [] _ q R (show 20000 + 3000 ≤ 1000000000 by decide) (by omega) w2) rfl ⟨cd_L_asks, lk_L_325, st_L_asks, in_L⟩ ⟨⟨by decide, by decide⟩, by decide⟩ rfl (zRm_v 600390 7286520 rfl rfl rfl (by omega) (by omega)) rfl (zafR (fun h3 p3 => ?_)) (zno)
      have q := p3.2
      refine zV.lload_n C dL_law_688 rfl ?_
      refine zV.lcmp C dL_law_689 ?_
      refine zV.if_ne (tgt := 707) C dL_law_690 (by decide) (fun q690 => ?_) (fun q690 => ?_)
      · exact absurd (lcmp_self _) q690
      · refine zV.aload_n C dL_law_693 rfl rfl ?_
        refine zV.callSW (n := 1) C G dL_law_694 (w_undo hzs hst q) rfl ⟨cd_L_undo, lk_L_387, st_L_undo, in_L⟩ ⟨⟨by decide, by decide⟩, by decide⟩ rfl (zRm_v 600390 7286520 rfl rfl rfl (by omega) (by omega)) rfl (zafCe (v := -1001) un_v0 (fun h4 p4 => ?_)) (zno)
        refine zV.si (v := (-1001)) C dL_law_697 (by decide) ?_
        refine zV.icmp_ne (tgt := 707) C dL_law_700 (by decide) (fun q700 => ?_) (fun q700 => ?_)
        · exact absurd rfl q700
        · exact zV.up (by omega) (by omega) (fin _ _)
set_option maxHeartbeats 4000000 in
set_option maxRecDepth 100000 in
theorem L_o546 {X : zX} {l : Launch} {E : zG} {rm : Room} (hzs : zS E) (hst : l.stackTraces = false) (C : zC X cL_law RL 11) (G : zGX X l E rm) (hr : rm = room_1) {sq L : Nat} {xs : Nat → Int32} (T : zSc E sq L xs) (hL : L ≤ 260) {a w : Nat} {z : zGd} (R : gR 20000 z) (Xz : gX z ≤ 27) {h : zH} (S : lpS h a w 0 0 z) (fin : ∀ (h : zH) (lo : List (Nat × Value)), zV X 42000 1500000 h 703 lo []) : zV X 10000 300000 h 546 [(0, .retAddr sq), (2, .ref a), (3, .long (askF z)), (5, .int (nI (gC z).length)), (6, .ref w)] [] := by
  have hr0 := hr
  subst hr
  refine zV.ic (v := nI 0) C dL_law_546 (by decide) ?_
  refine zV.jstore (lo' := [(0, _), (2, _), (3, _), (5, _), (6, _), (7, _)]) C dL_law_547 (by decide) rfl rfl rfl ?_
  refine zV.ic (v := nI 0) C dL_law_549 (by decide) ?_
  refine zV.jstore (lo' := [(0, _), (2, _), (3, _), (5, _), (6, _), (7, _), (8, _)]) C dL_law_550 (by decide) rfl rfl rfl ?_
  refine L_o552 hzs hst C G hr0 T hL 8 0 0 h _ _ rfl (Nat.le_refl _) (by decide) (by decide) S (fun h1 d hd S1 => ?_)
  refine zV.ic (v := nI 1) C dL_law_619 (by decide) ?_
  refine zV.jstore (lo' := [(0, _), (2, _), (3, _), (5, _), (6, _), (7, _), (8, _)]) C dL_law_620 (by decide) rfl rfl rfl ?_
  exact L_o622 hzs hst C G hr0 hd d 1 h1 _ _ (Nat.add_comm 1 d) (by omega) (by omega) (lpS_un S1) (fun h2 S2 => L_o665 hzs hst C G hr0 R Xz (Nat.le_refl _) (Nat.le_refl _) S2 fin)
