/-! constants, switches -/
section ZK
variable {X : zX} {kc ks : Nat} {h : zH} {pc : Nat} {lo : List (Nat × Value)} {st : List Value} {cc : ByteArray} {own : String} {nL : Nat}
theorem zV.ldcW {index : Nat} {v w : Int32} (C : zC X cc own nL) (d : decode cc pc = .ok (.ldc_w index, 3)) (hw : zWd (.constant own index v)) (hv : v = w) (kk : zV X kc ks h (pc + 3) lo (.int w :: st)) : zV X kc ks h pc lo st := by
  subst hv
  obtain ⟨p, l, e, R, s, m, args, below, meth, c, E, ad0, n0, Z⟩ := X
  obtain ⟨hx, hb, hml, hown, hlk, hst, hzs, hwm, hsz, hzh⟩ := id C
  intro ad H rl ls e1 e2 w S ol os hl
  exact lv_ldcw hx hb hown (zwd hzs hwm hw) d (kk ad H rl ls e1 e2 w S ol ⟨trivial, os⟩ hl)
theorem zV.ldcI {index : Nat} {v w : Int32} (C : zC X cc own nL) (d : decode cc pc = .ok (.ldc index, 2)) (hw : zWd (.constant own index v)) (hv : v = w) (kk : zV X kc ks h (pc + 2) lo (.int w :: st)) : zV X kc ks h pc lo st := by
  subst hv
  obtain ⟨p, l, e, R, s, m, args, below, meth, c, E, ad0, n0, Z⟩ := X
  obtain ⟨hx, hb, hml, hown, hlk, hst, hzs, hwm, hsz, hzh⟩ := id C
  intro ad H rl ls e1 e2 w S ol os hl
  exact lv_ldc hx hb hown (zwd hzs hwm hw) d (kk ad H rl ls e1 e2 w S ol ⟨trivial, os⟩ hl)
/-- the address of a String constant -/
def zSq (own : String) (index : Nat) (tx : String) (E : zG) (q : Nat) : Prop := vk_R own index tx q E.2.2.1
theorem zV.ldcS {index q : Nat} {tx : String} {l : Launch} {E : zG} {rm : Room} (C : zC X cc own nL) (G : zGX X l E rm) (d : decode cc pc = .ok (.ldc index, 2)) (hw : zSq own index tx E q) (kk : zV X kc ks h (pc + 2) lo (.retAddr q :: st)) : zV X kc ks h pc lo st := by
  obtain ⟨p, l', e, R, s, m, args, below, meth, c, E', ad0, n0, Z⟩ := X
  obtain ⟨hx, hb, hml, hown, hlk, hst, hzs, hwm, hsz, hzh⟩ := id C
  intro ad H rl ls e1 e2 w S ol os hl
  obtain ⟨rfl, rfl, rfl⟩ := id G
  exact va_ldcS hx hb hown (vk_R.warm hwm hw) d (kk ad H rl ls e1 e2 w S ol ⟨trivial, os⟩ hl)
theorem zV.tIn {dflt lo9 hi9 : Int} {offs : Array Int} {len : Nat} {x : Int32} {off : Int} (tgt : Nat) (C : zC X cc own nL) (d : decode cc pc = .ok (.tableswitch dflt lo9 hi9 offs, len)) (h1 : ¬ x.toInt < lo9) (h2 : ¬ hi9 < x.toInt) (ho : offs[(x.toInt - lo9).toNat]? = some off) (ht : (pc : Int) + off = (tgt : Int)) (kk : zV X kc ks h tgt lo st) : zV X kc ks h pc lo (.int x :: st) := by
  obtain ⟨p, l, e, R, s, m, args, below, meth, c, E, ad0, n0, Z⟩ := X
  obtain ⟨hx, hb, hml, hown, hlk, hst, hzs, hwm, hsz, hzh⟩ := id C
  intro ad H rl ls e1 e2 w S ol os hl
  exact lv_tableIn hx hb d h1 h2 ho ht (kk ad H rl ls e1 e2 w S ol os.2 hl)
theorem zV.tOut {dflt lo9 hi9 : Int} {offs : Array Int} {len : Nat} {x : Int32} (tgt : Nat) (C : zC X cc own nL) (d : decode cc pc = .ok (.tableswitch dflt lo9 hi9 offs, len)) (h1 : x.toInt < lo9 ∨ hi9 < x.toInt) (ht : (pc : Int) + dflt = (tgt : Int)) (kk : zV X kc ks h tgt lo st) : zV X kc ks h pc lo (.int x :: st) := by
  obtain ⟨p, l, e, R, s, m, args, below, meth, c, E, ad0, n0, Z⟩ := X
  obtain ⟨hx, hb, hml, hown, hlk, hst, hzs, hwm, hsz, hzh⟩ := id C
  intro ad H rl ls e1 e2 w S ol os hl
  exact lv_tableOut hx hb d h1 ht (kk ad H rl ls e1 e2 w S ol os.2 hl)
end ZK
def bcA (x : Int32) : Int32 := x - ((x.toUInt32 >>> ((nI 1).toUInt32 &&& Int32.toUInt32 31)).toInt32 &&& 1431655765)
def bcB (x : Int32) : Int32 := (x &&& 858993459) + ((x.toUInt32 >>> ((nI 2).toUInt32 &&& Int32.toUInt32 31)).toInt32 &&& 858993459)
def bcC (x : Int32) : Int32 := (x + (x.toUInt32 >>> ((nI 4).toUInt32 &&& Int32.toUInt32 31)).toInt32) &&& 252645135
def bcD (x : Int32) : Int32 := x + (x.toUInt32 >>> ((nI 8).toUInt32 &&& Int32.toUInt32 31)).toInt32
def bcE (x : Int32) : Int32 := x + (x.toUInt32 >>> ((nI 16).toUInt32 &&& Int32.toUInt32 31)).toInt32
theorem bc_all : ∀ s, s < 64 → bcE (bcD (bcC (bcB (bcA (nI s))))) &&& nI 63 = nI (popc s) := by decide +kernel
theorem popc_le (s : Nat) : popc s ≤ 6 := fb_ct_le _ 6
/-- k times the neighbours -/
def wnI (nb : Nat → Nat) (s : Nat) : Nat → Nat
  | 0 => s
  | k + 1 => wn nb (wnI nb s k)
theorem wnI_lt {nb : Nat → Nat} (hb : ∀ j, j < 6 → nb j < 64) {s : Nat} (hs : s < 64) : ∀ k, wnI nb s k < 64
  | 0 => hs
  | k + 1 => wn_lt hb (wnI_lt hb hs k)
theorem pow_lt6 : ∀ i, i < 6 → 2 ^ i < 64 := by decide
set_option maxHeartbeats 4000000 in
set_option maxRecDepth 100000 in
theorem s_bitCount {l : Launch} {E : zG} (hzs : zS E) (hst : l.stackTraces = false) (h : zH) (s : Nat) (hs : s < 64) : zMet l E yJ6_bitCount_0f7a4 cJ6_bitCount_0f7a4 1 (some .int) ({ frames := 0, cells := 0, slots := 0, locals := 0 } : Room) 0 0 [.int (nI s)] h (fun r h' => r = some (.int (nI (popc s))) ∧ h' = h) (fun _ _ => False) := by
  refine zM_start hzs hst (by decide) (Nat.le_of_ble_eq_true rfl) (fun X C G F I => ?_)
  show zV X 0 0 _ 0 [(0, _)] []
  refine zV.iload_n C dJ6_bitCount_0f7a4_0 rfl ?_
  refine zV.iload_n C dJ6_bitCount_0f7a4_1 rfl ?_
  refine zV.ic (v := nI 1) C dJ6_bitCount_0f7a4_2 (by decide) ?_
  refine zV.iushr C dJ6_bitCount_0f7a4_3 ?_
  refine zV.ldcW C dJ6_bitCount_0f7a4_4 co_J6_265 rfl ?_
  refine zV.iand C dJ6_bitCount_0f7a4_7 ?_
  refine zV.isub C dJ6_bitCount_0f7a4_8 ?_
  refine zV.istore_n (lo' := [(0, _)]) C dJ6_bitCount_0f7a4_9 (by decide) rfl rfl rfl ?_
  show zV X 0 0 h 10 [(0, .int (bcA (nI s)))] []
  refine zV.iload_n C dJ6_bitCount_0f7a4_10 rfl ?_
  refine zV.ldcW C dJ6_bitCount_0f7a4_11 co_J6_266 rfl ?_
  refine zV.iand C dJ6_bitCount_0f7a4_14 ?_
  refine zV.iload_n C dJ6_bitCount_0f7a4_15 rfl ?_
  refine zV.ic (v := nI 2) C dJ6_bitCount_0f7a4_16 (by decide) ?_
  refine zV.iushr C dJ6_bitCount_0f7a4_17 ?_
  refine zV.ldcW C dJ6_bitCount_0f7a4_18 co_J6_266 rfl ?_
  refine zV.iand C dJ6_bitCount_0f7a4_21 ?_
  refine zV.iadd C dJ6_bitCount_0f7a4_22 ?_
  refine zV.istore_n (lo' := [(0, _)]) C dJ6_bitCount_0f7a4_23 (by decide) rfl rfl rfl ?_
  show zV X 0 0 h 24 [(0, .int (bcB (bcA (nI s))))] []
  refine zV.iload_n C dJ6_bitCount_0f7a4_24 rfl ?_
  refine zV.iload_n C dJ6_bitCount_0f7a4_25 rfl ?_
  refine zV.ic (v := nI 4) C dJ6_bitCount_0f7a4_26 (by decide) ?_
  refine zV.iushr C dJ6_bitCount_0f7a4_27 ?_
  refine zV.iadd C dJ6_bitCount_0f7a4_28 ?_
  refine zV.ldcW C dJ6_bitCount_0f7a4_29 co_J6_267 rfl ?_
  refine zV.iand C dJ6_bitCount_0f7a4_32 ?_
  refine zV.istore_n (lo' := [(0, _)]) C dJ6_bitCount_0f7a4_33 (by decide) rfl rfl rfl ?_
  show zV X 0 0 h 34 [(0, .int (bcC (bcB (bcA (nI s)))))] []
  refine zV.iload_n C dJ6_bitCount_0f7a4_34 rfl ?_
  refine zV.iload_n C dJ6_bitCount_0f7a4_35 rfl ?_
  refine zV.bi (v := nI 8) C dJ6_bitCount_0f7a4_36 (by decide) ?_
  refine zV.iushr C dJ6_bitCount_0f7a4_38 ?_
  refine zV.iadd C dJ6_bitCount_0f7a4_39 ?_
  refine zV.istore_n (lo' := [(0, _)]) C dJ6_bitCount_0f7a4_40 (by decide) rfl rfl rfl ?_
  show zV X 0 0 h 41 [(0, .int (bcD (bcC (bcB (bcA (nI s))))))] []
  refine zV.iload_n C dJ6_bitCount_0f7a4_41 rfl ?_
  refine zV.iload_n C dJ6_bitCount_0f7a4_42 rfl ?_
  refine zV.bi (v := nI 16) C dJ6_bitCount_0f7a4_43 (by decide) ?_
  refine zV.iushr C dJ6_bitCount_0f7a4_45 ?_
  refine zV.iadd C dJ6_bitCount_0f7a4_46 ?_
  refine zV.istore_n (lo' := [(0, _)]) C dJ6_bitCount_0f7a4_47 (by decide) rfl rfl rfl ?_
  show zV X 0 0 h 48 [(0, .int (bcE (bcD (bcC (bcB (bcA (nI s)))))))] []
  refine zV.iload_n C dJ6_bitCount_0f7a4_48 rfl ?_
  refine zV.bi (v := nI 63) C dJ6_bitCount_0f7a4_49 (by decide) ?_
  refine zV.iand C dJ6_bitCount_0f7a4_51 ?_
  refine zV.iret C F dJ6_bitCount_0f7a4_52 rfl ?_
  exact ⟨congrArg (fun z => some (Value.int z)) (bc_all s hs), rfl⟩
set_option maxHeartbeats 4000000 in
set_option maxRecDepth 100000 in
theorem L_Paths_cr {X : zX} {l : Launch} {E : zG} {rm : Room} (hzs : zS E) (hst : l.stackTraces = false) (C : zC X cX8_countReached RX8 4) (G : zGX X l E rm) {h : zH} {a : Nat} {s : Nat} {x : Int32} {nb : Nat → Nat} {Qr : Option Value → zH → Prop} {Qx : String → zH → Prop} (hr : rm = ({ frames := 2, cells := 0, slots := 0, locals := 44 } : Room)) (F : zF X (some .int) 0 0 Qr Qx) (hs : s < 64) (g : zPa h a nb) (hq : Qr (some (.int (nI (popc (wnI nb s 5))))) h) : ∀ n k, k ≤ 5 → 6 ≤ k + n → zV X 0 0 h 6 [(0, .ref a), (1, .int x), (2, .int (nI (wnI nb s k))), (3, .int (nI (k + 1)))] [] := by
  subst hr
  have hb : ∀ j, j < 6 → nb j < 64 := fun j hj => (g.2 j hj).2
  intro n
  induction n with
  | zero => intro k h1 h2; exact absurd h2 (by omega)
  | succ n ih =>
    intro k hk hn
    refine zV.iload_n C dX8_countReached_6 rfl ?_
    refine zV.bi (v := nI 6) C dX8_countReached_7 (by decide) ?_
    refine zV.icmp_ge (tgt := 24) C dX8_countReached_9 (by decide) (fun q9 => ?_) (fun q9 => ?_)
    · have e : k = 5 := by have := nle (by omega) (by decide) q9; omega
      subst e
      refine zV.iload_n C dX8_countReached_24 rfl ?_
      refine zV.callS (n := 1) C G dX8_countReached_25 (s_bitCount hzs hst h (wnI nb s 5) (wnI_lt hb hs 5)) rfl ⟨cd_J6_bitCount_0f7a4, lk_X8_41, st_J6_bitCount_0f7a4, in_J6⟩ ⟨⟨by decide, by decide⟩, by decide⟩ rfl rfl rfl (zaf ?_) (zno)
      refine zV.iret C F dX8_countReached_28 rfl ?_
      exact hq
    · have hk6 : k + 1 < 6 := nlt (by omega) (by decide) q9
      refine zV.aload_n C dX8_countReached_12 rfl rfl ?_
      refine zV.iload_n C dX8_countReached_13 rfl ?_
      refine zV.callV (n := 1) C G dX8_countReached_14 (s_Paths_withNeighbours hzs hst h a (wnI nb s k) nb (wnI_lt hb hs k) g) rfl ⟨cd_X8_withNeighbours, lk_X8_38, im_X8_withNeighbours, se_X8_X8_withNeighbours, in_X8⟩ ⟨⟨by decide, by decide⟩, by decide⟩ rfl rfl rfl (g.1.1) ⟨rfl, by decide⟩ (zaf ?_) (zno)
      refine zV.istore_n (lo' := [(0, _), (1, _), (2, _), (3, _)]) C dX8_countReached_17 (by decide) rfl rfl rfl ?_
      refine zV.iinc (lo' := [(0, _), (1, _), (2, _), (3, _)]) C dX8_countReached_18 rfl (by decide) rfl rfl rfl ?_
      refine zV.goto (tgt := 6) C dX8_countReached_21 (by decide) ?_
      rw [inc1]
      exact ih (k + 1) (by omega) (by omega)
set_option maxHeartbeats 4000000 in
set_option maxRecDepth 100000 in
theorem s_Paths_countReached {l : Launch} {E : zG} (hzs : zS E) (hst : l.stackTraces = false) (h : zH) (a i : Nat) (nb : Nat → Nat) (hi : i < 6) (g : zPa h a nb) : zMet l E yX8_countReached cX8_countReached 4 (some .int) ({ frames := 2, cells := 0, slots := 0, locals := 44 } : Room) 0 0 [.ref a, .int (nI i)] h (fun r h' => r = some (.int (nI (popc (wnI nb (2 ^ i) 5)))) ∧ h' = h) (fun _ _ => False) := by
  refine zM_start hzs hst (by decide) (Nat.le_of_ble_eq_true rfl) (fun X C G F I => ?_)
  show zV X 0 0 _ 0 [(0, _), (1, _)] []
  refine zV.ic (v := nI 1) C dX8_countReached_0 (by decide) ?_
  refine zV.iload_n C dX8_countReached_1 rfl ?_
  refine zV.ishl C dX8_countReached_2 ?_
  rw [sh1 i hi]
  refine zV.istore_n (lo' := [(0, _), (1, _), (2, _)]) C dX8_countReached_3 (by decide) rfl rfl rfl ?_
  refine zV.ic (v := nI 1) C dX8_countReached_4 (by decide) ?_
  refine zV.istore_n (lo' := [(0, _), (1, _), (2, _), (3, _)]) C dX8_countReached_5 (by decide) rfl rfl rfl ?_
  exact L_Paths_cr (s := 2 ^ i) hzs hst C G rfl F (pow_lt6 i hi) g ⟨rfl, rfl⟩ 6 0 (by omega) (by omega)
