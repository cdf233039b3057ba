/-! rows: longs among the locals, raw bits, ends -/
theorem co_L_225 : zWd (.constantLong RL 225 31) := ⟨pm_5 _ (List.mem_of_getElem? (i := 52) (by decide +kernel)), rfl⟩
theorem co_L_130 : zWd (.constantDouble RL 130 13875388141788987392) := ⟨pm_5 _ (List.mem_of_getElem? (i := 85) (by decide +kernel)), rfl⟩
theorem co_Jxe99ae_137 : zWd (.constantLong RJxe99ae 137 9221120237041090560) := ⟨pm_5 _ (List.mem_of_getElem? (i := 95) (by decide +kernel)), rfl⟩
theorem co_L_136 : zWd (.constantFloat RL 136 3296346112) := ⟨pm_5 _ (List.mem_of_getElem? (i := 104) (by decide +kernel)), rfl⟩
theorem wn_d2l : zWd (.methodLink "java/lang/Double" 134 ⟨"java/lang/Double", "doubleToRawLongBits", "(D)J"⟩) ∧ zWd (.native ⟨"java/lang/Double", "doubleToRawLongBits", "(D)J"⟩) ∧ zWd (.static ⟨"java/lang/Double", "doubleToRawLongBits", "(D)J"⟩) ∧ zWd (.initialized "java/lang/Double") := ⟨⟨pm_5 _ (List.mem_of_getElem? (i := 92) (by decide +kernel)), rfl⟩, ⟨pm_5 _ (List.mem_of_getElem? (i := 94) (by decide +kernel)), rfl⟩, ⟨pm_5 _ (List.mem_of_getElem? (i := 93) (by decide +kernel)), rfl⟩, ⟨pm_1 _ (List.mem_of_getElem? (i := 29) (by decide +kernel)), rfl⟩⟩
theorem wn_f2i : zWd (.methodLink "java/lang/Float" 74 ⟨"java/lang/Float", "floatToRawIntBits", "(F)I"⟩) ∧ zWd (.native ⟨"java/lang/Float", "floatToRawIntBits", "(F)I"⟩) ∧ zWd (.static ⟨"java/lang/Float", "floatToRawIntBits", "(F)I"⟩) ∧ zWd (.initialized "java/lang/Float") := ⟨⟨pm_5 _ (List.mem_of_getElem? (i := 111) (by decide +kernel)), rfl⟩, ⟨pm_5 _ (List.mem_of_getElem? (i := 113) (by decide +kernel)), rfl⟩, ⟨pm_5 _ (List.mem_of_getElem? (i := 112) (by decide +kernel)), rfl⟩, ⟨pm_1 _ (List.mem_of_getElem? (i := 30) (by decide +kernel)), rfl⟩⟩
/-- no value of two words just ahead of i -/
def zcb (lo : List (Nat × Value)) (i : Nat) : Bool := lo.all (fun q => !(q.1 + 1 == i && q.2.category == 2))
def zcd (lo : List (Nat × Value)) (i : Nat) : Bool := lo.all (fun q => !(q.1 == i + 1) && !(q.1 + 1 == i && q.2.category == 2))
theorem zs_has2 {ad : Nat → Nat} {ls : Array Slot} {nL : Nat} {lo : List (Nat × Value)} {i : Nat} {v : Value} (hn : znd lo = true) (h1 : zcb lo i = true)
    (h : lv_has ls nL ((i, tr ad v) :: (trl ad lo).filter (fun q => !(q.1 == i) && !(q.1 + 1 == i && q.2.category == 2)))) : lv_has ls nL (trl ad (zs lo i v)) := by
  refine ⟨h.1, h.2.1, fun q hq => ?_⟩
  obtain ⟨q0, hq0, rfl⟩ := List.mem_map.mp hq
  rcases zs_old hn q0 hq0 with rfl | ⟨h2, h3⟩
  · exact h.2.2 (i, tr ad v) List.mem_cons_self
  · refine h.2.2 (q0.1, tr ad q0.2) (List.mem_cons_of_mem _ (List.mem_filter.mpr ⟨List.mem_map.mpr ⟨q0, h2, rfl⟩, ?_⟩))
    have hc := List.all_eq_true.mp h1 q0 h2
    rw [tr_catE]
    rw [Bool.and_eq_true]
    exact ⟨by simp [h3], hc⟩
theorem zs_has3 {ad : Nat → Nat} {ls : Array Slot} {nL : Nat} {lo : List (Nat × Value)} {i : Nat} {v : Value} (hn : znd lo = true) (h1 : zcd lo i = true)
    (h : lv_has ls nL ((i, tr ad v) :: (trl ad lo).filter (fun q => !(q.1 == i) && (!(q.1 == i + 1) && !(q.1 + 1 == i && q.2.category == 2))))) : lv_has ls nL (trl ad (zs lo i v)) := by
  refine ⟨h.1, h.2.1, fun q hq => ?_⟩
  obtain ⟨q0, hq0, rfl⟩ := List.mem_map.mp hq
  rcases zs_old hn q0 hq0 with rfl | ⟨h2, h3⟩
  · exact h.2.2 (i, tr ad v) List.mem_cons_self
  · refine h.2.2 (q0.1, tr ad q0.2) (List.mem_cons_of_mem _ (List.mem_filter.mpr ⟨List.mem_map.mpr ⟨q0, h2, rfl⟩, ?_⟩))
    have hc := List.all_eq_true.mp h1 q0 h2
    rw [tr_catE]
    rw [Bool.and_eq_true]
    exact ⟨by simp [h3], hc⟩
section ZR7
variable {X : zX} {kc ks : Nat} {h : zH} {pc : Nat} {lo : List (Nat × Value)} {st : List Value} {cc : ByteArray} {own : String} {nL : Nat} {l : Launch} {E : zG} {rm : Room} {mc ms : Nat} {Qr : Option Value → zH → Prop} {Qx : String → zH → Prop}
theorem zV.lload {x : Int64} {i : Nat} (C : zC X cc own nL) (d : decode cc pc = .ok (.lload i, 2)) (hg : zg lo i = some (.long x)) (k : zV X kc ks h (pc + 2) lo (.long x :: st)) : zV X kc ks h pc lo st := by
  obtain ⟨p, l, e, R, s, m, args, below, meth, c, E, ad0, n0, Z⟩ := X
  obtain ⟨hx, hb, hml, hown, hlk, hst, hzs, hwm, hsz, hzh⟩ := id C
  intro ad H rl ls e1 e2 w S ol os hl
  exact lv_lload hx hb d (zg_at hl hg) (k ad H rl ls e1 e2 w S ol ⟨trivial, os⟩ hl)
theorem zV.lload_n {x : Int64} {i : Fin 4} (C : zC X cc own nL) (d : decode cc pc = .ok (.lload_n i, 1)) (hg : zg lo (i : Nat) = some (.long x)) (k : zV X kc ks h (pc + 1) lo (.long x :: st)) : zV X kc ks h pc lo st := by
  obtain ⟨p, l, e, R, s, m, args, below, meth, c, E, ad0, n0, Z⟩ := X
  obtain ⟨hx, hb, hml, hown, hlk, hst, hzs, hwm, hsz, hzh⟩ := id C
  intro ad H rl ls e1 e2 w S ol os hl
  exact lv_lload_n hx hb d rfl (zg_at hl hg) (k ad H rl ls e1 e2 w S ol ⟨trivial, os⟩ hl)
theorem zV.dload_n {x : UInt64} {i : Fin 4} (C : zC X cc own nL) (d : decode cc pc = .ok (.dload_n i, 1)) (hg : zg lo (i : Nat) = some (.double x)) (k : zV X kc ks h (pc + 1) lo (.double x :: st)) : zV X kc ks h pc lo st := by
  obtain ⟨p, l, e, R, s, m, args, below, meth, c, E, ad0, n0, Z⟩ := X
  obtain ⟨hx, hb, hml, hown, hlk, hst, hzs, hwm, hsz, hzh⟩ := id C
  intro ad H rl ls e1 e2 w S ol os hl
  exact lv_dload_n hx hb d rfl (zg_at hl hg) (k ad H rl ls e1 e2 w S ol ⟨trivial, os⟩ hl)
theorem zV.fload_n {x : UInt32} {i : Fin 4} (C : zC X cc own nL) (d : decode cc pc = .ok (.fload_n i, 1)) (hg : zg lo (i : Nat) = some (.float x)) (k : zV X kc ks h (pc + 1) lo (.float x :: st)) : zV X kc ks h pc lo st := by
  obtain ⟨p, l, e, R, s, m, args, below, meth, c, E, ad0, n0, Z⟩ := X
  obtain ⟨hx, hb, hml, hown, hlk, hst, hzs, hwm, hsz, hzh⟩ := id C
  intro ad H rl ls e1 e2 w S ol os hl
  exact lv_fload_n hx hb d rfl (zg_at hl hg) (k ad H rl ls e1 e2 w S ol ⟨trivial, os⟩ hl)
theorem zV.ladd {x y : Int64} (C : zC X cc own nL) (d : decode cc pc = .ok (.ladd, 1)) (k : zV X kc ks h (pc + 1) lo (.long (x + y) :: st)) : zV X kc ks h pc lo (.long y :: .long x :: st) := by
  obtain ⟨p, l, e, R, s, m, args, below, meth, c, E, ad0, n0, Z⟩ := X
  obtain ⟨hx, hb, hml, hown, hlk, hst, hzs, hwm, hsz, hzh⟩ := id C
  intro ad H rl ls e1 e2 w S ol os hl
  exact lv_ladd hx hb d (k ad H rl ls e1 e2 w S ol ⟨trivial, os.2.2⟩ hl)
theorem zV.lmul {x y : Int64} (C : zC X cc own nL) (d : decode cc pc = .ok (.lmul, 1)) (k : zV X kc ks h (pc + 1) lo (.long (x * y) :: st)) : zV X kc ks h pc lo (.long y :: .long x :: st) := by
  obtain ⟨p, l, e, R, s, m, args, below, meth, c, E, ad0, n0, Z⟩ := X
  obtain ⟨hx, hb, hml, hown, hlk, hst, hzs, hwm, hsz, hzh⟩ := id C
  intro ad H rl ls e1 e2 w S ol os hl
  exact lv_lmul hx hb d (k ad H rl ls e1 e2 w S ol ⟨trivial, os.2.2⟩ hl)
theorem zV.fcmp {x y : UInt32} {op : CmpOp} (C : zC X cc own nL) (d : decode cc pc = .ok (.fcmp op, 1)) (k : zV X kc ks h (pc + 1) lo (.int (Op.cmpValue (FP.fcmp x y) op) :: st)) : zV X kc ks h pc lo (.float y :: .float x :: st) := by
  obtain ⟨p, l, e, R, s, m, args, below, meth, c, E, ad0, n0, Z⟩ := X
  obtain ⟨hx, hb, hml, hown, hlk, hst, hzs, hwm, hsz, hzh⟩ := id C
  intro ad H rl ls e1 e2 w S ol os hl
  exact lv_fcmp hx hb d (k ad H rl ls e1 e2 w S ol ⟨trivial, os.2.2⟩ hl)
theorem zV.ldcL {index : Nat} {v : Int64} (C : zC X cc own nL) (d : decode cc pc = .ok (.ldc2_w index, 3)) (hw : zWd (.constantLong own index v)) (k : zV X kc ks h (pc + 3) lo (.long v :: st)) : zV X kc ks h pc lo st := by
  obtain ⟨p, l, e, R, s, m, args, below, meth, c, E, ad0, n0, Z⟩ := X
  obtain ⟨hx, hb, hml, hown, hlk, hst, hzs, hwm, hsz, hzh⟩ := id C
  intro ad H rl ls e1 e2 w S ol os hl
  exact lv_ldc2 hx hb hown (zwd hzs hwm hw) d (k ad H rl ls e1 e2 w S ol ⟨trivial, os⟩ hl)
theorem zV.ldcD {index : Nat} {v : UInt64} (C : zC X cc own nL) (d : decode cc pc = .ok (.ldc2_w index, 3)) (hw : zWd (.constantDouble own index v)) (k : zV X kc ks h (pc + 3) lo (.double v :: st)) : zV X kc ks h pc lo st := by
  obtain ⟨p, l, e, R, s, m, args, below, meth, c, E, ad0, n0, Z⟩ := X
  obtain ⟨hx, hb, hml, hown, hlk, hst, hzs, hwm, hsz, hzh⟩ := id C
  intro ad H rl ls e1 e2 w S ol os hl
  exact lv_ldc2d hx hb hown (zwd hzs hwm hw) d (k ad H rl ls e1 e2 w S ol ⟨trivial, os⟩ hl)
theorem zV.ldcF {index : Nat} {v : UInt32} (C : zC X cc own nL) (d : decode cc pc = .ok (.ldc index, 2)) (hw : zWd (.constantFloat own index v)) (k : zV X kc ks h (pc + 2) lo (.float v :: st)) : zV X kc ks h pc lo st := by
  obtain ⟨p, l, e, R, s, m, args, below, meth, c, E, ad0, n0, Z⟩ := X
  obtain ⟨hx, hb, hml, hown, hlk, hst, hzs, hwm, hsz, hzh⟩ := id C
  intro ad H rl ls e1 e2 w S ol os hl
  exact lv_ldcf hx hb hown (zwd hzs hwm hw) d (k ad H rl ls e1 e2 w S ol ⟨trivial, os⟩ hl)
theorem zV.jstore {x : Int32} {i : Nat} {lo' : List (Nat × Value)} (C : zC X cc own nL) (d : decode cc pc = .ok (.istore i, 2)) (hi : i < nL) (hn : znd lo = true) (h1 : zcb lo i = true) (hs : zs lo i (.int x) = lo') (k : zV X kc ks h (pc + 2) lo' (st)) : zV X kc ks h pc lo (.int x :: st) := by
  obtain ⟨p, l, e, R, s, m, args, below, meth, c, E, ad0, n0, Z⟩ := X
  obtain ⟨hx, hb, hml, hown, hlk, hst, hzs, hwm, hsz, hzh⟩ := id C
  intro ad H rl ls e1 e2 w S ol os hl
  subst hs
  exact lv_istore hx hb d hl (by rw [hml]; exact hi) rfl (fun ls' hl' => k ad H rl ls' e1 e2 w S (zs_okl ol trivial) os.2 (zs_has2 hn h1 hl'))
theorem zV.jstore_n {x : Int32} {i : Fin 4} {lo' : List (Nat × Value)} (C : zC X cc own nL) (d : decode cc pc = .ok (.istore_n i, 1)) (hi : (i : Nat) < nL) (hn : znd lo = true) (h1 : zcb lo (i : Nat) = true) (hs : zs lo (i : Nat) (.int x) = lo') (k : zV X kc ks h (pc + 1) lo' (st)) : zV X kc ks h pc lo (.int x :: st) := by
  obtain ⟨p, l, e, R, s, m, args, below, meth, c, E, ad0, n0, Z⟩ := X
  obtain ⟨hx, hb, hml, hown, hlk, hst, hzs, hwm, hsz, hzh⟩ := id C
  intro ad H rl ls e1 e2 w S ol os hl
  subst hs
  exact lv_istore_n hx hb d rfl hl (by rw [hml]; exact hi) rfl (fun ls' hl' => k ad H rl ls' e1 e2 w S (zs_okl ol trivial) os.2 (zs_has2 hn h1 hl'))
theorem zV.lstore {x : Int64} {i : Nat} {lo' : List (Nat × Value)} (C : zC X cc own nL) (d : decode cc pc = .ok (.lstore i, 2)) (hi : i + 1 < nL) (hn : znd lo = true) (h1 : zcd lo i = true) (hs : zs lo i (.long x) = lo') (k : zV X kc ks h (pc + 2) lo' (st)) : zV X kc ks h pc lo (.long x :: st) := by
  obtain ⟨p, l, e, R, s, m, args, below, meth, c, E, ad0, n0, Z⟩ := X
  obtain ⟨hx, hb, hml, hown, hlk, hst, hzs, hwm, hsz, hzh⟩ := id C
  intro ad H rl ls e1 e2 w S ol os hl
  subst hs
  exact lv_lstore hx hb d hl (by rw [hml]; exact hi) rfl (fun ls' hl' => k ad H rl ls' e1 e2 w S (zs_okl ol trivial) os.2 (zs_has3 hn h1 hl'))
theorem zV.lstore_n {x : Int64} {i : Fin 4} {lo' : List (Nat × Value)} (C : zC X cc own nL) (d : decode cc pc = .ok (.lstore_n i, 1)) (hi : (i : Nat) + 1 < nL) (hn : znd lo = true) (h1 : zcd lo (i : Nat) = true) (hs : zs lo (i : Nat) (.long x) = lo') (k : zV X kc ks h (pc + 1) lo' (st)) : zV X kc ks h pc lo (.long x :: st) := by
  obtain ⟨p, l, e, R, s, m, args, below, meth, c, E, ad0, n0, Z⟩ := X
  obtain ⟨hx, hb, hml, hown, hlk, hst, hzs, hwm, hsz, hzh⟩ := id C
  intro ad H rl ls e1 e2 w S ol os hl
  subst hs
  exact lv_lstore_n hx hb d rfl hl (by rw [hml]; exact hi) rfl (fun ls' hl' => k ad H rl ls' e1 e2 w S (zs_okl ol trivial) os.2 (zs_has3 hn h1 hl'))
theorem zV.jstoreA {v : Value} {i : Nat} {lo' : List (Nat × Value)} (C : zC X cc own nL) (d : decode cc pc = .ok (.astore i, 2)) (hv : zref v = true) (hi : i < nL) (hn : znd lo = true) (h1 : zcb lo i = true) (hs : zs lo i v = lo') (k : zV X kc ks h (pc + 2) lo' (st)) : zV X kc ks h pc lo (v :: st) := by
  obtain ⟨p, l, e, R, s, m, args, below, meth, c, E, ad0, n0, Z⟩ := X
  obtain ⟨hx, hb, hml, hown, hlk, hst, hzs, hwm, hsz, hzh⟩ := id C
  intro ad H rl ls e1 e2 w S ol os hl
  subst hs
  have kk := fun ls' hl' => k ad H rl ls' e1 e2 w S (zs_okl ol os.1) os.2 (zs_has2 hn h1 hl')
  cases v with
  | ref a => exact lv_astore hx hb d hl (by rw [hml]; exact hi) rfl kk
  | null => exact lv_astoreN hx hb d hl (by rw [hml]; exact hi) rfl kk
  | retAddr a => exact lv_astore hx hb d hl (by rw [hml]; exact hi) rfl kk
  | _ => cases hv
theorem zV.kinc {x : Int32} {i : Nat} {n : Int} {lo' : List (Nat × Value)} (C : zC X cc own nL) (d : decode cc pc = .ok (.iinc i n, 3)) (hg : zg lo i = some (.int x)) (hi : i < nL) (hn : znd lo = true) (h1 : zcb lo i = true) (hs : zs lo i (.int (x + Int32.ofInt n)) = lo') (k : zV X kc ks h (pc + 3) lo' (st)) : zV X kc ks h pc lo st := by
  obtain ⟨p, l, e, R, s, m, args, below, meth, c, E, ad0, n0, Z⟩ := X
  obtain ⟨hx, hb, hml, hown, hlk, hst, hzs, hwm, hsz, hzh⟩ := id C
  intro ad H rl ls e1 e2 w S ol os hl
  subst hs
  obtain ⟨k0, hk0⟩ := List.getElem?_of_mem (List.mem_map.mpr ⟨(i, Value.int x), zg_mem hg, rfl⟩ : (i, Value.int x) ∈ trl ad lo)
  exact lv_iinc hx hb d hl hk0 rfl (by rw [hml]; exact hi) rfl (fun ls' hl' => k ad H rl ls' e1 e2 w S (zs_okl ol trivial) os (zs_has2 hn h1 hl'))
theorem zV.d2l {v : UInt64} {index : Nat} (C : zC X cc own nL) (G : zGX X l E rm) (d : decode cc pc = .ok (.invokestatic index, 3)) (hw : zWd (.methodLink own index ⟨"java/lang/Double", "doubleToRawLongBits", "(D)J"⟩) ∧ zWd (.native ⟨"java/lang/Double", "doubleToRawLongBits", "(D)J"⟩) ∧ zWd (.static ⟨"java/lang/Double", "doubleToRawLongBits", "(D)J"⟩) ∧ zWd (.initialized "java/lang/Double")) (hR : Nat.ble 1 rm.frames && Nat.ble ((st.map fun v => v.category).sum + 15) rm.locals) (k : zV X kc ks h (pc + 3) lo (.long v.toInt64 :: st)) : zV X kc ks h pc lo (.double v :: st) := by
  obtain ⟨p, l', e, R, s, m, args, below, meth, c, E', ad0, n0, Z⟩ := X
  obtain ⟨hx, hb, hml, hown, hlk, hst, hzs, hwm, hsz, hzh⟩ := id C
  obtain ⟨rfl, rfl, rfl⟩ := id G
  intro ad H rl ls e1 e2 w S ol os hl
  rw [Bool.and_eq_true] at hR
  exact vn_d2l hx hb (hml.trans (hl.1.trans hml).symm) hown (zwd hzs hwm hw.1) (zwd hzs hwm hw.2.1) (zwd hzs hwm hw.2.2.1) (zwd hzs hwm hw.2.2.2) (Nat.le_of_ble_eq_true hR.1) (by rw [cats_tr]; exact Nat.le_of_ble_eq_true hR.2) d (k ad H rl ls e1 e2 w S ol ⟨trivial, os.2⟩ hl)
theorem zV.f2i {v : UInt32} {index : Nat} (C : zC X cc own nL) (G : zGX X l E rm) (d : decode cc pc = .ok (.invokestatic index, 3)) (hw : zWd (.methodLink own index ⟨"java/lang/Float", "floatToRawIntBits", "(F)I"⟩) ∧ zWd (.native ⟨"java/lang/Float", "floatToRawIntBits", "(F)I"⟩) ∧ zWd (.static ⟨"java/lang/Float", "floatToRawIntBits", "(F)I"⟩) ∧ zWd (.initialized "java/lang/Float")) (hR : Nat.ble 1 rm.frames && Nat.ble ((st.map fun v => v.category).sum + 15) rm.locals) (k : zV X kc ks h (pc + 3) lo (.int v.toInt32 :: st)) : zV X kc ks h pc lo (.float v :: st) := by
  obtain ⟨p, l', e, R, s, m, args, below, meth, c, E', ad0, n0, Z⟩ := X
  obtain ⟨hx, hb, hml, hown, hlk, hst, hzs, hwm, hsz, hzh⟩ := id C
  obtain ⟨rfl, rfl, rfl⟩ := id G
  intro ad H rl ls e1 e2 w S ol os hl
  rw [Bool.and_eq_true] at hR
  exact vn_f2i hx hb (hml.trans (hl.1.trans hml).symm) hown (zwd hzs hwm hw.1) (zwd hzs hwm hw.2.1) (zwd hzs hwm hw.2.2.1) (zwd hzs hwm hw.2.2.2) (Nat.le_of_ble_eq_true hR.1) (by rw [cats_tr]; exact Nat.le_of_ble_eq_true hR.2) d (k ad H rl ls e1 e2 w S ol ⟨trivial, os.2⟩ hl)
theorem zV.lret {v : Int64} (C : zC X cc own nL) (F : zF X (some .long) mc ms Qr Qx) (d : decode cc pc = .ok (.lreturn, 1)) (hc : Nat.ble kc mc && Nat.ble ks ms) (q : Qr (some (.long v)) h) : zV X kc ks h pc lo [.long v] := by
  obtain ⟨p, l, e, R, s, m, args, below, meth, c, E, ad0, n0, Z⟩ := X
  obtain ⟨hx, hb, hml, hown, hlk, hst, hzs, hwm, hsz, hzh⟩ := id C
  obtain ⟨f1, f2, rfl⟩ := id F
  intro ad H rl ls e1 e2 w S ol os hl
  rw [Bool.and_eq_true] at hc
  refine vx_ret (W.widen (Nat.le_of_ble_eq_true hc.1) (Nat.le_of_ble_eq_true hc.2) ?_)
  exact W.lret (v := v) hx hb f1 (fun t ht hW => zq_of (v := some (.long v)) hwm e1 e2 w S ht hW q (fun z hz => by cases hz; trivial)) S.2.2 d
theorem zV.dretW {hh : List (Nat × Nat × Nat × Nat)} {v : UInt64} (C : zC X cc own nL) (F : zFw X hh (some .double) mc ms Qr Qx) (d : decode cc pc = .ok (.dreturn, 1)) (hc : Nat.ble kc mc && Nat.ble ks ms) (q : Qr (some (.double v)) h) : zV X kc ks h pc lo [.double v] := by
  obtain ⟨p, l, e, R, s, m, args, below, meth, c, E, ad0, n0, Z⟩ := X
  obtain ⟨hx, hb, hml, hown, hlk, hst, hzs, hwm, hsz, hzh⟩ := id C
  obtain ⟨f1, f2, rfl⟩ := id F
  intro ad H rl ls e1 e2 w S ol os hl
  rw [Bool.and_eq_true] at hc
  refine vx_ret (W.widen (Nat.le_of_ble_eq_true hc.1) (Nat.le_of_ble_eq_true hc.2) ?_)
  exact W.dret (v := v) hx hb f1 (fun t ht hW => zq_of (v := some (.double v)) hwm e1 e2 w S ht hW q (fun z hz => by cases hz; trivial)) S.2.2 d
theorem zV.fretW {hh : List (Nat × Nat × Nat × Nat)} {v : UInt32} (C : zC X cc own nL) (F : zFw X hh (some .float) mc ms Qr Qx) (d : decode cc pc = .ok (.freturn, 1)) (hc : Nat.ble kc mc && Nat.ble ks ms) (q : Qr (some (.float v)) h) : zV X kc ks h pc lo [.float v] := by
  obtain ⟨p, l, e, R, s, m, args, below, meth, c, E, ad0, n0, Z⟩ := X
  obtain ⟨hx, hb, hml, hown, hlk, hst, hzs, hwm, hsz, hzh⟩ := id C
  obtain ⟨f1, f2, rfl⟩ := id F
  intro ad H rl ls e1 e2 w S ol os hl
  rw [Bool.and_eq_true] at hc
  refine vx_ret (W.widen (Nat.le_of_ble_eq_true hc.1) (Nat.le_of_ble_eq_true hc.2) ?_)
  exact W.fret (v := v) hx hb f1 (fun t ht hW => zq_of (v := some (.float v)) hwm e1 e2 w S ht hW q (fun z hz => by cases hz; trivial)) S.2.2 d
end ZR7
