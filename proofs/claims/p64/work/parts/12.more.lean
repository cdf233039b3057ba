/-- a whole row of ints is written -/
def sRow (h : zH) (a : Nat) (g : Nat → Int32) : zH := (hN h, hK h, hL h, hI h, hR h, (fun x => if x = a then g else aI h x), aR h, aJ h, aD h)
theorem sRow_cells {E : zG} {ad : Nat → Nat} {h : zH} {a K : Nat} {g : Nat → Int32} (hk : hK h a = K) (h1 : 100 ≤ K) (h2 : K ≤ 103) : (zcells E ad h).set a (ad a, .inl (E.2.1 K, hL h a, .inl g)) = zcells E ad (sRow h a g) := by
  subst hk
  refine zset_eq rfl (fun b hb => ?_) ?_
  · unfold zcell
    have e : aI (sRow h a g) b = aI h b := if_neg hb
    unfold zarr
    rw [e]
    rfl
  · unfold zcell
    rw [show hK (sRow h a g) a = hK h a from rfl, if_neg (by omega)]
    unfold zarr
    rw [show hK (sRow h a g) a = hK h a from rfl, if_pos h2]
    exact congrArg (fun z => Sum.inl (E.2.1 (hK h a), hL h a, Sum.inl z)) (if_pos rfl)
section ZM
variable {X : zX} {l : Launch} {E : zG} {kc ks : Nat} {h : zH} {pc : Nat} {lo : List (Nat × Value)} {st rest : List Value} {cc : ByteArray} {own : String} {nL : Nat} {rm : Room} {mc ms : Nat} {Qr : Option Value → zH → Prop} {Qx : String → zH → Prop}
theorem zV.copy {a b n index : Nat} {x : Int32} (C : zC X cc own nL) (G : zGX X l E rm) (d : decode cc pc = .ok (.invokestatic index, 3)) (hw : zWd (.methodLink own index arraycopyName) ∧ zWd (.native arraycopyName) ∧ zWd (.static arraycopyName) ∧ zWd (.initialized "java/lang/System")) (ha : hK h a = 103) (hb9 : hK h b = 103) (hx9 : x = nI n) (hn : n < 2 ^ 31) (h4 : n ≤ hL h a) (h5 : n ≤ hL h b) (hRo : Nat.ble 1 rm.frames && Nat.ble ((rest.map fun v => v.category).sum + (nativeFrameWords "java/lang/System" "arraycopy" 5 + 11)) rm.locals) (kk : zV X kc ks (sRow h b (va_cpy (aI h a) (aI h b) 0 0 n)) (pc + 3) lo rest) : zV X kc ks h pc lo (.int x :: .int 0 :: .ref b :: .int 0 :: .ref a :: rest) := by
  obtain ⟨p, l', e, R, s, m, args, below, meth, c, E', ad0, n0, Z⟩ := X
  obtain ⟨hx, hb, hml, hown, hlk, hst, hzs, hwm, hsz, hzh⟩ := id C
  obtain ⟨rfl, rfl, rfl⟩ := id G
  intro ad H rl ls e1 e2 w S ol os hl
  rw [Bool.and_eq_true] at hRo
  have ha0 : (zcells E' ad h)[a]? = some (ad a, .inl (E'.2.1 103, (hL h a, .inl (aI h a)))) := by
    rw [zcells_arr w.2.2.2.2.2 ha (by decide)]
    unfold zarr
    rw [ha]
    rfl
  have hb0 : (zcells E' ad h)[b]? = some (ad b, .inl (E'.2.1 103, (hL h b, .inl (aI h b)))) := by
    rw [zcells_arr w.2.2.2.2.2 hb9 (by decide)]
    unfold zarr
    rw [hb9]
    rfl
  have hc : x.toNatClampNeg = n := by rw [hx9, nI_clamp hn]
  refine va_copyi hx hb (hml.trans (hl.1.trans hml).symm) hown (zwd hzs hwm hw.1) (zwd hzs hwm hw.2.1) (zwd hzs hwm hw.2.2.1) (zwd hzs hwm hw.2.2.2) (zKs hzs hwm) w.2.2.2.1 (zDs w.2.2.2.2.1) S a b 2 2 ha0 hb0 (zTys_at E' 2 (by decide)) (zTys_at E' 2 (by decide)) rfl (by decide) (by decide) (by rw [hx9]; exact nI_pos hn) (by rw [hc]; show 0 + n ≤ _; omega) (by rw [hc]; show 0 + n ≤ _; omega) (fun i _ => rfl) (Nat.le_of_ble_eq_true hRo.1) (by rw [cats_tr]; exact Nat.le_of_ble_eq_true hRo.2) d (fun H1 rl1 hP hD hS => ?_)
  rw [hc, show (0 : Int32).toNatClampNeg = 0 by decide, sRow_cells hb9 (by decide) (by decide)] at hP
  exact kk ad H1 rl1 ls e1 e2 (zW_of hsz hzh w hP hS rfl w.2.2.2.2.2) hS ol os.2.2.2.2.2 hl
theorem zV.mmax {index : Nat} {x y : Int32} (C : zC X cc own nL) (G : zGX X l E rm) (d : decode cc pc = .ok (.invokestatic index, 3)) (hw : zWd (.methodLink own index Lib.Math.max.name) ∧ zWd (.static Lib.Math.max.name) ∧ zWd (.initialized "java/lang/Math") ∧ zWd (.code Lib.Math.max.name Lib.Math.max.code 2 (some .int))) (hRo : Nat.ble 1 rm.frames && Nat.ble ((rest.map fun v => v.category).sum + 13) rm.locals && (Nat.ble kc rm.cells && Nat.ble ks rm.slots)) (kk : zV X kc ks h (pc + 3) lo (.int (if x < y then y else x) :: rest)) : zV X kc ks h pc lo (.int y :: .int x :: rest) := by
  obtain ⟨p, l', e, R, s, m, args, below, meth, c, E', ad0, n0, Z⟩ := X
  obtain ⟨hx, hb, hml, hown, hlk, hst, hzs, hwm, hsz, hzh⟩ := id C
  obtain ⟨rfl, rfl, rfl⟩ := id G
  intro ad H rl ls e1 e2 w S ol os hl
  simp only [Bool.and_eq_true] at hRo
  exact va_mmax hx hb (hml.trans (hl.1.trans hml).symm) hown (zwd hzs hwm hw.1) (zwd hzs hwm hw.2.1) (zwd hzs hwm hw.2.2.1) (zwd hzs hwm hw.2.2.2) (Nat.le_of_ble_eq_true hRo.1.1) (by rw [cats_tr]; exact Nat.le_of_ble_eq_true hRo.1.2) (Nat.le_of_ble_eq_true hRo.2.1) (Nat.le_of_ble_eq_true hRo.2.2) d (kk ad H rl ls e1 e2 w S ol ⟨trivial, os.2.2⟩ hl)
theorem zV.mmin {index : Nat} {x y : Int32} (C : zC X cc own nL) (G : zGX X l E rm) (d : decode cc pc = .ok (.invokestatic index, 3)) (hw : zWd (.methodLink own index Lib.Math.min.name) ∧ zWd (.static Lib.Math.min.name) ∧ zWd (.initialized "java/lang/Math") ∧ zWd (.code Lib.Math.min.name Lib.Math.min.code 2 (some .int))) (hRo : Nat.ble 1 rm.frames && Nat.ble ((rest.map fun v => v.category).sum + 13) rm.locals && (Nat.ble kc rm.cells && Nat.ble ks rm.slots)) (kk : zV X kc ks h (pc + 3) lo (.int (if y < x then y else x) :: rest)) : zV X kc ks h pc lo (.int y :: .int x :: rest) := by
  obtain ⟨p, l', e, R, s, m, args, below, meth, c, E', ad0, n0, Z⟩ := X
  obtain ⟨hx, hb, hml, hown, hlk, hst, hzs, hwm, hsz, hzh⟩ := id C
  obtain ⟨rfl, rfl, rfl⟩ := id G
  intro ad H rl ls e1 e2 w S ol os hl
  simp only [Bool.and_eq_true] at hRo
  exact va_mmin hx hb (hml.trans (hl.1.trans hml).symm) hown (zwd hzs hwm hw.1) (zwd hzs hwm hw.2.1) (zwd hzs hwm hw.2.2.1) (zwd hzs hwm hw.2.2.2) (Nat.le_of_ble_eq_true hRo.1.1) (by rw [cats_tr]; exact Nat.le_of_ble_eq_true hRo.1.2) (Nat.le_of_ble_eq_true hRo.2.1) (Nat.le_of_ble_eq_true hRo.2.2) d (kk ad H rl ls e1 e2 w S ol ⟨trivial, os.2.2⟩ hl)
/-- a String constant is there, at the run's start -/
theorem zStr {own9 tx : String} {k : Nat} (hzs : zS E) (hw : Cond.stringRef own9 k tx ∈ lw_tbl) (hg : Cond.exactly (.string own9 k) "java/lang/String" ∈ flatC (Jvm.Cond.and given_1 narrow_1)) : ∃ a, vk_R own9 k tx a E.2.2.1 := by
  have h1 := flat_of_before _ hzs.2.2 _ hg
  obtain ⟨a, c, cA, kA, q1, -⟩ := Cond.exactly_spec h1
  exact ⟨a, hzs.1 _ hw, q1⟩
theorem zUS (hzs : zS E) {s : State} (hwm : E.2.2.1.WarmedH s.vm) (hsz : E.2.2.1.heap.size ≤ s.heap.size) (hzh : ∀ q, q < E.2.2.1.heap.size → s.heap[q]? = E.2.2.1.heap[q]?) {C n d : String} (hl : Cond.laysStatic C n d ∈ lw_tbl) (hi : Cond.initialized C ∈ lw_tbl) (hg : Cond.isRef (.static C n d) ∈ flatC (Jvm.Cond.and given_1 narrow_1)) : vx_Zq C n d (zA E) s s.heap := by
  have h1 := vx_Zqof (A := zA E) (hzs.1 _ hl) (hzs.1 _ hi) (flat_of_before _ hzs.2.2 _ hg) (fun a ha => Nat.not_le.mpr ha)
  exact vx_Zq.moved hwm.alike (h1.kept (fun a ha _ => hzh a ha))
def zCast : Cond → Bool
  | .castable _ _ => true
  | _ => false
/-- the words of a throw, out of the tables -/
theorem zat {E : zG} {s : State} {args : Array Value} {L : List Cond} (hzs : zS E) (hwm : E.2.2.1.WarmedH s.vm) (ps : List Nat) (hp : L = ps.filterMap (fun i => tables_1[i]?)) (hg : L.all (fun w => goodWord w || zCast w) = true) : ∀ w ∈ L, w.before args s = true := by
  intro w hw
  have h1 := List.all_eq_true.mp hg w hw
  rw [hp] at hw
  obtain ⟨i, -, hi⟩ := List.mem_filterMap.mp hw
  have hm : w ∈ lw_tbl := List.mem_append_right _ (List.mem_of_getElem? hi)
  rw [Bool.or_eq_true] at h1
  rcases h1 with h1 | h1
  · exact zwd hzs hwm ⟨hm, h1⟩
  · cases w <;> first | (cases h1; done) | exact va_Nw.use rfl (va_Nw.warmC hwm (va_Nw.of rfl (hzs.1 _ hm)))
theorem zot {L : List Cond} (hg : L.all (fun w => goodWord w || zCast w) = true) : ∀ w ∈ L, vx_ot w = true := by
  intro w hw
  have h1 := List.all_eq_true.mp hg w hw
  rw [Bool.or_eq_true] at h1
  unfold vx_ot
  rw [Bool.or_eq_true]
  rcases h1 with h1 | h1
  · exact Or.inr h1
  · cases w <;> first | (cases h1; done) | exact Or.inl rfl
theorem zV.throwS {cls text : String} {names : List String} {ik is ic : Nat} {ret : Option FieldType} (ps : List Nat) (C : zC X cc own nL) (G : zGX X l E rm) (F : zF X ret mc ms Qr Qx)
    (d0 : decode cc pc = .ok (.new ik, 3)) (d3 : decode cc (pc + 3) = .ok (.dup, 1)) (d4 : decode cc (pc + 4) = .ok (.ldc is, 2)) (d6 : decode cc (pc + 6) = .ok (.invokespecial ic, 3)) (d9 : decode cc (pc + 9) = .ok (.athrow, 1))
    (hcls : Bundle.fit cls = true) (hnames : ∀ n ∈ names, Bundle.fit n = true) (hk : zWd (.classLink own ik cls)) (hini : zWd (.initialized cls)) (hs1 : Cond.stringRef own is text ∈ lw_tbl) (hs2 : Cond.exactly (.string own is) "java/lang/String" ∈ flatC (Jvm.Cond.and given_1 narrow_1))
    (hp : vx_atS own ic cls names = ps.filterMap (fun i => tables_1[i]?)) (hg : (vx_atS own ic cls names).all (fun w => goodWord w || zCast w) = true)
    (hu1 : Cond.laysStatic Bundle.tN "UNASSIGNED_STACK" Bundle.steD ∈ lw_tbl) (hu2 : Cond.initialized Bundle.tN ∈ lw_tbl) (hu3 : Cond.isRef (.static Bundle.tN "UNASSIGNED_STACK" Bundle.steD) ∈ flatC (Jvm.Cond.and given_1 narrow_1))
    (hv1 : Cond.laysStatic Bundle.tN "SUPPRESSED_SENTINEL" Bundle.listD ∈ lw_tbl) (hv3 : Cond.isRef (.static Bundle.tN "SUPPRESSED_SENTINEL" Bundle.listD) ∈ flatC (Jvm.Cond.and given_1 narrow_1))
    (hRo : Nat.blt (names.length + 3) rm.frames && Nat.ble ((rest.map fun v => v.category).sum + (13 * (names.length + 1) + 43)) rm.locals && (Nat.ble (kc + 1) rm.cells && Nat.ble (ks + 6) rm.slots) && (Nat.ble (kc + 1) mc && Nat.ble (ks + 6) ms)) (q : Qx cls h) : zV X kc ks h pc lo rest := by
  obtain ⟨p, l', e, R, s, m, args, below, meth, c, E', ad0, n0, Z⟩ := X
  obtain ⟨hx, hb, hml, hown, hlk, hst, hzs, hwm, hsz, hzh⟩ := id C
  obtain ⟨rfl, rfl, rfl⟩ := id G
  obtain ⟨f1, f2, rfl⟩ := id F
  intro ad H rl ls e1 e2 w S ol os hl
  simp only [Bool.and_eq_true] at hRo
  obtain ⟨⟨⟨r1, r2⟩, r3, r4⟩, r5, r6⟩ := hRo
  obtain ⟨sa, hsa⟩ := zStr hzs hs1 hs2
  refine vx_throwS (A := zA E') hx hb hst hown hcls hnames (zwd hzs hwm hk) (zwd hzs hwm hini) (vk_R.warm hwm hsa) (zat hzs hwm ps hp hg)
    (fun v hv => by
      rcases List.mem_cons.mp hv with rfl | hv
      · exact (by unfold vx_ot; rw [hk.2, Bool.or_true])
      rcases List.mem_cons.mp hv with rfl | hv
      · exact (by unfold vx_ot; rw [hini.2, Bool.or_true])
      exact zot hg v hv)
    (zUS hzs hwm hsz hzh hu1 hu2 hu3) (zUS hzs hwm hsz hzh hv1 hu2 hv3) S hl.1 d0 d3 d4 d6 d9 (fun x hx => (f2 x hx).elim) (Nat.le_of_ble_eq_true r1) (by rw [cats_tr]; exact Nat.le_of_ble_eq_true r2) (Nat.le_of_ble_eq_true r3) (Nat.le_of_ble_eq_true r4) hlk ?_ S.2.2 (Nat.le_of_ble_eq_true r5) (Nat.le_of_ble_eq_true r6)
  intro t hvm hz ho
  have hk2 : ∀ (j : Nat) (x : Nat × va_E), (zcells E' ad h)[j]? = some x → t.heap[x.1]? = H[x.1]? := fun j x hx => ho x.1 ((w.2.2.2.1 j x hx).lt)
  exact ⟨h, ad, q, e1, e2, ⟨fun q hq => (ho q (Nat.lt_of_lt_of_le hq w.2.2.1)).trans (w.2.1 q hq), Nat.le_trans w.2.2.1 hz, w.2.2.2.1.kept hk2, w.2.2.2.2.1, w.2.2.2.2.2⟩, Nat.le_trans S.1 hz⟩
end ZM
