def zCast2 : Cond → Bool
  | .castable _ _ => true
  | .declares _ => true
  | _ => false
theorem zat2 {E : zG} {s : State} {args : Array Value} {L : List Cond} (hzs : zS E) (hwm : E.2.2.1.WarmedH s.vm) (ps : List Nat) (hp : L = ps.filterMap (fun i => tables_1[i]?)) (hg : L.all (fun w => goodWord w || zCast2 w) = true) : ∀ w ∈ L, w.before args s = true := by
  intro w hw
  have h1 := List.all_eq_true.mp hg w hw
  rw [hp] at hw
  obtain ⟨i, -, hi⟩ := List.mem_filterMap.mp hw
  have hm : w ∈ lw_tbl := List.mem_append_right _ (List.mem_of_getElem? hi)
  rw [Bool.or_eq_true] at h1
  rcases h1 with h1 | h1
  · exact zwd hzs hwm ⟨hm, h1⟩
  · cases w <;> first | (cases h1; done) | exact va_Nw.use rfl (va_Nw.warmC hwm (va_Nw.of rfl (hzs.1 _ hm))) | exact va_Nw.use rfl (va_Nw.warmD hwm (va_Nw.of rfl (hzs.1 _ hm)))
theorem zot2 {L : List Cond} (hg : L.all (fun w => goodWord w || zCast2 w) = true) : ∀ w ∈ L, vx_ot w = true := by
  intro w hw
  have h1 := List.all_eq_true.mp hg w hw
  rw [Bool.or_eq_true] at h1
  unfold vx_ot
  rw [Bool.or_eq_true]
  rcases h1 with h1 | h1
  · exact Or.inr h1
  · cases w <;> first | (cases h1; done) | exact Or.inl rfl
section ZTX
variable {X : zX} {l : Launch} {E : zG} {kc ks : Nat} {h : zH} {pc : Nat} {lo : List (Nat × Value)} {st rest : List Value} {cc : ByteArray} {own : String} {nL : Nat} {rm : Room}
theorem zV.throwX {cls text : String} {Y0 : String} {names : List String} {rx : ByteArray} {ik is ic ix : Nat} (ps : List Nat) (C : zC X cc own nL) (G : zGX X l E rm)
    (d0 : decode cc pc = .ok (.new ik, 3)) (d3 : decode cc (pc + 3) = .ok (.dup, 1)) (d4 : decode cc (pc + 4) = .ok (.ldc is, 2)) (d6 : decode cc (pc + 6) = .ok (.invokespecial ic, 3)) (d9 : decode cc (pc + 9) = .ok (.athrow, 1))
    (hx : (decode rx 0 = .ok (.aload_n 0, 1) ∧ decode rx 1 = .ok (.aload_n 1, 1) ∧ decode rx 2 = .ok (.invokespecial ix, 3) ∧ decode rx 5 = .ok (.return_, 1)) ∧ Bundle.fit cls = true ∧ Bundle.fit Y0 = true ∧ ∀ n ∈ names, Bundle.fit n = true) (hk : zWd (.classLink own ik cls)) (hini : zWd (.initialized cls)) (hs : Cond.stringRef own is text ∈ lw_tbl ∧ Cond.exactly (.string own is) "java/lang/String" ∈ flatC (Jvm.Cond.and given_1 narrow_1))
    (hp : vx_atX own ic cls ix rx Y0 names = ps.filterMap (fun i => tables_1[i]?) ∧ (vx_atX own ic cls ix rx Y0 names).all (fun w => goodWord w || zCast2 w) = true)
    (hu : (Cond.laysStatic Bundle.tN "UNASSIGNED_STACK" Bundle.steD ∈ lw_tbl ∧ Cond.initialized Bundle.tN ∈ lw_tbl ∧ Cond.isRef (.static Bundle.tN "UNASSIGNED_STACK" Bundle.steD) ∈ flatC (Jvm.Cond.and given_1 narrow_1)) ∧ Cond.laysStatic Bundle.tN "SUPPRESSED_SENTINEL" Bundle.listD ∈ lw_tbl ∧ Cond.isRef (.static Bundle.tN "SUPPRESSED_SENTINEL" Bundle.listD) ∈ flatC (Jvm.Cond.and given_1 narrow_1))
    (hRo : Nat.blt (names.length + 4) rm.frames && Nat.ble ((rest.map fun v => v.category).sum + (13 * (names.length + 2) + 43)) rm.locals && (Nat.ble (kc + 1) rm.cells && Nat.ble (ks + 6) rm.slots)) (kx : zVX X (kc + 1) (ks + 6) h (pc + 9) lo rest cls) : zV X kc ks h pc lo rest := by
  obtain ⟨p, l', e, R, s, m, args, below, meth, c, E', ad0, n0, Z⟩ := X
  obtain ⟨hx9, hb, hml, hown, hlk, hst, hzs, hwm, hsz, hzh⟩ := id C
  obtain ⟨rfl, rfl, rfl⟩ := id G
  intro ad H rl ls e1 e2 w S ol os hl
  simp only [Bool.and_eq_true] at hRo
  obtain ⟨⟨r1, r2⟩, r3, r4⟩ := hRo
  obtain ⟨sa, hsa⟩ := zStr hzs hs.1 hs.2
  obtain ⟨⟨x0, x1, x2, x5⟩, hcls, hY, hnames⟩ := hx
  obtain ⟨⟨hu1, hu2, hu3⟩, hv1, hv3⟩ := hu
  refine vx_makeX (A := zA E') hx9 hb hst x0 x1 x2 x5 hY hown hcls hnames (zwd hzs hwm hk) (zwd hzs hwm hini) (vk_R.warm hwm hsa) (zat2 hzs hwm ps hp.1 hp.2)
    (fun v hv => by
      rcases List.mem_cons.mp hv with rfl | hv
      · exact (by unfold vx_ot; rw [hk.2, Bool.or_true])
      rcases List.mem_cons.mp hv with rfl | hv
      · exact (by unfold vx_ot; rw [hini.2, Bool.or_true])
      exact zot2 hp.2 v hv)
    (zUS hzs hwm hsz hzh hu1 hu2 hu3) (zUS hzs hwm hsz hzh hv1 hu2 hv3) S hl.1 d0 d3 d4 d6 (Nat.le_of_ble_eq_true r1) (by rw [cats_tr]; exact Nat.le_of_ble_eq_true r2) (Nat.le_of_ble_eq_true r3) (Nat.le_of_ble_eq_true r4) (fun q H1 ce hq hv hcl hz ho hS => ?_)
  refine vx_athrow hx9 hb d9 ?_
  have hk2 : ∀ (j : Nat) (x : Nat × va_E), (zcells E' ad h)[j]? = some x → H1[x.1]? = H[x.1]? := fun j x hx => ho x.1 ((w.2.2.2.1 j x hx).lt)
  exact kx ad H1 rl ls ce q e1 e2 ⟨w.1, fun q hq => (ho q (Nat.lt_of_lt_of_le hq w.2.2.1)).trans (w.2.1 q hq), Nat.le_trans w.2.2.1 hz, w.2.2.2.1.kept hk2, w.2.2.2.2.1, w.2.2.2.2.2⟩ hS ol os hl hq hv hcl
theorem zV.throwXW {cls text : String} {Y0 : String} {names : List String} {rx : ByteArray} {ik is ic ix : Nat} (ps : List Nat) (C : zC X cc own nL) (G : zGX X l E rm)
    (d0 : decode cc pc = .ok (.new ik, 3)) (d3 : decode cc (pc + 3) = .ok (.dup, 1)) (d4 : decode cc (pc + 4) = .ok (.ldc_w is, 3)) (d6 : decode cc (pc + 7) = .ok (.invokespecial ic, 3)) (d9 : decode cc (pc + 10) = .ok (.athrow, 1))
    (hx : (decode rx 0 = .ok (.aload_n 0, 1) ∧ decode rx 1 = .ok (.aload_n 1, 1) ∧ decode rx 2 = .ok (.invokespecial ix, 3) ∧ decode rx 5 = .ok (.return_, 1)) ∧ Bundle.fit cls = true ∧ Bundle.fit Y0 = true ∧ ∀ n ∈ names, Bundle.fit n = true) (hk : zWd (.classLink own ik cls)) (hini : zWd (.initialized cls)) (hs : Cond.stringRef own is text ∈ lw_tbl ∧ Cond.exactly (.string own is) "java/lang/String" ∈ flatC (Jvm.Cond.and given_1 narrow_1))
    (hp : vx_atX own ic cls ix rx Y0 names = ps.filterMap (fun i => tables_1[i]?) ∧ (vx_atX own ic cls ix rx Y0 names).all (fun w => goodWord w || zCast2 w) = true)
    (hu : (Cond.laysStatic Bundle.tN "UNASSIGNED_STACK" Bundle.steD ∈ lw_tbl ∧ Cond.initialized Bundle.tN ∈ lw_tbl ∧ Cond.isRef (.static Bundle.tN "UNASSIGNED_STACK" Bundle.steD) ∈ flatC (Jvm.Cond.and given_1 narrow_1)) ∧ Cond.laysStatic Bundle.tN "SUPPRESSED_SENTINEL" Bundle.listD ∈ lw_tbl ∧ Cond.isRef (.static Bundle.tN "SUPPRESSED_SENTINEL" Bundle.listD) ∈ flatC (Jvm.Cond.and given_1 narrow_1))
    (hRo : Nat.blt (names.length + 4) rm.frames && Nat.ble ((rest.map fun v => v.category).sum + (13 * (names.length + 2) + 43)) rm.locals && (Nat.ble (kc + 1) rm.cells && Nat.ble (ks + 6) rm.slots)) (kx : zVX X (kc + 1) (ks + 6) h (pc + 10) lo rest cls) : zV X kc ks h pc lo rest := by
  obtain ⟨p, l', e, R, s, m, args, below, meth, c, E', ad0, n0, Z⟩ := X
  obtain ⟨hx9, hb, hml, hown, hlk, hst, hzs, hwm, hsz, hzh⟩ := id C
  obtain ⟨rfl, rfl, rfl⟩ := id G
  intro ad H rl ls e1 e2 w S ol os hl
  simp only [Bool.and_eq_true] at hRo
  obtain ⟨⟨r1, r2⟩, r3, r4⟩ := hRo
  obtain ⟨sa, hsa⟩ := zStr hzs hs.1 hs.2
  obtain ⟨⟨x0, x1, x2, x5⟩, hcls, hY, hnames⟩ := hx
  obtain ⟨⟨hu1, hu2, hu3⟩, hv1, hv3⟩ := hu
  refine vx_makeXW (A := zA E') hx9 hb hst x0 x1 x2 x5 hY hown hcls hnames (zwd hzs hwm hk) (zwd hzs hwm hini) (vk_R.warm hwm hsa) (zat2 hzs hwm ps hp.1 hp.2)
    (fun v hv => by
      rcases List.mem_cons.mp hv with rfl | hv
      · exact (by unfold vx_ot; rw [hk.2, Bool.or_true])
      rcases List.mem_cons.mp hv with rfl | hv
      · exact (by unfold vx_ot; rw [hini.2, Bool.or_true])
      exact zot2 hp.2 v hv)
    (zUS hzs hwm hsz hzh hu1 hu2 hu3) (zUS hzs hwm hsz hzh hv1 hu2 hv3) S hl.1 d0 d3 d4 d6 (Nat.le_of_ble_eq_true r1) (by rw [cats_tr]; exact Nat.le_of_ble_eq_true r2) (Nat.le_of_ble_eq_true r3) (Nat.le_of_ble_eq_true r4) (fun q H1 ce hq hv hcl hz ho hS => ?_)
  refine vx_athrow hx9 hb d9 ?_
  have hk2 : ∀ (j : Nat) (x : Nat × va_E), (zcells E' ad h)[j]? = some x → H1[x.1]? = H[x.1]? := fun j x hx => ho x.1 ((w.2.2.2.1 j x hx).lt)
  exact kx ad H1 rl ls ce q e1 e2 ⟨w.1, fun q hq => (ho q (Nat.lt_of_lt_of_le hq w.2.2.1)).trans (w.2.1 q hq), Nat.le_trans w.2.2.1 hz, w.2.2.2.1.kept hk2, w.2.2.2.2.1, w.2.2.2.2.2⟩ hS ol os hl hq hv hcl
end ZTX
