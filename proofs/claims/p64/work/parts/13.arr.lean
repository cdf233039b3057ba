section ZAR
variable {X : zX} {l : Launch} {E : zG} {kc ks : Nat} {h : zH} {pc : Nat} {lo : List (Nat × Value)} {st rest : List Value} {cc : ByteArray} {own : String} {nL : Nat} {rm : Room}
theorem zcell_newI {E : zG} {ad : Nat → Nat} {k z : Nat} (h1 : 100 ≤ k) (h2 : k ≤ 103) : zcell E ad (hNew h k z) (hN h) = .inl (E.2.1 k, (z, .inl (fun _ => 0))) := by
  unfold zcell
  rw [show hK (hNew h k z) (hN h) = k from if_pos rfl, if_neg (by omega)]
  unfold zarr
  rw [show hK (hNew h k z) (hN h) = k from if_pos rfl, if_pos h2, show hL (hNew h k z) (hN h) = z from if_pos rfl]
  rw [show aI (hNew h k z) (hN h) = fun _ => 0 from funext fun i => if_pos rfl]
theorem zcell_newR {E : zG} {ad : Nat → Nat} {k z : Nat} (h1 : 106 ≤ k) : zcell E ad (hNew h k z) (hN h) = .inl (E.2.1 k, (z, .inr (.inr (.inr (.inr (fun _ => none)))))) := by
  unfold zcell
  rw [show hK (hNew h k z) (hN h) = k from if_pos rfl, if_neg (by omega)]
  unfold zarr
  rw [show hK (hNew h k z) (hN h) = k from if_pos rfl, if_neg (by omega), if_neg (by omega), if_neg (by omega), show hL (hNew h k z) (hN h) = z from if_pos rfl]
  rw [show (fun i => (aR (hNew h k z) (hN h) i).map ad) = fun _ => none from funext fun i => congrArg (fun o : Option Nat => o.map ad) (if_pos rfl : aR (hNew h k z) (hN h) i = none)]
theorem zcell_newJ {E : zG} {ad : Nat → Nat} {z : Nat} : zcell E ad (hNew h 104 z) (hN h) = .inl (E.2.1 104, (z, .inr (.inl (fun _ => 0)))) := by
  unfold zcell
  rw [show hK (hNew h 104 z) (hN h) = 104 from if_pos rfl, if_neg (by omega)]
  unfold zarr
  rw [show hK (hNew h 104 z) (hN h) = 104 from if_pos rfl, if_neg (by omega), if_pos rfl, show hL (hNew h 104 z) (hN h) = z from if_pos rfl]
  rw [show aJ (hNew h 104 z) (hN h) = fun _ => 0 from funext fun i => if_pos rfl]
theorem zcell_newD {E : zG} {ad : Nat → Nat} {z : Nat} : zcell E ad (hNew h 105 z) (hN h) = .inl (E.2.1 105, (z, .inr (.inr (.inr (.inl (fun _ => 0)))))) := by
  unfold zcell
  rw [show hK (hNew h 105 z) (hN h) = 105 from if_pos rfl, if_neg (by omega)]
  unfold zarr
  rw [show hK (hNew h 105 z) (hN h) = 105 from if_pos rfl, if_neg (by omega), if_neg (by omega), if_pos rfl, show hL (hNew h 105 z) (hN h) = z from if_pos rfl]
  rw [show aD (hNew h 105 z) (hN h) = fun _ => 0 from funext fun i => if_pos rfl]
/-- the array class that a new array has is the one that is fixed -/
theorem zcA {E : zG} {s : State} {k t : Nat} {cA : ClassId} {ty : FieldType} (hKs : va_K E.1 vwCl (zTys E) s) (ht : (zTys E)[t]? = some (E.2.1 k, ty)) (hK2 : va_K E.1 vwCl (zTys E ++ [(cA, ty)]) s) : cA = E.2.1 k := by
  have h1 := (hKs.2 t _ ht).2
  have h2 := (hK2.2 (zTys E).length (cA, ty) (by rw [List.getElem?_append_right (Nat.le_refl _), Nat.sub_self]; rfl)).2
  have f : ∀ {c : ClassId}, va_RA s c ty → s.vm.findClass ("[" ++ ty.toString) = some c := by
    intro c hc
    cases ty with
    | object C => obtain ⟨kA, comp, -, -, -, h4⟩ := hc; exact h4
    | _ => exact hc
  exact Option.some.inj ((f h2).symm.trans (f h1))
theorem zend_new {p : Program} {l : Launch} {e : Env} {R : Room} {s : State} {m : MethodId} {args : Array Value} {below : List Frame} {meth : Method} {c : Code} {E : zG} {ad0 : Nat → Nat} {n0 : Nat} {Z : State → Prop} {ad : Nat → Nat} {H H1 : Heap} {rl1 : List Loc} {ls : Array Slot} {q k z pc2 kc2 ks2 : Nat} {e9 : va_E}
    (kk : zV (p, l, e, R, s, m, args, below, meth, c, E, ad0, n0, Z) kc2 ks2 (hNew h k z) pc2 lo (.ref (hN h) :: st)) (e1 : ∀ k, k < n0 → ad k = ad0 k) (e2 : n0 ≤ hN h) (ol : zOkl (hN h) lo) (os : zOks (hN h) st) (hl : lv_has ls c.maxLocals (trl ad lo)) (hk : k ≠ 0) (hsz : E.2.2.1.heap.size ≤ s.heap.size) (hzh : ∀ q, q < E.2.2.1.heap.size → s.heap[q]? = E.2.2.1.heap[q]?) (w : zW E ad h s H) (hP : va_P E.1 vwCl (zcells E ad h ++ [(q, e9)]) H1) (hD : va_D (zA E) (zcells E ad h ++ [(q, e9)])) (S : va_S (zA E) s.heap H1 rl1) (he : zcell E (va_up ad (hN h) q) (hNew h k z) (hN h) = e9) :
    W p l e R s m args below meth c H1 rl1 kc2 ks2 Z (F0 m pc2 ls (.ref q :: st.map (tr ad))) := by
  have hext : ∀ k, k < hN h → va_up ad (hN h) q k = ad k := fun k hk => if_neg (by omega)
  have k2 := kk (va_up ad (hN h) q) H1 rl1 ls (fun k hk => (hext k (Nat.lt_of_lt_of_le hk e2)).trans (e1 k hk)) (Nat.le_succ_of_le e2) (zW_new hk hsz hzh w hP hD S he) S (zOkl_mono (Nat.le_succ _) ol) ⟨Nat.lt_succ_self _, zOks_mono (Nat.le_succ _) os⟩ (by rw [trl_congr hext ol]; exact hl)
  rw [List.map_cons, trs_congr hext os, show tr (va_up ad (hN h) q) (.ref (hN h)) = .ref q from congrArg Value.ref (if_pos rfl)] at k2
  exact k2
theorem zV.newB {n : Nat} {x : Int32} (C : zC X cc own nL) (G : zGX X l E rm) (d : decode cc pc = .ok (.newarray .byte, 2)) (hw : zWd (.arrayClass .byte)) (hx9 : x = nI n) (hn : n ≤ 60000000) (hRo : Nat.ble (kc + 1) rm.cells && Nat.ble (ks + n) rm.slots) (kk : zV X (kc + 1) (ks + n) (hNew h 101 n) (pc + 2) lo (.ref (hN h) :: rest)) : zV X kc ks h pc lo (.int x :: rest) := by
  obtain ⟨p, l', e, R, s, m, args, below, meth, c, E', ad0, n0, Z⟩ := X
  obtain ⟨hx, hb, hml, hown, hlk, hst, hzs, hwm, hsz, hzh⟩ := id C
  obtain ⟨rfl, rfl, rfl⟩ := id G
  intro ad H rl ls e1 e2 w S ol os hl
  rw [Bool.and_eq_true] at hRo
  have hn2 : n < 2 ^ 31 := by omega
  refine va_newa (atype := .byte) (a0 := (n, .inl (fun _ => 0))) hx hb (zwd hzs hwm hw) rfl (zKs hzs hwm) w.2.2.2.1 (zDs w.2.2.2.2.1) S (fun q hq => Nat.le_trans hsz hq) (fun cA => rfl) (by rw [hx9]; exact nI_pos hn2) (by rw [hx9, nI_clamp hn2]) (by show n * 1 ≤ _; omega) (Nat.le_of_ble_eq_true hRo.1) (Nat.le_of_ble_eq_true hRo.2) d (fun q cA H1 hK2 hP hD hS => ?_)
  have hcA := zcA (k := 101) (zKs hzs hwm) (zTys_at E' 0 (by decide)) hK2
  subst hcA
  exact zend_new kk e1 e2 ol os.2 hl (by decide) hsz hzh w hP hD hS (zcell_newI (by decide) (by decide))
theorem zV.newC {n : Nat} {x : Int32} (C : zC X cc own nL) (G : zGX X l E rm) (d : decode cc pc = .ok (.newarray .char, 2)) (hw : zWd (.arrayClass .char)) (hx9 : x = nI n) (hn : n ≤ 60000000) (hRo : Nat.ble (kc + 1) rm.cells && Nat.ble (ks + n) rm.slots) (kk : zV X (kc + 1) (ks + n) (hNew h 102 n) (pc + 2) lo (.ref (hN h) :: rest)) : zV X kc ks h pc lo (.int x :: rest) := by
  obtain ⟨p, l', e, R, s, m, args, below, meth, c, E', ad0, n0, Z⟩ := X
  obtain ⟨hx, hb, hml, hown, hlk, hst, hzs, hwm, hsz, hzh⟩ := id C
  obtain ⟨rfl, rfl, rfl⟩ := id G
  intro ad H rl ls e1 e2 w S ol os hl
  rw [Bool.and_eq_true] at hRo
  have hn2 : n < 2 ^ 31 := by omega
  refine va_newa (atype := .char) (a0 := (n, .inl (fun _ => 0))) hx hb (zwd hzs hwm hw) rfl (zKs hzs hwm) w.2.2.2.1 (zDs w.2.2.2.2.1) S (fun q hq => Nat.le_trans hsz hq) (fun cA => rfl) (by rw [hx9]; exact nI_pos hn2) (by rw [hx9, nI_clamp hn2]) (by show n * 2 ≤ _; omega) (Nat.le_of_ble_eq_true hRo.1) (Nat.le_of_ble_eq_true hRo.2) d (fun q cA H1 hK2 hP hD hS => ?_)
  have hcA := zcA (k := 102) (zKs hzs hwm) (zTys_at E' 1 (by decide)) hK2
  subst hcA
  exact zend_new kk e1 e2 ol os.2 hl (by decide) hsz hzh w hP hD hS (zcell_newI (by decide) (by decide))
theorem zV.newI {n : Nat} {x : Int32} (C : zC X cc own nL) (G : zGX X l E rm) (d : decode cc pc = .ok (.newarray .int, 2)) (hw : zWd (.arrayClass .int)) (hx9 : x = nI n) (hn : n ≤ 60000000) (hRo : Nat.ble (kc + 1) rm.cells && Nat.ble (ks + n) rm.slots) (kk : zV X (kc + 1) (ks + n) (hNew h 103 n) (pc + 2) lo (.ref (hN h) :: rest)) : zV X kc ks h pc lo (.int x :: rest) := by
  obtain ⟨p, l', e, R, s, m, args, below, meth, c, E', ad0, n0, Z⟩ := X
  obtain ⟨hx, hb, hml, hown, hlk, hst, hzs, hwm, hsz, hzh⟩ := id C
  obtain ⟨rfl, rfl, rfl⟩ := id G
  intro ad H rl ls e1 e2 w S ol os hl
  rw [Bool.and_eq_true] at hRo
  have hn2 : n < 2 ^ 31 := by omega
  refine va_newa (atype := .int) (a0 := (n, .inl (fun _ => 0))) hx hb (zwd hzs hwm hw) rfl (zKs hzs hwm) w.2.2.2.1 (zDs w.2.2.2.2.1) S (fun q hq => Nat.le_trans hsz hq) (fun cA => rfl) (by rw [hx9]; exact nI_pos hn2) (by rw [hx9, nI_clamp hn2]) (by show n * 4 ≤ _; omega) (Nat.le_of_ble_eq_true hRo.1) (Nat.le_of_ble_eq_true hRo.2) d (fun q cA H1 hK2 hP hD hS => ?_)
  have hcA := zcA (k := 103) (zKs hzs hwm) (zTys_at E' 2 (by decide)) hK2
  subst hcA
  exact zend_new kk e1 e2 ol os.2 hl (by decide) hsz hzh w hP hD hS (zcell_newI (by decide) (by decide))
theorem zV.newJ {n : Nat} {x : Int32} (C : zC X cc own nL) (G : zGX X l E rm) (d : decode cc pc = .ok (.newarray .long, 2)) (hw : zWd (.arrayClass .long)) (hx9 : x = nI n) (hn : n ≤ 60000000) (hRo : Nat.ble (kc + 1) rm.cells && Nat.ble (ks + n) rm.slots) (kk : zV X (kc + 1) (ks + n) (hNew h 104 n) (pc + 2) lo (.ref (hN h) :: rest)) : zV X kc ks h pc lo (.int x :: rest) := by
  obtain ⟨p, l', e, R, s, m, args, below, meth, c, E', ad0, n0, Z⟩ := X
  obtain ⟨hx, hb, hml, hown, hlk, hst, hzs, hwm, hsz, hzh⟩ := id C
  obtain ⟨rfl, rfl, rfl⟩ := id G
  intro ad H rl ls e1 e2 w S ol os hl
  rw [Bool.and_eq_true] at hRo
  have hn2 : n < 2 ^ 31 := by omega
  refine va_newa (atype := .long) (a0 := (n, .inr (.inl (fun _ => 0)))) hx hb (zwd hzs hwm hw) rfl (zKs hzs hwm) w.2.2.2.1 (zDs w.2.2.2.2.1) S (fun q hq => Nat.le_trans hsz hq) (fun cA => rfl) (by rw [hx9]; exact nI_pos hn2) (by rw [hx9, nI_clamp hn2]) (by show n * 8 ≤ _; omega) (Nat.le_of_ble_eq_true hRo.1) (Nat.le_of_ble_eq_true hRo.2) d (fun q cA H1 hK2 hP hD hS => ?_)
  have hcA := zcA (k := 104) (zKs hzs hwm) (zTys_at E' 3 (by decide)) hK2
  subst hcA
  exact zend_new kk e1 e2 ol os.2 hl (by decide) hsz hzh w hP hD hS (zcell_newJ)
theorem zV.newQC {n index : Nat} {x : Int32} (C : zC X cc own nL) (G : zGX X l E rm) (d : decode cc pc = .ok (.anewarray index, 3)) (hw : zWd (.classLink own index "ChairMigration$Chair") ∧ Cond.arrayOver (.object "ChairMigration$Chair") ∈ lw_tbl) (hx9 : x = nI n) (hn : n ≤ 60000000) (hRo : Nat.ble (kc + 1) rm.cells && Nat.ble (ks + n) rm.slots) (kk : zV X (kc + 1) (ks + n) (hNew h 106 n) (pc + 3) lo (.ref (hN h) :: rest)) : zV X kc ks h pc lo (.int x :: rest) := by
  obtain ⟨p, l', e, R, s, m, args, below, meth, c, E', ad0, n0, Z⟩ := X
  obtain ⟨hx, hb, hml, hown, hlk, hst, hzs, hwm, hsz, hzh⟩ := id C
  obtain ⟨rfl, rfl, rfl⟩ := id G
  intro ad H rl ls e1 e2 w S ol os hl
  rw [Bool.and_eq_true] at hRo
  have hn2 : n < 2 ^ 31 := by omega
  refine va_newq hx hb hown (zwd hzs hwm hw.1) (va_AO.moved hwm.alike (va_AO.of (hzs.1 _ hw.2))) (zKs hzs hwm) w.2.2.2.1 (zDs w.2.2.2.2.1) S (fun q hq => Nat.le_trans hsz hq) (by rw [hx9]; exact nI_pos hn2) (by rw [hx9, nI_clamp hn2]) (by omega) (Nat.le_of_ble_eq_true hRo.1) (Nat.le_of_ble_eq_true hRo.2) d (fun q cA H1 hK2 hP hD hS => ?_)
  have hcA := zcA (k := 106) (zKs hzs hwm) (zTys_at E' 5 (by decide)) hK2
  subst hcA
  exact zend_new kk e1 e2 ol os.2 hl (by decide) hsz hzh w hP hD hS (zcell_newR (by decide))
theorem zV.newQG {n index : Nat} {x : Int32} (C : zC X cc own nL) (G : zGX X l E rm) (d : decode cc pc = .ok (.anewarray index, 3)) (hw : zWd (.classLink own index "ChairMigration$Garden") ∧ Cond.arrayOver (.object "ChairMigration$Garden") ∈ lw_tbl) (hx9 : x = nI n) (hn : n ≤ 60000000) (hRo : Nat.ble (kc + 1) rm.cells && Nat.ble (ks + n) rm.slots) (kk : zV X (kc + 1) (ks + n) (hNew h 107 n) (pc + 3) lo (.ref (hN h) :: rest)) : zV X kc ks h pc lo (.int x :: rest) := by
  obtain ⟨p, l', e, R, s, m, args, below, meth, c, E', ad0, n0, Z⟩ := X
  obtain ⟨hx, hb, hml, hown, hlk, hst, hzs, hwm, hsz, hzh⟩ := id C
  obtain ⟨rfl, rfl, rfl⟩ := id G
  intro ad H rl ls e1 e2 w S ol os hl
  rw [Bool.and_eq_true] at hRo
  have hn2 : n < 2 ^ 31 := by omega
  refine va_newq hx hb hown (zwd hzs hwm hw.1) (va_AO.moved hwm.alike (va_AO.of (hzs.1 _ hw.2))) (zKs hzs hwm) w.2.2.2.1 (zDs w.2.2.2.2.1) S (fun q hq => Nat.le_trans hsz hq) (by rw [hx9]; exact nI_pos hn2) (by rw [hx9, nI_clamp hn2]) (by omega) (Nat.le_of_ble_eq_true hRo.1) (Nat.le_of_ble_eq_true hRo.2) d (fun q cA H1 hK2 hP hD hS => ?_)
  have hcA := zcA (k := 107) (zKs hzs hwm) (zTys_at E' 6 (by decide)) hK2
  subst hcA
  exact zend_new kk e1 e2 ol os.2 hl (by decide) hsz hzh w hP hD hS (zcell_newR (by decide))
end ZAR
