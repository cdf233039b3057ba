/-! bytes copied; the tables of digits; texts as lists -/
section ZM
variable {X : zX} {l : Launch} {E : zG} {kc ks : Nat} {h : zH} {pc : Nat} {lo : List (Nat × Value)} {st rest : List Value} {cc : ByteArray} {own : String} {nL : Nat} {rm : Room} {mc ms : Nat} {Qr : Option Value → zH → Prop} {Qx : String → zH → Prop}
theorem zV.copyB {a b n index : Nat} {x : Int32} (C : zC X cc own nL) (G : zGX X l E rm) (d : decode cc pc = .ok (.invokestatic index, 3)) (hw : zWd (.methodLink own index arraycopyName) ∧ zWd (.native arraycopyName) ∧ zWd (.static arraycopyName) ∧ zWd (.initialized "java/lang/System")) (ha : hK h a = 101) (hb9 : hK h b = 101) (hx9 : x = nI n) (hn : n < 2 ^ 31) (h4 : n ≤ hL h a) (h5 : n ≤ hL h b) (hfi : sb_Fit (aI h a)) (hRo : Nat.ble 1 rm.frames && Nat.ble ((rest.map fun v => v.category).sum + (nativeFrameWords "java/lang/System" "arraycopy" 5 + 11)) rm.locals) (kk : zV X kc ks (sRow h b (va_cpy (aI h a) (aI h b) 0 0 n)) (pc + 3) lo rest) : zV X kc ks h pc lo (.int x :: .int 0 :: .ref b :: .int 0 :: .ref a :: rest) := by
  obtain ⟨p, l', e, R, s, m, args, below, meth, c, E', ad0, n0, Z⟩ := X
  obtain ⟨hx, hb, hml, hown, hlk, hst, hzs, hwm, hsz, hzh⟩ := id C
  obtain ⟨rfl, rfl, rfl⟩ := id G
  intro ad H rl ls e1 e2 w S ol os hl
  rw [Bool.and_eq_true] at hRo
  have ha0 : (zcells E' ad h)[a]? = some (ad a, .inl (E'.2.1 101, (hL h a, .inl (aI h a)))) := by
    rw [zcells_arr w.2.2.2.2.2 ha (by decide)]
    unfold zarr
    rw [ha]
    rfl
  have hb0 : (zcells E' ad h)[b]? = some (ad b, .inl (E'.2.1 101, (hL h b, .inl (aI h b)))) := by
    rw [zcells_arr w.2.2.2.2.2 hb9 (by decide)]
    unfold zarr
    rw [hb9]
    rfl
  have hc : x.toNatClampNeg = n := by rw [hx9, nI_clamp hn]
  refine va_copyi hx hb (hml.trans (hl.1.trans hml).symm) hown (zwd hzs hwm hw.1) (zwd hzs hwm hw.2.1) (zwd hzs hwm hw.2.2.1) (zwd hzs hwm hw.2.2.2) (zKs hzs hwm) w.2.2.2.1 (zDs w.2.2.2.2.1) S a b 0 0 ha0 hb0 (zTys_at E' 0 (by decide)) (zTys_at E' 0 (by decide)) rfl (by decide) (by decide) (by rw [hx9]; exact nI_pos hn) (by rw [hc]; show 0 + n ≤ _; omega) (by rw [hc]; show 0 + n ≤ _; omega) (fun i _ => hfi _) (Nat.le_of_ble_eq_true hRo.1) (by rw [cats_tr]; exact Nat.le_of_ble_eq_true hRo.2) d (fun H1 rl1 hP hD hS => ?_)
  rw [hc, show (0 : Int32).toNatClampNeg = 0 by decide, sRow_cells hb9 (by decide) (by decide)] at hP
  exact kk ad H1 rl1 ls e1 e2 (zW_of hsz hzh w hP hS rfl w.2.2.2.2.2) hS ol os.2.2.2.2.2 hl
end ZM
theorem st_ones_e : ∀ j, j < 100 → (flatC (Jvm.Cond.and given_1 narrow_1))[14 + j]? = some (Cond.eq (.elem (.static "java/lang/Integer" "DigitOnes" "[B") (.int (Int32.ofNat j))) (.int (nI (48 + j % 10)))) := by decide +kernel
theorem st_ones {E : zG} (hzs : zS E) : ∃ t, zSv E "java/lang/Integer" "DigitOnes" "[B" (.ref t) ∧ va_T .byte t 100 (fun j => .int (nI (48 + j % 10))) (zA E) E.2.2.1 E.2.2.1.heap := by
  have F : ∀ c ∈ flatC (Jvm.Cond.and given_1 narrow_1), c.before E.2.2.2 E.2.2.1 = true := flat_of_before _ hzs.2.2
  have hA : ∀ a : Nat, a < E.2.2.1.heap.size → ¬ zA E a := fun a ha => Nat.not_le.mpr ha
  have m1 : Cond.arrayOf (.static "java/lang/Integer" "DigitOnes" "[B") .byte ∈ flatC (Jvm.Cond.and given_1 narrow_1) := List.mem_of_getElem? (i := 12) (by decide +kernel)
  have m2 : Cond.eq (.length (.static "java/lang/Integer" "DigitOnes" "[B")) (.int (Int32.ofNat 100)) ∈ flatC (Jvm.Cond.and given_1 narrow_1) := List.mem_of_getElem? (i := 13) (by decide +kernel)
  obtain ⟨t, ht, hT⟩ := va_Tof (f := fun j => .int (nI (48 + j % 10))) (A := zA E) (by decide) (F _ m1) (va_eqt (F _ m2)) (fun j hj => va_eqt (F _ (List.mem_of_getElem? (st_ones_e j hj)))) hA
  exact ⟨t, va_Zof (hzs.1 _ ls_J6_DigitOnes) (hzs.1 _ in_J6.1) ht (fun a ha => Nat.not_le.mpr ha), hT⟩
theorem st_tens_e : ∀ j, j < 100 → (flatC (Jvm.Cond.and given_1 narrow_1))[117 + j]? = some (Cond.eq (.elem (.static "java/lang/Integer" "DigitTens" "[B") (.int (Int32.ofNat j))) (.int (nI (48 + j / 10)))) := by decide +kernel
theorem st_tens {E : zG} (hzs : zS E) : ∃ t, zSv E "java/lang/Integer" "DigitTens" "[B" (.ref t) ∧ va_T .byte t 100 (fun j => .int (nI (48 + j / 10))) (zA E) E.2.2.1 E.2.2.1.heap := by
  have F : ∀ c ∈ flatC (Jvm.Cond.and given_1 narrow_1), c.before E.2.2.2 E.2.2.1 = true := flat_of_before _ hzs.2.2
  have hA : ∀ a : Nat, a < E.2.2.1.heap.size → ¬ zA E a := fun a ha => Nat.not_le.mpr ha
  have m1 : Cond.arrayOf (.static "java/lang/Integer" "DigitTens" "[B") .byte ∈ flatC (Jvm.Cond.and given_1 narrow_1) := List.mem_of_getElem? (i := 115) (by decide +kernel)
  have m2 : Cond.eq (.length (.static "java/lang/Integer" "DigitTens" "[B")) (.int (Int32.ofNat 100)) ∈ flatC (Jvm.Cond.and given_1 narrow_1) := List.mem_of_getElem? (i := 116) (by decide +kernel)
  obtain ⟨t, ht, hT⟩ := va_Tof (f := fun j => .int (nI (48 + j / 10))) (A := zA E) (by decide) (F _ m1) (va_eqt (F _ m2)) (fun j hj => va_eqt (F _ (List.mem_of_getElem? (st_tens_e j hj)))) hA
  exact ⟨t, va_Zof (hzs.1 _ ls_J6_DigitTens) (hzs.1 _ in_J6.1) ht (fun a ha => Nat.not_le.mpr ha), hT⟩
