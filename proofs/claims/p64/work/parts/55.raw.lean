/-! String constants and static fields that nobody writes -/
section ZSR
variable {X : zX} {l : Launch} {E : zG} {kc ks : Nat} {h : zH} {pc : Nat} {lo : List (Nat × Value)} {st rest : List Value} {cc bytes : ByteArray} {own : String} {nL : Nat} {rm rm' : Room} {mc ms n index maxL : Nat} {y : MethodName} {ret : Option FieldType} {As : List Value} {Qr : Option Value → zH → Prop} {Qx : String → zH → Prop}
/-- a String that is there from the start, at q, its bytes at q2 -/
def zSt (E : zG) (q q2 : Nat) (bs : List Nat) : Prop := va_O "java/lang/String" q (zA E) E.2.2.1 E.2.2.1.heap ∧ va_OF "java/lang/String" "coder" "B" (.int 0) q (zA E) E.2.2.1 E.2.2.1.heap ∧ va_OF "java/lang/String" "value" "[B" (.ref q2) q (zA E) E.2.2.1 E.2.2.1.heap ∧ va_T .byte q2 bs.length (fun j => .int (nI (bs.getD j 0))) (zA E) E.2.2.1 E.2.2.1.heap
theorem zSt_of {own9 tx : String} {k : Nat} {bs : List Nat} (hzs : zS E) (hN : bs.length < 2 ^ 31) (hw : Cond.stringRef own9 k tx ∈ lw_tbl)
    (h1 : Cond.exactly (.string own9 k) "java/lang/String" ∈ flatC (Jvm.Cond.and given_1 narrow_1)) (h2 : Cond.eq (.field (.string own9 k) "java/lang/String" "coder" "B") (.int 0) ∈ flatC (Jvm.Cond.and given_1 narrow_1))
    (h3 : Cond.arrayOf (.field (.string own9 k) "java/lang/String" "value" "[B") .byte ∈ flatC (Jvm.Cond.and given_1 narrow_1)) (h4 : Cond.eq (.length (.field (.string own9 k) "java/lang/String" "value" "[B")) (.int (Int32.ofNat bs.length)) ∈ flatC (Jvm.Cond.and given_1 narrow_1))
    (h5 : ∀ j, j < bs.length → Cond.eq (.elem (.field (.string own9 k) "java/lang/String" "value" "[B") (.int (Int32.ofNat j))) (.int (nI (bs.getD j 0))) ∈ flatC (Jvm.Cond.and given_1 narrow_1)) : ∃ q q2, zSq own9 k tx E q ∧ zSt E q q2 bs := by
  have F : ∀ c ∈ flatC (Jvm.Cond.and given_1 narrow_1), c.before E.2.2.2 E.2.2.1 = true := flat_of_before _ hzs.2.2
  have hA : ∀ a : Nat, a < E.2.2.1.heap.size → ¬ zA E a := fun a ha => Nat.not_le.mpr ha
  obtain ⟨a, c, cA, kA, q1, q2, q3, q4, q5, q6, -⟩ := Cond.exactly_spec (F _ h1)
  obtain ⟨t, ht, hT⟩ := va_Tof (f := fun j => .int (nI (bs.getD j 0))) (A := zA E) hN (F _ h3) (va_eqt (F _ h4)) (fun j hj => va_eqt (F _ (h5 j hj))) hA
  exact ⟨a, t, ⟨hzs.1 _ hw, q1⟩, ⟨cA, q3, q5, by rw [q6]; exact q2, hA a (Array.getElem?_eq_some_iff.mp q3).1⟩, vk_OFof q1 (va_eqt (F _ h2)) hA, vk_OFof q1 ht hA, hT⟩
theorem zV.gRawI {q : Nat} {o fn fd : String} {x : Int32} (C : zC X cc own nL) (G : zGX X l E rm) (d : decode cc pc = .ok (.getfield index, 3)) (hf : va_OF o fn fd (.int x) q (zA E) E.2.2.1 E.2.2.1.heap) (hw : zWd (.fieldLink own index o fn fd)) (kk : zV X kc ks h (pc + 3) lo (.int x :: st)) : zV X kc ks h pc lo (.retAddr q :: st) := by
  obtain ⟨p, l', e, R, s, m, args, below, meth, c, E', ad0, n0, Z⟩ := X
  obtain ⟨hx, hb, hml, hown, hlk, hst2, hzs, hwm, hsz, hzh⟩ := id C
  obtain ⟨rfl, rfl, rfl⟩ := id G
  intro ad H rl ls e1 e2 w S ol os hl
  exact vk_getf hx hb ((va_OF.moved hwm.alike hf).kept (fun a ha _ => hzh a ha)) S hown (zwd hzs hwm hw) (fun _ q => q) d (kk ad H rl ls e1 e2 w S ol ⟨trivial, os.2⟩ hl)
theorem zV.gRawR {q q2 : Nat} {o fn fd : String} (C : zC X cc own nL) (G : zGX X l E rm) (d : decode cc pc = .ok (.getfield index, 3)) (hf : va_OF o fn fd (.ref q2) q (zA E) E.2.2.1 E.2.2.1.heap) (hw : zWd (.fieldLink own index o fn fd)) (kk : zV X kc ks h (pc + 3) lo (.retAddr q2 :: st)) : zV X kc ks h pc lo (.retAddr q :: st) := by
  obtain ⟨p, l', e, R, s, m, args, below, meth, c, E', ad0, n0, Z⟩ := X
  obtain ⟨hx, hb, hml, hown, hlk, hst2, hzs, hwm, hsz, hzh⟩ := id C
  obtain ⟨rfl, rfl, rfl⟩ := id G
  intro ad H rl ls e1 e2 w S ol os hl
  exact vk_getf hx hb ((va_OF.moved hwm.alike hf).kept (fun a ha _ => hzh a ha)) S hown (zwd hzs hwm hw) (fun _ q => q) d (kk ad H rl ls e1 e2 w S ol ⟨trivial, os.2⟩ hl)
theorem zV.alenRaw {t N : Nat} {ty : FieldType} {f : Nat → Value} (C : zC X cc own nL) (G : zGX X l E rm) (d : decode cc pc = .ok (.arraylength, 1)) (hT : va_T ty t N f (zA E) E.2.2.1 E.2.2.1.heap) (kk : zV X kc ks h (pc + 1) lo (.int (nI N) :: st)) : zV X kc ks h pc lo (.retAddr t :: st) := by
  obtain ⟨p, l', e, R, s, m, args, below, meth, c, E', ad0, n0, Z⟩ := X
  obtain ⟨hx, hb, hml, hown, hlk, hst2, hzs, hwm, hsz, hzh⟩ := id C
  obtain ⟨rfl, rfl, rfl⟩ := id G
  intro ad H rl ls e1 e2 w S ol os hl
  exact va_tlen hx hb ((va_T.moved hwm.alike hT).kept (fun a ha _ => hzh a ha)) S (v := nI N) rfl d (kk ad H rl ls e1 e2 w S ol ⟨trivial, os.2⟩ hl)
theorem zV.baldRaw {t N j : Nat} {f : Nat → Value} {i x : Int32} (C : zC X cc own nL) (G : zGX X l E rm) (d : decode cc pc = .ok (.baload, 1)) (hT : va_T .byte t N f (zA E) E.2.2.1 E.2.2.1.heap) (hi : i = nI j) (hj : j < N) (hj2 : j < 2 ^ 31) (hv : f j = .int x) (kk : zV X kc ks h (pc + 1) lo (.int x :: st)) : zV X kc ks h pc lo (.int i :: .retAddr t :: st) := by
  obtain ⟨p, l', e, R, s, m, args, below, meth, c, E', ad0, n0, Z⟩ := X
  obtain ⟨hx, hb, hml, hown, hlk, hst2, hzs, hwm, hsz, hzh⟩ := id C
  obtain ⟨rfl, rfl, rfl⟩ := id G
  intro ad H rl ls e1 e2 w S ol os hl
  exact va_tb hx hb ((va_T.moved hwm.alike hT).kept (fun a ha _ => hzh a ha)) S (zin hi hj hj2) (v := .int x) (by rw [hi, nI_cl hj2]; exact hv) d (kk ad H rl ls e1 e2 w S ol ⟨trivial, os.2.2⟩ hl)
/-- a static field's value from the start -/
def zSv (E : zG) (C n d : String) (v : Value) : Prop := va_Z C n d v (zA E) E.2.2.1 E.2.2.1.heap
theorem zSv_i {C n d : String} {x : Int32} (hzs : zS E) (hl : Cond.laysStatic C n d ∈ lw_tbl) (hi : zWd (.initialized C)) (hg : Cond.eq (.static C n d) (.int x) ∈ flatC (Jvm.Cond.and given_1 narrow_1)) : zSv E C n d (.int x) :=
  va_Zof (hzs.1 _ hl) (hzs.1 _ hi.1) (va_eqi (flat_of_before _ hzs.2.2 _ hg)) (fun a ha => Nat.not_le.mpr ha)
theorem zSv_r {C n d : String} (hzs : zS E) (hl : Cond.laysStatic C n d ∈ lw_tbl) (hi : zWd (.initialized C)) (hg : Cond.isRef (.static C n d) ∈ flatC (Jvm.Cond.and given_1 narrow_1)) : zSv E C n d .null ∨ ∃ t, (Term.static C n d).eval E.2.2.2 E.2.2.1 none [] E.2.2.1 = some (.ref t) ∧ zSv E C n d (.ref t) := by
  obtain ⟨v, hv, hr⟩ := Cond.isRef_spec (flat_of_before _ hzs.2.2 _ hg)
  have h9 : v = .null ∨ ∃ t, v = .ref t := by
    cases v <;> first | exact Or.inl rfl | exact Or.inr ⟨_, rfl⟩ | (exfalso; simp_all [Value.isRef])
  rcases h9 with rfl | ⟨t, rfl⟩
  · exact Or.inl (va_Zof (hzs.1 _ hl) (hzs.1 _ hi.1) hv (fun a ha => Nat.not_le.mpr ha))
  · exact Or.inr ⟨t, hv, va_Zof (hzs.1 _ hl) (hzs.1 _ hi.1) hv (fun a ha => Nat.not_le.mpr ha)⟩
theorem zV.gstI {o fn fd : String} {x : Int32} (C : zC X cc own nL) (G : zGX X l E rm) (d : decode cc pc = .ok (.getstatic index, 3)) (hf : zSv E o fn fd (.int x)) (hw : zWd (.fieldLink own index o fn fd)) (kk : zV X kc ks h (pc + 3) lo (.int x :: st)) : zV X kc ks h pc lo st := by
  obtain ⟨p, l', e, R, s, m, args, below, meth, c, E', ad0, n0, Z⟩ := X
  obtain ⟨hx, hb, hml, hown, hlk, hst2, hzs, hwm, hsz, hzh⟩ := id C
  obtain ⟨rfl, rfl, rfl⟩ := id G
  intro ad H rl ls e1 e2 w S ol os hl
  exact va_gets hx hb ((va_Z.moved hwm.alike hf).kept (fun a ha _ => hzh a ha)) S hown (zwd hzs hwm hw) (fun _ q => q) d (kk ad H rl ls e1 e2 w S ol ⟨trivial, os⟩ hl)
theorem zV.gstR {o fn fd : String} {t : Nat} (C : zC X cc own nL) (G : zGX X l E rm) (d : decode cc pc = .ok (.getstatic index, 3)) (hf : zSv E o fn fd (.ref t)) (hw : zWd (.fieldLink own index o fn fd)) (kk : zV X kc ks h (pc + 3) lo (.retAddr t :: st)) : zV X kc ks h pc lo st := by
  obtain ⟨p, l', e, R, s, m, args, below, meth, c, E', ad0, n0, Z⟩ := X
  obtain ⟨hx, hb, hml, hown, hlk, hst2, hzs, hwm, hsz, hzh⟩ := id C
  obtain ⟨rfl, rfl, rfl⟩ := id G
  intro ad H rl ls e1 e2 w S ol os hl
  exact va_gets hx hb ((va_Z.moved hwm.alike hf).kept (fun a ha _ => hzh a ha)) S hown (zwd hzs hwm hw) (fun _ q => q) d (kk ad H rl ls e1 e2 w S ol ⟨trivial, os⟩ hl)
theorem zV.gstN {o fn fd : String} (C : zC X cc own nL) (G : zGX X l E rm) (d : decode cc pc = .ok (.getstatic index, 3)) (hf : zSv E o fn fd .null) (hw : zWd (.fieldLink own index o fn fd)) (kk : zV X kc ks h (pc + 3) lo (.null :: st)) : zV X kc ks h pc lo st := by
  obtain ⟨p, l', e, R, s, m, args, below, meth, c, E', ad0, n0, Z⟩ := X
  obtain ⟨hx, hb, hml, hown, hlk, hst2, hzs, hwm, hsz, hzh⟩ := id C
  obtain ⟨rfl, rfl, rfl⟩ := id G
  intro ad H rl ls e1 e2 w S ol os hl
  exact va_gets hx hb ((va_Z.moved hwm.alike hf).kept (fun a ha _ => hzh a ha)) S hown (zwd hzs hwm hw) (fun _ q => q) d (kk ad H rl ls e1 e2 w S ol ⟨trivial, os⟩ hl)
theorem map_revR (ad : Nat → Nat) (As rest : List Value) (b : Nat) : (As.reverse ++ .retAddr b :: rest).map (tr ad) = (As.map (tr ad)).reverse ++ .ref b :: rest.map (tr ad) := by simp [tr]
theorem zOks_splitR {n : Nat} {As rest : List Value} {b : Nat} (h : zOks n (As.reverse ++ .retAddr b :: rest)) : zOks n (.retAddr b :: As) ∧ zOks n rest := by
  have hm := zOks_mem h
  exact ⟨zOks_of (fun v hv => hm v (by
    rcases List.mem_cons.mp hv with rfl | hv
    · simp
    · simp [hv])), zOks_of (fun v hv => hm v (by simp [hv]))⟩
/-- a call with a receiver that is there from the start -/
theorem zV.callVR {b : Nat} (C : zC X cc own nL) (G : zGX X l E rm) (d : decode cc pc = .ok (.invokevirtual index, 3)) (hM : zMet l E y bytes maxL ret rm' mc ms (.retAddr b :: As) h Qr Qx) (hs : st = As.reverse ++ .retAddr b :: rest)
    (hw : zWd (.code y bytes maxL ret) ∧ zWd (.methodLink own index y) ∧ zWd (.instanceMethod y) ∧ zWd (.selects y.cls y y) ∧ zWd (.initialized y.cls)) (hd : zNm y n) (hn : As.length = n) (hR : zRm rm rm' maxL mc ms kc ks = true) (hst : Nat.ble (rest.map fun v => v.category).sum 8 = true)
    (hO : va_O y.cls b (zA E) E.2.2.1 E.2.2.1.heap)
    (kk : ∀ (r : Option Value) (h' : zH), Qr r h' → hN h ≤ hN h' → zV X (kc + mc) (ks + ms) h' (pc + 3) lo (r.toList ++ rest))
    (kx : ∀ (Ex : String) (h' : zH), Qx Ex h' → hN h ≤ hN h' → zVX X (kc + mc) (ks + ms) h' pc lo rest Ex) : zV X kc ks h pc lo st := by
  obtain ⟨p, l', e, R, s, m, args, below, meth, c, E', ad0, n0, Z⟩ := X
  obtain ⟨hx, hb, hml, hown, hlk, hst2, hzs, hwm, hsz, hzh⟩ := id C
  obtain ⟨rfl, rfl, rfl⟩ := id G
  subst hs
  intro ad H rl ls e1 e2 w S ol os hl
  obtain ⟨r1, r2, r3⟩ := zRm_ok hR
  obtain ⟨o1, o2⟩ := zOks_splitR os
  have hO2 := ((va_O.moved hwm.alike hO).kept (fun a ha _ => hzh a ha)).kept S.2.1
  refine z_after (a := (Value.ref b :: As.map (tr ad)).toArray) hwm hsz hzh e1 e2 S ol o2 hl ?_ kk kx
  exact vx_runV (As := As.map (tr ad)) (C := y.cls) (Ts := []) ⟨hx, hb, hml, hown, fun w hw => by cases hw⟩ (hM ad) ⟨⟨r2.1, r2.2, r1.1, r1.2, zpay hzs hwm hw.1, List.mem_cons_self, zwd hzs hwm hw.1, zwd hzs hwm hw.2.2.2.2, hd.1, zParse hd, zwd hzs hwm hw.2.1⟩, zwd hzs hwm hw.2.2.1, zwd hzs hwm hw.2.2.2.1⟩
    ⟨zblind, (by obtain ⟨cell, h1, h2, h3, -⟩ := hO2; exact ⟨cell, h1, h2, h3⟩), fun U hU hW => ⟨rfl, by rw [hU]; exact zW_vm (State.WarmedH.trans hwm hW) w, o1⟩⟩ rfl (by rw [List.length_map]; exact hn) (hl.1.trans hml) (map_revR ad As rest b) (zroom hst) d r3
end ZSR
theorem sc_X1_54 {E : zG} (hzs : zS E) : ∃ q q2, zSq RX1 54 "dd" E q ∧ zSt E q q2 [100, 100] := by
  refine zSt_of hzs (by decide) lk_X1_54 (List.mem_of_getElem? (i := 472) (by decide +kernel)) (List.mem_of_getElem? (i := 473) (by decide +kernel)) (List.mem_of_getElem? (i := 474) (by decide +kernel)) (List.mem_of_getElem? (i := 475) (by decide +kernel)) (fun j hj => by
    have hj2 : j < 2 := hj
    match j, hj2 with
    | 0, _ => exact List.mem_of_getElem? (i := 476) (by decide +kernel)
    | 1, _ => exact List.mem_of_getElem? (i := 477) (by decide +kernel))
theorem sc_X1_56 {E : zG} (hzs : zS E) : ∃ q q2, zSq RX1 56 "d=n" E q ∧ zSt E q q2 [100, 61, 110] := by
  refine zSt_of hzs (by decide) lk_X1_56 (List.mem_of_getElem? (i := 478) (by decide +kernel)) (List.mem_of_getElem? (i := 479) (by decide +kernel)) (List.mem_of_getElem? (i := 480) (by decide +kernel)) (List.mem_of_getElem? (i := 481) (by decide +kernel)) (fun j hj => by
    have hj2 : j < 3 := hj
    match j, hj2 with
    | 0, _ => exact List.mem_of_getElem? (i := 482) (by decide +kernel)
    | 1, _ => exact List.mem_of_getElem? (i := 483) (by decide +kernel)
    | 2, _ => exact List.mem_of_getElem? (i := 484) (by decide +kernel))
theorem sc_X1_58 {E : zG} (hzs : zS E) : ∃ q q2, zSq RX1 58 "n>d" E q ∧ zSt E q q2 [110, 62, 100] := by
  refine zSt_of hzs (by decide) lk_X1_58 (List.mem_of_getElem? (i := 485) (by decide +kernel)) (List.mem_of_getElem? (i := 486) (by decide +kernel)) (List.mem_of_getElem? (i := 487) (by decide +kernel)) (List.mem_of_getElem? (i := 488) (by decide +kernel)) (fun j hj => by
    have hj2 : j < 3 := hj
    match j, hj2 with
    | 0, _ => exact List.mem_of_getElem? (i := 489) (by decide +kernel)
    | 1, _ => exact List.mem_of_getElem? (i := 490) (by decide +kernel)
    | 2, _ => exact List.mem_of_getElem? (i := 491) (by decide +kernel))
theorem sc_X1_60 {E : zG} (hzs : zS E) : ∃ q q2, zSq RX1 60 "d>d" E q ∧ zSt E q q2 [100, 62, 100] := by
  refine zSt_of hzs (by decide) lk_X1_60 (List.mem_of_getElem? (i := 492) (by decide +kernel)) (List.mem_of_getElem? (i := 493) (by decide +kernel)) (List.mem_of_getElem? (i := 494) (by decide +kernel)) (List.mem_of_getElem? (i := 495) (by decide +kernel)) (fun j hj => by
    have hj2 : j < 3 := hj
    match j, hj2 with
    | 0, _ => exact List.mem_of_getElem? (i := 496) (by decide +kernel)
    | 1, _ => exact List.mem_of_getElem? (i := 497) (by decide +kernel)
    | 2, _ => exact List.mem_of_getElem? (i := 498) (by decide +kernel))
theorem sc_X1_62 {E : zG} (hzs : zS E) : ∃ q q2, zSq RX1 62 "n" E q ∧ zSt E q q2 [110] := by
  refine zSt_of hzs (by decide) lk_X1_62 (List.mem_of_getElem? (i := 499) (by decide +kernel)) (List.mem_of_getElem? (i := 500) (by decide +kernel)) (List.mem_of_getElem? (i := 501) (by decide +kernel)) (List.mem_of_getElem? (i := 502) (by decide +kernel)) (fun j hj => by
    have hj2 : j < 1 := hj
    match j, hj2 with
    | 0, _ => exact List.mem_of_getElem? (i := 503) (by decide +kernel))
theorem sc_X1_64 {E : zG} (hzs : zS E) : ∃ q q2, zSq RX1 64 "" E q ∧ zSt E q q2 [] := by
  refine zSt_of hzs (by decide) lk_X1_64 (List.mem_of_getElem? (i := 504) (by decide +kernel)) (List.mem_of_getElem? (i := 505) (by decide +kernel)) (List.mem_of_getElem? (i := 506) (by decide +kernel)) (List.mem_of_getElem? (i := 507) (by decide +kernel)) (fun j hj => absurd hj (Nat.not_lt_zero j))
theorem st_compact {E : zG} (hzs : zS E) : zSv E "java/lang/String" "COMPACT_STRINGS" "Z" (.int 1) := zSv_i hzs ls_J0_COMPACT_STRINGS in_J0 (List.mem_of_getElem? (i := 4) (by decide +kernel))
theorem st_sioobe {E : zG} (hzs : zS E) : zSv E "jdk/internal/util/Preconditions" "SIOOBE_FORMATTER" "Ljava/util/function/BiFunction;" .null ∨ ∃ t, zSv E "jdk/internal/util/Preconditions" "SIOOBE_FORMATTER" "Ljava/util/function/BiFunction;" (.ref t) := by
  rcases zSv_r hzs ls_J3_SIOOBE_FORMATTER in_J3 (List.mem_of_getElem? (i := 7) (by decide +kernel)) with q | ⟨t, -, q⟩
  · exact Or.inl q
  · exact Or.inr ⟨t, q⟩
