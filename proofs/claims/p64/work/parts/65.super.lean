/-! calls of a superclass's method -/
section ZSU
variable {X : zX} {l : Launch} {E : zG} {kc ks : Nat} {h : zH} {pc : Nat} {lo : List (Nat × Value)} {st rest : List Value} {cc bytes : ByteArray} {own : String} {nL : Nat} {rm rm' : Room} {mc ms n index maxL : Nat} {y : MethodName} {ret : Option FieldType} {As : List Value} {Qr : Option Value → zH → Prop} {Qx : String → zH → Prop}
/-- invokespecial of the superclass's own method, on an object -/
theorem zV.callSU {b ci N : Nat} {T : u_T} {Cn : String} (C : zC X cc own nL) (G : zGX X l E rm) (d : decode cc pc = .ok (.invokespecial index, 3)) (hM : zMet l E y bytes maxL ret rm' mc ms (.ref b :: As) h Qr Qx) (hs : st = As.reverse ++ .ref b :: rest)
    (hw : zWd (.code y bytes maxL ret) ∧ zWd (.methodLink own index y) ∧ zWd (.sameMethod y.cls y.cls y.name y.desc) ∧ zWd (.superclass own y.cls) ∧ zWd (.instanceMethod y) ∧ zWd (.initialized y.cls)) (hy1 : y.name ≠ "<init>") (hd : zNm y n) (hn : As.length = n) (hR : zRm rm rm' maxL mc ms kc ks = true) (hst : Nat.ble (rest.map fun v => v.category).sum 8 = true)
    (hk : hK h b = ci + 1) (hci : vwCl[ci]? = some (Cn, T, N) ∧ ci < 99)
    (kk : ∀ (r : Option Value) (h' : zH), Qr r h' → hN h ≤ hN h' → zV X (kc + mc) (ks + ms) h' (pc + 3) lo (r.toList ++ rest))
    (kx : ∀ (Ex : String) (h' : zH), Qx Ex h' → hN h ≤ hN h' → zVX X (kc + mc) (ks + ms) h' pc lo rest Ex) : zV X kc ks h pc lo st := by
  obtain ⟨p, l', e, R, s, m, args, below, meth, c, E', ad0, n0, Z⟩ := X
  obtain ⟨hx, hb, hml, hown, hlk, hst2, hzs, hwm, hsz, hzh⟩ := id C
  obtain ⟨rfl, rfl, rfl⟩ := id G
  subst hs
  intro ad H rl ls e1 e2 w S ol os hl
  obtain ⟨r1, r2, r3⟩ := zRm_ok hR
  obtain ⟨o1, o2⟩ := zOks_split os
  have hsig : ∀ sig, parseMethodDescriptor y.desc = some sig → n = sig.parameters.length := fun sig hh => by
    have h2 := hd.2
    rw [hh] at h2
    exact (Option.some.inj h2).symm
  refine z_after (a := (Value.ref (ad b) :: As.map (tr ad)).toArray) hwm hsz hzh e1 e2 S ol o2 hl ?_ kk kx
  exact vx_runSU (As := As.map (tr ad)) (C := Cn) (Ts := []) ((zKs hzs hwm).1 ci _ hci.1).2 ⟨hx, hb, hml, hown, fun w hw => by cases hw⟩ (hM ad) ⟨⟨r2.1, r2.2, r1.1, r1.2, zpay hzs hwm hw.1, List.mem_cons_self⟩, zwd hzs hwm hw.2.1, zwd hzs hwm hw.2.2.1, zwd hzs hwm hw.2.2.2.1, zwd hzs hwm hw.2.2.2.2.1, zwd hzs hwm hw.2.2.2.2.2, zwd hzs hwm hw.1, hy1, hsig⟩
    ⟨zblind, zrecv (zKs hzs hwm) w hk hci.2 hci.1, fun U hU hW => ⟨rfl, by rw [hU]; exact zW_vm (State.WarmedH.trans hwm hW) w, o1⟩⟩ rfl (by rw [List.length_map]; exact hn) (hl.1.trans hml) (map_rev ad As rest b) (zroom hst) d r3
/-- invokevirtual of a method that the receiver's class inherits -/
theorem zV.callU {b ci N : Nat} {T : u_T} {Cn : String} (C : zC X cc own nL) (G : zGX X l E rm) (d : decode cc pc = .ok (.invokevirtual index, 3)) (hM : zMet l E y bytes maxL ret rm' mc ms (.ref b :: As) h Qr Qx) (hs : st = As.reverse ++ .ref b :: rest)
    (hw : zWd (.code y bytes maxL ret) ∧ zWd (.methodLink own index y) ∧ zWd (.sameMethod y.cls y.cls y.name y.desc) ∧ zWd (.instanceMethod y) ∧ zWd (.selects Cn y y) ∧ zWd (.initialized y.cls)) (hd : zNm y n) (hn : As.length = n) (hR : zRm rm rm' maxL mc ms kc ks = true) (hst : Nat.ble (rest.map fun v => v.category).sum 8 = true)
    (hk : hK h b = ci + 1) (hci : vwCl[ci]? = some (Cn, T, N) ∧ ci < 99)
    (kk : ∀ (r : Option Value) (h' : zH), Qr r h' → hN h ≤ hN h' → zV X (kc + mc) (ks + ms) h' (pc + 3) lo (r.toList ++ rest))
    (kx : ∀ (Ex : String) (h' : zH), Qx Ex h' → hN h ≤ hN h' → zVX X (kc + mc) (ks + ms) h' pc lo rest Ex) : zV X kc ks h pc lo st := by
  obtain ⟨p, l', e, R, s, m, args, below, meth, c, E', ad0, n0, Z⟩ := X
  obtain ⟨hx, hb, hml, hown, hlk, hst2, hzs, hwm, hsz, hzh⟩ := id C
  obtain ⟨rfl, rfl, rfl⟩ := id G
  subst hs
  intro ad H rl ls e1 e2 w S ol os hl
  obtain ⟨r1, r2, r3⟩ := zRm_ok hR
  obtain ⟨o1, o2⟩ := zOks_split os
  have hsig : ∀ sig, parseMethodDescriptor y.desc = some sig → n = sig.parameters.length := fun sig hh => by
    have h2 := hd.2
    rw [hh] at h2
    exact (Option.some.inj h2).symm
  refine z_after (a := (Value.ref (ad b) :: As.map (tr ad)).toArray) hwm hsz hzh e1 e2 S ol o2 hl ?_ kk kx
  exact vx_runU (x := y) (owner := y.cls) (As := As.map (tr ad)) (C := Cn) (Ts := []) ⟨hx, hb, hml, hown, fun w hw => by cases hw⟩ (hM ad) ⟨⟨r2.1, r2.2, r1.1, r1.2, zpay hzs hwm hw.1, List.mem_cons_self⟩, zwd hzs hwm hw.1, zwd hzs hwm hw.2.2.2.2.2, hd.1, hsig, zwd hzs hwm hw.2.1, zwd hzs hwm hw.2.2.1, va_Decl.of (args := args) (zwd hzs hwm hw.2.2.2.1) (zwd hzs hwm hw.1), zwd hzs hwm hw.2.2.2.2.1, zwd hzs hwm hw.2.2.2.1⟩
    ⟨zblind, zrecv (zKs hzs hwm) w hk hci.2 hci.1, fun U hU hW => ⟨rfl, by rw [hU]; exact zW_vm (State.WarmedH.trans hwm hW) w, o1⟩⟩ rfl (by rw [List.length_map]; exact hn) (hl.1.trans hml) (map_rev ad As rest b) (zroom hst) d r3
end ZSU
