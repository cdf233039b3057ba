section ZK
variable {X : zX} {l : Launch} {E : zG} {kc ks : Nat} {h : zH} {pc : Nat} {lo : List (Nat × Value)} {st rest : List Value} {cc bytes : ByteArray} {own : String} {nL : Nat} {rm rm' : Room} {mc ms n index maxL : Nat} {y : MethodName} {ret : Option FieldType} {As : List Value} {Qr : Option Value → zH → Prop} {Qx : String → zH → Prop}
/-- what a call asks of the callee's name -/
def zNm (y : MethodName) (n : Nat) : Prop := (y.cls ≠ "java/lang/invoke/MethodHandle" ∧ y.cls ≠ "java/lang/invoke/VarHandle") ∧ (parseMethodDescriptor y.desc).map (fun d => d.parameters.length) = some n
/-- room for a callee -/
def zRm (rm rm' : Room) (maxL mc ms kc ks : Nat) : Bool := Nat.ble (rm'.frames + 1) rm.frames && Nat.ble (8 + (maxL + 11) + rm'.locals) rm.locals && Nat.beq rm'.cells mc && Nat.beq rm'.slots ms && Nat.ble (kc + mc) rm.cells && Nat.ble (ks + ms) rm.slots
theorem zRm_ok (hq : zRm rm rm' maxL mc ms kc ks = true) : (rm'.frames + 1 ≤ rm.frames ∧ 8 + (maxL + 11) + rm'.locals ≤ rm.locals) ∧ (rm'.cells = mc ∧ rm'.slots = ms) ∧ kc + mc ≤ rm.cells ∧ ks + ms ≤ rm.slots := by
  simp only [zRm, Bool.and_eq_true] at hq
  obtain ⟨⟨⟨⟨⟨q1, q2⟩, q3⟩, q4⟩, q5⟩, q6⟩ := hq
  exact ⟨⟨Nat.le_of_ble_eq_true q1, Nat.le_of_ble_eq_true q2⟩, ⟨Nat.eq_of_beq_eq_true q3, Nat.eq_of_beq_eq_true q4⟩, Nat.le_of_ble_eq_true q5, Nat.le_of_ble_eq_true q6⟩
theorem zpay {E : zG} {s : State} {w0 : Cond} (hzs : zS E) (hwm : E.2.2.1.WarmedH s.vm) (hw : zWd w0) : ∀ w ∈ [w0], ∀ (a' : Array Value) (U : State), s.WarmedH U.vm → w.before a' U = true := by
  intro w h a' U hU
  rw [List.mem_singleton.mp h]
  exact zwd hzs (State.WarmedH.trans hwm hU) hw
theorem tr_catE (ad : Nat → Nat) (v : Value) : (tr ad v).category = v.category := by cases v <;> rfl
theorem cats_tr (ad : Nat → Nat) (st : List Value) : ((st.map (tr ad)).map fun v => v.category).sum = (st.map fun v => v.category).sum := by
  induction st with
  | nil => rfl
  | cons a t ih => simp only [List.map_cons, List.sum_cons, ih, tr_catE]
theorem zroom {m : MethodId} {pc : Nat} {ls : Array Slot} {st : List Value} {ad : Nat → Nat} {s0 : List Value} (hq : Nat.ble (st.map fun v => v.category).sum 8 = true) : 2 * (F0 m pc ls s0).monitorRoom + ((st.map (tr ad)).map fun v => v.category).sum ≤ 8 := by
  rw [cats_tr]
  exact lv_room (m := m) (pc := pc) (ls := ls) (rest := s0) (Nat.le_of_ble_eq_true hq)
theorem zParse (h : zNm y n) : ∀ sig, parseMethodDescriptor y.desc = some sig → n = sig.parameters.length := fun sig hs => by
  have h2 := h.2
  rw [hs] at h2
  exact (Option.some.inj h2).symm
theorem zOks_split {n : Nat} {As rest : List Value} {b : Nat} (h : zOks n (As.reverse ++ .ref b :: rest)) : zOks n (.ref b :: As) ∧ zOks n rest := by
  have hm := zOks_mem h
  exact ⟨zOks_of (fun v hv => hm v (by
    rcases List.mem_cons.mp hv with rfl | hv
    · simp
    · simp [hv])), zOks_of (fun v hv => hm v (by simp [hv]))⟩
theorem zOks_splitS {n : Nat} {As rest : List Value} (h : zOks n (As.reverse ++ rest)) : zOks n As ∧ zOks n rest := by
  have hm := zOks_mem h
  exact ⟨zOks_of (fun v hv => hm v (by simp [hv])), zOks_of (fun v hv => hm v (by simp [hv]))⟩
theorem map_rev (ad : Nat → Nat) (As rest : List Value) (b : Nat) : (As.reverse ++ .ref b :: rest).map (tr ad) = (As.map (tr ad)).reverse ++ .ref (ad b) :: rest.map (tr ad) := by simp [tr]
theorem map_revS (ad : Nat → Nat) (As rest : List Value) : (As.reverse ++ rest).map (tr ad) = (As.map (tr ad)).reverse ++ rest.map (tr ad) := by simp
theorem zrecv {E : zG} {ad : Nat → Nat} {h : zH} {s : State} {H : Heap} {b ci N : Nat} {Cn : String} {T : u_T} (hKs : va_K E.1 vwCl (zTys E) s) (w : zW E ad h s H) (hk : hK h b = ci + 1) (hci : ci < 99) (hc : vwCl[ci]? = some (Cn, T, N)) : ∃ cell : Cell, H[ad b]? = some cell ∧ cell.vm.isStatics = false ∧ s.vm.findClass Cn = some cell.cls :=
  va_recv hKs w.2.2.2.1 hc (zcells_obj w.2.2.2.2.2 hk hci)
theorem zV.callV {b ci N : Nat} {T : u_T} (C : zC X cc own nL) (G : zGX X l E rm) (d : decode cc pc = .ok (.invokevirtual index, 3)) (hM : zMet l E y bytes maxL ret rm' mc ms (.ref b :: As) h Qr Qx) (hs : st = As.reverse ++ .ref b :: rest)
    (hw : zWd (.code y bytes maxL ret) ∧ zWd (.methodLink own index y) ∧ zWd (.instanceMethod y) ∧ zWd (.selects y.cls y y) ∧ zWd (.initialized y.cls)) (hd : zNm y n) (hn : As.length = n) (hR : zRm rm rm' maxL mc ms kc ks = true) (hst : Nat.ble (rest.map fun v => v.category).sum 8 = true)
    (hk : hK h b = ci + 1) (hci : vwCl[ci]? = some (y.cls, T, N) ∧ ci < 99)
    (kk : ∀ (r : Option Value) (h' : zH), Qr r h' → hN h ≤ hN h' → zV X (kc + mc) (ks + ms) h' (pc + 3) lo (r.toList ++ rest))
    (kx : ∀ (Ex : String) (h' : zH), Qx Ex h' → hN h ≤ hN h' → zVX X (kc + mc) (ks + ms) h' pc lo rest Ex) : zV X kc ks h pc lo st := by
  obtain ⟨p, l', e, R, s, m, args, below, meth, c, E', ad0, n0, Z⟩ := X
  obtain ⟨hx, hb, hml, hown, hlk, hst2, hzs, hwm, hsz, hzh⟩ := id C
  obtain ⟨rfl, rfl, rfl⟩ := id G
  subst hs
  intro ad H rl ls e1 e2 w S ol os hl
  obtain ⟨r1, r2, r3⟩ := zRm_ok hR
  obtain ⟨o1, o2⟩ := zOks_split os
  refine z_after (a := (Value.ref (ad b) :: As.map (tr ad)).toArray) hwm hsz hzh e1 e2 S ol o2 hl ?_ kk kx
  exact vx_runV (As := As.map (tr ad)) (C := y.cls) (Ts := []) ⟨hx, hb, hml, hown, fun w hw => by cases hw⟩ (hM ad) ⟨⟨r2.1, r2.2, r1.1, r1.2, zpay hzs hwm hw.1, List.mem_cons_self, zwd hzs hwm hw.1, zwd hzs hwm hw.2.2.2.2, hd.1, zParse hd, zwd hzs hwm hw.2.1⟩, zwd hzs hwm hw.2.2.1, zwd hzs hwm hw.2.2.2.1⟩
    ⟨zblind, zrecv (zKs hzs hwm) w hk hci.2 hci.1, fun U hU hW => ⟨rfl, by rw [hU]; exact zW_vm (State.WarmedH.trans hwm hW) w, o1⟩⟩ rfl (by rw [List.length_map]; exact hn) (hl.1.trans hml) (map_rev ad As rest b) (zroom hst) d r3
theorem zV.callVN {b ci N : Nat} {T : u_T} {host : String} (C : zC X cc own nL) (G : zGX X l E rm) (d : decode cc pc = .ok (.invokevirtual index, 3)) (hM : zMet l E y bytes maxL ret rm' mc ms (.ref b :: As) h Qr Qx) (hs : st = As.reverse ++ .ref b :: rest)
    (hw : zWd (.code y bytes maxL ret) ∧ Cond.methodLinkNest own index y host ∈ lw_tbl ∧ zWd (.instanceMethod y) ∧ zWd (.selects y.cls y y) ∧ zWd (.initialized y.cls)) (hd : zNm y n) (hn : As.length = n) (hR : zRm rm rm' maxL mc ms kc ks = true) (hst : Nat.ble (rest.map fun v => v.category).sum 8 = true)
    (hk : hK h b = ci + 1) (hci : vwCl[ci]? = some (y.cls, T, N) ∧ ci < 99)
    (kk : ∀ (r : Option Value) (h' : zH), Qr r h' → hN h ≤ hN h' → zV X (kc + mc) (ks + ms) h' (pc + 3) lo (r.toList ++ rest))
    (kx : ∀ (Ex : String) (h' : zH), Qx Ex h' → hN h ≤ hN h' → zVX X (kc + mc) (ks + ms) h' pc lo rest Ex) : zV X kc ks h pc lo st := by
  obtain ⟨p, l', e, R, s, m, args, below, meth, c, E', ad0, n0, Z⟩ := X
  obtain ⟨hx, hb, hml, hown, hlk, hst2, hzs, hwm, hsz, hzh⟩ := id C
  obtain ⟨rfl, rfl, rfl⟩ := id G
  subst hs
  intro ad H rl ls e1 e2 w S ol os hl
  obtain ⟨r1, r2, r3⟩ := zRm_ok hR
  obtain ⟨o1, o2⟩ := zOks_split os
  refine z_after (a := (Value.ref (ad b) :: As.map (tr ad)).toArray) hwm hsz hzh e1 e2 S ol o2 hl ?_ kk kx
  exact vx_runVN (As := As.map (tr ad)) (C := y.cls) (Ts := []) ⟨hx, hb, hml, hown, fun w hw => by cases hw⟩ (hM ad) ⟨⟨⟨r2.1, r2.2, r1.1, r1.2, zpay hzs hwm hw.1, List.mem_cons_self⟩, zwd hzs hwm hw.1, zwd hzs hwm hw.2.2.2.2, hd.1, zParse hd, va_Nw.use rfl (va_Nw.warmM hwm (va_Nw.of rfl (hzs.1 _ hw.2.1)))⟩, zwd hzs hwm hw.2.2.1, zwd hzs hwm hw.2.2.2.1⟩
    ⟨zblind, zrecv (zKs hzs hwm) w hk hci.2 hci.1, fun U hU hW => ⟨rfl, by rw [hU]; exact zW_vm (State.WarmedH.trans hwm hW) w, o1⟩⟩ rfl (by rw [List.length_map]; exact hn) (hl.1.trans hml) (map_rev ad As rest b) (zroom hst) d r3
theorem zV.callS (C : zC X cc own nL) (G : zGX X l E rm) (d : decode cc pc = .ok (.invokestatic index, 3)) (hM : zMet l E y bytes maxL ret rm' mc ms As h Qr Qx) (hs : st = As.reverse ++ rest)
    (hw : zWd (.code y bytes maxL ret) ∧ zWd (.methodLink own index y) ∧ zWd (.static y) ∧ zWd (.initialized y.cls)) (hd : zNm y n) (hn : As.length = n) (hR : zRm rm rm' maxL mc ms kc ks = true) (hst : Nat.ble (rest.map fun v => v.category).sum 8 = true)
    (kk : ∀ (r : Option Value) (h' : zH), Qr r h' → hN h ≤ hN h' → zV X (kc + mc) (ks + ms) h' (pc + 3) lo (r.toList ++ rest))
    (kx : ∀ (Ex : String) (h' : zH), Qx Ex h' → hN h ≤ hN h' → zVX X (kc + mc) (ks + ms) h' pc lo rest Ex) : zV X kc ks h pc lo st := by
  obtain ⟨p, l', e, R, s, m, args, below, meth, c, E', ad0, n0, Z⟩ := X
  obtain ⟨hx, hb, hml, hown, hlk, hst2, hzs, hwm, hsz, hzh⟩ := id C
  obtain ⟨rfl, rfl, rfl⟩ := id G
  subst hs
  intro ad H rl ls e1 e2 w S ol os hl
  obtain ⟨r1, r2, r3⟩ := zRm_ok hR
  obtain ⟨o1, o2⟩ := zOks_splitS os
  refine z_after (a := (As.map (tr ad)).toArray) hwm hsz hzh e1 e2 S ol o2 hl ?_ kk kx
  exact vx_runS (As := As.map (tr ad)) (Ts := []) ⟨hx, hb, hml, hown, fun w hw => by cases hw⟩ (hM ad) ⟨⟨r2.1, r2.2, r1.1, r1.2, zpay hzs hwm hw.1, List.mem_cons_self, zwd hzs hwm hw.1, zwd hzs hwm hw.2.2.2, hd.1, zParse hd, zwd hzs hwm hw.2.1⟩, zwd hzs hwm hw.2.2.1⟩
    ⟨zblind, fun U hU hW => ⟨rfl, by rw [hU]; exact zW_vm (State.WarmedH.trans hwm hW) w, o1⟩⟩ rfl (by rw [List.length_map]; exact hn) (hl.1.trans hml) (map_revS ad As rest) (zroom hst) d r3
theorem zV.callSN {host : String} (C : zC X cc own nL) (G : zGX X l E rm) (d : decode cc pc = .ok (.invokestatic index, 3)) (hM : zMet l E y bytes maxL ret rm' mc ms As h Qr Qx) (hs : st = As.reverse ++ rest)
    (hw : zWd (.code y bytes maxL ret) ∧ Cond.methodLinkNest own index y host ∈ lw_tbl ∧ zWd (.static y) ∧ zWd (.initialized y.cls)) (hd : zNm y n) (hn : As.length = n) (hR : zRm rm rm' maxL mc ms kc ks = true) (hst : Nat.ble (rest.map fun v => v.category).sum 8 = true)
    (kk : ∀ (r : Option Value) (h' : zH), Qr r h' → hN h ≤ hN h' → zV X (kc + mc) (ks + ms) h' (pc + 3) lo (r.toList ++ rest))
    (kx : ∀ (Ex : String) (h' : zH), Qx Ex h' → hN h ≤ hN h' → zVX X (kc + mc) (ks + ms) h' pc lo rest Ex) : zV X kc ks h pc lo st := by
  obtain ⟨p, l', e, R, s, m, args, below, meth, c, E', ad0, n0, Z⟩ := X
  obtain ⟨hx, hb, hml, hown, hlk, hst2, hzs, hwm, hsz, hzh⟩ := id C
  obtain ⟨rfl, rfl, rfl⟩ := id G
  subst hs
  intro ad H rl ls e1 e2 w S ol os hl
  obtain ⟨r1, r2, r3⟩ := zRm_ok hR
  obtain ⟨o1, o2⟩ := zOks_splitS os
  refine z_after (a := (As.map (tr ad)).toArray) hwm hsz hzh e1 e2 S ol o2 hl ?_ kk kx
  exact vx_runSN (As := As.map (tr ad)) (Ts := []) ⟨hx, hb, hml, hown, fun w hw => by cases hw⟩ (hM ad) ⟨⟨⟨r2.1, r2.2, r1.1, r1.2, zpay hzs hwm hw.1, List.mem_cons_self⟩, zwd hzs hwm hw.1, zwd hzs hwm hw.2.2.2, hd.1, zParse hd, va_Nw.use rfl (va_Nw.warmM hwm (va_Nw.of rfl (hzs.1 _ hw.2.1)))⟩, zwd hzs hwm hw.2.2.1, trivial⟩
    ⟨zblind, fun U hU hW => ⟨rfl, by rw [hU]; exact zW_vm (State.WarmedH.trans hwm hW) w, o1⟩⟩ rfl (by rw [List.length_map]; exact hn) (hl.1.trans hml) (map_revS ad As rest) (zroom hst) d r3
theorem zV.callI {b : Nat} (C : zC X cc own nL) (G : zGX X l E rm) (d : decode cc pc = .ok (.invokespecial index, 3)) (hM : zMet l E y bytes maxL none rm' mc ms (.ref b :: As) h Qr Qx) (hs : st = As.reverse ++ .ref b :: rest)
    (hw : zWd (.code y bytes maxL none) ∧ zWd (.methodLink own index y) ∧ zWd (.instanceMethod y) ∧ zWd (.initialized y.cls)) (hy1 : y.name = "<init>") (hd : zNm y n) (hn : As.length = n) (hR : zRm rm rm' maxL mc ms kc ks = true) (hst : Nat.ble (rest.map fun v => v.category).sum 8 = true)
    (kk : ∀ (r : Option Value) (h' : zH), Qr r h' → hN h ≤ hN h' → zV X (kc + mc) (ks + ms) h' (pc + 3) lo (r.toList ++ rest))
    (kx : ∀ (Ex : String) (h' : zH), Qx Ex h' → hN h ≤ hN h' → zVX X (kc + mc) (ks + ms) h' pc lo rest Ex) : zV X kc ks h pc lo st := by
  obtain ⟨p, l', e, R, s, m, args, below, meth, c, E', ad0, n0, Z⟩ := X
  obtain ⟨hx, hb, hml, hown, hlk, hst2, hzs, hwm, hsz, hzh⟩ := id C
  obtain ⟨rfl, rfl, rfl⟩ := id G
  subst hs
  intro ad H rl ls e1 e2 w S ol os hl
  obtain ⟨r1, r2, r3⟩ := zRm_ok hR
  obtain ⟨o1, o2⟩ := zOks_split os
  refine z_after (a := (Value.ref (ad b) :: As.map (tr ad)).toArray) hwm hsz hzh e1 e2 S ol o2 hl ?_ kk kx
  exact vx_runI (As := As.map (tr ad)) (Ts := []) ⟨hx, hb, hml, hown, fun w hw => by cases hw⟩ (hM ad) ⟨⟨r2.1, r2.2, r1.1, r1.2, zpay hzs hwm hw.1, List.mem_cons_self, zwd hzs hwm hw.1, zwd hzs hwm hw.2.2.2, hd.1, zParse hd, zwd hzs hwm hw.2.1⟩, hy1, zwd hzs hwm hw.2.2.1⟩
    ⟨zblind, fun U hU hW => ⟨rfl, by rw [hU]; exact zW_vm (State.WarmedH.trans hwm hW) w, o1⟩⟩ rfl (by rw [List.length_map]; exact hn) (hl.1.trans hml) (map_rev ad As rest b) (zroom hst) d r3
theorem zV.callIN {b : Nat} {host : String} (C : zC X cc own nL) (G : zGX X l E rm) (d : decode cc pc = .ok (.invokespecial index, 3)) (hM : zMet l E y bytes maxL none rm' mc ms (.ref b :: As) h Qr Qx) (hs : st = As.reverse ++ .ref b :: rest)
    (hw : zWd (.code y bytes maxL none) ∧ Cond.methodLinkNest own index y host ∈ lw_tbl ∧ zWd (.instanceMethod y) ∧ zWd (.initialized y.cls)) (hy1 : y.name = "<init>") (hd : zNm y n) (hn : As.length = n) (hR : zRm rm rm' maxL mc ms kc ks = true) (hst : Nat.ble (rest.map fun v => v.category).sum 8 = true)
    (kk : ∀ (r : Option Value) (h' : zH), Qr r h' → hN h ≤ hN h' → zV X (kc + mc) (ks + ms) h' (pc + 3) lo (r.toList ++ rest))
    (kx : ∀ (Ex : String) (h' : zH), Qx Ex h' → hN h ≤ hN h' → zVX X (kc + mc) (ks + ms) h' pc lo rest Ex) : zV X kc ks h pc lo st := by
  obtain ⟨p, l', e, R, s, m, args, below, meth, c, E', ad0, n0, Z⟩ := X
  obtain ⟨hx, hb, hml, hown, hlk, hst2, hzs, hwm, hsz, hzh⟩ := id C
  obtain ⟨rfl, rfl, rfl⟩ := id G
  subst hs
  intro ad H rl ls e1 e2 w S ol os hl
  obtain ⟨r1, r2, r3⟩ := zRm_ok hR
  obtain ⟨o1, o2⟩ := zOks_split os
  refine z_after (a := (Value.ref (ad b) :: As.map (tr ad)).toArray) hwm hsz hzh e1 e2 S ol o2 hl ?_ kk kx
  exact vx_runIN (As := As.map (tr ad)) (Ts := []) ⟨hx, hb, hml, hown, fun w hw => by cases hw⟩ (hM ad) ⟨⟨⟨r2.1, r2.2, r1.1, r1.2, zpay hzs hwm hw.1, List.mem_cons_self⟩, zwd hzs hwm hw.1, zwd hzs hwm hw.2.2.2, hd.1, zParse hd, va_Nw.use rfl (va_Nw.warmM hwm (va_Nw.of rfl (hzs.1 _ hw.2.1)))⟩, hy1, zwd hzs hwm hw.2.2.1⟩
    ⟨zblind, fun U hU hW => ⟨rfl, by rw [hU]; exact zW_vm (State.WarmedH.trans hwm hW) w, o1⟩⟩ rfl (by rw [List.length_map]; exact hn) (hl.1.trans hml) (map_rev ad As rest b) (zroom hst) d r3
end ZK
/-- an exception that this method doesn't catch goes on to its caller -/
theorem zVX.out {X : zX} {kc ks : Nat} {h : zH} {pc : Nat} {lo : List (Nat × Value)} {st : List Value} {Ex : String} {cc : ByteArray} {own : String} {nL : Nat} {ret : Option FieldType} {mc ms : Nat} {Qr : Option Value → zH → Prop} {Qx : String → zH → Prop} (C : zC X cc own nL) (F : zF X ret mc ms Qr Qx) (q : Qx Ex h) (hc : kc ≤ mc ∧ ks ≤ ms) : zVX X kc ks h pc lo st Ex := by
  obtain ⟨p, l, e, R, s, m, args, below, meth, c, E, ad0, n0, Z⟩ := X
  obtain ⟨hx, hb, hml, hown, hlk, hst, hzs, hwm, hsz, hzh⟩ := id C
  obtain ⟨f1, f2, rfl⟩ := id F
  intro ad H rl ls ce q9 e1 e2 w S ol os hl hce hcv hcl
  exact vx_out (fun x hx => (f2 x hx).elim) hlk hce hcv hcl (fun t ht hvm => ⟨h, ad, q, e1, e2, by rw [ht]; exact w.2, by rw [ht]; exact S.1⟩) S.2.2 hc.1 hc.2
