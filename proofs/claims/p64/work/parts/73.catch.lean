/-! methods that catch what they call throws -/
theorem castable_mv {Ex nm : String} {args args' : Array Value} {u U : State} (hvm : u.vm.Alike U.vm) (h : (Cond.castable Ex nm).before args u = true) : (Cond.castable Ex nm).before args' U = true := by
  obtain ⟨c3, c4, h1, h2, h3⟩ := Cond.castable_spec h
  have g1 : U.vm.findClass Ex = some c3 := by rw [hvm.findClass]; exact h1
  have g2 : U.vm.findClass nm = some c4 := by rw [hvm.findClass]; exact h2
  have g3 : U.vm.assignable c3 c4 = true := by rw [hvm.assignable]; exact h3
  simp only [Cond.before, Cond.holds, Cond.value, g1, g2, g3]
  rfl
/-- what a method with a table of handlers owes at its end *)-/
def zFw (X : zX) (hh : List (Nat × Nat × Nat × Nat)) (ret : Option FieldType) (mc ms : Nat) (Qr : Option Value → zH → Prop) (Qx : String → zH → Prop) : Prop :=
  match X with
  | (p, l, e, R, s, m, args, below, meth, c, E, ad0, n0, Z) => meth.sig.returnType = ret ∧ c.exceptionTable.toList = tableOf hh ∧ Z = vx_MQ below (zQ E ad0 n0 Qr) (zQX E ad0 n0 Qx) args s mc ms (zA E)
def zMetW (l : Launch) (E : zG) (y : MethodName) (cc : ByteArray) (maxL : Nat) (ret : Option FieldType) (hh : List (Nat × Nat × Nat × Nat)) (rm : Room) (mc ms : Nat) (vs : List Value) (h : zH) (Qr : Option Value → zH → Prop) (Qx : String → zH → Prop) : Prop :=
  zMetL l E y (.codeWith y cc maxL ret hh) rm mc ms vs h Qr Qx
theorem zMW_start {l : Launch} {E : zG} {y : MethodName} {cc : ByteArray} {maxL : Nat} {ret : Option FieldType} {hh : List (Nat × Nat × Nat × Nat)} {rm : Room} {mc ms : Nat} {vs : List Value} {h : zH} {Qr : Option Value → zH → Prop} {Qx : String → zH → Prop}
    (hzs : zS E) (hst : l.stackTraces = false) (hy : plainName y.cls = true) (hlen : (lg_sl vs).length ≤ maxL)
    (body : ∀ X : zX, zC X cc y.cls maxL → zGX X l E rm → zFw X hh ret mc ms Qr Qx → zV X 0 0 h 0 (lv_args 0 vs) []) : zMetW l E y cc maxL ret hh rm mc ms vs h Qr Qx := by
  intro ad
  refine vx_ofWH (cc := cc) (maxL := maxL) (ret := ret) (hh := hh) hy rfl ?_
  intro p e s m args below meth c s₁ B hml hv
  have ht : c.exceptionTable.toList = tableOf hh := vx_table (x := y) B (atoms_spec B.pre _ List.mem_cons_self)
  obtain ⟨rfl, hw, hok⟩ := hv
  have hsl : ∀ l : List Value, (lg_sl (l.map (tr ad))).length = (lg_sl l).length := by
    intro l
    induction l with
    | nil => rfl
    | cons a t ih => cases a <;> simp [lg_sl, tr, Value.category, ih] at * <;> omega
  have hla : ∀ (l : List Value) (i : Nat), lv_args i (l.map (tr ad)) = trl ad (lv_args i l) := by
    intro l
    induction l with
    | nil => intro i; rfl
    | cons a t ih => intro i; cases a <;> simp [lv_args, tr, trl, Value.category] at * <;> exact ih _
  have hl := lv_entry (vs.map (tr ad)) (n := maxL) (by rw [hsl]; exact hlen)
  rw [lg_entry_eq]
  generalize (lg_sl (vs.map (tr ad)) ++ List.replicate (maxL - (lg_sl (vs.map (tr ad))).length) Slot.unset).toArray = ls at hl ⊢
  have okl : ∀ (l : List Value) (i : Nat), zOks (hN h) l → zOkl (hN h) (lv_args i l) := by
    intro l
    induction l with
    | nil => intro i _; trivial
    | cons a t ih => intro i hq; exact ⟨hq.1, ih _ hq.2⟩
  rw [hla] at hl
  exact body (p, l, e, rm, s, m, ((vs.map (tr ad)).toArray), below, meth, c, E, ad, hN h, _) ⟨B.exec, B.bytes, hml, findClass_of_methodNamed B.named, B.notSynchronized, hst, hzs, hw.1, hw.2.2.1, hw.2.1⟩ ⟨rfl, rfl, rfl⟩ ⟨B.returns, ht, rfl⟩ ad s.heap [] ls (fun _ _ => rfl) (Nat.le_refl _) hw va_S.rf (okl vs 0 hok) trivial (by rw [hml]; exact hl)
theorem zV.iretW {X : zX} {kc ks : Nat} {h : zH} {pc : Nat} {lo : List (Nat × Value)} {cc : ByteArray} {own : String} {nL : Nat} {hh : List (Nat × Nat × Nat × Nat)} {mc ms : Nat} {Qr : Option Value → zH → Prop} {Qx : String → zH → Prop} {v : Int32} (C : zC X cc own nL) (F : zFw X hh (some .int) mc ms Qr Qx) (d : decode cc pc = .ok (.ireturn, 1)) (hc : Nat.ble kc mc && Nat.ble ks ms) (q : Qr (some (.int v)) h) : zV X kc ks h pc lo [.int v] := by
  obtain ⟨p, l, e, R, s, m, args, below, meth, c, E, ad0, n0, Z⟩ := X
  obtain ⟨hx, hb, hml, hown, hlk, hst, hzs, hwm, hsz, hzh⟩ := id C
  obtain ⟨f1, f2, rfl⟩ := id F
  intro ad H rl ls e1 e2 w S ol os hl
  rw [Bool.and_eq_true] at hc
  refine vx_ret (W.widen (Nat.le_of_ble_eq_true hc.1) (Nat.le_of_ble_eq_true hc.2) ?_)
  exact W.iret (v := v) hx hb f1 (fun t ht hW => zq_of (v := some (.int v)) hwm e1 e2 w S ht hW q (fun z hz => by cases hz; trivial)) S.2.2 d
/-- an exception of Ex does not fit the handler's class *)-/
def zNc (Ex nm : String) : Prop := Cond.not (.castable Ex nm) ∈ flatC (Jvm.Cond.and given_1 narrow_1)
theorem zVX.catch {X : zX} {kc ks : Nat} {h : zH} {pc : Nat} {lo : List (Nat × Value)} {st : List Value} {Ex nm : String} {cc : ByteArray} {own : String} {nL : Nat} {hh : List (Nat × Nat × Nat × Nat)} {ret : Option FieldType} {mc ms : Nat} {Qr : Option Value → zH → Prop} {Qx : String → zH → Prop} (C : zC X cc own nL) (F : zFw X hh ret mc ms Qr Qx)
    (pre : List (Nat × Nat × Nat × Nat)) (x : Nat × Nat × Nat × Nat) (suf : List (Nat × Nat × Nat × Nat)) (hs : hh = pre ++ x :: suf) (hpass : ∀ z ∈ pre, z.2.2.2 ≠ 0 ∧ ∃ n9, zWd (.classLink own z.2.2.2 n9) ∧ zNc Ex n9) (hx : covers ⟨x.1, x.2.1, x.2.2.1, x.2.2.2⟩ pc = true) (h0 : x.2.2.2 ≠ 0)
    (hlink : zWd (.classLink own x.2.2.2 nm)) (hcast : (.castable Ex nm : Cond) ∈ lw_tbl) (kk : ∀ q, zV X kc ks h x.2.2.1 lo [.retAddr q]) : zVX X kc ks h pc lo st Ex := by
  obtain ⟨p, l, e, R, s, m, args, below, meth, c, E, ad0, n0, Z⟩ := X
  obtain ⟨hx9, hb, hml, hown, hlk, hst, hzs, hwm, hsz, hzh⟩ := id C
  obtain ⟨f1, f2, rfl⟩ := id F
  intro ad H rl ls ce q9 e1 e2 w S ol os hl hce hcv hcl
  refine vx_catch (name := nm) (E := Ex) hown (tableOf pre) ⟨x.1, x.2.1, x.2.2.1, x.2.2.2⟩ (tableOf suf) ?_ (fun z hz => ?_) hx h0 (zwd hzs hwm hlink) (castable_mv hwm.alike (hzs.1 _ hcast)) hce hcv hcl (kk q9 ad H rl ls e1 e2 w S ol ⟨trivial, trivial⟩ hl)
  · rw [f2, hs]
    unfold tableOf
    rw [List.map_append, List.map_cons]
  · obtain ⟨y, hy, rfl⟩ := List.mem_map.mp hz
    obtain ⟨h1, n9, h2, h3⟩ := hpass y hy
    exact Or.inr ⟨h1, n9, zwd hzs hwm h2, (va_Nc.of (flat_of_before _ hzs.2.2 _ h3)).moved hwm.alike⟩
section ZSW
variable {X : zX} {l : Launch} {E : zG} {kc ks : Nat} {h : zH} {pc : Nat} {lo : List (Nat × Value)} {st rest : List Value} {cc bytes : ByteArray} {own : String} {nL : Nat} {rm rm' : Room} {mc ms n index maxL : Nat} {y : MethodName} {ret : Option FieldType} {As : List Value} {Qr : Option Value → zH → Prop} {Qx : String → zH → Prop}
theorem zV.callSW {hh : List (Nat × Nat × Nat × Nat)} (C : zC X cc own nL) (G : zGX X l E rm) (d : decode cc pc = .ok (.invokestatic index, 3)) (hM : zMetW l E y bytes maxL ret hh rm' mc ms As h Qr Qx) (hs : st = As.reverse ++ rest)
    (hw : zWd (.codeWith y bytes maxL ret hh) ∧ zWd (.methodLink own index y) ∧ zWd (.static y) ∧ zWd (.initialized y.cls)) (hd : zNm y n) (hn : As.length = n) (hR : zRm rm rm' maxL mc ms kc ks = true) (hst : Nat.ble (rest.map fun v => v.category).sum 8 = true)
    (kk : ∀ (r : Option Value) (h' : zH), Qr r h' → hN h ≤ hN h' → zV X (kc + mc) (ks + ms) h' (pc + 3) lo (r.toList ++ rest))
    (kx : ∀ (Ex : String) (h' : zH), Qx Ex h' → hN h ≤ hN h' → zVX X (kc + mc) (ks + ms) h' pc lo rest Ex) : zV X kc ks h pc lo st := by
  obtain ⟨p, l', e, R, s, m, args, below, meth, c, E', ad0, n0, Z⟩ := X
  obtain ⟨hx, hb, hml, hown, hlk, hst2, hzs, hwm, hsz, hzh⟩ := id C
  obtain ⟨rfl, rfl, rfl⟩ := id G
  subst hs
  intro ad H rl ls e1 e2 w S ol os hl
  obtain ⟨r1, r2, r3⟩ := zRm_ok hR
  obtain ⟨o1, o2⟩ := zOks_splitS os
  refine z_after (a := (As.map (tr ad)).toArray) hwm hsz hzh e1 e2 S ol o2 hl ?_ kk kx
  exact vx_runSX (As := As.map (tr ad)) (Ts := []) ⟨hx, hb, hml, hown, fun w hw => by cases hw⟩ (hM ad) ⟨⟨r2.1, r2.2, r1.1, r1.2, zpay hzs hwm hw.1, List.mem_cons_self⟩, zwd hzs hwm hw.1, zwd hzs hwm hw.2.2.2, hd.1, zParse hd, zwd hzs hwm hw.2.1, zwd hzs hwm hw.2.2.1⟩
    ⟨zblind, fun U hU hW => ⟨rfl, by rw [hU]; exact zW_vm (State.WarmedH.trans hwm hW) w, o1⟩⟩ rfl (by rw [List.length_map]; exact hn) (hl.1.trans hml) (map_revS ad As rest) (zroom hst) d r3
end ZSW
