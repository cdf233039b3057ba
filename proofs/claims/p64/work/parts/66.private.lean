/-! a private method called by invokevirtual, whatever the receiver's class -/
section
variable {p : Program} {l : Launch} {e : Env} {R : Room} {s : State} {m : MethodId} {args : Array Value} {below : List Frame} {meth : Method} {c : Code} {T : State} {locs : List Loc} {cells slots : Nat}
theorem vx_callVP (X : Stand p l e R s m args below meth c T locs cells slots) (hexec : p.tables.exec = Jvm.exec) {own : String} {index : Nat} {y : MethodName} {bytes : ByteArray} {maxL : Nat} {ret : Option FieldType}
    (hown : s.vm.findClass own = some m.cls) (hlink : (Cond.methodLink own index y).before args s = true) (hinst : (Cond.instanceMethod y).before args s = true) (hpriv : s.PrivateAt y) {C9 : String} {x9 y9 : MethodName} (hse9 : (Cond.selects C9 x9 y9).before args s = true) (h99 : y9.cls = y.cls)
    (hcode : (Cond.code y bytes maxL ret).before args s = true) (hy : y.cls ≠ "java/lang/invoke/MethodHandle" ∧ y.cls ≠ "java/lang/invoke/VarHandle")
    {W9 : Nat} {Pre : Pt → Array Value → Prop} {Post : Pt → Array Value → Option Value → Pt → Prop} {PostX : Pt → Array Value → Addr → Pt → Prop} (hK : vx_Back l R p e below s args y 3 W9 Pre Post PostX)
    {b : Addr} {cellB : Cell} (hcell : T.heap[b]? = some cellB) (hobj : cellB.vm.isStatics = false)
    {g : JFrame} (hg : g.method = m) (hsize : g.locals.size = c.maxLocals) {argsL rest : List Value} (hlen : ∀ sig, parseMethodDescriptor y.desc = some sig → argsL.length = sig.parameters.length)
    (hstack : g.stack = argsL.reverse ++ .ref b :: rest) (hW : 2 * g.monitorRoom + (rest.map fun v => v.category).sum ≤ W9) (hdg : decode c.code g.pc = .ok (.invokevirtual index, 3))
    (hpre : ∀ vm₁, s.WarmedH vm₁ → Pre ⟨T.setVm vm₁, locs, cells, slots⟩ (Value.ref b :: argsL).toArray) :
    (∃ (v : Option Value) (vm₁ : Vm) (B : Pt), s.WarmedH vm₁ ∧ Stand p l e R s m args below meth c B.U B.locs B.cells B.slots ∧ Post ⟨T.setVm vm₁, locs, cells, slots⟩ (Value.ref b :: argsL).toArray v B ∧
      ∀ target, Steps p.tables e below (B.U.setTop { g with pc := g.pc + 3, stack := v.toList ++ rest }) target → Steps p.tables e below (T.setTop g) target) ∨
    (∃ (q : Addr) (vm₁ : Vm) (B : Pt), s.WarmedH vm₁ ∧ Stand p l e R s m args below meth c B.U B.locs B.cells B.slots ∧ PostX ⟨T.setVm vm₁, locs, cells, slots⟩ (Value.ref b :: argsL).toArray q B ∧
      Steps p.tables e below (T.setTop g) ((B.U.setTop { g with stack := rest }).pushFrame (.throwing q))) := by
  obtain ⟨mk, methM, hnamed, hmethM, hstM, habM⟩ := Cond.instanceMethod_spec hinst
  obtain ⟨methM', cM, hmethM', -, -, -, -, -, -, hsigM⟩ := Cond.code_spec hnamed hcode
  cases hmethM.symm.trans hmethM'
  obtain ⟨c2, r2, m2, q1, q2, q3, q4, kP, hkP, hkPi⟩ := Cond.selects_spec hse9
  have e9 : s.vm.findClass y.cls = some m2.cls := h99 ▸ findClass_of_methodNamed q3
  rw [Option.some.inj (e9.symm.trans (findClass_of_methodNamed hnamed))] at hkP
  have hselP : selectMethod e.platform s.vm cellB.cls mk = .method mk := selectMethod_private hmethM (hpriv mk methM hnamed hmethM)
  obtain ⟨vm₁, X₁, hstep₁⟩ := X.invokevirtual hexec hown hlink hnamed hmethM hstM hkP hkPi hy (a := b) (cell := cellB) hcell
    (fun z h => by rw [h] at hobj; cases hobj) hselP hmethM habM hkP hkPi (g := g) hg (argsL := argsL) (rest := rest) (hlen _ hsigM) hstack hdg
  rcases hK m meth c ⟨T.setVm vm₁, locs, cells, slots⟩ { g with stack := rest } (.invokevirtual index) mk (Value.ref b :: argsL).toArray X₁ hg hsize hdg hW (X₁.named hnamed) (hpre vm₁ X₁.warmed) with ⟨v, B, X', hpost, hsteps⟩ | ⟨q, B, X', hpost, hsteps⟩
  · exact Or.inl ⟨v, vm₁, B, X₁.warmed, X', hpost, fun target h => hstep₁ _ fun acts => by rw [doInvoke_state]; exact hsteps.trans h⟩
  · exact Or.inr ⟨q, vm₁, B, X₁.warmed, X', hpost, hstep₁ _ fun acts => by rw [doInvoke_state]; exact hsteps⟩
end
section
variable {p : Program} {l : Launch} {e : Env} {R : Room} {s : State} {m : MethodId} {args : Array Value} {below : List Frame} {meth : Method} {c : Code} {H : Heap} {locs : List Loc} {cells slots : Nat}
variable {y : MethodName} {bytes cc : ByteArray} {maxL nL mc ms n index : Nat} {ret : Option FieldType} {ws : List Cond} {rm : Room} {Pc : Array Value → State → Prop} {Qc : Array Value → State → Outcome → State → Prop} {XC : String → State → State → Prop} {free : Addr → Prop} {Ts : List Cond} {own C : String} {b : Addr} {As rest : List Value} {g : JFrame}
theorem vx_runVP (S : CallFix p m c cc nL s args Ts own) (hM : vx_Met l y ws rm Pc Qc XC mc ms free) (cw : CallB R s args own index y bytes maxL ret ws rm mc ms n ∧ (Cond.instanceMethod y).before args s = true ∧ s.PrivateAt y) {C9 : String} {x9 y9 : MethodName} (hse9 : (Cond.selects C9 x9 y9).before args s = true) (h99 : y9.cls = y.cls) (hp : PreV s H C b Pc As)
    (hg : g.method = m) (hn : As.length = n) (hsize : g.locals.size = nL) (hstack : g.stack = As.reverse ++ .ref b :: rest) (hW : 2 * g.monitorRoom + (rest.map fun v => v.category).sum ≤ 8) (hdg : decode cc g.pc = .ok (.invokevirtual index, 3)) (hf : cells + mc ≤ R.cells ∧ slots + ms ≤ R.slots) :
    vx_Run p l e R s m args below meth c H locs cells slots mc ms g rest (Qc (Value.ref b :: As).toArray) XC free := by
  have hK : vx_Back l R p e below s args y 3 8 (PreOf R mc ms Pc) (PostOf Qc mc ms free) (vx_Post XC mc ms free) := vx_callBack cw.1 hM hp.1
  obtain ⟨⟨-, -, -, -, -, -, hcode, -, hy, hlen, hl⟩, hin, hse⟩ := cw
  obtain ⟨hx, hb, hml, ho, -⟩ := S
  obtain ⟨-, ⟨cellB, hcB, hoB, hclB⟩, hPc⟩ := hp
  intro T hT X
  rcases vx_callVP X hx (bytes := bytes) (maxL := maxL) (ret := ret) ho hl hin hse hse9 h99 hcode hy hK (by rw [hT]; exact hcB) hoB hg (hsize.trans hml.symm) (argsL := As) (rest := rest) (fun sig h => hn.trans (hlen sig h)) hstack hW (by rw [hb]; exact hdg)
    (fun vm₁ hW₁ => ⟨hf.1, hf.2, hPc (T.setVm vm₁) hT hW₁⟩) with ⟨v, vm₁, ⟨U', l2, c2, s2⟩, hW₁, X', ⟨g', mk, t, L, e1, e2, hq, h1, hL, h2, h3⟩, st⟩ | ⟨q, vm₁, ⟨U', l2, c2, s2⟩, hW₁, X', ⟨g', mk, t, L, E, ce, e1, e2, hq, hce, hcv, hcl, h1, hL, h2, h3⟩, st⟩
  · dsimp only [Pt.U, Pt.locs, Pt.cells, Pt.slots] at X' e1 e2 h1 h2 h3 st
    subst h1; subst h2; subst h3
    exact Or.inl ⟨v, (T.setVm vm₁).calling g' mk (Value.ref b :: As).toArray, t, U', L, hT, X', hL, e1, e2, hq, st⟩
  · dsimp only [Pt.U, Pt.locs, Pt.cells, Pt.slots] at X' e1 e2 h1 h2 h3 st hcl
    subst h1; subst h2; subst h3
    exact Or.inr ⟨q, (T.setVm vm₁).calling g' mk (Value.ref b :: As).toArray, t, U', L, E, ce, hT, X', hL, e1, e2, hq, hce, hcv, vx_cls hW₁ hcl, st⟩
end
theorem zPriv {E : zG} {s : State} {y : MethodName} (hzs : zS E) (hwm : E.2.2.1.WarmedH s.vm) (h : Cond.privateMethod y ∈ lw_tbl) : s.PrivateAt y := fun mk meth h1 h2 => by
  have h3 := Cond.privateMethod_at (hzs.1 _ h)
  rw [named_alike hwm.alike] at h1
  rw [hwm.alike.method?] at h2
  exact h3 mk meth h1 h2
section
variable {X : zX} {l : Launch} {E : zG} {kc ks : Nat} {h : zH} {pc : Nat} {lo : List (Nat × Value)} {st rest : List Value} {cc bytes : ByteArray} {own : String} {nL : Nat} {rm rm' : Room} {mc ms n index maxL : Nat} {y : MethodName} {ret : Option FieldType} {As : List Value} {Qr : Option Value → zH → Prop} {Qx : String → zH → Prop}
theorem zV.callP {b ci N : Nat} {T : u_T} {Cn : String} (C : zC X cc own nL) (G : zGX X l E rm) (d : decode cc pc = .ok (.invokevirtual index, 3)) (hM : zMet l E y bytes maxL ret rm' mc ms (.ref b :: As) h Qr Qx) (hs : st = As.reverse ++ .ref b :: rest)
    (hw : zWd (.code y bytes maxL ret) ∧ zWd (.methodLink own index y) ∧ zWd (.instanceMethod y) ∧ Cond.privateMethod y ∈ lw_tbl ∧ zWd (.initialized y.cls)) {C9 : String} {x9 y9 : MethodName} (h9 : zWd (.selects C9 x9 y9)) (h99 : y9.cls = y.cls) (hd : zNm y n) (hn : As.length = n) (hR : zRm rm rm' maxL mc ms kc ks = true) (hst : Nat.ble (rest.map fun v => v.category).sum 8 = true)
    (hk : hK h b = ci + 1) (hci : vwCl[ci]? = some (Cn, T, N) ∧ ci < 99)
    (kk : ∀ (r : Option Value) (h' : zH), Qr r h' → hN h ≤ hN h' → zV X (kc + mc) (ks + ms) h' (pc + 3) lo (r.toList ++ rest))
    (kx : ∀ (Ex : String) (h' : zH), Qx Ex h' → hN h ≤ hN h' → zVX X (kc + mc) (ks + ms) h' pc lo rest Ex) : zV X kc ks h pc lo st := by
  obtain ⟨p, l', e, R, s, m, args, below, meth, c, E', ad0, n0, Z⟩ := X
  obtain ⟨hx, hb, hml, hown, hlk, hst2, hzs, hwm, hsz, hzh⟩ := id C
  obtain ⟨rfl, rfl, rfl⟩ := id G
  subst hs
  intro ad H rl ls e1 e2 w S ol os hl
  obtain ⟨r1, r2, r3⟩ := zRm_ok hR
  obtain ⟨o1, o2⟩ := zOks_split os
  refine z_after (a := (Value.ref (ad b) :: As.map (tr ad)).toArray) hwm hsz hzh e1 e2 S ol o2 hl ?_ kk kx
  exact vx_runVP (As := As.map (tr ad)) (C := Cn) (Ts := []) ⟨hx, hb, hml, hown, fun w hw => by cases hw⟩ (hM ad) ⟨⟨r2.1, r2.2, r1.1, r1.2, zpay hzs hwm hw.1, List.mem_cons_self, zwd hzs hwm hw.1, zwd hzs hwm hw.2.2.2.2, hd.1, zParse hd, zwd hzs hwm hw.2.1⟩, zwd hzs hwm hw.2.2.1, zPriv hzs hwm hw.2.2.2.1⟩ (zwd hzs hwm h9) h99
    ⟨zblind, zrecv (zKs hzs hwm) w hk hci.2 hci.1, fun U hU hW => ⟨rfl, by rw [hU]; exact zW_vm (State.WarmedH.trans hwm hW) w, o1⟩⟩ rfl (by rw [List.length_map]; exact hn) (hl.1.trans hml) (map_rev ad As rest b) (zroom hst) d r3
end
theorem pr_J5_ensure : Cond.privateMethod yJ5_ensureCapacityInternal_d00df ∈ lw_tbl := pm_5 _ (List.mem_of_getElem? (i := 233) (by decide +kernel))
theorem pr_J5_newCap : Cond.privateMethod yJ5_newCapacity_0f7a4 ∈ lw_tbl := pm_5 _ (List.mem_of_getElem? (i := 237) (by decide +kernel))
