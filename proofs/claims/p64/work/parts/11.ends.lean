section ZE
variable {X : zX} {l : Launch} {E : zG} {kc ks : Nat} {h : zH} {pc : Nat} {lo : List (Nat × Value)} {st rest : List Value} {cc : ByteArray} {own : String} {nL : Nat} {rm : Room} {mc ms : Nat} {Qr : Option Value → zH → Prop} {Qx : String → zH → Prop}
theorem zq_of {E : zG} {ad ad0 : Nat → Nat} {n0 : Nat} {s t : State} {H : Heap} {rl : List Loc} {a : Array Value} {v : Option Value} (hwm : E.2.2.1.WarmedH s.vm) (e1 : ∀ k, k < n0 → ad k = ad0 k) (e2 : n0 ≤ hN h) (w : zW E ad h s H) (S : va_S (zA E) s.heap H rl) (ht : t.heap = H) (hW : s.WarmedH t.vm) (q : Qr v h) (hv : ∀ z, v = some z → okV (hN h) z) : zQ E ad0 n0 Qr a s (.returned (v.map (tr ad))) t :=
  ⟨v, h, ad, rfl, q, e1, e2, by rw [ht]; exact zW_vm (State.WarmedH.trans hwm hW) w, hv, by rw [ht]; exact S.1⟩
theorem zV.iret {v : Int32} (C : zC X cc own nL) (F : zF X (some .int) mc ms Qr Qx) (d : decode cc pc = .ok (.ireturn, 1)) (hc : Nat.ble kc mc && Nat.ble ks ms) (q : Qr (some (.int v)) h) : zV X kc ks h pc lo [.int v] := by
  obtain ⟨p, l, e, R, s, m, args, below, meth, c, E, ad0, n0, Z⟩ := X
  obtain ⟨hx, hb, hml, hown, hlk, hst, hzs, hwm, hsz, hzh⟩ := id C
  obtain ⟨f1, f2, rfl⟩ := id F
  intro ad H rl ls e1 e2 w S ol os hl
  rw [Bool.and_eq_true] at hc
  refine vx_ret (W.widen (Nat.le_of_ble_eq_true hc.1) (Nat.le_of_ble_eq_true hc.2) ?_)
  exact W.iret (v := v) hx hb f1 (fun t ht hW => zq_of (v := some (.int v)) hwm e1 e2 w S ht hW q (fun z hz => by cases hz; trivial)) S.2.2 d
theorem zV.zret {v : Int32} {ty : FieldType} (C : zC X cc own nL) (F : zF X (some ty) mc ms Qr Qx) (d : decode cc pc = .ok (.ireturn, 1)) (hn : narrow ty (.int v) = .int v) (hc : Nat.ble kc mc && Nat.ble ks ms) (q : Qr (some (.int v)) h) : zV X kc ks h pc lo [.int v] := by
  obtain ⟨p, l, e, R, s, m, args, below, meth, c, E, ad0, n0, Z⟩ := X
  obtain ⟨hx, hb, hml, hown, hlk, hst, hzs, hwm, hsz, hzh⟩ := id C
  obtain ⟨f1, f2, rfl⟩ := id F
  intro ad H rl ls e1 e2 w S ol os hl
  rw [Bool.and_eq_true] at hc
  refine vx_ret (W.widen (Nat.le_of_ble_eq_true hc.1) (Nat.le_of_ble_eq_true hc.2) ?_)
  exact W.zret (v := v) hx hb f1 hn (fun t ht hW => zq_of (v := some (.int v)) hwm e1 e2 w S ht hW q (fun z hz => by cases hz; trivial)) S.2.2 d
theorem zV.vret (C : zC X cc own nL) (F : zF X none mc ms Qr Qx) (d : decode cc pc = .ok (.return_, 1)) (hc : Nat.ble kc mc && Nat.ble ks ms) (q : Qr none h) : zV X kc ks h pc lo [] := by
  obtain ⟨p, l, e, R, s, m, args, below, meth, c, E, ad0, n0, Z⟩ := X
  obtain ⟨hx, hb, hml, hown, hlk, hst, hzs, hwm, hsz, hzh⟩ := id C
  obtain ⟨f1, f2, rfl⟩ := id F
  intro ad H rl ls e1 e2 w S ol os hl
  rw [Bool.and_eq_true] at hc
  refine vx_ret (W.widen (Nat.le_of_ble_eq_true hc.1) (Nat.le_of_ble_eq_true hc.2) ?_)
  exact W.vret hx hb f1 (fun t ht hW => zq_of (v := none) hwm e1 e2 w S ht hW q (fun z hz => by cases hz)) S.2.2 d
theorem zV.aret {v : Value} {rt : FieldType} (C : zC X cc own nL) (F : zF X (some rt) mc ms Qr Qx) (d : decode cc pc = .ok (.areturn, 1)) (hrt : (∃ n, rt = .object n) ∨ ∃ t, rt = .array t) (hv : zref v = true) (hc : Nat.ble kc mc && Nat.ble ks ms) (q : Qr (some v) h) : zV X kc ks h pc lo [v] := by
  obtain ⟨p, l, e, R, s, m, args, below, meth, c, E, ad0, n0, Z⟩ := X
  obtain ⟨hx, hb, hml, hown, hlk, hst, hzs, hwm, hsz, hzh⟩ := id C
  obtain ⟨f1, f2, rfl⟩ := id F
  intro ad H rl ls e1 e2 w S ol os hl
  rw [Bool.and_eq_true] at hc
  refine vx_ret (W.widen (Nat.le_of_ble_eq_true hc.1) (Nat.le_of_ble_eq_true hc.2) ?_)
  exact W.aret (v := tr ad v) hx hb f1 hrt (by cases v <;> first | exact Or.inl rfl | exact Or.inr ⟨_, rfl⟩ | cases hv) (fun t ht hW => zq_of (v := some v) hwm e1 e2 w S ht hW q (fun z hz => by cases hz; exact os.1)) S.2.2 d
theorem zV.fret {v : UInt32} (C : zC X cc own nL) (F : zF X (some .float) mc ms Qr Qx) (d : decode cc pc = .ok (.freturn, 1)) (hc : Nat.ble kc mc && Nat.ble ks ms) (q : Qr (some (.float v)) h) : zV X kc ks h pc lo [.float v] := by
  obtain ⟨p, l, e, R, s, m, args, below, meth, c, E, ad0, n0, Z⟩ := X
  obtain ⟨hx, hb, hml, hown, hlk, hst, hzs, hwm, hsz, hzh⟩ := id C
  obtain ⟨f1, f2, rfl⟩ := id F
  intro ad H rl ls e1 e2 w S ol os hl
  rw [Bool.and_eq_true] at hc
  refine vx_ret (W.widen (Nat.le_of_ble_eq_true hc.1) (Nat.le_of_ble_eq_true hc.2) ?_)
  exact W.fret (v := v) hx hb f1 (fun t ht hW => zq_of (v := some (.float v)) hwm e1 e2 w S ht hW q (fun z hz => by cases hz; trivial)) S.2.2 d
theorem zV.dret {v : UInt64} (C : zC X cc own nL) (F : zF X (some .double) mc ms Qr Qx) (d : decode cc pc = .ok (.dreturn, 1)) (hc : Nat.ble kc mc && Nat.ble ks ms) (q : Qr (some (.double v)) h) : zV X kc ks h pc lo [.double v] := by
  obtain ⟨p, l, e, R, s, m, args, below, meth, c, E, ad0, n0, Z⟩ := X
  obtain ⟨hx, hb, hml, hown, hlk, hst, hzs, hwm, hsz, hzh⟩ := id C
  obtain ⟨f1, f2, rfl⟩ := id F
  intro ad H rl ls e1 e2 w S ol os hl
  rw [Bool.and_eq_true] at hc
  refine vx_ret (W.widen (Nat.le_of_ble_eq_true hc.1) (Nat.le_of_ble_eq_true hc.2) ?_)
  exact W.dret (v := v) hx hb f1 (fun t ht hW => zq_of (v := some (.double v)) hwm e1 e2 w S ht hW q (fun z hz => by cases hz; trivial)) S.2.2 d
/-- Object's constructor -/
theorem zV.obj {index a : Nat} (C : zC X cc own nL) (G : zGX X l E rm) (d : decode cc pc = .ok (.invokespecial index, 3)) (hw : zWd (.methodLink own index Lib.objectInit) ∧ zWd (.instanceMethod Lib.objectInit) ∧ zWd (.code Lib.objectInit ⟨#[0xb1]⟩ 1 none)) (hR : Nat.ble 1 rm.frames && Nat.ble 20 rm.locals) (hs : Nat.ble (rest.map fun v => v.category).sum 8 = true) (kk : zV X kc ks h (pc + 3) lo rest) : zV X kc ks h pc lo (.ref a :: rest) := by
  obtain ⟨p, l', e, R, s, m, args, below, meth, c, E', ad0, n0, Z⟩ := X
  obtain ⟨hx, hb, hml, hown, hlk, hst, hzs, hwm, hsz, hzh⟩ := id C
  obtain ⟨rfl, rfl, rfl⟩ := id G
  intro ad H rl ls e1 e2 w S ol os hl
  rw [Bool.and_eq_true] at hR
  refine W.objInit hx hb hown (zwd hzs hwm hw.1) (zwd hzs hwm hw.2.1) (zwd hzs hwm hw.2.2) (g := F0 m pc ls _) rfl hl.1 rfl d (Nat.le_of_ble_eq_true hR.1) ?_ (kk ad H rl ls e1 e2 w S ol os.2 hl)
  have h1 := zroom (m := m) (pc := pc) (ls := ls) (ad := ad) (s0 := (Value.ref a :: rest).map (tr ad)) hs
  have h2 := Nat.le_of_ble_eq_true hR.2
  omega
/-- new: one more cell -/
theorem hNew_ok {k z : Nat} (hk : k ≠ 0) (ok : zOk h) : zOk (hNew h k z) := by
  refine ⟨fun a ha => ?_, fun f a b hb => ?_, fun a i b hb => ?_⟩
  · have ha : hN h + 1 ≤ a := ha
    show va_up (hK h) (hN h) k a = 0
    unfold va_up
    rw [if_neg (by omega)]
    exact ok.1 a (by omega)
  · have hb : clr (hR h) (hN h) none f a = some b := hb
    unfold clr at hb
    split at hb
    · cases hb
    · exact Nat.lt_succ_of_lt (ok.2.1 f a b hb)
  · have hb : cla (aR h) (hN h) none a i = some b := hb
    unfold cla at hb
    split at hb
    · cases hb
    · exact Nat.lt_succ_of_lt (ok.2.2 a i b hb)
theorem hNew_cells {E : zG} {ad : Nat → Nat} {k z q : Nat} {e : va_E} (ok : zOk h) (he : zcell E (va_up ad (hN h) q) (hNew h k z) (hN h) = e) : zcells E ad h ++ [(q, e)] = zcells E (va_up ad (hN h) q) (hNew h k z) := by
  have hadk : ∀ b, b < hN h → va_up ad (hN h) q b = ad b := fun b hb => if_neg (by omega)
  have hmap : ∀ (o : Option Nat), (∀ b, o = some b → b < hN h) → o.map (va_up ad (hN h) q) = o.map ad := by
    intro o ho
    cases o with
    | none => rfl
    | some b => exact congrArg some (hadk b (ho b rfl))
  have hc : ∀ b, b < hN h → zcell E (va_up ad (hN h) q) (hNew h k z) b = zcell E ad h b := by
    intro b hb
    have hne : b ≠ hN h := by omega
    have e1 : hK (hNew h k z) b = hK h b := if_neg hne
    have e2 : hL (hNew h k z) b = hL h b := if_neg hne
    have e3 : ∀ f, hI (hNew h k z) f b = hI h f b := fun f => if_neg hne
    have e4 : ∀ f, hR (hNew h k z) f b = hR h f b := fun f => if_neg hne
    have e5 : aI (hNew h k z) b = aI h b := funext fun i => if_neg hne
    have e6 : aR (hNew h k z) b = aR h b := funext fun i => if_neg hne
    have e7 : aJ (hNew h k z) b = aJ h b := funext fun i => if_neg hne
    have e8 : aD (hNew h k z) b = aD h b := funext fun i => if_neg hne
    unfold zcell
    rw [e1]
    have h1 : ∀ ci, zobj (va_up ad (hN h) q) (hNew h k z) ci b = zobj ad h ci b := fun ci => List.map_congr_left (fun j _ => by
      unfold zfv
      rw [e3, e4, hmap _ (fun c hq => ok.2.1 _ _ _ hq)])
    have h2 : zarr (va_up ad (hN h) q) (hNew h k z) b = zarr ad h b := by
      unfold zarr
      rw [e1, e2, e5, e6, e7, e8]
      rw [show (fun i => (aR h b i).map (va_up ad (hN h) q)) = (fun i => (aR h b i).map ad) from funext fun i => hmap _ (fun c hq => ok.2.2 _ _ _ hq)]
    rw [h1, h2]
  unfold zcells
  rw [show hN (hNew h k z) = hN h + 1 from rfl, List.range_succ, List.map_append]
  congr 1
  · exact List.map_congr_left (fun b hb => by rw [hc b (List.mem_range.mp hb), hadk b (List.mem_range.mp hb)])
  · rw [List.map_singleton, he]
    rw [show va_up ad (hN h) q (hN h) = q from if_pos rfl]
theorem zInj_new {E : zG} {ad : Nat → Nat} {q n : Nat} (hj : zInj E ad n) (hq : ∀ k, k < n → ad k ≠ q) (hE : E.2.2.1.heap.size ≤ q) : zInj E (va_up ad n q) (n + 1) := by
  refine ⟨fun i j hi hj2 e => ?_, fun i hi => ?_⟩
  · unfold va_up at e
    by_cases h1 : i = n <;> by_cases h2 : j = n
    · omega
    · rw [if_pos h1, if_neg h2] at e
      exact absurd e.symm (hq j (by omega))
    · rw [if_neg h1, if_pos h2] at e
      exact absurd e (hq i (by omega))
    · rw [if_neg h1, if_neg h2] at e
      exact hj.1 i j (by omega) (by omega) e
  · unfold va_up
    by_cases h1 : i = n
    · rw [if_pos h1]; exact hE
    · rw [if_neg h1]; exact hj.2 i (by omega)
/-- a world with one more cell at q -/
theorem zW_new {E : zG} {ad : Nat → Nat} {s : State} {H H1 : Heap} {rl : List Loc} {q k z : Nat} {e : va_E} (hk : k ≠ 0) (hsz : E.2.2.1.heap.size ≤ s.heap.size) (hzh : ∀ q, q < E.2.2.1.heap.size → s.heap[q]? = E.2.2.1.heap[q]?) (w : zW E ad h s H) (hP : va_P E.1 vwCl (zcells E ad h ++ [(q, e)]) H1) (hD : va_D (zA E) (zcells E ad h ++ [(q, e)])) (S : va_S (zA E) s.heap H1 rl) (he : zcell E (va_up ad (hN h) q) (hNew h k z) (hN h) = e) : zW E (va_up ad (hN h) q) (hNew h k z) s H1 := by
  have hq : ∀ j, j < hN h → ad j ≠ q := by
    intro j hj e9
    have h1 : (zcells E ad h ++ [(q, e)])[j]? = some (ad j, zcell E ad h j) := by rw [List.getElem?_append_left (by rw [zcells_len]; exact hj), zcells_at hj]
    have h2 : (zcells E ad h ++ [(q, e)])[hN h]? = some (q, e) := by rw [List.getElem?_append_right (by rw [zcells_len]; exact Nat.le_refl _), zcells_len, Nat.sub_self]; rfl
    have := hD.1 j (hN h) _ _ h1 h2 e9
    omega
  have hqA : E.2.2.1.heap.size ≤ q := hD.2 (hN h) (q, e) (by rw [List.getElem?_append_right (by rw [zcells_len]; exact Nat.le_refl _), zcells_len, Nat.sub_self]; rfl)
  exact ⟨w.1, fun x hx => (S.2.1 x (Nat.lt_of_lt_of_le hx hsz) (Nat.not_le.mpr hx)).trans (hzh x hx), Nat.le_trans hsz S.1, by rw [← hNew_cells w.2.2.2.2.2 he]; exact hP, zInj_new w.2.2.2.2.1 hq hqA, hNew_ok hk w.2.2.2.2.2⟩
theorem zV.new {ci index N : Nat} {Cn : String} {T : u_T} {ty0 : Nat → FieldType} (C : zC X cc own nL) (G : zGX X l E rm) (d : decode cc pc = .ok (.new index, 3)) (K : zCl ci Cn T N ty0) (hw : zWd (.classLink own index Cn) ∧ zWd (.instantiable Cn N) ∧ zWd (.initialized Cn)) (hdf : ∀ j, j < N → defaultValue (ty0 j) = if (zFl ci).getD j false then .null else .int 0) (hRo : Nat.ble (kc + 1) rm.cells && Nat.ble (ks + N) rm.slots) (kk : zV X (kc + 1) (ks + N) (hNew h (ci + 1) 0) (pc + 3) lo (.ref (hN h) :: st)) : zV X kc ks h pc lo st := by
  obtain ⟨p, l', e, R, s, m, args, below, meth, c, E', ad0, n0, Z⟩ := X
  obtain ⟨hx, hb, hml, hown, hlk, hst, hzs, hwm, hsz, hzh⟩ := id C
  obtain ⟨rfl, rfl, rfl⟩ := id G
  intro ad H rl ls e1 e2 w S ol os hl
  rw [Bool.and_eq_true] at hRo
  obtain ⟨K1, K2, K3, K4, K5, K6⟩ := K
  refine va_new (fs := (List.range N).map (fun j => if (zFl ci).getD j false then .null else .int 0)) hx hb (Ts := u_ws Cn T N) (fun v hv => zwd hzs hwm (K2 v hv)) (fun _ q => q) ty0 K3 hown (zwd hzs hwm hw.1) (zwd hzs hwm hw.2.1) (zwd hzs hwm hw.2.2) (zKs hzs hwm) w.2.2.2.1 (zDs w.2.2.2.2.1) S (fun q hq => Nat.le_trans hsz hq) K1 (fun j hj => by
    rw [hdf j hj]
    unfold vp_V
    generalize hf : (fun j => if (zFl ci).getD j false then Value.null else Value.int 0) = f
    rw [List.getD_eq_getElem?_getD (l := (List.range N).map f), List.getElem?_map, List.getElem?_range hj, ← hf]
    rfl) (Nat.le_of_ble_eq_true hRo.1) (Nat.le_of_ble_eq_true hRo.2) d (fun q H1 hP hD hS => ?_)
  have hext : ∀ k, k < hN h → va_up ad (hN h) q k = ad k := fun k hk => if_neg (by omega)
  have hcell : zcell E' (va_up ad (hN h) q) (hNew h (ci + 1) 0) (hN h) = .inr (ci, (List.range N).map (fun j => if (zFl ci).getD j false then .null else .int 0)) := by
    have e1 : hK (hNew h (ci + 1) 0) (hN h) = ci + 1 := if_pos rfl
    unfold zcell
    rw [e1, if_pos (by omega)]
    refine congrArg (fun z => Sum.inr (ci, z)) ?_
    show zobj _ _ ci _ = _
    unfold zobj
    rw [K5]
    refine List.map_congr_left (fun j _ => ?_)
    unfold zfv
    rw [show hR (hNew h (ci + 1) 0) (ci * 32 + j) (hN h) = none from if_pos rfl, show hI (hNew h (ci + 1) 0) (ci * 32 + j) (hN h) = 0 from if_pos rfl]
    rfl
  have k2 := kk (va_up ad (hN h) q) H1 rl ls (fun k hk => (hext k (Nat.lt_of_lt_of_le hk e2)).trans (e1 k hk)) (Nat.le_succ_of_le e2) (zW_new (by omega) hsz hzh w hP hD hS hcell) hS (zOkl_mono (Nat.le_succ _) ol) ⟨Nat.lt_succ_self _, zOks_mono (Nat.le_succ _) os⟩ (by rw [trl_congr hext ol]; exact hl)
  rw [List.map_cons, trs_congr hext os, show tr (va_up ad (hN h) q) (.ref (hN h)) = .ref q from congrArg Value.ref (if_pos rfl)] at k2
  exact k2
end ZE
