/-- a word of the tables that holds from one state to the next -/
def zWd (w : Cond) : Prop := w ∈ lw_tbl ∧ goodWord w = true
theorem zwd {E : zG} {s : State} {args : Array Value} {w : Cond} (hzs : zS E) (hwm : E.2.2.1.WarmedH s.vm) (h : zWd w) : w.before args s = true := word_at hwm (good_of_word h.2) (hzs.1 w h.1)
theorem zKs {E : zG} {s : State} (hzs : zS E) (hwm : E.2.2.1.WarmedH s.vm) : va_K E.1 vwCl (zTys E) s := va_K.moved hwm.alike hzs.2.1
theorem zlt {h : zH} {a k : Nat} (ok : zOk h) (hk : hK h a = k + 1) : a < hN h := by
  rcases Nat.lt_or_ge a (hN h) with q | q
  · exact q
  · rw [ok.1 a q] at hk; exact absurd hk (by omega)
theorem zcells_at {E : zG} {ad : Nat → Nat} {h : zH} {a : Nat} (ha : a < hN h) : (zcells E ad h)[a]? = some (ad a, zcell E ad h a) := by
  unfold zcells
  rw [List.getElem?_map, List.getElem?_range ha]
  rfl
theorem zcells_len {E : zG} {ad : Nat → Nat} {h : zH} : (zcells E ad h).length = hN h := by unfold zcells; rw [List.length_map, List.length_range]
theorem zcells_obj {E : zG} {ad : Nat → Nat} {h : zH} {a ci : Nat} (ok : zOk h) (hk : hK h a = ci + 1) (hc : ci < 99) : (zcells E ad h)[a]? = some (ad a, .inr (ci, zobj ad h ci a)) := by
  rw [zcells_at (zlt ok hk)]
  unfold zcell
  rw [hk, if_pos (by omega)]
  rfl
theorem zcells_arr {E : zG} {ad : Nat → Nat} {h : zH} {a k : Nat} (ok : zOk h) (hk : hK h a = k + 1) (hc : 99 ≤ k) : (zcells E ad h)[a]? = some (ad a, .inl (E.2.1 (k + 1), zarr ad h a)) := by
  rw [zcells_at (zlt ok hk)]
  unfold zcell
  rw [hk, if_neg (by omega)]
theorem zobj_at {ad : Nat → Nat} {h : zH} {ci a k : Nat} {b : Bool} (hf : (zFl ci)[k]? = some b) : (zobj ad h ci a)[k]? = some (zfv ad h ci a k) := by
  have hlt := (List.getElem?_eq_some_iff.mp hf).1
  unfold zobj
  rw [List.getElem?_map, List.getElem?_range hlt]
  rfl
theorem zfv_i {ad : Nat → Nat} {h : zH} {ci a k : Nat} (hf : (zFl ci)[k]? = some false) : zfv ad h ci a k = .int (hI h (ci * 32 + k) a) := by
  unfold zfv
  rw [List.getD_eq_getElem?_getD, hf]
  rfl
theorem zfv_r {ad : Nat → Nat} {h : zH} {ci a k : Nat} (hf : (zFl ci)[k]? = some true) : zfv ad h ci a k = va_rf ((hR h (ci * 32 + k) a).map ad) := by
  unfold zfv
  rw [List.getD_eq_getElem?_getD, hf]
  rfl
theorem zDs {E : zG} {ad : Nat → Nat} {h : zH} (hj : zInj E ad (hN h)) : va_D (zA E) (zcells E ad h) := by
  have key : ∀ (k : Nat) (q : Nat × va_E), (zcells E ad h)[k]? = some q → k < hN h ∧ q.1 = ad k := by
    intro k q hk
    have hl := (List.getElem?_eq_some_iff.mp hk).1
    rw [zcells_len] at hl
    rw [zcells_at hl] at hk
    cases hk
    exact ⟨hl, rfl⟩
  refine ⟨fun i j p q hi hj2 hpq => ?_, fun k q hk => ?_⟩
  · obtain ⟨h1, h2⟩ := key i p hi
    obtain ⟨h3, h4⟩ := key j q hj2
    exact hj.1 i j h1 h3 (by rw [← h2, ← h4, hpq])
  · obtain ⟨h1, h2⟩ := key k q hk
    show E.2.2.1.heap.size ≤ q.1
    rw [h2]
    exact hj.2 k h1
theorem tr_rf (ad : Nat → Nat) (o : Option Nat) : tr ad (va_rf o) = va_rf (o.map ad) := by cases o <;> rfl
section ZG
variable {X : zX} {kc ks : Nat} {h : zH} {pc : Nat} {lo : List (Nat × Value)} {st : List Value} {cc : ByteArray} {own : String} {nL : Nat}
theorem zV.getI {ci k index N a : Nat} {Cn : String} {T : u_T} (C : zC X cc own nL) (d : decode cc pc = .ok (.getfield index, 3)) (hc : vwCl[ci]? = some (Cn, T, N)) (hT : ∀ w ∈ u_ws Cn T N, zWd w) (hk : k < N) (hf : (zFl ci)[k]? = some false) (hw : zWd (.fieldLink own index (T k).1 (T k).2.1 (T k).2.2.1)) (hK : hK h a = ci + 1) (hci : ci < 99) (kk : zV X kc ks h (pc + 3) lo (.int (hI h (ci * 32 + k) a) :: st)) : zV X kc ks h pc lo (.ref a :: st) := by
  obtain ⟨p, l, e, R, s, m, args, below, meth, c, E, ad0, n0, Z⟩ := X
  obtain ⟨hx, hb, hml, hown, hlk, hst, hzs, hwm, hsz, hzh⟩ := id C
  intro ad H rl ls e1 e2 w S ol os hl
  exact va_get hx hb (Ts := u_ws Cn T N) (fun v hv => zwd hzs hwm (hT v hv)) (fun _ q => q) hown (zKs hzs hwm) w.2.2.2.1 a (zcells_obj w.2.2.2.2.2 hK hci) hc k hk (zwd hzs hwm hw) (fun _ q => q) (v := .int (hI h (ci * 32 + k) a)) (by rw [zobj_at hf, zfv_i hf]) d (kk ad H rl ls e1 e2 w S ol ⟨trivial, os.2⟩ hl)
theorem zV.getNI {ci k index N a : Nat} {Cn host : String} {T : u_T} (C : zC X cc own nL) (d : decode cc pc = .ok (.getfield index, 3)) (hc : vwCl[ci]? = some (Cn, T, N)) (hT : ∀ w ∈ u_ws Cn T N, zWd w) (hk : k < N) (hf : (zFl ci)[k]? = some false) (hw : Cond.fieldLinkNest own index (T k).1 (T k).2.1 (T k).2.2.1 host ∈ lw_tbl) (hK : hK h a = ci + 1) (hci : ci < 99) (kk : zV X kc ks h (pc + 3) lo (.int (hI h (ci * 32 + k) a) :: st)) : zV X kc ks h pc lo (.ref a :: st) := by
  obtain ⟨p, l, e, R, s, m, args, below, meth, c, E, ad0, n0, Z⟩ := X
  obtain ⟨hx, hb, hml, hown, hlk, hst, hzs, hwm, hsz, hzh⟩ := id C
  intro ad H rl ls e1 e2 w S ol os hl
  exact va_getN hx hb (Ts := u_ws Cn T N) (fun v hv => zwd hzs hwm (hT v hv)) (fun _ q => q) hown (zKs hzs hwm) w.2.2.2.1 a (zcells_obj w.2.2.2.2.2 hK hci) hc k hk (va_Nw.use rfl (va_Nw.warmF hwm (va_Nw.of rfl (hzs.1 _ hw)))) (fun _ q => q) (v := .int (hI h (ci * 32 + k) a)) (by rw [zobj_at hf, zfv_i hf]) d (kk ad H rl ls e1 e2 w S ol ⟨trivial, os.2⟩ hl)
theorem zV.getR {ci k index N a b : Nat} {Cn : String} {T : u_T} (C : zC X cc own nL) (d : decode cc pc = .ok (.getfield index, 3)) (hc : vwCl[ci]? = some (Cn, T, N)) (hT : ∀ w ∈ u_ws Cn T N, zWd w) (hk : k < N) (hf : (zFl ci)[k]? = some true) (hw : zWd (.fieldLink own index (T k).1 (T k).2.1 (T k).2.2.1)) (hK : hK h a = ci + 1) (hci : ci < 99) (hv : hR h (ci * 32 + k) a = some b) (kk : zV X kc ks h (pc + 3) lo (.ref b :: st)) : zV X kc ks h pc lo (.ref a :: st) := by
  obtain ⟨p, l, e, R, s, m, args, below, meth, c, E, ad0, n0, Z⟩ := X
  obtain ⟨hx, hb, hml, hown, hlk, hst, hzs, hwm, hsz, hzh⟩ := id C
  intro ad H rl ls e1 e2 w S ol os hl
  exact va_get hx hb (Ts := u_ws Cn T N) (fun v hv => zwd hzs hwm (hT v hv)) (fun _ q => q) hown (zKs hzs hwm) w.2.2.2.1 a (zcells_obj w.2.2.2.2.2 hK hci) hc k hk (zwd hzs hwm hw) (fun _ q => q) (v := .ref (ad b)) (by rw [zobj_at hf, zfv_r hf, hv]; rfl) d (kk ad H rl ls e1 e2 w S ol ⟨w.2.2.2.2.2.2.1 _ _ _ hv, os.2⟩ hl)
theorem zV.getNR {ci k index N a b : Nat} {Cn host : String} {T : u_T} (C : zC X cc own nL) (d : decode cc pc = .ok (.getfield index, 3)) (hc : vwCl[ci]? = some (Cn, T, N)) (hT : ∀ w ∈ u_ws Cn T N, zWd w) (hk : k < N) (hf : (zFl ci)[k]? = some true) (hw : Cond.fieldLinkNest own index (T k).1 (T k).2.1 (T k).2.2.1 host ∈ lw_tbl) (hK : hK h a = ci + 1) (hci : ci < 99) (hv : hR h (ci * 32 + k) a = some b) (kk : zV X kc ks h (pc + 3) lo (.ref b :: st)) : zV X kc ks h pc lo (.ref a :: st) := by
  obtain ⟨p, l, e, R, s, m, args, below, meth, c, E, ad0, n0, Z⟩ := X
  obtain ⟨hx, hb, hml, hown, hlk, hst, hzs, hwm, hsz, hzh⟩ := id C
  intro ad H rl ls e1 e2 w S ol os hl
  exact va_getN hx hb (Ts := u_ws Cn T N) (fun v hv => zwd hzs hwm (hT v hv)) (fun _ q => q) hown (zKs hzs hwm) w.2.2.2.1 a (zcells_obj w.2.2.2.2.2 hK hci) hc k hk (va_Nw.use rfl (va_Nw.warmF hwm (va_Nw.of rfl (hzs.1 _ hw)))) (fun _ q => q) (v := .ref (ad b)) (by rw [zobj_at hf, zfv_r hf, hv]; rfl) d (kk ad H rl ls e1 e2 w S ol ⟨w.2.2.2.2.2.2.1 _ _ _ hv, os.2⟩ hl)

end ZG
theorem zset_eq {E : zG} {ad : Nat → Nat} {h h' : zH} {a : Nat} {e : va_E} (hn : hN h' = hN h) (h1 : ∀ b, b ≠ a → zcell E ad h' b = zcell E ad h b) (h2 : zcell E ad h' a = e) : (zcells E ad h).set a (ad a, e) = zcells E ad h' := by
  apply List.ext_getElem?
  intro b
  rw [List.getElem?_set]
  by_cases q : a = b
  · subst q
    rw [if_pos rfl]
    by_cases hl : a < (zcells E ad h).length
    · rw [if_pos hl, zcells_at (by rw [zcells_len] at hl; rw [hn]; exact hl), h2]
    · rw [if_neg hl, List.getElem?_eq_none (by rw [zcells_len] at hl ⊢; rw [hn]; exact Nat.not_lt.mp hl)]
  · rw [if_neg q]
    by_cases hl : b < hN h
    · rw [zcells_at hl, zcells_at (by rw [hn]; exact hl), h1 b (fun z => q z.symm)]
    · rw [List.getElem?_eq_none (by rw [zcells_len]; exact Nat.not_lt.mp hl), List.getElem?_eq_none (by rw [zcells_len, hn]; exact Nat.not_lt.mp hl)]
theorem up2_ne {α : Type} {f : Nat → Nat → α} {a b x y : Nat} {v : α} (h : ¬ (x = a ∧ y = b)) : up2 f a b v x y = f x y := if_neg h
theorem up2_eq {α : Type} {f : Nat → Nat → α} {a b : Nat} {v : α} : up2 f a b v a b = v := if_pos ⟨rfl, rfl⟩
theorem zobj_ext {ad : Nat → Nat} {h h' : zH} {ci ci' a b : Nat} (hh : ∀ k, k < (zFl ci).length → zfv ad h ci a k = zfv ad h' ci b k) : zobj ad h ci a = zobj ad h' ci b := by
  unfold zobj
  exact List.map_congr_left (fun k hk => hh k (List.mem_range.mp hk))
theorem zobj_set {ad : Nat → Nat} {h h' : zH} {ci a k : Nat} {v : Value} (hk : zfv ad h' ci a k = v) (ho : ∀ j, j ≠ k → zfv ad h' ci a j = zfv ad h ci a j) : (zobj ad h ci a).set k v = zobj ad h' ci a := by
  apply List.ext_getElem?
  intro j
  unfold zobj
  rw [List.getElem?_set, List.getElem?_map, List.getElem?_map, List.length_map, List.length_range]
  by_cases q : k = j
  · subst q
    rw [if_pos rfl]
    by_cases hl : k < (zFl ci).length
    · rw [if_pos hl, List.getElem?_range hl, Option.map_some, hk]
    · rw [if_neg hl, List.getElem?_eq_none (by rw [List.length_range]; exact Nat.not_lt.mp hl)]; rfl
  · rw [if_neg q]
    by_cases hl : j < (zFl ci).length
    · rw [List.getElem?_range hl, Option.map_some, Option.map_some, ho j (fun z => q z.symm)]
    · rw [List.getElem?_eq_none (by rw [List.length_range]; exact Nat.not_lt.mp hl)]
      rfl
theorem zsI_cells {E : zG} {ad : Nat → Nat} {h : zH} {ci a k : Nat} {v : Int32} (hk : hK h a = ci + 1) (hci : ci < 99) (hf : (zFl ci)[k]? = some false) : (zcells E ad h).set a (ad a, .inr (ci, (zobj ad h ci a).set k (.int v))) = zcells E ad (sI h (ci * 32 + k) a v) := by
  refine zset_eq rfl (fun b hb => ?_) ?_
  · unfold zcell
    have e : ∀ c j, zfv ad (sI h (ci * 32 + k) a v) c b j = zfv ad h c b j := fun c j => by
      unfold zfv
      rw [show hI (sI h (ci * 32 + k) a v) = up2 (hI h) (ci * 32 + k) a v from rfl, up2_ne (fun z => hb z.2)]
      rfl
    show (if hK h b < 100 then Sum.inr (hK h b - 1, zobj ad (sI h (ci * 32 + k) a v) (hK h b - 1) b) else Sum.inl (E.2.1 (hK h b), zarr ad (sI h (ci * 32 + k) a v) b)) = _
    rw [show zobj ad (sI h (ci * 32 + k) a v) (hK h b - 1) b = zobj ad h (hK h b - 1) b from List.map_congr_left (fun j _ => e _ j)]
    rfl
  · unfold zcell
    rw [show hK (sI h (ci * 32 + k) a v) a = ci + 1 from hk, if_pos (by omega)]
    refine congrArg (fun z => Sum.inr (ci, z)) (zobj_set ?_ (fun j hj => ?_)).symm
    · show zfv ad _ ci a k = _
      rw [zfv_i hf]
      exact congrArg Value.int up2_eq
    · show zfv ad _ ci a j = zfv ad _ ci a j
      unfold zfv
      rw [show hI (sI h (ci * 32 + k) a v) = up2 (hI h) (ci * 32 + k) a v from rfl, up2_ne (fun z => hj (by omega))]
      rfl
theorem zsR_cells {E : zG} {ad : Nat → Nat} {h : zH} {ci a k : Nat} {v : Option Nat} (hk : hK h a = ci + 1) (hci : ci < 99) (hf : (zFl ci)[k]? = some true) : (zcells E ad h).set a (ad a, .inr (ci, (zobj ad h ci a).set k (va_rf (v.map ad)))) = zcells E ad (sR h (ci * 32 + k) a v) := by
  refine zset_eq rfl (fun b hb => ?_) ?_
  · unfold zcell
    have e : ∀ c j, zfv ad (sR h (ci * 32 + k) a v) c b j = zfv ad h c b j := fun c j => by
      unfold zfv
      rw [show hR (sR h (ci * 32 + k) a v) = up2 (hR h) (ci * 32 + k) a v from rfl, up2_ne (fun z => hb z.2)]
      rfl
    show (if hK h b < 100 then Sum.inr (hK h b - 1, zobj ad (sR h (ci * 32 + k) a v) (hK h b - 1) b) else Sum.inl (E.2.1 (hK h b), zarr ad (sR h (ci * 32 + k) a v) b)) = _
    rw [show zobj ad (sR h (ci * 32 + k) a v) (hK h b - 1) b = zobj ad h (hK h b - 1) b from List.map_congr_left (fun j _ => e _ j)]
    rfl
  · unfold zcell
    rw [show hK (sR h (ci * 32 + k) a v) a = ci + 1 from hk, if_pos (by omega)]
    refine congrArg (fun z => Sum.inr (ci, z)) (zobj_set ?_ (fun j hj => ?_)).symm
    · show zfv ad _ ci a k = _
      rw [zfv_r hf]
      exact congrArg (fun o : Option Nat => va_rf (o.map ad)) up2_eq
    · show zfv ad _ ci a j = zfv ad _ ci a j
      unfold zfv
      rw [show hR (sR h (ci * 32 + k) a v) = up2 (hR h) (ci * 32 + k) a v from rfl, up2_ne (fun z => hj (by omega))]
      rfl
theorem zsaI_cells {E : zG} {ad : Nat → Nat} {h : zH} {a i K : Nat} {v : Int32} (hk : hK h a = K) (h1 : 100 ≤ K) (h2 : K ≤ 103) : (zcells E ad h).set a (ad a, .inl (E.2.1 K, hL h a, .inl (upd (aI h a) i v))) = zcells E ad (saI h a i v) := by
  subst hk
  refine zset_eq rfl (fun b hb => ?_) ?_
  · unfold zcell
    have e : aI (saI h a i v) b = aI h b := funext fun j => up2_ne (fun z => hb z.1)
    unfold zarr
    rw [e]
    rfl
  · unfold zcell
    rw [show hK (saI h a i v) a = hK h a from rfl, if_neg (by omega)]
    unfold zarr
    rw [show hK (saI h a i v) a = hK h a from rfl, if_pos h2]
    refine congrArg (fun z => Sum.inl (E.2.1 (hK h a), hL h a, Sum.inl z)) (funext fun j => ?_)
    show up2 (aI h) a i v a j = upd (aI h a) i v j
    unfold up2 upd
    by_cases q : j = i
    · rw [if_pos ⟨rfl, q⟩, if_pos q]
    · rw [if_neg (fun z => q z.2), if_neg q]
theorem zsaJ_cells {E : zG} {ad : Nat → Nat} {h : zH} {a i : Nat} {v : Int64} (hk : hK h a = 104) : (zcells E ad h).set a (ad a, .inl (E.2.1 104, hL h a, .inr (.inl (vp_updL (aJ h a) i v)))) = zcells E ad (saJ h a i v) := by
  refine zset_eq rfl (fun b hb => ?_) ?_
  · unfold zcell
    have e : aJ (saJ h a i v) b = aJ h b := funext fun j => up2_ne (fun z => hb z.1)
    unfold zarr
    rw [e]
    rfl
  · unfold zcell
    rw [show hK (saJ h a i v) a = 104 from hk, if_neg (by omega)]
    unfold zarr
    rw [show hK (saJ h a i v) a = 104 from hk, if_neg (by omega), if_pos rfl]
    refine congrArg (fun z => Sum.inl (E.2.1 104, hL h a, Sum.inr (Sum.inl z))) (funext fun j => ?_)
    show up2 (aJ h) a i v a j = vp_updL (aJ h a) i v j
    unfold up2 vp_updL
    by_cases q : j = i
    · rw [if_pos ⟨rfl, q⟩, if_pos q]
    · rw [if_neg (fun z => q z.2), if_neg q]
theorem zsaR_cells {E : zG} {ad : Nat → Nat} {h : zH} {a i K : Nat} {v : Option Nat} (hk : hK h a = K) (h1 : 106 ≤ K) : (zcells E ad h).set a (ad a, .inl (E.2.1 K, hL h a, .inr (.inr (.inr (.inr (va_up (fun j => (aR h a j).map ad) i (v.map ad))))))) = zcells E ad (saR h a i v) := by
  subst hk
  refine zset_eq rfl (fun b hb => ?_) ?_
  · unfold zcell
    have e : aR (saR h a i v) b = aR h b := funext fun j => up2_ne (fun z => hb z.1)
    unfold zarr
    rw [e]
    rfl
  · unfold zcell
    rw [show hK (saR h a i v) a = hK h a from rfl, if_neg (by omega)]
    unfold zarr
    rw [show hK (saR h a i v) a = hK h a from rfl, if_neg (by omega), if_neg (by omega), if_neg (by omega)]
    refine congrArg (fun z => Sum.inl (E.2.1 (hK h a), hL h a, Sum.inr (Sum.inr (Sum.inr (Sum.inr z))))) (funext fun j => ?_)
    show (up2 (aR h) a i v a j).map ad = va_up (fun j => (aR h a j).map ad) i (v.map ad) j
    unfold up2 va_up
    by_cases q : j = i
    · rw [if_pos ⟨rfl, q⟩, if_pos q]
    · rw [if_neg (fun z => q z.2), if_neg q]
theorem zsR_ok {h : zH} {f a : Nat} {v : Option Nat} (ok : zOk h) (hv : ∀ b, v = some b → b < hN h) : zOk (sR h f a v) := by
  refine ⟨ok.1, fun g b k hk => ?_, ok.2.2⟩
  have hk : up2 (hR h) f a v g b = some k := hk
  unfold up2 at hk
  split at hk
  · exact hv k hk
  · exact ok.2.1 g b k hk
theorem zsaR_ok {h : zH} {a i : Nat} {v : Option Nat} (ok : zOk h) (hv : ∀ b, v = some b → b < hN h) : zOk (saR h a i v) := by
  refine ⟨ok.1, ok.2.1, fun g b k hk => ?_⟩
  have hk : up2 (aR h) a i v g b = some k := hk
  unfold up2 at hk
  split at hk
  · exact hv k hk
  · exact ok.2.2 g b k hk
