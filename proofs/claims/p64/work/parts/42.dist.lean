/-! a square of numbers; distances -/
theorem aoa_moved {ty : FieldType} {u U : State} (hvm : u.vm.Alike U.vm) (h : va_AOA ty u) : va_AOA ty U := by
  have h : (Cond.arrayOver (.array ty)).holds #[] u none u [] = true := h
  simp only [Cond.holds, Cond.value, beq_iff_eq] at h
  cases hc : u.vm.findClass (FieldType.array ty).toString with
  | none => simp [hc] at h
  | some comp =>
    simp only [hc, Option.bind_some, Option.bind_eq_some_iff, Option.map_eq_some_iff] at h
    obtain ⟨c, h2, k, h3, hb⟩ := h
    obtain ⟨k', hk', he⟩ := hvm.2.2 _ _ h3
    have hi : (U.vm.classes.findIdx? fun (x : Class) => match x.kind with | .array component _ => component == comp | _ => false) = some c := by
      have e1 := va_idx_bare U.vm comp
      have e2 := va_idx_bare u.vm comp
      have e3 : U.vm.bare = u.vm.bare := by first | exact hvm.bare_eq | exact hvm.bare_eq.symm
      rw [e3] at e1
      exact (e1.symm.trans e2).trans h2
    have f1 : U.vm.findClass (FieldType.array ty).toString = some comp := by rw [hvm.findClass]; exact hc
    have fc : ∀ n, U.vm.findClass n = u.vm.findClass n := fun n => by rw [hvm.findClass]
    unfold va_AOA Cond.before Cond.holds
    simp only [Cond.value]
    rw [f1, Option.bind_some]
    refine (congrArg (fun o : Option Nat => (o.bind (fun c => (U.vm.classes[c]?).map fun (k : Class) => match k.kind with | .array _ t => decide (t = FieldType.array ty) && decide (U.vm.findClass ("[" ++ (FieldType.array ty).toString) = some c) | _ => false) == some true)) hi).trans ?_
    have hkk : k'.kind = k.kind := by rw [he]
    simp only [Option.bind_some, hk', Option.map_some, hkk, fc]
    exact beq_iff_eq.mpr (congrArg some hb)
def nNew (h : zH) (k z : Nat) : Nat → zH
  | 0 => h
  | n + 1 => hNew (nNew h k z n) k z
theorem nNew_N {h : zH} {k z : Nat} : ∀ n, hN (nNew h k z n) = hN h + n
  | 0 => rfl
  | n + 1 => congrArg (· + 1) (nNew_N n)
theorem nNew_e {h : zH} {k z c : Nat} (hc : c < hN h) : ∀ n, zEq h (nNew h k z n) c
  | 0 => zEq.refl h c
  | n + 1 => (nNew_e hc n).trans (zEq_new (by rw [nNew_N]; omega))
theorem nNew_at {h : zH} {k z : Nat} : ∀ n i, i < n → hK (nNew h k z n) (hN h + i) = k ∧ hL (nNew h k z n) (hN h + i) = z ∧ aI (nNew h k z n) (hN h + i) = fun _ => 0
  | 0, i, hi => absurd hi (by omega)
  | n + 1, i, hi => by
    by_cases e : i = n
    · subst e
      rw [← nNew_N (h := h) (k := k) (z := z) i]
      exact ⟨hK_newE, hL_newE, funext fun _ => aI_newE⟩
    · have hlt : hN h + i ≠ hN (nNew h k z n) := by rw [nNew_N]; omega
      obtain ⟨a1, a2, a3⟩ := nNew_at (h := h) (k := k) (z := z) n i (by omega)
      exact ⟨(hK_new hlt).trans a1, (hL_new hlt).trans a2, (funext fun j => aI_new hlt).trans a3⟩
theorem nNew_ok {h : zH} {k z : Nat} (hk : k ≠ 0) (ok : zOk h) : ∀ n, zOk (nNew h k z n)
  | 0 => ok
  | n + 1 => hNew_ok hk (nNew_ok hk ok n)
/-- the heap with a new square of 6 rows -/
def mnaH (h : zH) : zH := sQ (nNew (hNew h 108 6) 103 6 6) (hN h) (fun i => if i < 6 then some (hN h + 1 + i) else none)
theorem mnaH_N (h : zH) : hN (mnaH h) = hN h + 7 := rfl
theorem mnaH_e {h : zH} {c : Nat} (hc : c < hN h) : zEq h (mnaH h) c := ((zEq_new (by omega)).trans (nNew_e (Nat.lt_succ_of_lt hc) 6)).trans (zEq_sQ (by omega))
theorem mnaH_o {h : zH} : hK (mnaH h) (hN h) = 108 ∧ hL (mnaH h) (hN h) = 6 ∧ aR (mnaH h) (hN h) = fun i => if i < 6 then some (hN h + 1 + i) else none :=
  ⟨(nNew_e (h := hNew h 108 6) (k := 103) (z := 6) (Nat.lt_succ_self _) 6).1.trans hK_newE, (nNew_e (h := hNew h 108 6) (k := 103) (z := 6) (Nat.lt_succ_self _) 6).2.1.trans hL_newE, sQ_at⟩
theorem mnaH_r {h : zH} {i : Nat} (hi : i < 6) : hK (mnaH h) (hN h + 1 + i) = 103 ∧ hL (mnaH h) (hN h + 1 + i) = 6 ∧ aI (mnaH h) (hN h + 1 + i) = fun _ => 0 := nNew_at (h := hNew h 108 6) (k := 103) (z := 6) 6 i hi
theorem mnaH_ok {h : zH} (ok : zOk h) : zOk (mnaH h) := by
  have o := nNew_ok (k := 103) (z := 6) (by decide) (hNew_ok (k := 108) (z := 6) (by decide) ok) 6
  refine ⟨o.1, o.2.1, fun a i b hb => ?_⟩
  have hb : (if a = hN h then fun i => if i < 6 then some (hN h + 1 + i) else none else aR (nNew (hNew h 108 6) 103 6 6) a) i = some b := hb
  by_cases e : a = hN h
  · rw [if_pos e] at hb
    try dsimp only at hb
    split at hb
    · cases hb
      show _ < hN h + 7
      omega
    · cases hb
  · rw [if_neg e] at hb
    exact o.2.2 a i b hb
theorem zD_inj {E : zG} {ad : Nat → Nat} {h : zH} (hD : va_D (zA E) (zcells E ad h)) : zInj E ad (hN h) := ⟨fun i j hi hj e => hD.1 i j _ _ (zcells_at hi) (zcells_at hj) e, fun i hi => hD.2 i _ (zcells_at hi)⟩
theorem zcell_same {E : zG} {ad ad' : Nat → Nat} {h h' : zH} {b : Nat} (e : zEq h h' b) (hx : ∀ k, k < hN h → ad' k = ad k) (ok : zOk h) : zcell E ad' h' b = zcell E ad h b := by
  have hmap : ∀ (o : Option Nat), (∀ b, o = some b → b < hN h) → o.map ad' = o.map ad := by
    intro o ho
    cases o with
    | none => rfl
    | some b => exact congrArg some (hx b (ho b rfl))
  obtain ⟨e1, e2, e4, e3, e5, e6, e7, e8⟩ := e
  unfold zcell
  rw [e1]
  have h1 : ∀ ci, zobj ad' h' ci b = zobj ad h ci b := fun ci => List.map_congr_left (fun j _ => by
    unfold zfv
    rw [e3, e4, hmap _ (fun c hq => ok.2.1 _ _ _ hq)])
  have h2 : zarr ad' h' b = zarr ad h b := by
    unfold zarr
    rw [e1, e2, e5, e6, e7, e8]
    rw [show (fun i => (aR h b i).map ad') = (fun i => (aR h b i).map ad) from funext fun i => hmap _ (fun c hq => ok.2.2 _ _ _ hq)]
  rw [h1, h2]
theorem mna_cells {E : zG} {ad : Nat → Nat} {h : zH} {q : Nat} {r : Nat → Nat} (ok : zOk h) : zcells E ad h ++ [(q, .inl (E.2.1 108, 6, .inr (.inr (.inr (.inr (fun i => if i < 6 then some (r i) else none))))))] ++ (List.range 6).map (fun i => (r i, (.inl (E.2.1 103, (6, .inl (fun _ => 0))) : va_E))) = zcells E (fun k => if k < hN h then ad k else if k = hN h then q else r (k - hN h - 1)) (mnaH h) := by
  have hx : ∀ k, k < hN h → (fun k => if k < hN h then ad k else if k = hN h then q else r (k - hN h - 1)) k = ad k := fun k hk => if_pos hk
  have hq : (fun k => if k < hN h then ad k else if k = hN h then q else r (k - hN h - 1)) (hN h) = q := by dsimp only; rw [if_neg (by omega), if_pos rfl]
  have hr : ∀ i, (fun k => if k < hN h then ad k else if k = hN h then q else r (k - hN h - 1)) (hN h + 1 + i) = r i := fun i => by dsimp only; rw [if_neg (by omega), if_neg (by omega)]; congr 1; omega
  generalize (fun k => if k < hN h then ad k else if k = hN h then q else r (k - hN h - 1)) = ad' at hx hq hr ⊢
  have c0 : zcell E ad' (mnaH h) (hN h) = .inl (E.2.1 108, 6, .inr (.inr (.inr (.inr (fun i => if i < 6 then some (r i) else none))))) := by
    obtain ⟨k1, k2, k3⟩ := mnaH_o (h := h)
    unfold zcell
    rw [k1, if_neg (by omega)]
    unfold zarr
    rw [k1, if_neg (by omega), if_neg (by omega), if_neg (by omega), k2, k3]
    refine congrArg (fun z => (Sum.inl (E.2.1 108, 6, Sum.inr (Sum.inr (Sum.inr (Sum.inr z)))) : va_E)) (funext fun i => ?_)
    dsimp only
    by_cases z : i < 6
    · rw [if_pos z, if_pos z]; exact congrArg some (hr i)
    · rw [if_neg z, if_neg z]; rfl
  have ci : ∀ i, i < 6 → zcell E ad' (mnaH h) (hN h + 1 + i) = .inl (E.2.1 103, (6, .inl (fun _ => 0))) := fun i hi => by
    obtain ⟨k1, k2, k3⟩ := mnaH_r (h := h) hi
    unfold zcell
    rw [k1, if_neg (by omega)]
    unfold zarr
    rw [k1, if_pos (by omega), k2, k3]
  apply List.ext_getElem?
  intro k
  have hl : (zcells E ad h ++ [(q, (.inl (E.2.1 108, 6, .inr (.inr (.inr (.inr (fun i => if i < 6 then some (r i) else none))))) : va_E))]).length = hN h + 1 := by rw [List.length_append, zcells_len]; rfl
  rcases Nat.lt_or_ge k (hN h) with z | z
  · rw [List.getElem?_append_left (by rw [hl]; omega), List.getElem?_append_left (by rw [zcells_len]; exact z), zcells_at z, zcells_at (by rw [mnaH_N]; omega), hx k z, zcell_same (mnaH_e z) hx ok]
  · rcases Nat.lt_or_ge k (hN h + 1) with y | y
    · have e : k = hN h := by omega
      subst e
      rw [List.getElem?_append_left (by rw [hl]; omega), List.getElem?_append_right (by rw [zcells_len]; exact Nat.le_refl _), zcells_len, Nat.sub_self, zcells_at (by rw [mnaH_N]; omega), hq, c0]
      rfl
    · rw [List.getElem?_append_right (by rw [hl]; exact y), hl]
      rcases Nat.lt_or_ge k (hN h + 7) with x | x
      · rw [zcells_at (by rw [mnaH_N]; exact x), List.getElem?_map, List.getElem?_range (by omega)]
        obtain ⟨i, rfl⟩ : ∃ i, k = hN h + 1 + i := ⟨k - (hN h + 1), by omega⟩
        rw [hr i, ci i (by omega), Nat.add_sub_cancel_left]
        rfl
      · rw [List.getElem?_eq_none (by rw [List.length_map, List.length_range]; omega), List.getElem?_eq_none (by rw [zcells_len, mnaH_N]; exact x)]
theorem zV.mna {X : zX} {l : Launch} {E : zG} {kc ks : Nat} {h : zH} {pc : Nat} {lo : List (Nat × Value)} {rest : List Value} {cc : ByteArray} {own : String} {nL : Nat} {rm : Room} {index : Nat} (C : zC X cc own nL) (G : zGX X l E rm) (d : decode cc pc = .ok (.multianewarray index 2, 4)) (hw : zWd (.classLink own index "[[I") ∧ Cond.arrayOver (.array .int) ∈ lw_tbl ∧ zWd (.arrayClass .int)) (hRo : Nat.ble (kc + 7) rm.cells && Nat.ble (ks + 42) rm.slots) (kk : zV X (kc + 7) (ks + 42) (mnaH h) (pc + 4) lo (.ref (hN h) :: rest)) : zV X kc ks h pc lo (.int (nI 6) :: .int (nI 6) :: rest) := by
  obtain ⟨p, l', e, R, s, m, args, below, meth, c, E', ad0, n0, Z⟩ := X
  obtain ⟨hx, hb, hml, hown, hlk, hst, hzs, hwm, hsz, hzh⟩ := id C
  obtain ⟨rfl, rfl, rfl⟩ := id G
  intro ad H rl ls e1 e2 w S ol os hl
  rw [Bool.and_eq_true] at hRo
  have hc1 := Nat.le_of_ble_eq_true hRo.1
  have hc2 := Nat.le_of_ble_eq_true hRo.2
  refine va_mna (X := zcells E' ad h) (L := []) (f := fun _ => .inl (E'.2.1 103, (6, .inl (fun _ => 0)))) (cy := E'.2.1 103) (z := (6, .inl (fun _ => 0))) (n := nI 6) (k := nI 6) (N' := 6) (K' := 6) (ty := .int) hx hb hown (zwd hzs hwm hw.1) (aoa_moved hwm.alike (hzs.1 _ hw.2.1)) (zwd hzs hwm hw.2.2) (((zKs hzs hwm).2 2 _ (zTys_at E' 2 (by decide))).2) (zKs hzs hwm) (by show va_P _ _ (zcells E' ad h ++ []) H; rw [List.append_nil]; exact w.2.2.2.1) (by show va_D _ (zcells E' ad h ++ []); rw [List.append_nil]; exact zDs w.2.2.2.2.1) S (fun q hq => Nat.le_trans hsz hq) (by decide) (by decide) rfl rfl (by decide) (by decide) (by decide) (by decide) (by decide) (by omega) (by omega) (fun c => by show ({ cls := c, slots := Array.replicate 6 (.int 0), vm := .none } : Cell) = _; rw [arrV_new]; rfl) d (fun q r cA H1 hri hrL hK2 hP hD hS => ?_)
  have hcA := zcA (k := 108) (zKs hzs hwm) (zTys_at E' 7 (by decide)) hK2
  subst hcA
  have eL : va_pl ([] ++ (List.range 6).map r) (vr_up (fun _ => (.inl (E'.2.1 103, (6, .inl (fun _ => 0))) : va_E)) ((List.range 6).map r) (.inl (E'.2.1 103, (6, .inl (fun _ => 0))))) = (List.range 6).map (fun i => (r i, (.inl (E'.2.1 103, (6, .inl (fun _ => 0))) : va_E))) := by
    unfold va_pl
    rw [List.nil_append, List.map_map]
    refine List.map_congr_left (fun i hi => ?_)
    show (r i, vr_up _ _ _ (r i)) = _
    rw [vr_up_in (List.mem_map.mpr ⟨i, hi, rfl⟩)]
  rw [eL, mna_cells w.2.2.2.2.2] at hP hD
  have hext : ∀ k, k < hN h → (fun k => if k < hN h then ad k else if k = hN h then q else r (k - hN h - 1)) k = ad k := fun k hk => if_pos hk
  have hq : (fun k => if k < hN h then ad k else if k = hN h then q else r (k - hN h - 1)) (hN h) = q := by dsimp only; rw [if_neg (by omega), if_pos rfl]
  generalize (fun k => if k < hN h then ad k else if k = hN h then q else r (k - hN h - 1)) = ad' at hP hD hext hq
  have k2 := kk ad' H1 rl ls (fun k hk => (hext k (Nat.lt_of_lt_of_le hk e2)).trans (e1 k hk)) (by rw [mnaH_N]; omega) ⟨w.1, fun x hx => (hS.2.1 x (Nat.lt_of_lt_of_le hx hsz) (Nat.not_le.mpr hx)).trans (hzh x hx), Nat.le_trans hsz hS.1, hP, zD_inj hD, mnaH_ok w.2.2.2.2.2⟩ hS (zOkl_mono (by rw [mnaH_N]; omega) ol) ⟨by show hN h < hN (mnaH h); rw [mnaH_N]; omega, zOks_mono (by rw [mnaH_N]; omega) os.2.2⟩ (by rw [trl_congr hext ol]; exact hl)
  rw [List.map_cons, trs_congr hext os.2.2, show tr ad' (.ref (hN h)) = .ref q from congrArg Value.ref hq] at k2
  exact k2
/-! distances -/
theorem wnA_bit {nb : Nat → Nat} {s j : Nat} : ∀ k, (wnA nb s k).testBit j = true ↔ s.testBit j = true ∨ ∃ i, i < k ∧ s.testBit i = true ∧ (nb i).testBit j = true
  | 0 => ⟨Or.inl, fun h => h.elim id (fun ⟨i, hi, _⟩ => absurd hi (by omega))⟩
  | k + 1 => by
    rw [wnA]
    split
    · rw [Nat.testBit_or, Bool.or_eq_true, wnA_bit k]
      constructor
      · rintro ((h | ⟨i, h1, h2, h3⟩) | h)
        · exact Or.inl h
        · exact Or.inr ⟨i, by omega, h2, h3⟩
        · exact Or.inr ⟨k, by omega, by assumption, h⟩
      · rintro (h | ⟨i, h1, h2, h3⟩)
        · exact Or.inl (Or.inl h)
        · rcases Nat.lt_or_ge i k with z | z
          · exact Or.inl (Or.inr ⟨i, z, h2, h3⟩)
          · have e : i = k := by omega
            subst e
            exact Or.inr h3
    · rw [wnA_bit k]
      constructor
      · rintro (h | ⟨i, h1, h2, h3⟩)
        · exact Or.inl h
        · exact Or.inr ⟨i, by omega, h2, h3⟩
      · rintro (h | ⟨i, h1, h2, h3⟩)
        · exact Or.inl h
        · rcases Nat.lt_or_ge i k with z | z
          · exact Or.inr ⟨i, z, h2, h3⟩
          · have e : i = k := by omega
            subst e
            contradiction
theorem wn_bit {nb : Nat → Nat} {s j : Nat} : (wn nb s).testBit j = true ↔ s.testBit j = true ∨ ∃ i, i < 6 ∧ s.testBit i = true ∧ (nb i).testBit j = true := wnA_bit 6
/-- j is reached from i in n steps at most -/
def rch (nb : Nat → Nat) (n i j : Nat) : Prop := (wnI nb (2 ^ i) n).testBit j = true
theorem rch_0 {nb : Nat → Nat} {i j : Nat} : rch nb 0 i j ↔ i = j := by
  unfold rch wnI
  rw [Nat.testBit_two_pow]
  exact decide_eq_true_iff
theorem rch_s {nb : Nat → Nat} {n i j : Nat} : rch nb (n + 1) i j ↔ rch nb n i j ∨ ∃ k, k < 6 ∧ rch nb n i k ∧ (nb k).testBit j = true := wn_bit
theorem rch_mono {nb : Nat → Nat} {n m i j : Nat} (h : rch nb n i j) (hm : n ≤ m) : rch nb m i j := by
  induction m with
  | zero => have e : n = 0 := by omega
            subst e; exact h
  | succ m ih =>
    rcases Nat.lt_or_ge m n with z | z
    · have e : n = m + 1 := by omega
      subst e; exact h
    · exact rch_s.mpr (Or.inl (ih z))
theorem rch_tr {nb : Nat → Nat} {n i k : Nat} (h1 : rch nb n i k) : ∀ {m j}, rch nb m k j → rch nb (n + m) i j
  | 0, j, h2 => by rw [← rch_0.mp h2]; exact h1
  | m + 1, j, h2 => by
    rcases rch_s.mp h2 with h | ⟨x, hx, h3, h4⟩
    · exact rch_s.mpr (Or.inl (rch_tr h1 h))
    · exact rch_s.mpr (Or.inr ⟨x, hx, rch_tr h1 h3, h4⟩)
/-- the first step -/
theorem rch_f {nb : Nat → Nat} : ∀ {n i j : Nat}, rch nb (n + 1) i j → rch nb n i j ∨ ∃ k, (nb i).testBit k = true ∧ rch nb n k j
  | 0, i, j, h => by
    rcases rch_s.mp h with h | ⟨x, hx, h3, h4⟩
    · exact Or.inl h
    · rw [← rch_0.mp h3] at h4
      exact Or.inr ⟨j, h4, rch_0.mpr rfl⟩
  | n + 1, i, j, h => by
    rcases rch_s.mp h with h | ⟨x, hx, h3, h4⟩
    · exact Or.inl h
    · rcases rch_f h3 with h5 | ⟨k, h5, h6⟩
      · exact Or.inl (rch_s.mpr (Or.inr ⟨x, hx, h5, h4⟩))
      · exact Or.inr ⟨k, h5, rch_s.mpr (Or.inr ⟨x, hx, h6, h4⟩)⟩
theorem zst_some {nb : Nat → Nat} {i j m : Nat} : ∀ n k, zst nb j n k (wnI nb (2 ^ i) k) = some m → k ≤ m ∧ m < k + n ∧ rch nb m i j ∧ ∀ x, k ≤ x → x < m → ¬ rch nb x i j
  | 0, k, h => by cases h
  | n + 1, k, h => by
    rw [zst] at h
    split at h
    · cases h
      exact ⟨Nat.le_refl _, by omega, by assumption, fun x h1 h2 => absurd h2 (by omega)⟩
    · obtain ⟨h1, h2, h3, h4⟩ := zst_some n (k + 1) h
      refine ⟨by omega, by omega, h3, fun x h5 h6 => ?_⟩
      rcases Nat.lt_or_ge k x with z | z
      · exact h4 x z h6
      · have e : x = k := by omega
        subst e
        assumption
theorem zst_none {nb : Nat → Nat} {i j : Nat} : ∀ n k, zst nb j n k (wnI nb (2 ^ i) k) = none → ∀ x, k ≤ x → x < k + n → ¬ rch nb x i j
  | 0, k, h => fun x h1 h2 => absurd h2 (by omega)
  | n + 1, k, h => fun x h1 h2 => by
    rw [zst] at h
    split at h
    · cases h
    · rcases Nat.lt_or_ge k x with z | z
      · exact zst_none n (k + 1) h x z (by omega)
      · have e : x = k := by omega
        subst e
        assumption
theorem far_some {nb : Nat → Nat} {i j m : Nat} (h : far nb i j = some m) : m < 6 ∧ rch nb m i j ∧ ∀ x, x < m → ¬ rch nb x i j := by
  obtain ⟨h1, h2, h3, h4⟩ := zst_some 6 0 h
  exact ⟨by omega, h3, fun x hx => h4 x (Nat.zero_le _) hx⟩
theorem far_none {nb : Nat → Nat} {i j : Nat} (h : far nb i j = none) : ∀ x, x < 6 → ¬ rch nb x i j := fun x hx => zst_none 6 0 h x (Nat.zero_le _) (by omega)
/-- the distance, 6 where there is none -/
def dd (nb : Nat → Nat) (i j : Nat) : Nat := (far nb i j).getD 6
theorem dd_6 {nb : Nat → Nat} {i j : Nat} : dd nb i j ≤ 6 := by
  unfold dd
  rcases h : far nb i j with _ | m
  · exact Nat.le_refl _
  · have := (far_some h).1
    show m ≤ 6
    omega
theorem dd_le {nb : Nat → Nat} {i j n : Nat} (hn : n < 6) : dd nb i j ≤ n ↔ rch nb n i j := by
  unfold dd
  rcases h : far nb i j with _ | m
  · constructor
    · intro z
      have z : 6 ≤ n := z
      omega
    · intro z; exact absurd z (far_none h n hn)
  · obtain ⟨h1, h2, h3⟩ := far_some h
    constructor
    · intro z; exact rch_mono h2 z
    · intro z
      show m ≤ n
      rcases Nat.lt_or_ge n m with y | y
      · exact absurd z (h3 n y)
      · exact y
theorem dd_tri {nb : Nat → Nat} {i j k : Nat} : dd nb i j ≤ dd nb i k + dd nb k j := by
  rcases Nat.lt_or_ge (dd nb i k + dd nb k j) 6 with z | z
  · rw [dd_le z]
    exact rch_tr ((dd_le (by omega)).mp (Nat.le_refl _)) ((dd_le (by omega)).mp (Nat.le_refl _))
  · exact Nat.le_trans dd_6 z
theorem dd_0 {nb : Nat → Nat} {i : Nat} : dd nb i i = 0 := Nat.le_zero.mp ((dd_le (by omega)).mpr (rch_0.mpr rfl))
theorem dd_1 {nb : Nat → Nat} {i j : Nat} (hi : i < 6) (h : (nb i).testBit j = true) : dd nb i j ≤ 1 := (dd_le (by omega)).mpr (rch_s.mpr (Or.inr ⟨i, hi, rch_0.mpr rfl, h⟩))
theorem dd_o {nb : Nat → Nat} {i j : Nat} : oI (far nb i j) = if dd nb i j < 6 then nI (dd nb i j) else -1 := by
  unfold dd
  rcases h : far nb i j with _ | m
  · rfl
  · have := (far_some h).1
    show nI m = if m < 6 then nI m else -1
    rw [if_pos this]
/-- bounds that are neither below the distances nor above the first ones, and that no detour improves, are the distances -/
theorem dd_of {nb : Nat → Nat} {B : Nat → Nat → Nat} (h0 : ∀ i, i < 6 → B i i ≤ 0) (h1 : ∀ i j, i < 6 → j < 6 → (nb i).testBit j = true → B i j ≤ 1) (h6 : ∀ i j, i < 6 → j < 6 → B i j ≤ 6) (ht : ∀ i j k, i < 6 → j < 6 → k < 6 → B i j ≤ B i k + B k j) (hd : ∀ i j, i < 6 → j < 6 → dd nb i j ≤ B i j) : ∀ i j, i < 6 → j < 6 → B i j = dd nb i j := by
  have key : ∀ n i j, i < 6 → j < 6 → rch nb n i j → B i j ≤ n := by
    intro n
    induction n with
    | zero => intro i j hi hj h; rw [← rch_0.mp h]; exact h0 i hi
    | succ n ih =>
      intro i j hi hj h
      rcases rch_s.mp h with h | ⟨k, hk, h2, h3⟩
      · exact Nat.le_succ_of_le (ih i j hi hj h)
      · have a := ih i k hi hk h2
        have b := h1 k j hk hj h3
        have c := ht i j k hi hj hk
        omega
  intro i j hi hj
  refine Nat.le_antisymm ?_ (hd i j hi hj)
  rcases Nat.lt_or_ge (dd nb i j) 6 with z | z
  · exact key _ i j hi hj ((dd_le z).mp (Nat.le_refl _))
  · exact Nat.le_trans (h6 i j hi hj) z

