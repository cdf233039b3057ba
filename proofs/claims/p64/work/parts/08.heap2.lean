
theorem zW_of {E : zG} {ad : Nat → Nat} {h h' : zH} {s : State} {H H1 : Heap} {rl : List Loc} (hsz : E.2.2.1.heap.size ≤ s.heap.size) (hzh : ∀ q, q < E.2.2.1.heap.size → s.heap[q]? = E.2.2.1.heap[q]?) (w : zW E ad h s H) (hP : va_P E.1 vwCl (zcells E ad h') H1) (S : va_S (zA E) s.heap H1 rl) (hn : hN h' = hN h) (ok : zOk h') : zW E ad h' s H1 :=
  ⟨w.1, fun q hq => (S.2.1 q (Nat.lt_of_lt_of_le hq hsz) (Nat.not_le.mpr hq)).trans (hzh q hq), Nat.le_trans hsz S.1, hP, by rw [hn]; exact w.2.2.2.2.1, ok⟩
/-- a class of the world: its place in vwCl, its fields and their types -/
def zCl (ci : Nat) (Cn : String) (T : u_T) (N : Nat) (ty0 : Nat → FieldType) : Prop :=
  vwCl[ci]? = some (Cn, T, N) ∧ (∀ w ∈ u_ws Cn T N, zWd w) ∧ (∀ k, k < N → parseFieldDescriptor (T k).2.2.1 = some (ty0 k)) ∧ (∀ a, a < N → ∀ b, b < N → a ≠ b → (T a).2.1 ≠ (T b).2.1) ∧ (zFl ci).length = N ∧ ci < 99
theorem zOk_I {h : zH} {f a : Nat} {v : Int32} (ok : zOk h) : zOk (sI h f a v) := ok
theorem zOk_aI {h : zH} {a i : Nat} {v : Int32} (ok : zOk h) : zOk (saI h a i v) := ok
theorem zin {j n : Nat} {i : Int32} (hi : i = nI j) (hj : j < n) (hb : j < 2 ^ 31) : vp_in i n := by
  rw [hi]
  intro q
  rw [nI_clamp hb] at q
  rcases q with q | q
  · exact nI_pos hb q
  · omega
theorem zcl {j : Nat} {i : Int32} (hi : i = nI j) (hb : j < 2 ^ 31) : i.toNatClampNeg = j := by rw [hi, nI_clamp hb]
theorem zTys_at (E : zG) (k : Nat) (h : k < 8) : (zTys E)[k]? = some (E.2.1 (101 + k), zTy (101 + k)) := by
  unfold zTys
  rw [List.getElem?_map, List.getElem?_range h]
  rfl

section ZP
variable {X : zX} {kc ks : Nat} {h : zH} {pc : Nat} {lo : List (Nat × Value)} {st : List Value} {cc : ByteArray} {own : String} {nL : Nat}

theorem zV.putI {ci k index N a : Nat} {Cn : String} {T : u_T} {ty0 : Nat → FieldType} {x : Int32} (C : zC X cc own nL) (d : decode cc pc = .ok (.putfield index, 3)) (K : zCl ci Cn T N ty0) (hk : k < N) (hf : (zFl ci)[k]? = some false) (hw : zWd (.fieldLink own index (T k).1 (T k).2.1 (T k).2.2.1)) (hfin : (T k).2.2.2 = false) (hK : hK h a = ci + 1) (hx9 : narrow (ty0 k) (.int x) = .int x ∧ fits (ty0 k) (.int x) = true) (kk : zV X kc ks (sI h (ci * 32 + k) a x) (pc + 3) lo st) : zV X kc ks h pc lo (.int x :: .ref a :: st) := by
  obtain ⟨p, l, e, R, s, m, args, below, meth, c, E, ad0, n0, Z⟩ := X
  obtain ⟨hx, hb, hml, hown, hlk, hst, hzs, hwm, hsz, hzh⟩ := id C
  intro ad H rl ls e1 e2 w S ol os hl
  refine va_put (v := .int x) hx hb (Ts := u_ws Cn T N) (fun v hv => zwd hzs hwm (K.2.1 v hv)) (fun _ q => q) ty0 K.2.2.1 K.2.2.2.1 hown (zKs hzs hwm) w.2.2.2.1 (zDs w.2.2.2.2.1) S a (zcells_obj w.2.2.2.2.2 hK K.2.2.2.2.2) K.1 k hk (zwd hzs hwm hw) (fun _ q => q) hfin (K.2.2.1 k hk) hx9.1 hx9.2 (by unfold zobj; rw [List.length_map, List.length_range, K.2.2.2.2.1]; exact hk) d (fun H1 rl1 hP hD hS => ?_)
  rw [zsI_cells hK K.2.2.2.2.2 hf] at hP
  exact kk ad H1 rl1 ls e1 e2 (zW_of hsz hzh w hP hS rfl w.2.2.2.2.2) hS ol os.2.2 hl
theorem zV.putNI {ci k index N a : Nat} {Cn host : String} {T : u_T} {ty0 : Nat → FieldType} {x : Int32} (C : zC X cc own nL) (d : decode cc pc = .ok (.putfield index, 3)) (K : zCl ci Cn T N ty0) (hk : k < N) (hf : (zFl ci)[k]? = some false) (hw : Cond.fieldLinkNest own index (T k).1 (T k).2.1 (T k).2.2.1 host ∈ lw_tbl) (hfin : (T k).2.2.2 = false) (hK : hK h a = ci + 1) (hx9 : narrow (ty0 k) (.int x) = .int x ∧ fits (ty0 k) (.int x) = true) (kk : zV X kc ks (sI h (ci * 32 + k) a x) (pc + 3) lo st) : zV X kc ks h pc lo (.int x :: .ref a :: st) := by
  obtain ⟨p, l, e, R, s, m, args, below, meth, c, E, ad0, n0, Z⟩ := X
  obtain ⟨hx, hb, hml, hown, hlk, hst, hzs, hwm, hsz, hzh⟩ := id C
  intro ad H rl ls e1 e2 w S ol os hl
  refine va_putN (v := .int x) hx hb (Ts := u_ws Cn T N) (fun v hv => zwd hzs hwm (K.2.1 v hv)) (fun _ q => q) ty0 K.2.2.1 K.2.2.2.1 hown (zKs hzs hwm) w.2.2.2.1 (zDs w.2.2.2.2.1) S a (zcells_obj w.2.2.2.2.2 hK K.2.2.2.2.2) K.1 k hk (va_Nw.use rfl (va_Nw.warmF hwm (va_Nw.of rfl (hzs.1 _ hw)))) (fun _ q => q) hfin (K.2.2.1 k hk) hx9.1 hx9.2 (by unfold zobj; rw [List.length_map, List.length_range, K.2.2.2.2.1]; exact hk) d (fun H1 rl1 hP hD hS => ?_)
  rw [zsI_cells hK K.2.2.2.2.2 hf] at hP
  exact kk ad H1 rl1 ls e1 e2 (zW_of hsz hzh w hP hS rfl w.2.2.2.2.2) hS ol os.2.2 hl
theorem zV.putR {ci k index N a b : Nat} {Cn : String} {T : u_T} {ty0 : Nat → FieldType} (C : zC X cc own nL) (d : decode cc pc = .ok (.putfield index, 3)) (K : zCl ci Cn T N ty0) (hk : k < N) (hf : (zFl ci)[k]? = some true) (hw : zWd (.fieldLink own index (T k).1 (T k).2.1 (T k).2.2.1)) (hfin : (T k).2.2.2 = false) (hK : hK h a = ci + 1) (hx9 : ∀ q, narrow (ty0 k) (.ref q) = .ref q ∧ fits (ty0 k) (.ref q) = true) (kk : zV X kc ks (sR h (ci * 32 + k) a (some b)) (pc + 3) lo st) : zV X kc ks h pc lo (.ref b :: .ref a :: st) := by
  obtain ⟨p, l, e, R, s, m, args, below, meth, c, E, ad0, n0, Z⟩ := X
  obtain ⟨hx, hb, hml, hown, hlk, hst, hzs, hwm, hsz, hzh⟩ := id C
  intro ad H rl ls e1 e2 w S ol os hl
  refine va_put (v := .ref (ad b)) hx hb (Ts := u_ws Cn T N) (fun v hv => zwd hzs hwm (K.2.1 v hv)) (fun _ q => q) ty0 K.2.2.1 K.2.2.2.1 hown (zKs hzs hwm) w.2.2.2.1 (zDs w.2.2.2.2.1) S a (zcells_obj w.2.2.2.2.2 hK K.2.2.2.2.2) K.1 k hk (zwd hzs hwm hw) (fun _ q => q) hfin (K.2.2.1 k hk) (hx9 _).1 (hx9 _).2 (by unfold zobj; rw [List.length_map, List.length_range, K.2.2.2.2.1]; exact hk) d (fun H1 rl1 hP hD hS => ?_)
  rw [show (Value.ref (ad b)) = va_rf ((some b).map ad) from rfl, zsR_cells hK K.2.2.2.2.2 hf] at hP
  exact kk ad H1 rl1 ls e1 e2 (zW_of hsz hzh w hP hS rfl (zsR_ok w.2.2.2.2.2 (fun z hz => by cases hz; exact os.1))) hS ol os.2.2 hl
/-- a constructor's activation -/
def zIni (X : zX) : Prop := X.2.2.2.2.2.2.2.2.1.name = "<init>"
theorem zV.putFR {ci k index N a b : Nat} {Cn : String} {T : u_T} {ty0 : Nat → FieldType} (C : zC X cc own nL) (d : decode cc pc = .ok (.putfield index, 3)) (K : zCl ci Cn T N ty0) (hk : k < N) (hf : (zFl ci)[k]? = some true) (hw : zWd (.fieldLink own index (T k).1 (T k).2.1 (T k).2.2.1)) (hfin : (T k).2.2.2 = true) (hin2 : zIni X) (hdecl : (T k).1 = own) (hK : hK h a = ci + 1) (hx9 : ∀ q, narrow (ty0 k) (.ref q) = .ref q ∧ fits (ty0 k) (.ref q) = true) (kk : zV X kc ks (sR h (ci * 32 + k) a (some b)) (pc + 3) lo st) : zV X kc ks h pc lo (.ref b :: .ref a :: st) := by
  obtain ⟨p, l, e, R, s, m, args, below, meth, c, E, ad0, n0, Z⟩ := X
  obtain ⟨hx, hb, hml, hown, hlk, hst, hzs, hwm, hsz, hzh⟩ := id C
  intro ad H rl ls e1 e2 w S ol os hl
  refine va_putF (v := .ref (ad b)) hx hb (Ts := u_ws Cn T N) (fun v hv => zwd hzs hwm (K.2.1 v hv)) (fun _ q => q) ty0 K.2.2.1 K.2.2.2.1 hown (zKs hzs hwm) w.2.2.2.1 (zDs w.2.2.2.2.1) S a (zcells_obj w.2.2.2.2.2 hK K.2.2.2.2.2) K.1 k hk (zwd hzs hwm hw) (fun _ q => q) hfin hin2 hdecl (K.2.2.1 k hk) (hx9 _).1 (hx9 _).2 (by unfold zobj; rw [List.length_map, List.length_range, K.2.2.2.2.1]; exact hk) d (fun H1 rl1 hP hD hS => ?_)
  rw [show (Value.ref (ad b)) = va_rf ((some b).map ad) from rfl, zsR_cells hK K.2.2.2.2.2 hf] at hP
  exact kk ad H1 rl1 ls e1 e2 (zW_of hsz hzh w hP hS rfl (zsR_ok w.2.2.2.2.2 (fun z hz => by cases hz; exact os.1))) hS ol os.2.2 hl
theorem zV.iald {a j : Nat} {i : Int32} (C : zC X cc own nL) (d : decode cc pc = .ok (.iaload, 1)) (hK : hK h a = 103) (hi : i = nI j) (hj : j < hL h a) (hj2 : j < 2 ^ 31) (kk : zV X kc ks h (pc + 1) lo (.int (aI h a j) :: st)) : zV X kc ks h pc lo (.int i :: .ref a :: st) := by
  obtain ⟨p, l, e, R, s, m, args, below, meth, c, E, ad0, n0, Z⟩ := X
  obtain ⟨hx, hb, hml, hown, hlk, hst, hzs, hwm, hsz, hzh⟩ := id C
  intro ad H rl ls e1 e2 w S ol os hl
  have ha : (zcells E ad h)[a]? = some (ad a, .inl (E.2.1 103, (hL h a, .inl (aI h a)))) := by
    rw [zcells_arr w.2.2.2.2.2 hK (by decide)]
    unfold zarr
    rw [hK]
    rfl
  have k2 := kk ad H rl ls e1 e2 w S ol ⟨trivial, os.2.2⟩ hl
  rw [← zcl hi hj2] at k2
  exact va_iald hx hb (zKs hzs hwm) w.2.2.2.1 a 2 ha (zTys_at E 2 (by decide)) (zin hi hj hj2) d k2
theorem zV.cald {a j : Nat} {i : Int32} (C : zC X cc own nL) (d : decode cc pc = .ok (.caload, 1)) (hK : hK h a = 102) (hi : i = nI j) (hj : j < hL h a) (hj2 : j < 2 ^ 31) (kk : zV X kc ks h (pc + 1) lo (.int (aI h a j) :: st)) : zV X kc ks h pc lo (.int i :: .ref a :: st) := by
  obtain ⟨p, l, e, R, s, m, args, below, meth, c, E, ad0, n0, Z⟩ := X
  obtain ⟨hx, hb, hml, hown, hlk, hst, hzs, hwm, hsz, hzh⟩ := id C
  intro ad H rl ls e1 e2 w S ol os hl
  have ha : (zcells E ad h)[a]? = some (ad a, .inl (E.2.1 102, (hL h a, .inl (aI h a)))) := by
    rw [zcells_arr w.2.2.2.2.2 hK (by decide)]
    unfold zarr
    rw [hK]
    rfl
  have k2 := kk ad H rl ls e1 e2 w S ol ⟨trivial, os.2.2⟩ hl
  rw [← zcl hi hj2] at k2
  exact va_cald hx hb (zKs hzs hwm) w.2.2.2.1 a 1 ha (zTys_at E 1 (by decide)) (zin hi hj hj2) d k2
theorem zV.bald {a j : Nat} {i : Int32} (C : zC X cc own nL) (d : decode cc pc = .ok (.baload, 1)) (hK : hK h a = 101) (hi : i = nI j) (hj : j < hL h a) (hj2 : j < 2 ^ 31) (kk : zV X kc ks h (pc + 1) lo (.int (aI h a j) :: st)) : zV X kc ks h pc lo (.int i :: .ref a :: st) := by
  obtain ⟨p, l, e, R, s, m, args, below, meth, c, E, ad0, n0, Z⟩ := X
  obtain ⟨hx, hb, hml, hown, hlk, hst, hzs, hwm, hsz, hzh⟩ := id C
  intro ad H rl ls e1 e2 w S ol os hl
  have ha : (zcells E ad h)[a]? = some (ad a, .inl (E.2.1 101, (hL h a, .inl (aI h a)))) := by
    rw [zcells_arr w.2.2.2.2.2 hK (by decide)]
    unfold zarr
    rw [hK]
    rfl
  have k2 := kk ad H rl ls e1 e2 w S ol ⟨trivial, os.2.2⟩ hl
  rw [← zcl hi hj2] at k2
  exact va_bald hx hb (zKs hzs hwm) w.2.2.2.1 a 0 ha (zTys_at E 0 (by decide)) (zin hi hj hj2) d k2
theorem zV.lald {a j : Nat} {i : Int32} (C : zC X cc own nL) (d : decode cc pc = .ok (.laload, 1)) (hK : hK h a = 104) (hi : i = nI j) (hj : j < hL h a) (hj2 : j < 2 ^ 31) (kk : zV X kc ks h (pc + 1) lo (.long (aJ h a j) :: st)) : zV X kc ks h pc lo (.int i :: .ref a :: st) := by
  obtain ⟨p, l, e, R, s, m, args, below, meth, c, E, ad0, n0, Z⟩ := X
  obtain ⟨hx, hb, hml, hown, hlk, hst, hzs, hwm, hsz, hzh⟩ := id C
  intro ad H rl ls e1 e2 w S ol os hl
  have ha : (zcells E ad h)[a]? = some (ad a, .inl (E.2.1 104, (hL h a, .inr (.inl (aJ h a))))) := by
    rw [zcells_arr w.2.2.2.2.2 hK (by decide)]
    unfold zarr
    rw [hK]
    rfl
  have k2 := kk ad H rl ls e1 e2 w S ol ⟨trivial, os.2.2⟩ hl
  rw [← zcl hi hj2] at k2
  exact va_lald hx hb (zKs hzs hwm) w.2.2.2.1 a 3 ha (zTys_at E 3 (by decide)) (zin hi hj hj2) d k2
theorem zV.aaldC {a j b : Nat} {i : Int32} (C : zC X cc own nL) (d : decode cc pc = .ok (.aaload, 1)) (hK : hK h a = 106) (hi : i = nI j) (hj : j < hL h a) (hj2 : j < 2 ^ 31) (hv : aR h a j = some b) (kk : zV X kc ks h (pc + 1) lo (.ref b :: st)) : zV X kc ks h pc lo (.int i :: .ref a :: st) := by
  obtain ⟨p, l, e, R, s, m, args, below, meth, c, E, ad0, n0, Z⟩ := X
  obtain ⟨hx, hb, hml, hown, hlk, hst, hzs, hwm, hsz, hzh⟩ := id C
  intro ad H rl ls e1 e2 w S ol os hl
  have ha : (zcells E ad h)[a]? = some (ad a, .inl (E.2.1 106, (hL h a, .inr (.inr (.inr (.inr (fun i => (aR h a i).map ad))))))) := by
    rw [zcells_arr w.2.2.2.2.2 hK (by decide)]
    unfold zarr
    rw [hK]
    rfl
  have k2 := kk ad H rl ls e1 e2 w S ol ⟨w.2.2.2.2.2.2.2 _ _ _ hv, os.2.2⟩ hl
  refine va_aldq (C := "ChairMigration$Chair") hx hb (zKs hzs hwm) w.2.2.2.1 a 5 ha (zTys_at E 5 (by decide)) (zin hi hj hj2) d ?_
  rw [zcl hi hj2, hv]
  exact k2
theorem zV.aaldG {a j b : Nat} {i : Int32} (C : zC X cc own nL) (d : decode cc pc = .ok (.aaload, 1)) (hK : hK h a = 107) (hi : i = nI j) (hj : j < hL h a) (hj2 : j < 2 ^ 31) (hv : aR h a j = some b) (kk : zV X kc ks h (pc + 1) lo (.ref b :: st)) : zV X kc ks h pc lo (.int i :: .ref a :: st) := by
  obtain ⟨p, l, e, R, s, m, args, below, meth, c, E, ad0, n0, Z⟩ := X
  obtain ⟨hx, hb, hml, hown, hlk, hst, hzs, hwm, hsz, hzh⟩ := id C
  intro ad H rl ls e1 e2 w S ol os hl
  have ha : (zcells E ad h)[a]? = some (ad a, .inl (E.2.1 107, (hL h a, .inr (.inr (.inr (.inr (fun i => (aR h a i).map ad))))))) := by
    rw [zcells_arr w.2.2.2.2.2 hK (by decide)]
    unfold zarr
    rw [hK]
    rfl
  have k2 := kk ad H rl ls e1 e2 w S ol ⟨w.2.2.2.2.2.2.2 _ _ _ hv, os.2.2⟩ hl
  refine va_aldq (C := "ChairMigration$Garden") hx hb (zKs hzs hwm) w.2.2.2.1 a 6 ha (zTys_at E 6 (by decide)) (zin hi hj hj2) d ?_
  rw [zcl hi hj2, hv]
  exact k2
theorem zV.aaldI {a j b : Nat} {i : Int32} (C : zC X cc own nL) (d : decode cc pc = .ok (.aaload, 1)) (hK : hK h a = 108) (hi : i = nI j) (hj : j < hL h a) (hj2 : j < 2 ^ 31) (hv : aR h a j = some b) (kk : zV X kc ks h (pc + 1) lo (.ref b :: st)) : zV X kc ks h pc lo (.int i :: .ref a :: st) := by
  obtain ⟨p, l, e, R, s, m, args, below, meth, c, E, ad0, n0, Z⟩ := X
  obtain ⟨hx, hb, hml, hown, hlk, hst, hzs, hwm, hsz, hzh⟩ := id C
  intro ad H rl ls e1 e2 w S ol os hl
  have ha : (zcells E ad h)[a]? = some (ad a, .inl (E.2.1 108, (hL h a, .inr (.inr (.inr (.inr (fun i => (aR h a i).map ad))))))) := by
    rw [zcells_arr w.2.2.2.2.2 hK (by decide)]
    unfold zarr
    rw [hK]
    rfl
  have k2 := kk ad H rl ls e1 e2 w S ol ⟨w.2.2.2.2.2.2.2 _ _ _ hv, os.2.2⟩ hl
  have hlt : i.toNatClampNeg < hL h a := by rw [zcl hi hj2]; exact hj
  exact W.aald (v := .ref (ad b)) (ty := .array .int) hx hb (w.2.2.2.1 a _ ha) (((zKs hzs hwm).2 7 _ (zTys_at E 7 (by decide))).1 (hL h a) (fun j => va_rf ((aR h a j).map ad))) rfl (fun q => by cases q) (by show ¬ (i < 0 ∨ (arrV _ _ _).slots.size ≤ _); rw [arrV_size]; exact zin hi hj hj2) (by show (arrV _ _ _).slots[_]? = _; rw [arrV_read _ _ hlt, zcl hi hj2]; show some (va_rf ((aR h a j).map ad)) = _; rw [hv]; rfl) rfl rfl d k2
theorem zV.iast {a j : Nat} {i x : Int32} (C : zC X cc own nL) (d : decode cc pc = .ok (.iastore, 1)) (hK : hK h a = 103) (hi : i = nI j) (hj : j < hL h a) (hj2 : j < 2 ^ 31) (kk : zV X kc ks (saI h a j x) (pc + 1) lo st) : zV X kc ks h pc lo (.int x :: .int i :: .ref a :: st) := by
  obtain ⟨p, l, e, R, s, m, args, below, meth, c, E, ad0, n0, Z⟩ := X
  obtain ⟨hx, hb, hml, hown, hlk, hst, hzs, hwm, hsz, hzh⟩ := id C
  intro ad H rl ls e1 e2 w S ol os hl
  have ha : (zcells E ad h)[a]? = some (ad a, .inl (E.2.1 103, (hL h a, .inl (aI h a)))) := by
    rw [zcells_arr w.2.2.2.2.2 hK (by decide)]
    unfold zarr
    rw [hK]
    rfl
  refine va_iast hx hb (zKs hzs hwm) w.2.2.2.1 (zDs w.2.2.2.2.1) S a 2 ha (zTys_at E 2 (by decide)) (zin hi hj hj2) d (fun H1 rl1 hP hD hS => ?_)
  rw [zcl hi hj2, zsaI_cells hK (by decide) (by decide)] at hP
  exact kk ad H1 rl1 ls e1 e2 (zW_of hsz hzh w hP hS rfl w.2.2.2.2.2) hS ol os.2.2.2 hl
theorem zV.cast {a j : Nat} {i x : Int32} (C : zC X cc own nL) (d : decode cc pc = .ok (.castore, 1)) (hK : hK h a = 102) (hi : i = nI j) (hj : j < hL h a) (hj2 : j < 2 ^ 31) (hv : vp_nar .char x = x) (kk : zV X kc ks (saI h a j x) (pc + 1) lo st) : zV X kc ks h pc lo (.int x :: .int i :: .ref a :: st) := by
  obtain ⟨p, l, e, R, s, m, args, below, meth, c, E, ad0, n0, Z⟩ := X
  obtain ⟨hx, hb, hml, hown, hlk, hst, hzs, hwm, hsz, hzh⟩ := id C
  intro ad H rl ls e1 e2 w S ol os hl
  have ha : (zcells E ad h)[a]? = some (ad a, .inl (E.2.1 102, (hL h a, .inl (aI h a)))) := by
    rw [zcells_arr w.2.2.2.2.2 hK (by decide)]
    unfold zarr
    rw [hK]
    rfl
  refine va_cast hx hb (zKs hzs hwm) w.2.2.2.1 (zDs w.2.2.2.2.1) S a 1 ha (zTys_at E 1 (by decide)) (zin hi hj hj2) d (fun H1 rl1 hP hD hS => ?_)
  rw [zcl hi hj2, hv, zsaI_cells hK (by decide) (by decide)] at hP
  exact kk ad H1 rl1 ls e1 e2 (zW_of hsz hzh w hP hS rfl w.2.2.2.2.2) hS ol os.2.2.2 hl
theorem zV.bast {a j : Nat} {i x : Int32} (C : zC X cc own nL) (d : decode cc pc = .ok (.bastore, 1)) (hK : hK h a = 101) (hi : i = nI j) (hj : j < hL h a) (hj2 : j < 2 ^ 31) (kk : zV X kc ks (saI h a j (vp_nar .byte x)) (pc + 1) lo st) : zV X kc ks h pc lo (.int x :: .int i :: .ref a :: st) := by
  obtain ⟨p, l, e, R, s, m, args, below, meth, c, E, ad0, n0, Z⟩ := X
  obtain ⟨hx, hb, hml, hown, hlk, hst, hzs, hwm, hsz, hzh⟩ := id C
  intro ad H rl ls e1 e2 w S ol os hl
  have ha : (zcells E ad h)[a]? = some (ad a, .inl (E.2.1 101, (hL h a, .inl (aI h a)))) := by
    rw [zcells_arr w.2.2.2.2.2 hK (by decide)]
    unfold zarr
    rw [hK]
    rfl
  refine va_bast hx hb (zKs hzs hwm) w.2.2.2.1 (zDs w.2.2.2.2.1) S a 0 ha (zTys_at E 0 (by decide)) (zin hi hj hj2) d (fun H1 rl1 hP hD hS => ?_)
  rw [zcl hi hj2, zsaI_cells hK (by decide) (by decide)] at hP
  exact kk ad H1 rl1 ls e1 e2 (zW_of hsz hzh w hP hS rfl w.2.2.2.2.2) hS ol os.2.2.2 hl
theorem zV.last {a j : Nat} {i : Int32} {x : Int64} (C : zC X cc own nL) (d : decode cc pc = .ok (.lastore, 1)) (hK : hK h a = 104) (hi : i = nI j) (hj : j < hL h a) (hj2 : j < 2 ^ 31) (kk : zV X kc ks (saJ h a j x) (pc + 1) lo st) : zV X kc ks h pc lo (.long x :: .int i :: .ref a :: st) := by
  obtain ⟨p, l, e, R, s, m, args, below, meth, c, E, ad0, n0, Z⟩ := X
  obtain ⟨hx, hb, hml, hown, hlk, hst, hzs, hwm, hsz, hzh⟩ := id C
  intro ad H rl ls e1 e2 w S ol os hl
  have ha : (zcells E ad h)[a]? = some (ad a, .inl (E.2.1 104, (hL h a, .inr (.inl (aJ h a))))) := by
    rw [zcells_arr w.2.2.2.2.2 hK (by decide)]
    unfold zarr
    rw [hK]
    rfl
  refine va_last hx hb (zKs hzs hwm) w.2.2.2.1 (zDs w.2.2.2.2.1) S a 3 ha (zTys_at E 3 (by decide)) (zin hi hj hj2) d (fun H1 rl1 hP hD hS => ?_)
  rw [zcl hi hj2, zsaJ_cells hK] at hP
  exact kk ad H1 rl1 ls e1 e2 (zW_of hsz hzh w hP hS rfl w.2.2.2.2.2) hS ol os.2.2.2 hl
theorem zsaD_cells {E : zG} {ad : Nat → Nat} {h : zH} {a i : Nat} {v : UInt64} (hk : hK h a = 105) : (zcells E ad h).set a (ad a, .inl (E.2.1 105, hL h a, .inr (.inr (.inr (.inl (vf_upd (aD h a) i v)))))) = zcells E ad (saD h a i v) := by
  refine zset_eq rfl (fun b hb => ?_) ?_
  · unfold zcell
    have e : aD (saD h a i v) b = aD h b := funext fun j => up2_ne (fun z => hb z.1)
    unfold zarr
    rw [e]
    rfl
  · unfold zcell
    rw [show hK (saD h a i v) a = 105 from hk, if_neg (by omega)]
    unfold zarr
    rw [show hK (saD h a i v) a = 105 from hk, if_neg (by omega), if_neg (by omega), if_pos rfl]
    refine congrArg (fun z => Sum.inl (E.2.1 105, hL h a, Sum.inr (Sum.inr (Sum.inr (Sum.inl z))))) (funext fun j => ?_)
    show up2 (aD h) a i v a j = vf_upd (aD h a) i v j
    unfold up2 vf_upd
    by_cases q : j = i
    · rw [if_pos ⟨rfl, q⟩, if_pos q]
    · rw [if_neg (fun z => q z.2), if_neg q]
theorem zV.aastC {a j b : Nat} {i : Int32} (C : zC X cc own nL) (d : decode cc pc = .ok (.aastore, 1)) (hK1 : hK h a = 106) (hi : i = nI j) (hj : j < hL h a) (hj2 : j < 2 ^ 31) (hv : hK h b = 5) (kk : zV X kc ks (saR h a j (some b)) (pc + 1) lo st) : zV X kc ks h pc lo (.ref b :: .int i :: .ref a :: st) := by
  obtain ⟨p, l, e, R, s, m, args, below, meth, c, E, ad0, n0, Z⟩ := X
  obtain ⟨hx, hb, hml, hown, hlk, hst, hzs, hwm, hsz, hzh⟩ := id C
  intro ad H rl ls e1 e2 w S ol os hl
  have ha : (zcells E ad h)[a]? = some (ad a, .inl (E.2.1 106, (hL h a, .inr (.inr (.inr (.inr (fun i => (aR h a i).map ad))))))) := by
    rw [zcells_arr w.2.2.2.2.2 hK1 (by decide)]
    unfold zarr
    rw [hK1]
    rfl
  refine va_astq hx hb (zKs hzs hwm) w.2.2.2.1 (zDs w.2.2.2.2.1) S a 5 b 4 (r := (RX0, TX0, 5)) ha (zTys_at E 5 (by decide)) (zcells_obj w.2.2.2.2.2 hv (by decide)) rfl (zin hi hj hj2) d (fun H1 rl1 hP hD hS => ?_)
  rw [zcl hi hj2, show (some (ad b)) = (some b).map ad from rfl, zsaR_cells hK1 (by decide)] at hP
  exact kk ad H1 rl1 ls e1 e2 (zW_of hsz hzh w hP hS rfl (zsaR_ok w.2.2.2.2.2 (fun z hz => by cases hz; exact os.1))) hS ol os.2.2.2 hl
theorem zV.aastG {a j b : Nat} {i : Int32} (C : zC X cc own nL) (d : decode cc pc = .ok (.aastore, 1)) (hK1 : hK h a = 107) (hi : i = nI j) (hj : j < hL h a) (hj2 : j < 2 ^ 31) (hv : hK h b = 7) (kk : zV X kc ks (saR h a j (some b)) (pc + 1) lo st) : zV X kc ks h pc lo (.ref b :: .int i :: .ref a :: st) := by
  obtain ⟨p, l, e, R, s, m, args, below, meth, c, E, ad0, n0, Z⟩ := X
  obtain ⟨hx, hb, hml, hown, hlk, hst, hzs, hwm, hsz, hzh⟩ := id C
  intro ad H rl ls e1 e2 w S ol os hl
  have ha : (zcells E ad h)[a]? = some (ad a, .inl (E.2.1 107, (hL h a, .inr (.inr (.inr (.inr (fun i => (aR h a i).map ad))))))) := by
    rw [zcells_arr w.2.2.2.2.2 hK1 (by decide)]
    unfold zarr
    rw [hK1]
    rfl
  refine va_astq hx hb (zKs hzs hwm) w.2.2.2.1 (zDs w.2.2.2.2.1) S a 6 b 6 (r := (RX3, TX3, 12)) ha (zTys_at E 6 (by decide)) (zcells_obj w.2.2.2.2.2 hv (by decide)) rfl (zin hi hj hj2) d (fun H1 rl1 hP hD hS => ?_)
  rw [zcl hi hj2, show (some (ad b)) = (some b).map ad from rfl, zsaR_cells hK1 (by decide)] at hP
  exact kk ad H1 rl1 ls e1 e2 (zW_of hsz hzh w hP hS rfl (zsaR_ok w.2.2.2.2.2 (fun z hz => by cases hz; exact os.1))) hS ol os.2.2.2 hl
theorem zV.alen {a t0 : Nat} (C : zC X cc own nL) (d : decode cc pc = .ok (.arraylength, 1)) (hK : hK h a = 101 + t0) (ht : t0 < 8) (kk : zV X kc ks h (pc + 1) lo (.int (nI (hL h a)) :: st)) : zV X kc ks h pc lo (.ref a :: st) := by
  obtain ⟨p, l, e, R, s, m, args, below, meth, c, E, ad0, n0, Z⟩ := X
  obtain ⟨hx, hb, hml, hown, hlk, hst, hzs, hwm, hsz, hzh⟩ := id C
  intro ad H rl ls e1 e2 w S ol os hl
  have ha : (zcells E ad h)[a]? = some (ad a, .inl (E.2.1 (101 + t0), zarr ad h a)) := by
    have := zcells_arr (E := E) (ad := ad) (k := 100 + t0) w.2.2.2.2.2 (by rw [hK]; omega) (by omega)
    rw [this, show 100 + t0 + 1 = 101 + t0 by omega]
  exact va_alen hx hb (zKs hzs hwm) w.2.2.2.1 a t0 ha (zTys_at E t0 ht) rfl d (kk ad H rl ls e1 e2 w S ol ⟨trivial, os.2⟩ hl)
end ZP
