/-! contracts over the world, calls, ends -/
def zQ (E : zG) (ad0 : Nat → Nat) (n0 : Nat) (Qr : Option Value → zH → Prop) : Array Value → State → Outcome → State → Prop := fun _ st o t =>
  ∃ (r : Option Value) (h' : zH) (ad' : Nat → Nat), o = .returned (r.map (tr ad')) ∧ Qr r h' ∧ (∀ k, k < n0 → ad' k = ad0 k) ∧ n0 ≤ hN h' ∧ zW E ad' h' t t.heap ∧ (∀ v, r = some v → okV (hN h') v) ∧ st.heap.size ≤ t.heap.size
def zQX (E : zG) (ad0 : Nat → Nat) (n0 : Nat) (Qx : String → zH → Prop) : String → State → State → Prop := fun Ex st t =>
  ∃ (h' : zH) (ad' : Nat → Nat), Qx Ex h' ∧ (∀ k, k < n0 → ad' k = ad0 k) ∧ n0 ≤ hN h' ∧ zWt E ad' h' t.heap ∧ st.heap.size ≤ t.heap.size
/-- a method's contract: from the heap h with the arguments vs it returns with Qr, or throws with Qx -/
def zMetL (l : Launch) (E : zG) (y : MethodName) (w0 : Cond) (rm : Room) (mc ms : Nat) (vs : List Value) (h : zH) (Qr : Option Value → zH → Prop) (Qx : String → zH → Prop) : Prop :=
  ∀ ad : Nat → Nat, vx_Met l y [w0] rm (va_Pc (vs.map (tr ad)) (fun U => zW E ad h U U.heap ∧ zOks (hN h) vs)) (zQ E ad (hN h) Qr) (zQX E ad (hN h) Qx) mc ms (zA E)
def zMet (l : Launch) (E : zG) (y : MethodName) (cc : ByteArray) (maxL : Nat) (ret : Option FieldType) (rm : Room) (mc ms : Nat) (vs : List Value) (h : zH) (Qr : Option Value → zH → Prop) (Qx : String → zH → Prop) : Prop :=
  zMetL l E y (.code y cc maxL ret) rm mc ms vs h Qr Qx
/-- what the activation is for: its run, its room -/
def zGX (X : zX) (l : Launch) (E : zG) (rm : Room) : Prop :=
  match X with
  | (p, l', e, R, s, m, args, below, meth, c, E', ad0, n0, Z) => l' = l ∧ E' = E ∧ R = rm
/-- what a method's end owes -/
def zF (X : zX) (ret : Option FieldType) (mc ms : Nat) (Qr : Option Value → zH → Prop) (Qx : String → zH → Prop) : Prop :=
  match X with
  | (p, l, e, R, s, m, args, below, meth, c, E, ad0, n0, Z) => meth.sig.returnType = ret ∧ (∀ x ∈ c.exceptionTable.toList, False) ∧ Z = vx_MQ below (zQ E ad0 n0 Qr) (zQX E ad0 n0 Qx) args s mc ms (zA E)
/-- an exception of the class Ex lies over the frame -/
def zVX (X : zX) (kc ks : Nat) (h : zH) (pc : Nat) (lo : List (Nat × Value)) (st : List Value) (Ex : String) : Prop :=
  match X with
  | (p, l, e, R, s, m, args, below, meth, c, E, ad0, n0, Z) =>
    ∀ (ad : Nat → Nat) (H : Heap) (rl : List Loc) (ls : Array Slot) (ce : Cell) (q : Addr), (∀ k, k < n0 → ad k = ad0 k) → n0 ≤ hN h → zW E ad h s H → va_S (zA E) s.heap H rl → zOkl (hN h) lo → zOks (hN h) st → lv_has ls c.maxLocals (trl ad lo) →
      H[q]? = some ce → ce.vm = .none → s.vm.findClass Ex = some ce.cls → vx_W p l e R s m args below meth c H rl kc ks Z (F0 m pc ls (st.map (tr ad))) q
theorem tr_congr {ad ad' : Nat → Nat} {n : Nat} (h : ∀ k, k < n → ad' k = ad k) {v : Value} (hv : okV n v) : tr ad' v = tr ad v := by
  cases v with
  | ref k => exact congrArg Value.ref (h k hv)
  | _ => rfl
theorem trs_congr {ad ad' : Nat → Nat} {n : Nat} (h : ∀ k, k < n → ad' k = ad k) : ∀ {st : List Value}, zOks n st → st.map (tr ad') = st.map (tr ad)
  | [], _ => rfl
  | v :: t, hv => by rw [List.map_cons, List.map_cons, tr_congr h hv.1, trs_congr h hv.2]
theorem trl_congr {ad ad' : Nat → Nat} {n : Nat} (h : ∀ k, k < n → ad' k = ad k) {lo : List (Nat × Value)} (hv : zOkl n lo) : trl ad' lo = trl ad lo := by
  unfold trl
  exact List.map_congr_left (fun q hq => by rw [tr_congr h (zOkl_mem hv q hq)])
theorem okV_mono {n n' : Nat} (h : n ≤ n') {v : Value} (hv : okV n v) : okV n' v := by
  cases v with
  | ref k => exact Nat.lt_of_lt_of_le hv h
  | _ => trivial
theorem zOks_mono {n n' : Nat} (h : n ≤ n') : ∀ {st : List Value}, zOks n st → zOks n' st
  | [], _ => trivial
  | v :: t, hv => ⟨okV_mono h hv.1, zOks_mono h hv.2⟩
theorem zOkl_mono {n n' : Nat} (h : n ≤ n') : ∀ {st : List (Nat × Value)}, zOkl n st → zOkl n' st
  | [], _ => trivial
  | v :: t, hv => ⟨okV_mono h hv.1, zOkl_mono h hv.2⟩
theorem zOks_app {n : Nat} : ∀ {a b : List Value}, zOks n a → zOks n b → zOks n (a ++ b)
  | [], _, _, hb => hb
  | v :: t, b, ha, hb => ⟨ha.1, zOks_app ha.2 hb⟩
theorem zOks_mem {n : Nat} : ∀ {a : List Value}, zOks n a → ∀ v ∈ a, okV n v
  | [], _, v, hv => by cases hv
  | w :: t, h, v, hv => by
    rcases List.mem_cons.mp hv with rfl | hv
    · exact h.1
    · exact zOks_mem h.2 v hv
theorem zOks_of {n : Nat} : ∀ {a : List Value}, (∀ v ∈ a, okV n v) → zOks n a
  | [], _ => trivial
  | w :: t, h => ⟨h w List.mem_cons_self, zOks_of (fun v hv => h v (List.mem_cons_of_mem _ hv))⟩
theorem zW_vm {E : zG} {ad : Nat → Nat} {h : zH} {s t : State} {H : Heap} (hw : E.2.2.1.WarmedH s.vm) (w : zW E ad h t H) : zW E ad h s H := ⟨hw, w.2⟩
theorem z_after {p : Program} {l : Launch} {e : Env} {R : Room} {s : State} {m : MethodId} {args : Array Value} {below : List Frame} {meth : Method} {c : Code} {E : zG} {ad0 : Nat → Nat} {n0 : Nat} {Z : State → Prop} {h : zH} {ad : Nat → Nat} {H : Heap} {rl : List Loc} {ls : Array Slot} {kc ks mc ms pc : Nat} {lo : List (Nat × Value)} {rest st0 : List Value} {a : Array Value} {Qr : Option Value → zH → Prop} {Qx : String → zH → Prop}
    (hwm : E.2.2.1.WarmedH s.vm) (hsz : E.2.2.1.heap.size ≤ s.heap.size) (hzh : ∀ q, q < E.2.2.1.heap.size → s.heap[q]? = E.2.2.1.heap[q]?)
    (e1 : ∀ k, k < n0 → ad k = ad0 k) (e2 : n0 ≤ hN h) (S : va_S (zA E) s.heap H rl) (ol : zOkl (hN h) lo) (os : zOks (hN h) rest) (hl : lv_has ls c.maxLocals (trl ad lo))
    (hr : vx_Run p l e R s m args below meth c H rl kc ks mc ms (F0 m pc ls st0) (rest.map (tr ad)) (zQ E ad (hN h) Qr a) (zQX E ad (hN h) Qx) (zA E))
    (kk : ∀ (r : Option Value) (h' : zH), Qr r h' → hN h ≤ hN h' → zV (p, l, e, R, s, m, args, below, meth, c, E, ad0, n0, Z) (kc + mc) (ks + ms) h' (pc + 3) lo (r.toList ++ rest))
    (kx : ∀ (Ex : String) (h' : zH), Qx Ex h' → hN h ≤ hN h' → zVX (p, l, e, R, s, m, args, below, meth, c, E, ad0, n0, Z) (kc + mc) (ks + ms) h' pc lo rest Ex) :
    W p l e R s m args below meth c H rl kc ks Z (F0 m pc ls st0) := by
  have fin : ∀ {h' : zH} {ad' : Nat → Nat} {t T' : State} {L : List Loc} {st₀ : State}, st₀.heap = H → T'.heap = t.heap → (∀ q ∈ L, zA E q.base) → zWt E ad' h' t.heap → st₀.heap.size ≤ t.heap.size → zW E ad' h' s T'.heap ∧ va_S (zA E) s.heap T'.heap (rl ++ L) := by
    intro h' ad' t T' L st₀ h0 e1' hL w' hz
    rw [h0] at hz
    refine ⟨by rw [e1']; exact ⟨hwm, w'⟩, Nat.le_trans S.1 (by rw [e1']; exact hz), fun q h1 h2 => ?_, fun q hq => ?_⟩
    · have h3 : q < E.2.2.1.heap.size := Nat.not_le.mp h2
      rw [e1', w'.1 q h3, hzh q h3]
    · rcases List.mem_append.mp hq with z | z
      · exact S.2.2 q z
      · exact hL q z
  intro T hT Xs
  rcases hr T hT Xs with ⟨v, st₀, t, T', L, h0, X', hL, e1', e2', ⟨r, h', ad', hv, hq, hext, hn, hw', hok, hz⟩, st⟩ | ⟨q, st₀, t, T', L, Ex, ce, h0, X', hL, e1', e2', ⟨h', ad', hq, hext, hn, hw', hz⟩, hce, hcv, hcl, st⟩
  · obtain ⟨f1, f2⟩ := fin h0 e1' hL hw'.2 hz
    cases hv
    obtain ⟨t2, a1, b1⟩ := kk r h' hq hn ad' T'.heap (rl ++ L) ls (fun k hk => (hext k (Nat.lt_of_lt_of_le hk e2)).trans (e1 k hk)) (Nat.le_trans e2 hn) f1 f2 (zOkl_mono hn ol)
      (zOks_app (zOks_of (fun v hv => hok v (by cases r with | none => cases hv | some z => rw [List.mem_singleton.mp hv]))) (zOks_mono hn os)) (by rw [trl_congr hext ol]; exact hl) T' rfl X'
    refine ⟨t2, st t2 ?_, b1⟩
    rw [List.map_append, trs_congr hext os] at a1
    cases r with
    | none => exact a1
    | some z => exact a1
  · obtain ⟨f1, f2⟩ := fin h0 e1' hL hw' hz
    obtain ⟨t2, a1, b1⟩ := kx Ex h' hq hn ad' T'.heap (rl ++ L) ls ce q (fun k hk => (hext k (Nat.lt_of_lt_of_le hk e2)).trans (e1 k hk)) (Nat.le_trans e2 hn) f1 f2 (zOkl_mono hn ol) (zOks_mono hn os) (by rw [trl_congr hext ol]; exact hl) (by rw [e1']; exact hce) hcv hcl T' rfl X'
    rw [trs_congr hext os] at a1
    exact ⟨t2, st.trans a1, b1⟩
theorem zblind {E : zG} {ad : Nat → Nat} {h : zH} {vs : List Value} {P : Prop} : FrameBlind (va_Pc (vs.map (tr ad)) (fun U => zW E ad h U U.heap ∧ P)) := fun _ _ _ _ q => q
/-- the body of a method, from its entry -/
theorem zM_start {l : Launch} {E : zG} {y : MethodName} {cc : ByteArray} {maxL : Nat} {ret : Option FieldType} {rm : Room} {mc ms : Nat} {vs : List Value} {h : zH} {Qr : Option Value → zH → Prop} {Qx : String → zH → Prop}
    (hzs : zS E) (hst : l.stackTraces = false) (hy : plainName y.cls = true) (hlen : (lg_sl vs).length ≤ maxL)
    (body : ∀ X : zX, zC X cc y.cls maxL → zGX X l E rm → zF X ret mc ms Qr Qx → (y.name = "<init>" → zIni X) → zV X 0 0 h 0 (lv_args 0 vs) []) : zMet l E y cc maxL ret rm mc ms vs h Qr Qx := by
  intro ad
  refine vx_ofW (cc := cc) (maxL := maxL) (ret := ret) hy rfl ?_
  intro p e s m args below meth c s₁ B hml ht hv
  obtain ⟨rfl, hw, hok⟩ := hv
  have hsl : ∀ l : List Value, (lg_sl (l.map (tr ad))).length = (lg_sl l).length := by
    intro l
    induction l with
    | nil => rfl
    | cons a t ih => cases a <;> simp [lg_sl, tr, Value.category, ih] at * <;> omega
  have hla : ∀ (l : List Value) (i : Nat), lv_args i (l.map (tr ad)) = trl ad (lv_args i l) := by
    intro l
    induction l with
    | nil => intro i; rfl
    | cons a t ih => intro i; cases a <;> simp [lv_args, tr, trl, Value.category] at * <;> exact ih _
  have hl := lv_entry (vs.map (tr ad)) (n := maxL) (by rw [hsl]; exact hlen)
  rw [lg_entry_eq]
  generalize (lg_sl (vs.map (tr ad)) ++ List.replicate (maxL - (lg_sl (vs.map (tr ad))).length) Slot.unset).toArray = ls at hl ⊢
  have okl : ∀ (l : List Value) (i : Nat), zOks (hN h) l → zOkl (hN h) (lv_args i l) := by
    intro l
    induction l with
    | nil => intro i _; trivial
    | cons a t ih => intro i hq; exact ⟨hq.1, ih _ hq.2⟩
  rw [hla] at hl
  refine body (p, l, e, rm, s, m, ((vs.map (tr ad)).toArray), below, meth, c, E, ad, hN h, _) ⟨B.exec, B.bytes, hml, findClass_of_methodNamed B.named, B.notSynchronized, hst, hzs, hw.1, hw.2.2.1, hw.2.1⟩ ⟨rfl, rfl, rfl⟩ ⟨B.returns, ht, rfl⟩ (fun hq => by
    show meth.name = "<init>"
    rw [← hq]; exact (name_of_methodNamed B.named B.method).1) ad s.heap [] ls (fun _ _ => rfl) (Nat.le_refl _) hw va_S.rf (okl vs 0 hok) trivial (by rw [hml]; exact hl)
