/-! after a call that answers one value and leaves the heap at h2 -/
theorem zaf {X : zX} {kc ks : Nat} {h2 : zH} {pc : Nat} {lo : List (Nat × Value)} {rest : List Value} {v : Value} {n : Nat} (k : zV X kc ks h2 pc lo (v :: rest)) : ∀ (r : Option Value) (h' : zH), (r = some v ∧ h' = h2) → n ≤ hN h' → zV X kc ks h' pc lo (r.toList ++ rest) := fun r h' q _ => by
  obtain ⟨rfl, rfl⟩ := q
  exact k
theorem zafv {X : zX} {kc ks : Nat} {h2 : zH} {pc : Nat} {lo : List (Nat × Value)} {rest : List Value} {n : Nat} (k : zV X kc ks h2 pc lo rest) : ∀ (r : Option Value) (h' : zH), (r = none ∧ h' = h2) → n ≤ hN h' → zV X kc ks h' pc lo (r.toList ++ rest) := fun r h' q _ => by
  obtain ⟨rfl, rfl⟩ := q
  exact k
theorem zno {X : zX} {kc ks : Nat} {h : zH} {pc : Nat} {lo : List (Nat × Value)} {rest : List Value} : ∀ (Ex : String) (h' : zH), False → hN h ≤ hN h' → zVX X kc ks h' pc lo rest Ex := fun _ _ q _ => q.elim
-- shapes
def zLs (h : zH) (a : Nat) : Prop := hK h a = 11 ∧ hR h 320 a = some (a + 1) ∧ hK h (a + 1) = 103 ∧ hL h (a + 1) = 6
def zPs (h : zH) (a : Nat) : Prop := hK h a = 12 ∧ hR h 352 a = some (a + 1) ∧ zLs h (a + 1)
def zGs (h : zH) (b : Nat) : Prop := hK h b = 7 ∧ hR h 192 b = some (b + 1) ∧ hR h 193 b = some (b + 4) ∧ hR h 194 b = some (b + 6) ∧ hR h 195 b = some (b + 8) ∧ zPs h (b + 1) ∧ zLs h (b + 4) ∧ zLs h (b + 6) ∧ (hK h (b + 8) = 106 ∧ hL h (b + 8) = 12) ∧ ∀ i, i < 12 → hK h (b + 9 + i) = 5
theorem i32_lt0 {x : Int32} : x < 0 ↔ x.toInt < 0 := by rw [Int32.lt_iff_toInt_lt]; rfl
theorem ge6 {x : Int32} (h1 : ¬ x < 0) (h2 : ¬ 6 ≤ x) : ∃ j : Nat, j < 6 ∧ x = nI j := by
  obtain ⟨j, hj, rfl⟩ := nI_of h1
  refine ⟨j, ?_, rfl⟩
  have h3 : ¬ nI 6 ≤ nI j := h2
  rw [nI_leI (by decide) hj] at h3
  omega
section ZW9
variable {X : zX} {kc ks : Nat} {h : zH} {pc : Nat} {lo : List (Nat × Value)} {st : List Value} {cc : ByteArray} {own : String} {nL : Nat}
theorem zV.gI {ci k index N a : Nat} {Cn : String} {T : u_T} {ty0 : Nat → FieldType} (f : Nat) (C : zC X cc own nL) (d : decode cc pc = .ok (.getfield index, 3)) (K : zCl ci Cn T N ty0) (hk : k < N) (hf : (zFl ci)[k]? = some false) (hw : zWd (.fieldLink own index (T k).1 (T k).2.1 (T k).2.2.1)) (hK : hK h a = ci + 1) (hf9 : ci * 32 + k = f) (kk : zV X kc ks h (pc + 3) lo (.int (hI h f a) :: st)) : zV X kc ks h pc lo (.ref a :: st) := by
  subst hf9; exact zV.getI C d K.1 K.2.1 hk hf hw hK K.2.2.2.2.2 kk
theorem zV.gNI {ci k index N a : Nat} {Cn host : String} {T : u_T} {ty0 : Nat → FieldType} (f : Nat) (C : zC X cc own nL) (d : decode cc pc = .ok (.getfield index, 3)) (K : zCl ci Cn T N ty0) (hk : k < N) (hf : (zFl ci)[k]? = some false) (hw : Cond.fieldLinkNest own index (T k).1 (T k).2.1 (T k).2.2.1 host ∈ lw_tbl) (hK : hK h a = ci + 1) (hf9 : ci * 32 + k = f) (kk : zV X kc ks h (pc + 3) lo (.int (hI h f a) :: st)) : zV X kc ks h pc lo (.ref a :: st) := by
  subst hf9; exact zV.getNI C d K.1 K.2.1 hk hf hw hK K.2.2.2.2.2 kk
theorem zV.gR {ci k index N a b : Nat} {Cn : String} {T : u_T} {ty0 : Nat → FieldType} (f : Nat) (C : zC X cc own nL) (d : decode cc pc = .ok (.getfield index, 3)) (K : zCl ci Cn T N ty0) (hk : k < N) (hf : (zFl ci)[k]? = some true) (hw : zWd (.fieldLink own index (T k).1 (T k).2.1 (T k).2.2.1)) (hK : hK h a = ci + 1) (hf9 : ci * 32 + k = f) (hv : hR h f a = some b) (kk : zV X kc ks h (pc + 3) lo (.ref b :: st)) : zV X kc ks h pc lo (.ref a :: st) := by
  subst hf9; exact zV.getR C d K.1 K.2.1 hk hf hw hK K.2.2.2.2.2 hv kk
theorem zV.gNR {ci k index N a b : Nat} {Cn host : String} {T : u_T} {ty0 : Nat → FieldType} (f : Nat) (C : zC X cc own nL) (d : decode cc pc = .ok (.getfield index, 3)) (K : zCl ci Cn T N ty0) (hk : k < N) (hf : (zFl ci)[k]? = some true) (hw : Cond.fieldLinkNest own index (T k).1 (T k).2.1 (T k).2.2.1 host ∈ lw_tbl) (hK : hK h a = ci + 1) (hf9 : ci * 32 + k = f) (hv : hR h f a = some b) (kk : zV X kc ks h (pc + 3) lo (.ref b :: st)) : zV X kc ks h pc lo (.ref a :: st) := by
  subst hf9; exact zV.getNR C d K.1 K.2.1 hk hf hw hK K.2.2.2.2.2 hv kk
theorem zV.pI {ci k index N a : Nat} {Cn : String} {T : u_T} {ty0 : Nat → FieldType} {x : Int32} (f : Nat) (C : zC X cc own nL) (d : decode cc pc = .ok (.putfield index, 3)) (K : zCl ci Cn T N ty0) (hk : k < N) (hf : (zFl ci)[k]? = some false) (hw : zWd (.fieldLink own index (T k).1 (T k).2.1 (T k).2.2.1)) (hfin : (T k).2.2.2 = false) (hK : hK h a = ci + 1) (hf9 : ci * 32 + k = f) (hx9 : narrow (ty0 k) (.int x) = .int x ∧ fits (ty0 k) (.int x) = true) (kk : zV X kc ks (sI h f a x) (pc + 3) lo st) : zV X kc ks h pc lo (.int x :: .ref a :: st) := by
  subst hf9; exact zV.putI C d K hk hf hw hfin hK hx9 kk
theorem zV.pNI {ci k index N a : Nat} {Cn host : String} {T : u_T} {ty0 : Nat → FieldType} {x : Int32} (f : Nat) (C : zC X cc own nL) (d : decode cc pc = .ok (.putfield index, 3)) (K : zCl ci Cn T N ty0) (hk : k < N) (hf : (zFl ci)[k]? = some false) (hw : Cond.fieldLinkNest own index (T k).1 (T k).2.1 (T k).2.2.1 host ∈ lw_tbl) (hfin : (T k).2.2.2 = false) (hK : hK h a = ci + 1) (hf9 : ci * 32 + k = f) (hx9 : narrow (ty0 k) (.int x) = .int x ∧ fits (ty0 k) (.int x) = true) (kk : zV X kc ks (sI h f a x) (pc + 3) lo st) : zV X kc ks h pc lo (.int x :: .ref a :: st) := by
  subst hf9; exact zV.putNI C d K hk hf hw hfin hK hx9 kk
theorem zV.pR {ci k index N a b : Nat} {Cn : String} {T : u_T} {ty0 : Nat → FieldType} (f : Nat) (C : zC X cc own nL) (d : decode cc pc = .ok (.putfield index, 3)) (K : zCl ci Cn T N ty0) (hk : k < N) (hf : (zFl ci)[k]? = some true) (hw : zWd (.fieldLink own index (T k).1 (T k).2.1 (T k).2.2.1)) (hfin : (T k).2.2.2 = false) (hK : hK h a = ci + 1) (hf9 : ci * 32 + k = f) (hx9 : ∀ q, narrow (ty0 k) (.ref q) = .ref q ∧ fits (ty0 k) (.ref q) = true) (kk : zV X kc ks (sR h f a (some b)) (pc + 3) lo st) : zV X kc ks h pc lo (.ref b :: .ref a :: st) := by
  subst hf9; exact zV.putR C d K hk hf hw hfin hK hx9 kk
theorem zV.pFR {ci k index N a b : Nat} {Cn : String} {T : u_T} {ty0 : Nat → FieldType} (f : Nat) (C : zC X cc own nL) (d : decode cc pc = .ok (.putfield index, 3)) (K : zCl ci Cn T N ty0) (hk : k < N) (hf : (zFl ci)[k]? = some true) (hw : zWd (.fieldLink own index (T k).1 (T k).2.1 (T k).2.2.1)) (hfin : (T k).2.2.2 = true) (hin2 : zIni X) (hdecl : (T k).1 = own) (hK : hK h a = ci + 1) (hf9 : ci * 32 + k = f) (hx9 : ∀ q, narrow (ty0 k) (.ref q) = .ref q ∧ fits (ty0 k) (.ref q) = true) (kk : zV X kc ks (sR h f a (some b)) (pc + 3) lo st) : zV X kc ks h pc lo (.ref b :: .ref a :: st) := by
  subst hf9; exact zV.putFR C d K hk hf hw hfin hin2 hdecl hK hx9 kk
end ZW9
theorem retT {c : Prop} [Decidable c] (h : c) : some (Value.int (nI 1)) = some (.int (nI (if c then 1 else 0))) := by rw [if_pos h]
theorem retF {c : Prop} [Decidable c] (h : ¬ c) : some (Value.int (nI 0)) = some (.int (nI (if c then 1 else 0))) := by rw [if_neg h]
theorem zbf {x : Int32} (h : x = nI 0 ∨ x = nI 1) : narrow .boolean (.int x) = .int x ∧ fits .boolean (.int x) = true := by rcases h with rfl | rfl <;> exact ⟨rfl, rfl⟩
