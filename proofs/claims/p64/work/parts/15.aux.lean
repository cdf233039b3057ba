/-! after a call that answers one value and leaves the heap at h2 -/
theorem zaf {X : zX} {kc ks : Nat} {h2 : zH} {pc : Nat} {lo : List (Nat × Value)} {rest : List Value} {v : Value} {n : Nat} (k : zV X kc ks h2 pc lo (v :: rest)) : ∀ (r : Option Value) (h' : zH), (r = some v ∧ h' = h2) → n ≤ hN h' → zV X kc ks h' pc lo (r.toList ++ rest) := fun r h' q _ => by
  obtain ⟨rfl, rfl⟩ := q
  exact k
theorem zafv {X : zX} {kc ks : Nat} {h2 : zH} {pc : Nat} {lo : List (Nat × Value)} {rest : List Value} {n : Nat} (k : zV X kc ks h2 pc lo rest) : ∀ (r : Option Value) (h' : zH), (r = none ∧ h' = h2) → n ≤ hN h' → zV X kc ks h' pc lo (r.toList ++ rest) := fun r h' q _ => by
  obtain ⟨rfl, rfl⟩ := q
  exact k
theorem zno {X : zX} {kc ks : Nat} {h : zH} {pc : Nat} {lo : List (Nat × Value)} {rest : List Value} : ∀ (Ex : String) (h' : zH), False → hN h ≤ hN h' → zVX X kc ks h' pc lo rest Ex := fun _ _ q _ => q.elim
-- shapes
def zLs (h : zH) (a : Nat) : Prop := hK h a = 11 ∧ hR h 320 a = some (a + 1) ∧ hK h (a + 1) = 103 ∧ hL h (a + 1) = 6
def zPs (h : zH) (a : Nat) : Prop := hK h a = 12 ∧ hR h 352 a = some (a + 1) ∧ zLs h (a + 1)
def zGs (h : zH) (b : Nat) : Prop := hK h b = 7 ∧ hR h 192 b = some (b + 1) ∧ hR h 193 b = some (b + 4) ∧ hR h 194 b = some (b + 6) ∧ hR h 195 b = some (b + 8) ∧ zPs h (b + 1) ∧ zLs h (b + 4) ∧ zLs h (b + 6) ∧ (hK h (b + 8) = 106 ∧ hL h (b + 8) = 12) ∧ ∀ i, i < 12 → hK h (b + 9 + i) = 5
theorem i32_lt0 {x : Int32} : x < 0 ↔ x.toInt < 0 := by rw [Int32.lt_iff_toInt_lt]; rfl
theorem ge6 {x : Int32} (h1 : ¬ x < 0) (h2 : ¬ 6 ≤ x) : ∃ j : Nat, j < 6 ∧ x = nI j := by
  obtain ⟨j, hj, rfl⟩ := nI_of h1
  refine ⟨j, ?_, rfl⟩
  have h3 : ¬ nI 6 ≤ nI j := h2
  rw [nI_leI (by decide) hj] at h3
  omega
section ZW9
variable {X : zX} {kc ks : Nat} {h : zH} {pc : Nat} {lo : List (Nat × Value)} {st : List Value} {cc : ByteArray} {own : String} {nL : Nat}
theorem zV.gI {ci k index N a : Nat} {Cn : String} {T : u_T} {ty0 : Nat → FieldType} (f : Nat) (C : zC X cc own nL) (d : decode cc pc = .ok (.getfield index, 3)) (K : zCl ci Cn T N ty0) (hk : k < N) (hf : (zFl ci)[k]? = some false) (hw : zWd (.fieldLink own index (T k).1 (T k).2.1 (T k).2.2.1)) (hK : hK h a = ci + 1) (hf9 : ci * 32 + k = f) (kk : zV X kc ks h (pc + 3) lo (.int (hI h f a) :: st)) : zV X kc ks h pc lo (.ref a :: st) := by
  subst hf9; exact zV.getI C d K.1 K.2.1 hk hf hw hK K.2.2.2.2.2 kk
theorem zV.gNI {ci k index N a : Nat} {Cn host : String} {T : u_T} {ty0 : Nat → FieldType} (f : Nat) (C : zC X cc own nL) (d : decode cc pc = .ok (.getfield index, 3)) (K : zCl ci Cn T N ty0) (hk : k < N) (hf : (zFl ci)[k]? = some false) (hw : Cond.fieldLinkNest own index (T k).1 (T k).2.1 (T k).2.2.1 host ∈ lw_tbl) (hK : hK h a = ci + 1) (hf9 : ci * 32 + k = f) (kk : zV X kc ks h (pc + 3) lo (.int (hI h f a) :: st)) : zV X kc ks h pc lo (.ref a :: st) := by
  subst hf9; exact zV.getNI C d K.1 K.2.1 hk hf hw hK K.2.2.2.2.2 kk
theorem zV.gR {ci k index N a b : Nat} {Cn : String} {T : u_T} {ty0 : Nat → FieldType} (f : Nat) (C : zC X cc own nL) (d : decode cc pc = .ok (.getfield index, 3)) (K : zCl ci Cn T N ty0) (hk : k < N) (hf : (zFl ci)[k]? = some true) (hw : zWd (.fieldLink own index (T k).1 (T k).2.1 (T k).2.2.1)) (hK : hK h a = ci + 1) (hf9 : ci * 32 + k = f) (hv : hR h f a = some b) (kk : zV X kc ks h (pc + 3) lo (.ref b :: st)) : zV X kc ks h pc lo (.ref a :: st) := by
  subst hf9; exact zV.getR C d K.1 K.2.1 hk hf hw hK K.2.2.2.2.2 hv kk
theorem zV.gNR {ci k index N a b : Nat} {Cn host : String} {T : u_T} {ty0 : Nat → FieldType} (f : Nat) (C : zC X cc own nL) (d : decode cc pc = .ok (.getfield index, 3)) (K : zCl ci Cn T N ty0) (hk : k < N) (hf : (zFl ci)[k]? = some true) (hw : Cond.fieldLinkNest own index (T k).1 (T k).2.1 (T k).2.2.1 host ∈ lw_tbl) (hK : hK h a = ci + 1) (hf9 : ci * 32 + k = f) (hv : hR h f a = some b) (kk : zV X kc ks h (pc + 3) lo (.ref b :: st)) : zV X kc ks h pc lo (.ref a :: st) := by
  subst hf9; exact zV.getNR C d K.1 K.2.1 hk hf hw hK K.2.2.2.2.2 hv kk
theorem zV.pI {ci k index N a : Nat} {Cn : String} {T : u_T} {ty0 : Nat → FieldType} {x : Int32} (f : Nat) (C : zC X cc own nL) (d : decode cc pc = .ok (.putfield index, 3)) (K : zCl ci Cn T N ty0) (hk : k < N) (hf : (zFl ci)[k]? = some false) (hw : zWd (.fieldLink own index (T k).1 (T k).2.1 (T k).2.2.1)) (hfin : (T k).2.2.2 = false) (hK : hK h a = ci + 1) (hf9 : ci * 32 + k = f) (hx9 : narrow (ty0 k) (.int x) = .int x ∧ fits (ty0 k) (.int x) = true) (kk : zV X kc ks (sI h f a x) (pc + 3) lo st) : zV X kc ks h pc lo (.int x :: .ref a :: st) := by
  subst hf9; exact zV.putI C d K hk hf hw hfin hK hx9 kk
theorem zV.pNI {ci k index N a : Nat} {Cn host : String} {T : u_T} {ty0 : Nat → FieldType} {x : Int32} (f : Nat) (C : zC X cc own nL) (d : decode cc pc = .ok (.putfield index, 3)) (K : zCl ci Cn T N ty0) (hk : k < N) (hf : (zFl ci)[k]? = some false) (hw : Cond.fieldLinkNest own index (T k).1 (T k).2.1 (T k).2.2.1 host ∈ lw_tbl) (hfin : (T k).2.2.2 = false) (hK : hK h a = ci + 1) (hf9 : ci * 32 + k = f) (hx9 : narrow (ty0 k) (.int x) = .int x ∧ fits (ty0 k) (.int x) = true) (kk : zV X kc ks (sI h f a x) (pc + 3) lo st) : zV X kc ks h pc lo (.int x :: .ref a :: st) := by
  subst hf9; exact zV.putNI C d K hk hf hw hfin hK hx9 kk
theorem zV.pR {ci k index N a b : Nat} {Cn : String} {T : u_T} {ty0 : Nat → FieldType} (f : Nat) (C : zC X cc own nL) (d : decode cc pc = .ok (.putfield index, 3)) (K : zCl ci Cn T N ty0) (hk : k < N) (hf : (zFl ci)[k]? = some true) (hw : zWd (.fieldLink own index (T k).1 (T k).2.1 (T k).2.2.1)) (hfin : (T k).2.2.2 = false) (hK : hK h a = ci + 1) (hf9 : ci * 32 + k = f) (hx9 : ∀ q, narrow (ty0 k) (.ref q) = .ref q ∧ fits (ty0 k) (.ref q) = true) (kk : zV X kc ks (sR h f a (some b)) (pc + 3) lo st) : zV X kc ks h pc lo (.ref b :: .ref a :: st) := by
  subst hf9; exact zV.putR C d K hk hf hw hfin hK hx9 kk
theorem zV.pFR {ci k index N a b : Nat} {Cn : String} {T : u_T} {ty0 : Nat → FieldType} (f : Nat) (C : zC X cc own nL) (d : decode cc pc = .ok (.putfield index, 3)) (K : zCl ci Cn T N ty0) (hk : k < N) (hf : (zFl ci)[k]? = some true) (hw : zWd (.fieldLink own index (T k).1 (T k).2.1 (T k).2.2.1)) (hfin : (T k).2.2.2 = true) (hin2 : zIni X) (hdecl : (T k).1 = own) (hK : hK h a = ci + 1) (hf9 : ci * 32 + k = f) (hx9 : ∀ q, narrow (ty0 k) (.ref q) = .ref q ∧ fits (ty0 k) (.ref q) = true) (kk : zV X kc ks (sR h f a (some b)) (pc + 3) lo st) : zV X kc ks h pc lo (.ref b :: .ref a :: st) := by
  subst hf9; exact zV.putFR C d K hk hf hw hfin hin2 hdecl hK hx9 kk
end ZW9
theorem retT {c : Prop} [Decidable c] (h : c) : some (Value.int (nI 1)) = some (.int (nI (if c then 1 else 0))) := by rw [if_pos h]
theorem retF {c : Prop} [Decidable c] (h : ¬ c) : some (Value.int (nI 0)) = some (.int (nI (if c then 1 else 0))) := by rw [if_neg h]
theorem zbf {x : Int32} (h : x = nI 0 ∨ x = nI 1) : narrow .boolean (.int x) = .int x ∧ fits .boolean (.int x) = true := by rcases h with rfl | rfl <;> exact ⟨rfl, rfl⟩
section ZW8
variable {X : zX} {kc ks : Nat} {h : zH} {pc : Nat} {lo : List (Nat × Value)} {st : List Value} {cc : ByteArray} {own : String} {nL : Nat}
theorem zV.gIv {ci k index N a : Nat} {Cn : String} {T : u_T} {ty0 : Nat → FieldType} {v : Int32} (f : Nat) (C : zC X cc own nL) (d : decode cc pc = .ok (.getfield index, 3)) (K : zCl ci Cn T N ty0) (hk : k < N) (hf : (zFl ci)[k]? = some false) (hw : zWd (.fieldLink own index (T k).1 (T k).2.1 (T k).2.2.1)) (hK : hK h a = ci + 1) (hf9 : ci * 32 + k = f) (hv : hI h f a = v) (kk : zV X kc ks h (pc + 3) lo (.int v :: st)) : zV X kc ks h pc lo (.ref a :: st) := by
  subst hv; exact zV.gI f C d K hk hf hw hK hf9 kk
theorem zV.gNIv {ci k index N a : Nat} {Cn host : String} {T : u_T} {ty0 : Nat → FieldType} {v : Int32} (f : Nat) (C : zC X cc own nL) (d : decode cc pc = .ok (.getfield index, 3)) (K : zCl ci Cn T N ty0) (hk : k < N) (hf : (zFl ci)[k]? = some false) (hw : Cond.fieldLinkNest own index (T k).1 (T k).2.1 (T k).2.2.1 host ∈ lw_tbl) (hK : hK h a = ci + 1) (hf9 : ci * 32 + k = f) (hv : hI h f a = v) (kk : zV X kc ks h (pc + 3) lo (.int v :: st)) : zV X kc ks h pc lo (.ref a :: st) := by
  subst hv; exact zV.gNI f C d K hk hf hw hK hf9 kk
theorem zV.ialdv {a j : Nat} {i v : Int32} (C : zC X cc own nL) (d : decode cc pc = .ok (.iaload, 1)) (hK : hK h a = 103) (hi : i = nI j) (hj : j < hL h a) (hj2 : j < 2 ^ 31) (hv : aI h a j = v) (kk : zV X kc ks h (pc + 1) lo (.int v :: st)) : zV X kc ks h pc lo (.int i :: .ref a :: st) := by
  subst hv; exact zV.iald C d hK hi hj hj2 kk
theorem zV.caldv {a j : Nat} {i v : Int32} (C : zC X cc own nL) (d : decode cc pc = .ok (.caload, 1)) (hK : hK h a = 102) (hi : i = nI j) (hj : j < hL h a) (hj2 : j < 2 ^ 31) (hv : aI h a j = v) (kk : zV X kc ks h (pc + 1) lo (.int v :: st)) : zV X kc ks h pc lo (.int i :: .ref a :: st) := by
  subst hv; exact zV.cald C d hK hi hj hj2 kk
theorem zV.baldv {a j : Nat} {i v : Int32} (C : zC X cc own nL) (d : decode cc pc = .ok (.baload, 1)) (hK : hK h a = 101) (hi : i = nI j) (hj : j < hL h a) (hj2 : j < 2 ^ 31) (hv : aI h a j = v) (kk : zV X kc ks h (pc + 1) lo (.int v :: st)) : zV X kc ks h pc lo (.int i :: .ref a :: st) := by
  subst hv; exact zV.bald C d hK hi hj hj2 kk
/-- a call's answer, under another name -/
theorem zafe {h2 : zH} {v w : Value} {n : Nat} (e : v = w) (k : zV X kc ks h2 pc lo (w :: st)) : ∀ (r : Option Value) (h' : zH), (r = some v ∧ h' = h2) → n ≤ hN h' → zV X kc ks h' pc lo (r.toList ++ st) := by
  subst e; exact zaf k
end ZW8
-- reading after writing
theorem hI_sI {h : zH} {f a : Nat} {v : Int32} : hI (sI h f a v) f a = v := up2_eq
theorem hI_sI_f {h : zH} {f a g b : Nat} {v : Int32} (q : g ≠ f) : hI (sI h f a v) g b = hI h g b := up2_ne (fun z => q z.1)
theorem hI_sI_a {h : zH} {f a g b : Nat} {v : Int32} (q : b ≠ a) : hI (sI h f a v) g b = hI h g b := up2_ne (fun z => q z.2)
theorem aI_saI {h : zH} {a i : Nat} {v : Int32} : aI (saI h a i v) a i = v := up2_eq
theorem aI_saI_a {h : zH} {a i b j : Nat} {v : Int32} (q : b ≠ a) : aI (saI h a i v) b j = aI h b j := up2_ne (fun z => q z.1)
theorem aI_saI_i {h : zH} {a i b j : Nat} {v : Int32} (q : j ≠ i) : aI (saI h a i v) b j = aI h b j := up2_ne (fun z => q z.2)
theorem aR_saR {h : zH} {a i : Nat} {v : Option Nat} : aR (saR h a i v) a i = v := up2_eq
theorem aR_saR_a {h : zH} {a i b j : Nat} {v : Option Nat} (q : b ≠ a) : aR (saR h a i v) b j = aR h b j := up2_ne (fun z => q z.1)
theorem aR_saR_i {h : zH} {a i b j : Nat} {v : Option Nat} (q : j ≠ i) : aR (saR h a i v) b j = aR h b j := up2_ne (fun z => q z.2)
theorem hR_sR {h : zH} {f a : Nat} {v : Option Nat} : hR (sR h f a v) f a = v := up2_eq
theorem hR_sR_f {h : zH} {f a g b : Nat} {v : Option Nat} (q : g ≠ f) : hR (sR h f a v) g b = hR h g b := up2_ne (fun z => q z.1)
theorem hR_sR_a {h : zH} {f a g b : Nat} {v : Option Nat} (q : b ≠ a) : hR (sR h f a v) g b = hR h g b := up2_ne (fun z => q z.2)
theorem aI_sRow {h : zH} {a : Nat} {g : Nat → Int32} : aI (sRow h a g) a = g := if_pos rfl
theorem aI_sRow_a {h : zH} {a b : Nat} {g : Nat → Int32} (q : b ≠ a) : aI (sRow h a g) b = aI h b := if_neg q
theorem hK_new {h : zH} {k z a : Nat} (q : a ≠ hN h) : hK (hNew h k z) a = hK h a := if_neg q
theorem hK_newE {h : zH} {k z : Nat} : hK (hNew h k z) (hN h) = k := if_pos rfl
theorem hL_new {h : zH} {k z a : Nat} (q : a ≠ hN h) : hL (hNew h k z) a = hL h a := if_neg q
theorem hL_newE {h : zH} {k z : Nat} : hL (hNew h k z) (hN h) = z := if_pos rfl
theorem hI_new {h : zH} {k z f a : Nat} (q : a ≠ hN h) : hI (hNew h k z) f a = hI h f a := if_neg q
theorem hI_newE {h : zH} {k z f : Nat} : hI (hNew h k z) f (hN h) = 0 := if_pos rfl
theorem hR_new {h : zH} {k z f a : Nat} (q : a ≠ hN h) : hR (hNew h k z) f a = hR h f a := if_neg q
theorem aI_new {h : zH} {k z a i : Nat} (q : a ≠ hN h) : aI (hNew h k z) a i = aI h a i := if_neg q
theorem aI_newE {h : zH} {k z i : Nat} : aI (hNew h k z) (hN h) i = 0 := if_pos rfl
theorem aR_new {h : zH} {k z a i : Nat} (q : a ≠ hN h) : aR (hNew h k z) a i = aR h a i := if_neg q
