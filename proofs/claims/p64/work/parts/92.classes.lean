-- the classes of the world
theorem la_prim {s : State} {args : Array Value} {ty : FieldType} (h : (Cond.arrayClass ty).before args s = true) : ∃ cA : ClassId, ArrOfT s cA ty ∧ s.vm.findClass ("[" ++ ty.toString) = some cA := by
  obtain ⟨c, k, comp, h1, h2, h3⟩ := Cond.arrayClass_spec h
  exact ⟨c, fun n z => ⟨fun k h => (by cases h), k, h2, comp, h3⟩, h1⟩
theorem la_obj {s : State} {args : Array Value} {Cn : String} (h : (Cond.arrayOver (.object Cn)).before args s = true) : ∃ cA : ClassId, ArrOfT s cA (.object Cn) ∧ va_RA s cA (.object Cn) := by
  obtain ⟨comp, c, k, h1, h2, h3, h4, h5⟩ := Cond.arrayOver_spec h
  exact ⟨c, fun n z => ⟨fun k h => (by cases h), k, h3, comp, h4⟩, k, comp, h3, h4, h1, h5⟩
theorem la_arr {s : State} {args : Array Value} {t : FieldType} (h : (Cond.arrayOver (.array t)).before args s = true) : ∃ cA : ClassId, ArrOfT s cA (.array t) ∧ va_RA s cA (.array t) := by
  have h : (Cond.arrayOver (.array t)).holds args s none s [] = true := h
  simp only [Cond.holds, Cond.value, beq_iff_eq] at h
  cases hc : s.vm.findClass (FieldType.array t).toString with
  | none => simp [hc] at h
  | some comp =>
    simp only [hc, Option.bind_some, Option.bind_eq_some_iff, Option.map_eq_some_iff] at h
    obtain ⟨c, h2, k, h3, hb⟩ := h
    cases hk : k.kind with
    | array c2 t2 =>
      rw [hk] at hb
      dsimp only at hb
      rw [Bool.and_eq_true, decide_eq_true_eq, decide_eq_true_eq] at hb
      obtain ⟨rfl, hf⟩ := hb
      exact ⟨c, fun n z => ⟨fun k h => (by cases h), k, h3, c2, hk⟩, hf⟩
    | _ => rw [hk] at hb; cases hb
theorem la_K {s : State} {args : Array Value} (hts : ∀ w ∈ lw_tbl, w.before args s = true) : ∃ (dC : Nat → ClassId) (dI : Nat → Nat → Nat) (dA : Nat → ClassId), va_K (dC, dI) vwCl ((List.range 8).map (fun k => (dA (101 + k), zTy (101 + k)))) s := by
  have one : ∀ {k ci N n : Nat} {Cn : String} {T : u_T} {ty0 : Nat → FieldType}, zCl ci Cn T N ty0 → zWd (.instantiable Cn n) → k = ci → ∃ q9 : ClassId × (Nat → Nat), ∀ q : vw_C, vwCl[k]? = some q → u_Kn s q.1 q.2.1 q.2.2 q9.1 q9.2 := by
    intro k ci N n Cn T ty0 K hi e
    subst e
    obtain ⟨cC, iS, h⟩ := u_known (N := N) (n := n) hts (fun w hw => (K.2.1 w hw).1) (hts _ hi.1)
    refine ⟨(cC, iS), fun q hq => ?_⟩
    rw [K.1] at hq
    cases hq
    exact h
  have h1 : ∀ k : Nat, ∃ q9 : ClassId × (Nat → Nat), ∀ q : vw_C, vwCl[k]? = some q → u_Kn s q.1 q.2.1 q.2.2 q9.1 q9.2 := by
    intro k
    rcases (show k = 0 ∨ k = 1 ∨ k = 2 ∨ k = 3 ∨ k = 4 ∨ k = 5 ∨ k = 6 ∨ k = 7 ∨ k = 8 ∨ k = 9 ∨ k = 10 ∨ k = 11 ∨ k = 12 ∨ 13 ≤ k by omega) with e | e | e | e | e | e | e | e | e | e | e | e | e | e
    · exact one zcl_J0 it_J0 e
    · exact one zcl_J4 it_J4 e
    · exact one zcl_Jx00060 it_Jx00060 e
    · exact one zcl_Jx7c733 it_Jx7c733 e
    · exact one zcl_X0 it_X0 e
    · exact one zcl_X1 it_X1 e
    · exact one zcl_X3 it_X3 e
    · exact one zcl_X4 it_X4 e
    · exact one zcl_X5 it_X5 e
    · exact one zcl_X6 it_X6 e
    · exact one zcl_X7 it_X7 e
    · exact one zcl_X8 it_X8 e
    · exact one zcl_X9 it_X9 e
    · obtain ⟨q9, -⟩ := one (k := 0) zcl_J0 it_J0 rfl
      exact ⟨q9, fun q hq => by rw [List.getElem?_eq_none (show vwCl.length ≤ k from e)] at hq; cases hq⟩
  have h2 : ∀ k : Nat, ∃ cA : ClassId, k < 8 → ArrOfT s cA (zTy (101 + k)) ∧ va_RA s cA (zTy (101 + k)) := by
    intro k
    rcases (show k = 0 ∨ k = 1 ∨ k = 2 ∨ k = 3 ∨ k = 4 ∨ k = 5 ∨ k = 6 ∨ k = 7 ∨ 8 ≤ k by omega) with rfl | rfl | rfl | rfl | rfl | rfl | rfl | rfl | e
    · obtain ⟨c, h⟩ := la_prim (hts _ ac_byte.1); exact ⟨c, fun _ => h⟩
    · obtain ⟨c, h⟩ := la_prim (hts _ ac_char.1); exact ⟨c, fun _ => h⟩
    · obtain ⟨c, h⟩ := la_prim (hts _ ac_int.1); exact ⟨c, fun _ => h⟩
    · obtain ⟨c, h⟩ := la_prim (hts _ ac_long.1); exact ⟨c, fun _ => h⟩
    · obtain ⟨c, h⟩ := la_prim (hts _ ac_long.1); exact ⟨c, fun _ => h⟩
    · obtain ⟨c, h⟩ := la_obj (hts _ ao_object_ChairMigration_Chair); exact ⟨c, fun _ => h⟩
    · obtain ⟨c, h⟩ := la_obj (hts _ ao_object_ChairMigration_Garden); exact ⟨c, fun _ => h⟩
    · obtain ⟨c, h⟩ := la_arr (hts _ ao_array_int); exact ⟨c, fun _ => h⟩
    · obtain ⟨c, h⟩ := la_prim (hts _ ac_byte.1); exact ⟨c, fun z => absurd z (by omega)⟩
  obtain ⟨f1, hf1⟩ := Classical.axiomOfChoice h1
  obtain ⟨f2, hf2⟩ := Classical.axiomOfChoice h2
  refine ⟨fun k => (f1 k).1, fun k => (f1 k).2, fun k => f2 (k - 101), fun k q hq => hf1 k q hq, fun k q hq => ?_⟩
  rw [List.getElem?_map] at hq
  rcases Nat.lt_or_ge k 8 with z | z
  · rw [List.getElem?_range z] at hq
    cases hq
    have h := hf2 k z
    have e : f2 (101 + k - 101) = f2 k := congrArg f2 (Nat.add_sub_cancel_left _ _)
    show ArrOfT s (f2 (101 + k - 101)) (zTy (101 + k)) ∧ va_RA s (f2 (101 + k - 101)) (zTy (101 + k))
    rw [e]
    exact h
  · rw [List.getElem?_eq_none (by rw [List.length_range]; exact z)] at hq
    cases hq
