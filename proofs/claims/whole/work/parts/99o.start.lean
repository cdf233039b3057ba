/-! the law: from its entry to its loop -/
def h00 : zH := (0, fun _ => 0, fun _ => 0, fun _ _ => 0, fun _ _ => none, fun _ _ => 0, fun _ _ => none, fun _ _ => 0, fun _ _ => 0)
theorem g00_R : gR 0 g00 := by
  refine ⟨⟨⟨fun c hc => (by cases hc), List.nodup_nil, Nat.zero_le _, fun j _ => (by show 5 ≤ 20; decide), (by show 3 ≤ 20; decide), Nat.zero_le _⟩, fun c hc => (by cases hc), fun j _ => (by show hsz [] j ≤ 5; exact Nat.zero_le _), ⟨Nat.le_refl 0, Nat.le_refl 0, Nat.le_refl 0, Nat.le_refl 0, Nat.le_refl 0, Nat.le_refl 0⟩⟩, ⟨fun i _ => (by show 0 < 64; decide), fun i j _ _ => (by show (0 : Nat).testBit j = (0 : Nat).testBit i; rw [Nat.zero_testBit, Nat.zero_testBit]), fun i _ => (by show (0 : Nat).testBit i = false; exact Nat.zero_testBit i), (by show 2 * 0 = popc 0 + popc 0 + popc 0 + popc 0 + popc 0 + popc 0; decide)⟩⟩
theorem LI_0 : LI 0 g00 [] none (-1) 0 0 :=
  ⟨⟨g00_R, fun u hu => (by cases hu), fun s hs => (by cases hs)⟩, ⟨Nat.le_refl 0, fun u hu => (by cases hu), fun s hs => (by cases hs)⟩, Or.inl rfl, Or.inr ⟨by decide, rfl⟩⟩
theorem LS_0 {h1 h2 : zH} (x1 : ∀ lo, 0 + 271 ≤ lo → zXa h1 0 lo g00 [] none (-1) 0 0 0 [] []) (n1 : hN h1 = 0 + 271) (s2 : rSt h2 (0 + 271) g00 [] none (-1) 0 0 0 [] []) (n2 : hN h2 = 0 + 271 + 9) (f2 : zEx (hNew h1 14 0) h2 (0 + 271)) : lwSx 0 0 (hNew (hNew h2 104 1) 105 1) := by
  have n3 : hN (hNew h2 104 1) = 281 := congrArg (· + 1) n2
  have n4 : hN (hNew (hNew h2 104 1) 105 1) = 282 := congrArg (· + 1) n3
  have z34 : ∀ c, c < 280 → zEq h2 (hNew (hNew h2 104 1) 105 1) c := fun c hc => (zEq_new (by omega)).trans (zEq_new (by omega))
  have z14 : ∀ c, c < 271 → zEq h1 (hNew (hNew h2 104 1) 105 1) c := fun c hc => ((zEq_new (k := 14) (z := 0) (by omega)).trans (f2.2 c (by omega))).trans (z34 c (by omega))
  refine ⟨g00, [], none, -1, 0, 0, 0, [], [], ⟨zXa_x (x1 (0 + 282) (by omega)) (by omega) (fun c _ h => z14 c (by omega)) (fun c h h' => absurd h' (by omega)), rSt_f s2 (fun c h h' => z34 c (by omega))⟩, ⟨⟨?_, ?_⟩, ⟨?_, ?_⟩⟩, (by omega), LI_0⟩
  · exact (hK_new (h := hNew h2 104 1) (k := 105) (z := 1) (a := 280) (by omega)).trans ((show hN h2 = 280 from n2) ▸ hK_newE)
  · exact (hL_new (h := hNew h2 104 1) (k := 105) (z := 1) (a := 280) (by omega)).trans ((show hN h2 = 280 from n2) ▸ hL_newE)
  · rw [show 0 + 281 = hN (hNew h2 104 1) from n3.symm]; exact hK_newE
  · rw [show 0 + 281 = hN (hNew h2 104 1) from n3.symm]; exact hL_newE
set_option maxHeartbeats 4000000 in
set_option maxRecDepth 100000 in
theorem L_walk {X : zX} {l : Launch} {E : zG} (hzs : zS E) (hst : l.stackTraces = false) (C : zC X cL_law RL 9) (G : zGX X l E room_1) {sq L : Nat} {xs : Nat → Int32} (T : zSc E sq L xs) (hL : L ≤ 2048) (fin : ∀ (h : zH) (kc ks : Nat) (lo : List (Nat × Value)), kc ≤ 604272 → ks ≤ 7174744 → zV X kc ks h 3188 lo []) : zV X 0 0 h00 0 [(0, .retAddr sq)] [] := by
  refine zV.new C G dL_law_0 zcl_X9 ⟨lk_L_8, it_X9, in_X9⟩ (by decide) rfl ?_
  show zV X 1 14 (hNew h00 13 0) 3 [(0, .retAddr sq)] [.ref 0]
  refine zV.dup C dL_law_3 rfl ?_
  refine zV.callI (n := 0) C G dL_law_4 (s_init hzs hst (hNew h00 13 0) 0 rfl rfl (fun f => rfl)) rfl ⟨cd_X9_init, lk_L_169, im_X9_init, in_X9⟩ rfl ⟨⟨by decide, by decide⟩, by decide⟩ rfl rfl rfl (zafRv (fun h1 ⟨x1, n1, f1⟩ => ?_)) (zno)
  show zV X 271 1621 h1 7 [(0, .retAddr sq)] [.ref 0]
  refine zV.astore_n (lo' := [(0, .retAddr sq), (1, .ref 0)]) C dL_law_7 rfl (by decide) rfl rfl rfl ?_
  refine zV.new C G dL_law_8 zcl_X10 ⟨lk_L_170, it_X10, in_X10⟩ (by decide) rfl ?_
  rw [n1]
  refine zV.dup C dL_law_11 rfl ?_
  refine zV.callI (n := 0) C G dL_law_12 (s_minit hzs hst (hNew h1 14 0) (0 + 271) (n1 ▸ hK_newE) (congrArg (· + 1) n1) (fun f => n1 ▸ hI_newE)) rfl ⟨cd_X10_init, lk_L_172, im_X10_init, in_X10⟩ rfl ⟨⟨by decide, by decide⟩, by decide⟩ rfl rfl rfl (zafRv (fun h2 ⟨s2, n2, f2⟩ => ?_)) (zno)
  show zV X 280 3155 h2 15 [(0, .retAddr sq), (1, .ref 0)] [.ref (0 + 271)]
  refine zV.astore_n (lo' := [(0, .retAddr sq), (1, .ref 0), (2, .ref (0 + 271))]) C dL_law_15 rfl (by decide) rfl rfl rfl ?_
  refine zV.ic (v := nI 1) C dL_law_16 (by decide) ?_
  refine zV.newJ (n := 1) C G dL_law_17 ac_long rfl (by decide) rfl ?_
  rw [n2]
  refine zV.astore_n (lo' := [(0, .retAddr sq), (1, .ref 0), (2, .ref (0 + 271)), (3, .ref (0 + 280))]) C dL_law_19 rfl (by decide) rfl rfl rfl ?_
  refine zV.ic (v := nI 1) C dL_law_20 (by decide) ?_
  refine zV.newD (n := 1) C G dL_law_21 ac_double rfl (by decide) rfl ?_
  rw [show hN (hNew h2 104 1) = 0 + 281 from congrArg (· + 1) n2]
  refine zV.astore (lo' := [(0, .retAddr sq), (1, .ref 0), (2, .ref (0 + 271)), (3, .ref (0 + 280)), (4, .ref (0 + 281))]) C dL_law_23 rfl (by decide) rfl rfl rfl ?_
  refine zV.ic (v := nI 0) C dL_law_25 (by decide) ?_
  refine zV.istore (lo' := [(0, .retAddr sq), (1, .ref 0), (2, .ref (0 + 271)), (3, .ref (0 + 280)), (4, .ref (0 + 281)), (5, .int (nI 0))]) C dL_law_26 (by decide) rfl rfl rfl ?_
  exact L_loop hzs hst C G T hL (fun k h kc ks h1 h2 => fin h kc ks _ h1 h2) 512 0 _ _ _ rfl (by decide) (by decide) (LS_0 x1 n1 s2 n2 f2)
-- the classes of the world
theorem la_prim {s : State} {args : Array Value} {ty : FieldType} (h : (Cond.arrayClass ty).before args s = true) : ∃ cA : ClassId, ArrOfT s cA ty ∧ s.vm.findClass ("[" ++ ty.toString) = some cA := by
  obtain ⟨c, k, comp, h1, h2, h3⟩ := Cond.arrayClass_spec h
  exact ⟨c, fun n z => ⟨fun k h => (by cases h), k, h2, comp, h3⟩, h1⟩
theorem la_obj {s : State} {args : Array Value} {Cn : String} (h : (Cond.arrayOver (.object Cn)).before args s = true) : ∃ cA : ClassId, ArrOfT s cA (.object Cn) ∧ va_RA s cA (.object Cn) := by
  obtain ⟨comp, c, k, h1, h2, h3, h4, h5⟩ := Cond.arrayOver_spec h
  exact ⟨c, fun n z => ⟨fun k h => (by cases h), k, h3, comp, h4⟩, k, comp, h3, h4, h1, h5⟩
theorem la_arr {s : State} {args : Array Value} {t : FieldType} (h : (Cond.arrayOver (.array t)).before args s = true) : ∃ cA : ClassId, ArrOfT s cA (.array t) ∧ va_RA s cA (.array t) := by
  have h : (Cond.arrayOver (.array t)).holds args s none s [] = true := h
  simp only [Cond.holds, Cond.value, beq_iff_eq] at h
  cases hc : s.vm.findClass (FieldType.array t).toString with
  | none => simp [hc] at h
  | some comp =>
    simp only [hc, Option.bind_some, Option.bind_eq_some_iff, Option.map_eq_some_iff] at h
    obtain ⟨c, h2, k, h3, hb⟩ := h
    cases hk : k.kind with
    | array c2 t2 =>
      rw [hk] at hb
      dsimp only at hb
      rw [Bool.and_eq_true, decide_eq_true_eq, decide_eq_true_eq] at hb
      obtain ⟨rfl, hf⟩ := hb
      exact ⟨c, fun n z => ⟨fun k h => (by cases h), k, h3, c2, hk⟩, hf⟩
    | _ => rw [hk] at hb; cases hb
theorem la_K {s : State} {args : Array Value} (hts : ∀ w ∈ lw_tbl, w.before args s = true) : ∃ (dC : Nat → ClassId) (dI : Nat → Nat → Nat) (dA : Nat → ClassId), va_K (dC, dI) vwCl ((List.range 8).map (fun k => (dA (101 + k), zTy (101 + k)))) s := by
  have one : ∀ {k ci N n : Nat} {Cn : String} {T : u_T} {ty0 : Nat → FieldType}, zCl ci Cn T N ty0 → zWd (.instantiable Cn n) → k = ci → ∃ q9 : ClassId × (Nat → Nat), ∀ q : vw_C, vwCl[k]? = some q → u_Kn s q.1 q.2.1 q.2.2 q9.1 q9.2 := by
    intro k ci N n Cn T ty0 K hi e
    subst e
    obtain ⟨cC, iS, h⟩ := u_known (N := N) (n := n) hts (fun w hw => (K.2.1 w hw).1) (hts _ hi.1)
    refine ⟨(cC, iS), fun q hq => ?_⟩
    rw [K.1] at hq
    cases hq
    exact h
  have h1 : ∀ k : Nat, ∃ q9 : ClassId × (Nat → Nat), ∀ q : vw_C, vwCl[k]? = some q → u_Kn s q.1 q.2.1 q.2.2 q9.1 q9.2 := by
    intro k
    rcases (show k = 0 ∨ k = 1 ∨ k = 2 ∨ k = 3 ∨ k = 4 ∨ k = 5 ∨ k = 6 ∨ k = 7 ∨ k = 8 ∨ k = 9 ∨ k = 10 ∨ k = 11 ∨ k = 12 ∨ k = 13 ∨ 14 ≤ k by omega) with e | e | e | e | e | e | e | e | e | e | e | e | e | e | e
    · exact one zcl_J0 it_J0 e
    · exact one zcl_J4 it_J4 e
    · exact one zcl_Jx00060 it_Jx00060 e
    · exact one zcl_Jx7c733 it_Jx7c733 e
    · exact one zcl_X0 it_X0 e
    · exact one zcl_X1 it_X1 e
    · exact one zcl_X3 it_X3 e
    · exact one zcl_X4 it_X4 e
    · exact one zcl_X5 it_X5 e
    · exact one zcl_X6 it_X6 e
    · exact one zcl_X7 it_X7 e
    · exact one zcl_X8 it_X8 e
    · exact one zcl_X9 it_X9 e
    · exact one zcl_X10 it_X10 e
    · obtain ⟨q9, -⟩ := one (k := 0) zcl_J0 it_J0 rfl
      exact ⟨q9, fun q hq => by rw [List.getElem?_eq_none (show vwCl.length ≤ k from e)] at hq; cases hq⟩
  have h2 : ∀ k : Nat, ∃ cA : ClassId, k < 8 → ArrOfT s cA (zTy (101 + k)) ∧ va_RA s cA (zTy (101 + k)) := by
    intro k
    rcases (show k = 0 ∨ k = 1 ∨ k = 2 ∨ k = 3 ∨ k = 4 ∨ k = 5 ∨ k = 6 ∨ k = 7 ∨ 8 ≤ k by omega) with rfl | rfl | rfl | rfl | rfl | rfl | rfl | rfl | e
    · obtain ⟨c, h⟩ := la_prim (hts _ ac_byte.1); exact ⟨c, fun _ => h⟩
    · obtain ⟨c, h⟩ := la_prim (hts _ ac_char.1); exact ⟨c, fun _ => h⟩
    · obtain ⟨c, h⟩ := la_prim (hts _ ac_int.1); exact ⟨c, fun _ => h⟩
    · obtain ⟨c, h⟩ := la_prim (hts _ ac_long.1); exact ⟨c, fun _ => h⟩
    · obtain ⟨c, h⟩ := la_prim (hts _ ac_double.1); exact ⟨c, fun _ => h⟩
    · obtain ⟨c, h⟩ := la_obj (hts _ ao_object_ChairMigration_Chair); exact ⟨c, fun _ => h⟩
    · obtain ⟨c, h⟩ := la_obj (hts _ ao_object_ChairMigration_Garden); exact ⟨c, fun _ => h⟩
    · obtain ⟨c, h⟩ := la_arr (hts _ ao_array_int); exact ⟨c, fun _ => h⟩
    · obtain ⟨c, h⟩ := la_prim (hts _ ac_byte.1); exact ⟨c, fun z => absurd z (by omega)⟩
  obtain ⟨f1, hf1⟩ := Classical.axiomOfChoice h1
  obtain ⟨f2, hf2⟩ := Classical.axiomOfChoice h2
  refine ⟨fun k => (f1 k).1, fun k => (f1 k).2, fun k => f2 (k - 101), fun k q hq => hf1 k q hq, fun k q hq => ?_⟩
  rw [List.getElem?_map] at hq
  rcases Nat.lt_or_ge k 8 with z | z
  · rw [List.getElem?_range z] at hq
    cases hq
    have h := hf2 k z
    have e : f2 (101 + k - 101) = f2 k := congrArg f2 (Nat.add_sub_cancel_left _ _)
    show ArrOfT s (f2 (101 + k - 101)) (zTy (101 + k)) ∧ va_RA s (f2 (101 + k - 101)) (zTy (101 + k))
    rw [e]
    exact h
  · rw [List.getElem?_eq_none (by rw [List.length_range]; exact z)] at hq
    cases hq
