/-! the short methods of the law -/
theorem vx_ofWF {l : Launch} {y : MethodName} {ws ws' : List Cond} {rm : Room} {Pc : Array Value → State → Prop} {Qc : Array Value → State → Outcome → State → Prop} {XC : String → State → State → Prop} {mc ms : Nat} {free : Addr → Prop} {cc : ByteArray} {maxL : Nat} {ret : Option FieldType}
    (hy : plainFor y = true) (hw : ws = Cond.code y cc maxL ret :: ws')
    (body : ∀ p e s m args below meth c s₁, BodyLoose p l y (headSpec ws rm) cc maxL ret e s m args below meth c s₁ → c.maxLocals = maxL → (∀ x ∈ c.exceptionTable.toList, False) → Pc args s →
      W p l e (headSpec ws rm).room s m args below meth c s.heap [] 0 0 (vx_MQ below Qc XC args s mc ms free) (entryFrame m args maxL)) : vx_Met l y ws rm Pc Qc XC mc ms free := by
  refine MetFree.of_bodySF (code := cc) (maxLocals := maxL) (ret := ret) hy ?_ ?_
  · intro args s m h hn
    obtain ⟨meth, c, h1, h2, h3, h4, h5, h6, -, -⟩ := Cond.code_spec hn (atoms_spec (ws := ws) h _ (by rw [hw]; exact List.mem_cons_self))
    exact ⟨meth, c, h1, h2, h3, h4, h5, h6⟩
  · intro p e s m args below meth c s₁ B hml hP _
    have hh0 : s₁.heap = s.heap := by rw [B.state]; rfl
    have ht : ∀ x ∈ c.exceptionTable.toList, False := by
      obtain ⟨meth9, c9, h1, h2, -, -, -, -, h7, -⟩ := Cond.code_spec B.named (atoms_spec (ws := ws) B.pre _ (by rw [hw]; exact List.mem_cons_self))
      cases Option.some.inj (h1.symm.trans B.method)
      cases Option.some.inj (h2.symm.trans (Stand.of_body B).code)
      intro x hx
      rw [Array.isEmpty_iff.mp h7] at hx
      cases hx
    obtain ⟨t, a1, o, b1, b2, b3⟩ := body p e s m args below meth c s₁ B hml ht hP s₁ hh0 (Stand.of_body B)
    exact ⟨t, o, a1, b1, b2, b3⟩
/-- the body of a method, from its entry -/
theorem zM_startF {l : Launch} {E : zG} {y : MethodName} {cc : ByteArray} {maxL : Nat} {ret : Option FieldType} {rm : Room} {mc ms : Nat} {vs : List Value} {h : zH} {Qr : Option Value → zH → Prop} {Qx : String → zH → Prop}
    (hzs : zS E) (hst : l.stackTraces = false) (hy : plainFor y = true) (hlen : (lg_sl vs).length ≤ maxL)
    (body : ∀ X : zX, zC X cc y.cls maxL → zGX X l E rm → zF X ret mc ms Qr Qx → (y.name = "<init>" → zIni X) → zV X 0 0 h 0 (lv_args 0 vs) []) : zMet l E y cc maxL ret rm mc ms vs h Qr Qx := by
  intro ad
  refine vx_ofWF (cc := cc) (maxL := maxL) (ret := ret) hy rfl ?_
  intro p e s m args below meth c s₁ B hml ht hv
  obtain ⟨rfl, hw, hok⟩ := hv
  have hsl : ∀ l : List Value, (lg_sl (l.map (tr ad))).length = (lg_sl l).length := by
    intro l
    induction l with
    | nil => rfl
    | cons a t ih => cases a <;> simp [lg_sl, tr, Value.category, ih] at * <;> omega
  have hla : ∀ (l : List Value) (i : Nat), lv_args i (l.map (tr ad)) = trl ad (lv_args i l) := by
    intro l
    induction l with
    | nil => intro i; rfl
    | cons a t ih => intro i; cases a <;> simp [lv_args, tr, trl, Value.category] at * <;> exact ih _
  have hl := lv_entry (vs.map (tr ad)) (n := maxL) (by rw [hsl]; exact hlen)
  rw [lg_entry_eq]
  generalize (lg_sl (vs.map (tr ad)) ++ List.replicate (maxL - (lg_sl (vs.map (tr ad))).length) Slot.unset).toArray = ls at hl ⊢
  have okl : ∀ (l : List Value) (i : Nat), zOks (hN h) l → zOkl (hN h) (lv_args i l) := by
    intro l
    induction l with
    | nil => intro i _; trivial
    | cons a t ih => intro i hq; exact ⟨hq.1, ih _ hq.2⟩
  rw [hla] at hl
  refine body (p, l, e, rm, s, m, ((vs.map (tr ad)).toArray), below, meth, c, E, ad, hN h, _) ⟨B.exec, B.bytes, hml, findClass_of_methodNamed B.named, B.notSynchronized, hst, hzs, hw.1, hw.2.2.1, hw.2.1⟩ ⟨rfl, rfl, rfl⟩ ⟨B.returns, ht, rfl⟩ (fun hq => by
    show meth.name = "<init>"
    rw [← hq]; exact (name_of_methodNamed B.named B.method).1) ad s.heap [] ls (fun _ _ => rfl) (Nat.le_refl _) hw va_S.rf (okl vs 0 hok) trivial (by rw [hml]; exact hl)

def zSc (E : zG) (sq L : Nat) (xs : Nat → Int32) : Prop := va_T .int sq L (fun j => .int (xs j)) (zA E) E.2.2.1 E.2.2.1.heap
theorem zSc_of {E : zG} {sq L : Nat} {xs : Nat → Int32} (h : va_X sq L xs E.2.2.1 E.2.2.1.heap) (hb : sq < E.2.2.1.heap.size) : zSc E sq L xs := by
  obtain ⟨scr, h1, h2, h3, h4, h5⟩ := h
  exact ⟨scr, h1, h2, h3, Nat.le_of_eq h4.symm, by rw [h4], h5, Nat.not_le.mpr hb⟩
section ZLW
variable {X : zX} {l : Launch} {E : zG} {rm : Room} {kc ks : Nat} {h : zH} {pc : Nat} {lo : List (Nat × Value)} {st : List Value} {cc : ByteArray} {own : String} {nL : Nat}
theorem zV.ialdRaw {t N j : Nat} {f : Nat → Value} {i x : Int32} (C : zC X cc own nL) (G : zGX X l E rm) (d : decode cc pc = .ok (.iaload, 1)) (hT : va_T .int t N f (zA E) E.2.2.1 E.2.2.1.heap) (hi : i = nI j) (hj : j < N) (hj2 : j < 2 ^ 31) (hv : f j = .int x) (kk : zV X kc ks h (pc + 1) lo (.int x :: st)) : zV X kc ks h pc lo (.int i :: .retAddr t :: st) := by
  obtain ⟨p, l', e, R, s, m, args, below, meth, c, E', ad0, n0, Z⟩ := X
  obtain ⟨hx, hb, hml, hown, hlk, hst2, hzs, hwm, hsz, hzh⟩ := id C
  obtain ⟨rfl, rfl, rfl⟩ := id G
  intro ad H rl ls e1 e2 w S ol os hl
  exact va_ti hx hb ((va_T.moved hwm.alike hT).kept (fun a ha _ => hzh a ha)) S (zin hi hj hj2) (v := .int x) (by rw [hi, nI_cl hj2]; exact hv) d (kk ad H rl ls e1 e2 w S ol ⟨trivial, os.2.2⟩ hl)
end ZLW
theorem vdq : ∀ n, n < 13 → n ≠ 0 → ∀ r, r < 133 → Op.cmpValue (FP.dcmp (FP.ddiv (FP.i2d (nI r)) (FP.i2d (nI n))) (FP.ddiv (FP.i2d (nI r)) (FP.i2d (nI n)))) .l = 0 := by decide +kernel
theorem vfq2 : ∀ n, n < 13 → n ≠ 0 → ∀ r, r < 13 → Op.cmpValue (FP.fcmp (FP.fdiv (FP.i2f (nI r)) (FP.i2f (nI n))) (FP.fdiv (FP.i2f (nI r)) (FP.i2f (nI n)))) .l = 0 := by decide +kernel
theorem bmI {x : Int} (h1 : -(2 ^ 31) ≤ x) (h2 : x < 2 ^ 31) : x.bmod (2 ^ 32) = x := by
  rw [Int.bmod_def]
  split <;> omega
/-- what is left of a division -/
theorem rem_t {v : Int32} {k : Nat} (h0 : 0 < k) (hk : k < 2 ^ 31) : (v - v / nI k * nI k).toInt = v.toInt.tmod k := by
  have hv1 : -(2 ^ 31) ≤ v.toInt := Int32.le_toInt v
  have hv2 : v.toInt < 2 ^ 31 := Int32.toInt_lt v
  have hkI : (nI k).toInt = (k : Int) := nI_toInt hk
  have e0 : (k : Int) * v.toInt.tdiv k + v.toInt.tmod k = v.toInt := Int.mul_tdiv_add_tmod v.toInt k
  have b1 : v.toInt.tmod k < k := Int.tmod_lt_of_pos _ (by omega)
  have b2 : -(k : Int) < v.toInt.tmod k := Int.lt_tmod_of_pos _ (by omega)
  have hq : (v / nI k).toInt = v.toInt.tdiv k := by
    rw [Int32.toInt_div, hkI]
    have h3 : (v.toInt.tdiv k).natAbs ≤ v.toInt.natAbs := by
      rw [Int.natAbs_tdiv]
      exact Nat.div_le_self _ _
    by_cases h4 : v.toInt = -(2 ^ 31)
    · exact bmI (by omega) (by
        rw [h4]
        have h5 : (-(2 ^ 31 : Int)).tdiv k ≤ 0 := by
          rw [Int.neg_tdiv]
          exact Int.neg_nonpos_of_nonneg (Int.tdiv_nonneg (by decide) (by omega))
        omega)
    · exact bmI (by omega) (by omega)
  have hm : (v / nI k * nI k).toInt = v.toInt.tdiv k * k := by
    rw [Int32.toInt_mul, hq, hkI]
    have h5 : k * v.toInt.tdiv k = v.toInt - v.toInt.tmod k := by omega
    have h6 : v.toInt.tdiv k * k = v.toInt - v.toInt.tmod k := by rw [Int.mul_comm]; exact h5
    have h7 : (v.toInt.tmod k).natAbs ≤ v.toInt.natAbs := by
      rw [Int.natAbs_tmod]
      exact Nat.mod_le _ _
    rw [h6]
    rcases Int.le_total 0 v.toInt with z | z
    · have h8 : 0 ≤ v.toInt.tmod k := Int.tmod_nonneg _ z
      exact bmI (by omega) (by omega)
    · have h8 : v.toInt.tmod k ≤ 0 := by
        have := Int.tmod_nonneg (k : Int) (show 0 ≤ -v.toInt by omega)
        rw [Int.neg_tmod] at this
        omega
      exact bmI (by omega) (by omega)
  rw [Int32.toInt_sub, hm]
  have h5 : v.toInt - v.toInt.tdiv k * k = v.toInt.tmod k := by
    have : v.toInt.tdiv k * k = k * v.toInt.tdiv k := Int.mul_comm _ _
    omega
  rw [h5]
  exact bmI (by omega) (by omega)
theorem rem_n {v : Int32} {k : Nat} (h0 : 0 < k) (hk : k < 2 ^ 31) (h : ¬ v - v / nI k * nI k < 0) : ∃ j, j < k ∧ v - v / nI k * nI k = nI j := by
  have e := rem_t (v := v) h0 hk
  have b1 : v.toInt.tmod k < k := Int.tmod_lt_of_pos _ (by omega)
  obtain ⟨j, hj, ej⟩ := nI_of h
  refine ⟨j, ?_, ej⟩
  rw [ej, nI_toInt hj] at e
  omega
theorem rem_l {v : Int32} {k : Nat} (h0 : 0 < k) (hk : k < 2 ^ 31) (h : v - v / nI k * nI k < 0) : ∃ j, j < k ∧ v - v / nI k * nI k + nI k = nI j := by
  have e := rem_t (v := v) h0 hk
  have b2 : -(k : Int) < v.toInt.tmod k := Int.lt_tmod_of_pos _ (by omega)
  have h1 := i32_lt0.mp h
  generalize v - v / nI k * nI k = r at e h1 ⊢
  have e2 : (r + nI k).toInt = r.toInt + k := by
    rw [Int32.toInt_add, nI_toInt hk]
    exact bmI (by omega) (by omega)
  have h2 : ¬ r + nI k < 0 := fun z => by
    have := i32_lt0.mp z
    omega
  obtain ⟨j, hj, ej⟩ := nI_of h2
  refine ⟨j, ?_, ej⟩
  rw [ej, nI_toInt hj] at e2
  omega
set_option maxHeartbeats 4000000 in
set_option maxRecDepth 100000 in
theorem s_some {l : Launch} {E : zG} (hzs : zS E) (hst : l.stackTraces = false) (h : zH) (v : Int32) (k : Nat) (h0 : 0 < k) (hk : k < 2 ^ 31) : zMet l E yL_some cL_some 3 (some .int) ({ frames := 0, cells := 0, slots := 0, locals := 0 } : Room) 0 0 [.int v, .int (nI k)] h (fun r h' => (∃ j, j < k ∧ r = some (.int (nI j))) ∧ h' = h) (fun _ _ => False) := by
  refine zM_start hzs hst (by decide) (Nat.le_of_ble_eq_true rfl) (fun X C G F I => ?_)
  show zV X 0 0 _ 0 [(0, _), (1, _)] []
  refine zV.iload_n C dL_some_0 rfl ?_
  refine zV.iload_n C dL_some_1 rfl ?_
  refine zV.irem C dL_some_2 (fun z => by have := (n0 hk).mp z; omega) ?_
  refine zV.istore_n (lo' := [(0, _), (1, _), (2, _)]) C dL_some_3 (by decide) rfl rfl rfl ?_
  refine zV.iload_n C dL_some_4 rfl ?_
  refine zV.if_ge (tgt := 14) C dL_some_5 (by decide) (fun q5 => ?_) (fun q5 => ?_)
  · obtain ⟨j, hj, ej⟩ := rem_n h0 hk (Int32.not_lt.mpr q5)
    refine zV.iload_n C dL_some_14 rfl ?_
    refine zV.iret C F dL_some_15 rfl ?_
    exact ⟨⟨j, hj, congrArg (fun z => some (Value.int z)) ej⟩, rfl⟩
  · have q5 := Int32.not_le.mp q5
    obtain ⟨j, hj, ej⟩ := rem_l h0 hk q5
    refine zV.iload_n C dL_some_8 rfl ?_
    refine zV.iload_n C dL_some_9 rfl ?_
    refine zV.iadd C dL_some_10 ?_
    refine zV.goto (tgt := 15) C dL_some_11 (by decide) ?_
    refine zV.iret C F dL_some_15 rfl ?_
    exact ⟨⟨j, hj, congrArg (fun z => some (Value.int z)) ej⟩, rfl⟩
set_option maxHeartbeats 4000000 in
set_option maxRecDepth 100000 in
theorem s_at {l : Launch} {E : zG} (hzs : zS E) (hst : l.stackTraces = false) (h : zH) (sq L k : Nat) (xs : Nat → Int32) (T : zSc E sq L xs) (hL : L ≤ 260) (hk : k < 1000) : zMet l E yL_at cL_at 2 (some .int) ({ frames := 0, cells := 0, slots := 0, locals := 0 } : Room) 0 0 [.retAddr sq, .int (nI k)] h (fun r h' => (∃ w, r = some (.int w)) ∧ h' = h) (fun _ _ => False) := by
  refine zM_start hzs hst (by decide) (Nat.le_of_ble_eq_true rfl) (fun X C G F I => ?_)
  show zV X 0 0 _ 0 [(0, _), (1, _)] []
  refine zV.iload_n C dL_at_0 rfl ?_
  refine zV.aload_n C dL_at_1 rfl rfl ?_
  refine zV.alenRaw C G dL_at_2 (T) ?_
  refine zV.icmp_ge (tgt := 12) C dL_at_3 (by decide) (fun q3 => ?_) (fun q3 => ?_)
  · refine zV.ic (v := nI 0) C dL_at_12 (by decide) ?_
    refine zV.iret C F dL_at_13 rfl ?_
    exact ⟨⟨_, rfl⟩, rfl⟩
  · have hkl : k < L := nlt (by omega) (by omega) q3
    refine zV.aload_n C dL_at_6 rfl rfl ?_
    refine zV.iload_n C dL_at_7 rfl ?_
    refine zV.ialdRaw (j := k) C G dL_at_8 T rfl hkl (by omega) rfl ?_
    refine zV.goto (tgt := 13) C dL_at_9 (by decide) ?_
    refine zV.iret C F dL_at_13 rfl ?_
    exact ⟨⟨_, rfl⟩, rfl⟩
set_option maxHeartbeats 4000000 in
set_option maxRecDepth 100000 in
theorem s_DisNaN {l : Launch} {E : zG} (hzs : zS E) (hst : l.stackTraces = false) (h : zH) (v : UInt64) (hv : Op.cmpValue (FP.dcmp v v) .l = 0) : zMet l E yJxe99ae_isNaN_b9ae7 cJxe99ae_isNaN_b9ae7 2 (some .boolean) ({ frames := 0, cells := 0, slots := 0, locals := 0 } : Room) 0 0 [.double v] h (fun r h' => r = some (.int (nI 0)) ∧ h' = h) (fun _ _ => False) := by
  refine zM_start hzs hst (by decide) (Nat.le_of_ble_eq_true rfl) (fun X C G F I => ?_)
  show zV X 0 0 _ 0 [(0, _)] []
  refine zV.dload_n C dJxe99ae_isNaN_b9ae7_0 rfl ?_
  refine zV.dload_n C dJxe99ae_isNaN_b9ae7_1 rfl ?_
  refine zV.dcmp C dJxe99ae_isNaN_b9ae7_2 ?_
  refine zV.if_eq (tgt := 10) C dJxe99ae_isNaN_b9ae7_3 (by decide) (fun q3 => ?_) (fun q3 => ?_)
  · refine zV.ic (v := nI 0) C dJxe99ae_isNaN_b9ae7_10 (by decide) ?_
    refine zV.zret C F dJxe99ae_isNaN_b9ae7_11 rfl rfl ?_
    exact ⟨rfl, rfl⟩
  · exact absurd hv q3
set_option maxHeartbeats 4000000 in
set_option maxRecDepth 100000 in
theorem s_FisNaN {l : Launch} {E : zG} (hzs : zS E) (hst : l.stackTraces = false) (h : zH) (v : UInt32) (hv : Op.cmpValue (FP.fcmp v v) .l = 0) : zMet l E yJxf58ca_isNaN_12338 cJxf58ca_isNaN_12338 1 (some .boolean) ({ frames := 0, cells := 0, slots := 0, locals := 0 } : Room) 0 0 [.float v] h (fun r h' => r = some (.int (nI 0)) ∧ h' = h) (fun _ _ => False) := by
  refine zM_startF hzs hst (by decide +kernel) (Nat.le_of_ble_eq_true rfl) (fun X C G F I => ?_)
  show zV X 0 0 _ 0 [(0, _)] []
  refine zV.fload_n C dJxf58ca_isNaN_12338_0 rfl ?_
  refine zV.fload_n C dJxf58ca_isNaN_12338_1 rfl ?_
  refine zV.fcmp C dJxf58ca_isNaN_12338_2 ?_
  refine zV.if_eq (tgt := 10) C dJxf58ca_isNaN_12338_3 (by decide) (fun q3 => ?_) (fun q3 => ?_)
  · refine zV.ic (v := nI 0) C dJxf58ca_isNaN_12338_10 (by decide) ?_
    refine zV.zret C F dJxf58ca_isNaN_12338_11 rfl rfl ?_
    exact ⟨rfl, rfl⟩
  · exact absurd hv q3
set_option maxHeartbeats 4000000 in
set_option maxRecDepth 100000 in
theorem s_d2l {l : Launch} {E : zG} (hzs : zS E) (hst : l.stackTraces = false) (h : zH) (v : UInt64) (hv : Op.cmpValue (FP.dcmp v v) .l = 0) : zMet l E yJxe99ae_doubleToLongBits_ccdee cJxe99ae_doubleToLongBits_ccdee 2 (some .long) ({ frames := 1, cells := 0, slots := 0, locals := 21 } : Room) 0 0 [.double v] h (fun r h' => r = some (.long v.toInt64) ∧ h' = h) (fun _ _ => False) := by
  refine zM_start hzs hst (by decide) (Nat.le_of_ble_eq_true rfl) (fun X C G F I => ?_)
  show zV X 0 0 _ 0 [(0, _)] []
  refine zV.dload_n C dJxe99ae_doubleToLongBits_ccdee_0 rfl ?_
  refine zV.callS (n := 1) C G dJxe99ae_doubleToLongBits_ccdee_1 (s_DisNaN hzs hst h v hv) rfl ⟨cd_Jxe99ae_isNaN_b9ae7, lk_Jxe99ae_122, st_Jxe99ae_isNaN_b9ae7, in_Jxe99ae⟩ ⟨⟨by decide, by decide⟩, by decide⟩ rfl rfl rfl (zaf ?_) (zno)
  refine zV.if_ne (tgt := 12) C dJxe99ae_doubleToLongBits_ccdee_4 (by decide) (fun q4 => ?_) (fun q4 => ?_)
  · exact absurd rfl q4
  · refine zV.dload_n C dJxe99ae_doubleToLongBits_ccdee_7 rfl ?_
    refine zV.d2l C G dJxe99ae_doubleToLongBits_ccdee_8 wn_d2l rfl ?_
    refine zV.lret C F dJxe99ae_doubleToLongBits_ccdee_11 rfl ?_
    exact ⟨rfl, rfl⟩
set_option maxHeartbeats 4000000 in
set_option maxRecDepth 100000 in
theorem s_f2i {l : Launch} {E : zG} (hzs : zS E) (hst : l.stackTraces = false) (h : zH) (v : UInt32) (hv : Op.cmpValue (FP.fcmp v v) .l = 0) : zMet l E yJxf58ca_floatToIntBits_5c35a cJxf58ca_floatToIntBits_5c35a 1 (some .int) ({ frames := 1, cells := 0, slots := 0, locals := 20 } : Room) 0 0 [.float v] h (fun r h' => r = some (.int v.toInt32) ∧ h' = h) (fun _ _ => False) := by
  refine zM_startF hzs hst (by decide +kernel) (Nat.le_of_ble_eq_true rfl) (fun X C G F I => ?_)
  show zV X 0 0 _ 0 [(0, _)] []
  refine zV.fload_n C dJxf58ca_floatToIntBits_5c35a_0 rfl ?_
  refine zV.callS (n := 1) C G dJxf58ca_floatToIntBits_5c35a_1 (s_FisNaN hzs hst h v hv) rfl ⟨cd_Jxf58ca_isNaN_12338, lk_Jxf58ca_59, st_Jxf58ca_isNaN_12338, in_Jxf58ca⟩ ⟨⟨by decide, by decide⟩, by decide⟩ rfl rfl rfl (zaf ?_) (zno)
  refine zV.if_ne (tgt := 12) C dJxf58ca_floatToIntBits_5c35a_4 (by decide) (fun q4 => ?_) (fun q4 => ?_)
  · exact absurd rfl q4
  · refine zV.fload_n C dJxf58ca_floatToIntBits_5c35a_7 rfl ?_
    refine zV.f2i C G dJxf58ca_floatToIntBits_5c35a_8 wn_f2i rfl ?_
    refine zV.iret C F dJxf58ca_floatToIntBits_5c35a_11 rfl ?_
    exact ⟨rfl, rfl⟩
theorem rj_e {rs v : Int32} (h : rs ≠ 0) : anI (rjA rs v) (fun _ => -1001) = v := by unfold rjA; rw [if_neg h]; rfl
theorem cs_n {rs cs : Int32} (h : rs ≠ nI 11) : anI (csA rs cs) (fun _ => -1001) = -1001 := by unfold csA; rw [if_neg h]; rfl
theorem cs_y {cs : Int32} : anI (csA (nI 11) cs) (fun _ => -1001) = cs := by unfold csA; rw [if_pos rfl]; rfl
theorem rj_11 {rs : Int32} (h : rs ≠ nI 11) : anI (rjA rs rs) (fun _ => -1001) ≠ nI 11 := by
  unfold rjA
  split
  · exact fun z => absurd z (by decide)
  · exact h
set_option maxHeartbeats 4000000 in
set_option maxRecDepth 100000 in
theorem s_is {l : Launch} {E : zG} (hzs : zS E) (hst : l.stackTraces = false) (h : zH) (a lo : Nat) (g : zGd) (us : List zGd) (sn : Option zGd) (off rs dt cs : Int32) (t o : List Nat) (q : zXa h a lo g us sn off rs dt cs t o) (h0 : rs ≠ 0) (h11 : rs ≠ nI 11) : zMet l E yL_is cL_is 3 (some .boolean) ({ frames := 9, cells := 3, slots := 18, locals := 156 } : Room) 3 18 [.ref a, .int rs, .int dt] h (fun r h' => r = some (.int (nI 1)) ∧ h' = h) (fun _ _ => False) := by
  refine zM_start hzs hst (by decide) (Nat.le_of_ble_eq_true rfl) (fun X C G F I => ?_)
  show zV X 0 0 _ 0 [(0, _), (1, _), (2, _)] []
  refine zV.aload_n C dL_is_0 rfl rfl ?_
  refine zV.callSW (n := 1) C G dL_is_1 (w_reason hzs hst q) rfl ⟨cd_L_reason, lk_L_189, st_L_reason, in_L⟩ ⟨⟨by decide, by decide⟩, by decide⟩ rfl rfl rfl (zafQe (rj_e h0) ?_) (zno)
  refine zV.iload_n C dL_is_4 rfl ?_
  refine zV.icmp_ne (tgt := 30) C dL_is_5 (by decide) (fun q5 => ?_) (fun q5 => ?_)
  · exact absurd rfl q5
  · refine zV.aload_n C dL_is_8 rfl rfl ?_
    refine zV.callSW (n := 1) C G dL_is_9 (w_detail hzs hst q) rfl ⟨cd_L_detail, lk_L_192, st_L_detail, in_L⟩ ⟨⟨by decide, by decide⟩, by decide⟩ rfl rfl rfl (zafQe (rj_e h0) ?_) (zno)
    refine zV.iload_n C dL_is_12 rfl ?_
    refine zV.icmp_ne (tgt := 30) C dL_is_13 (by decide) (fun q13 => ?_) (fun q13 => ?_)
    · exact absurd rfl q13
    · refine zV.aload_n C dL_is_16 rfl rfl ?_
      refine zV.callSW (n := 1) C G dL_is_17 (w_cause hzs hst q) rfl ⟨cd_L_cause, lk_L_195, st_L_cause, in_L⟩ ⟨⟨by decide, by decide⟩, by decide⟩ rfl rfl rfl (zafQe (cs_n h11) ?_) (zno)
      refine zV.si (v := (-1001)) C dL_is_20 (by decide) ?_
      refine zV.icmp_ne (tgt := 30) C dL_is_23 (by decide) (fun q23 => ?_) (fun q23 => ?_)
      · exact absurd rfl q23
      · refine zV.ic (v := nI 1) C dL_is_26 (by decide) ?_
        refine zV.goto (tgt := 31) C dL_is_27 (by decide) ?_
        refine zV.zret C F dL_is_31 rfl rfl ?_
        exact ⟨rfl, rfl⟩
set_option maxHeartbeats 4000000 in
set_option maxRecDepth 100000 in
theorem s_rejects {l : Launch} {E : zG} (hzs : zS E) (hst : l.stackTraces = false) (h : zH) (a lo : Nat) (g : zGd) (us : List zGd) (sn : Option zGd) (off rs dt cs : Int32) (t o : List Nat) (q : zXa h a lo g us sn off rs dt cs t o) (hj : rs ≠ nI 11 ∨ (rs = nI 11 ∧ dt = nI 2 ∧ cs = nI 2)) : zMet l E yL_rejects cL_rejects 1 (some .boolean) ({ frames := 9, cells := 3, slots := 18, locals := 156 } : Room) 3 18 [.ref a] h (fun r h' => r = some (.int (nI 1)) ∧ h' = h) (fun _ _ => False) := by
  refine zM_start hzs hst (by decide) (Nat.le_of_ble_eq_true rfl) (fun X C G F I => ?_)
  show zV X 0 0 _ 0 [(0, _)] []
  refine zV.aload_n C dL_rejects_0 rfl rfl ?_
  refine zV.callSW (n := 1) C G dL_rejects_1 (w_reason hzs hst q) rfl ⟨cd_L_reason, lk_L_189, st_L_reason, in_L⟩ ⟨⟨by decide, by decide⟩, by decide⟩ rfl rfl rfl (zafQ ?_) (zno)
  refine zV.bi (v := nI 11) C dL_rejects_4 (by decide) ?_
  refine zV.icmp_ne (tgt := 25) C dL_rejects_6 (by decide) (fun q6 => ?_) (fun q6 => ?_)
  · refine zV.ic (v := nI 1) C dL_rejects_25 (by decide) ?_
    refine zV.goto (tgt := 30) C dL_rejects_26 (by decide) ?_
    refine zV.zret C F dL_rejects_30 rfl rfl ?_
    exact ⟨rfl, rfl⟩
  · have hj : rs = nI 11 ∧ dt = nI 2 ∧ cs = nI 2 := hj.elim (fun z => absurd q6 (rj_11 z)) id
    obtain ⟨rfl, rfl, rfl⟩ := hj
    refine zV.aload_n C dL_rejects_9 rfl rfl ?_
    refine zV.callSW (n := 1) C G dL_rejects_10 (w_detail hzs hst q) rfl ⟨cd_L_detail, lk_L_192, st_L_detail, in_L⟩ ⟨⟨by decide, by decide⟩, by decide⟩ rfl rfl rfl (zafQe (rj_e (by decide)) ?_) (zno)
    refine zV.ic (v := nI 2) C dL_rejects_13 (by decide) ?_
    refine zV.icmp_ne (tgt := 29) C dL_rejects_14 (by decide) (fun q14 => ?_) (fun q14 => ?_)
    · exact absurd rfl q14
    · refine zV.aload_n C dL_rejects_17 rfl rfl ?_
      refine zV.callSW (n := 1) C G dL_rejects_18 (w_cause hzs hst q) rfl ⟨cd_L_cause, lk_L_195, st_L_cause, in_L⟩ ⟨⟨by decide, by decide⟩, by decide⟩ rfl rfl rfl (zafQe cs_y ?_) (zno)
      refine zV.ic (v := nI 2) C dL_rejects_21 (by decide) ?_
      refine zV.icmp_ne (tgt := 29) C dL_rejects_22 (by decide) (fun q22 => ?_) (fun q22 => ?_)
      · exact absurd rfl q22
      · refine zV.ic (v := nI 1) C dL_rejects_25 (by decide) ?_
        refine zV.goto (tgt := 30) C dL_rejects_26 (by decide) ?_
        refine zV.zret C F dL_rejects_30 rfl rfl ?_
        exact ⟨rfl, rfl⟩
def apP (h : zH) (a lo c : Nat) (g : zGd) (us : List zGd) (sn : Option zGd) (off rs dt cs : Int32) (t o : List Nat) (h' : zH) : Prop := zFq h h' (a + 264) (a + 269) ∧ zXa h' a lo g us sn off rs dt cs (t ++ [c]) o
set_option maxHeartbeats 4000000 in
set_option maxRecDepth 100000 in
theorem s_append2 {l : Launch} {E : zG} (hzs : zS E) (hst : l.stackTraces = false) (h : zH) (a lo : Nat) (g : zGd) (us : List zGd) (sn : Option zGd) (off rs dt cs : Int32) (t o : List Nat) (q : zXa h a lo g us sn off rs dt cs t o) (c : Nat) (hc1 : 32 ≤ c) (hc2 : c ≤ 126) (e : t.length < 60) : zMet l E yX9_appendInput cX9_appendInput 2 (some .int) ({ frames := 6, cells := 1, slots := 6, locals := 95 } : Room) 1 6 [.ref a, .int (nI c)] h (sQ9 h (.inr (.int (nI (t.length + 1)))) (apP h a lo c g us sn off rs dt cs t o)) (sX9 h (.inr (.int (nI (t.length + 1)))) (apP h a lo c g us sn off rs dt cs t o)) := by
  refine zM_start hzs hst (by decide) (Nat.le_of_ble_eq_true rfl) (fun X C G F I => ?_)
  show zV X 0 0 _ 0 [(0, _), (1, _)] []
  obtain ⟨hx, ⟨hg, hf, hb⟩, hs, hH, hI, hJ, hin, hou, hn, hlo, hl9⟩ := id q
  refine zV.iload_n C dX9_appendInput_0 rfl ?_
  refine zV.bi (v := nI 32) C dX9_appendInput_1 (by decide) ?_
  refine zV.icmp_lt (tgt := 12) C dX9_appendInput_3 (by decide) (fun q3 => ?_) (fun q3 => ?_)
  · exact absurd q3 (nI_nlt (by omega) (by omega))
  · refine zV.iload_n C dX9_appendInput_6 rfl ?_
    refine zV.bi (v := nI 126) C dX9_appendInput_7 (by decide) ?_
    refine zV.icmp_le (tgt := 23) C dX9_appendInput_9 (by decide) (fun q9 => ?_) (fun q9 => ?_)
    · refine zV.aload_n C dX9_appendInput_23 rfl rfl ?_
      refine zV.gR 391 (k := 7) C dX9_appendInput_24 zcl_X9 (by decide) rfl lk_X9_49 (hx.1) rfl (hx.2.2.2.2.2.2.2.2.1) ?_
      refine zV.callV (n := 0) C G dX9_appendInput_27 (s_inFull hzs hst h (a + 264) t hin) rfl ⟨cd_X1_isFull, lk_X9_271, im_X1_isFull, se_X1_X1_isFull, in_X1⟩ ⟨⟨by decide, by decide⟩, by decide⟩ rfl rfl rfl hin.1.1 ⟨rfl, by decide⟩ (zaf ?_) (zno)
      refine zV.if_eq (tgt := 44) C dX9_appendInput_30 (by decide) (fun q30 => ?_) (fun q30 => ?_)
      · refine zV.aload_n C dX9_appendInput_44 rfl rfl ?_
        refine zV.gR 391 (k := 7) C dX9_appendInput_45 zcl_X9 (by decide) rfl lk_X9_49 (hx.1) rfl (hx.2.2.2.2.2.2.2.2.1) ?_
        refine zV.iload_n C dX9_appendInput_48 rfl ?_
        refine zV.callV (n := 1) C G dX9_appendInput_49 (s_take hzs hst h (a + 264) t c hin e hc1 hc2) rfl ⟨cd_X1_take, lk_X9_279, im_X1_take, se_X1_X1_take, in_X1⟩ ⟨⟨by decide, by decide⟩, by decide⟩ rfl rfl rfl hin.1.1 ⟨rfl, by decide⟩ (zafR (fun h9 ⟨n9, f9⟩ => ?_)) (zno)
        refine zV.iret C F dX9_appendInput_52 rfl ?_
        exact sQ_of rfl ⟨f9, zXa_in q f9 n9⟩
      · exact absurd (by rw [if_pos e]; rfl) q30
    · exact absurd (nI_le (by omega) (by omega)) q9
set_option maxHeartbeats 4000000 in
set_option maxRecDepth 100000 in
theorem L_runsR {X : zX} {l : Launch} {E : zG} {rm : Room} (hzs : zS E) (hst : l.stackTraces = false) (C : zC X cL_runs RL 3) (G : zGX X l E rm) {h0 : zH} {a lo m : Nat} {g : zGd} {us : List zGd} {sn : Option zGd} {off rs dt cs : Int32} {o : List Nat} {s s2 : Nat} {bs : List Nat} (hs : zSt E s s2 bs) {Qx : String → zH → Prop} (hr : rm = ({ frames := 9, cells := 61, slots := 366, locals := 228 } : Room)) (F : zF X (some .int) 61 366 (lwR (q_execute g bs) (fun Ex => if Ex = IAE then -1001 else if Ex = ISE then -1002 else -1003) (exP h0 a lo g us sn off rs dt cs bs o)) Qx) (hR : gR m g) (hb : m + 50000 ≤ big) (hl : bs.length ≤ 60) (hc : ∀ (i c : Nat), bs[i]? = some c → 32 ≤ c ∧ c ≤ 126) : ∀ n (h : zH) i kc ks, i + n = bs.length → kc + n + 1 ≤ 61 → ks + 6 * n + 6 ≤ 366 → zXf h0 h a lo → zXa h a lo g us sn off rs dt cs (bs.take i) o → zV X kc ks h 2 [(0, .ref a), (1, .retAddr s), (2, .int (nI i))] [] := by
  subst hr
  intro n
  induction n with
  | zero =>
    intro h i kc ks hi hkc hks f q
    refine zV.iload_n C dL_runs_2 rfl ?_
    refine zV.aload_n C dL_runs_3 rfl rfl ?_
    refine zV.callVR (n := 0) C G dL_runs_4 (s_Slength hzs hst _ s s2 bs hs (by omega)) rfl ⟨cd_J0_length_8abf5, lk_L_172, im_J0_length_8abf5, se_J0_J0_length_8abf5, in_J0⟩ ⟨⟨by decide, by decide⟩, by decide⟩ rfl (zRm_v 61 366 rfl rfl rfl (by omega) (by omega)) rfl (hs.1) (zaf ?_) (zno)
    refine zV.icmp_ge (tgt := 35) C dL_runs_7 (by decide) (fun q7 => ?_) (fun q7 => ?_)
    · have e9 : i = bs.length := by have := nle (by omega) (by omega) q7; omega
      subst e9
      rw [List.take_length] at q
      refine zV.aload_n C dL_runs_35 rfl rfl ?_
      refine zV.callSW (n := 1) C G dL_runs_36 (w_execute hzs hst q hR hb) rfl ⟨cd_L_execute, lk_L_186, st_L_execute, in_L⟩ ⟨⟨by decide, by decide⟩, by decide⟩ rfl (zRm_v 61 366 rfl rfl rfl (by omega) (by omega)) rfl (zafC (fun h9 p9 => ?_)) (zno)
      refine zV.iret C F dL_runs_39 (zhc (by omega) (by omega)) ?_
      exact ⟨rfl, f.trans p9.1, p9.2⟩
    · have hil : i < bs.length := nlt (by omega) (by omega) q7
      obtain ⟨c, hc9⟩ : ∃ c, bs[i]? = some c := ⟨_, List.getElem?_eq_getElem hil⟩
      obtain ⟨hc1, hc2⟩ := hc i c hc9
      have htl : (bs.take i).length = i := by rw [List.length_take]; omega
      refine zV.aload_n C dL_runs_10 rfl rfl ?_
      refine zV.aload_n C dL_runs_11 rfl rfl ?_
      refine zV.iload_n C dL_runs_12 rfl ?_
      refine zV.callVR (n := 1) C G dL_runs_13 (s_ScharAt hzs hst _ s s2 bs hs (by omega) i c hc9 (by omega)) rfl ⟨cd_J0_charAt_5068e, lk_L_177, im_J0_charAt_5068e, se_J0_J0_charAt_5068e, in_J0⟩ ⟨⟨by decide, by decide⟩, by decide⟩ rfl (zRm_v 61 366 rfl rfl rfl (by omega) (by omega)) rfl (hs.1) (zaf ?_) (zno)
      refine zV.callSW (n := 2) C G dL_runs_16 (s_Lappend hzs hst (s_append2 hzs hst _ a lo g us sn off rs dt cs (bs.take i) o q c hc1 hc2 (by omega)) q.1.1 (fun v e => by cases e; exact ⟨_, rfl⟩) (fun Ex e => by cases e)) rfl ⟨cd_L_append, lk_L_180, st_L_append, in_L⟩ ⟨⟨by decide, by decide⟩, by decide⟩ rfl (zRm_v 61 366 rfl rfl rfl (by omega) (by omega)) rfl (zafC (fun h9 p9 => ?_)) (zno)
      show zV X _ _ _ _ _ (.int (nI ((bs.take i).length + 1)) :: _)
      rw [htl]
      refine zV.iload_n C dL_runs_19 rfl ?_
      refine zV.ic (v := nI 1) C dL_runs_20 (by decide) ?_
      refine zV.iadd C dL_runs_21 ?_
      refine zV.icmp_eq (tgt := 29) C dL_runs_22 (by decide) (fun q22 => ?_) (fun q22 => ?_)
      · refine zV.iinc (lo' := [(0, _), (1, _), (2, _)]) C dL_runs_29 rfl (by decide) rfl rfl rfl ?_
        refine zV.goto (tgt := 2) C dL_runs_32 (by decide) ?_
        exact absurd hil (by omega)
      · exact absurd (nI_add _ _).symm q22
  | succ n ih =>
    intro h i kc ks hi hkc hks f q
    refine zV.iload_n C dL_runs_2 rfl ?_
    refine zV.aload_n C dL_runs_3 rfl rfl ?_
    refine zV.callVR (n := 0) C G dL_runs_4 (s_Slength hzs hst _ s s2 bs hs (by omega)) rfl ⟨cd_J0_length_8abf5, lk_L_172, im_J0_length_8abf5, se_J0_J0_length_8abf5, in_J0⟩ ⟨⟨by decide, by decide⟩, by decide⟩ rfl (zRm_v 61 366 rfl rfl rfl (by omega) (by omega)) rfl (hs.1) (zaf ?_) (zno)
    refine zV.icmp_ge (tgt := 35) C dL_runs_7 (by decide) (fun q7 => ?_) (fun q7 => ?_)
    · have e9 : i = bs.length := by have := nle (by omega) (by omega) q7; omega
      subst e9
      rw [List.take_length] at q
      refine zV.aload_n C dL_runs_35 rfl rfl ?_
      refine zV.callSW (n := 1) C G dL_runs_36 (w_execute hzs hst q hR hb) rfl ⟨cd_L_execute, lk_L_186, st_L_execute, in_L⟩ ⟨⟨by decide, by decide⟩, by decide⟩ rfl (zRm_v 61 366 rfl rfl rfl (by omega) (by omega)) rfl (zafC (fun h9 p9 => ?_)) (zno)
      refine zV.iret C F dL_runs_39 (zhc (by omega) (by omega)) ?_
      exact ⟨rfl, f.trans p9.1, p9.2⟩
    · have hil : i < bs.length := nlt (by omega) (by omega) q7
      obtain ⟨c, hc9⟩ : ∃ c, bs[i]? = some c := ⟨_, List.getElem?_eq_getElem hil⟩
      obtain ⟨hc1, hc2⟩ := hc i c hc9
      have htl : (bs.take i).length = i := by rw [List.length_take]; omega
      refine zV.aload_n C dL_runs_10 rfl rfl ?_
      refine zV.aload_n C dL_runs_11 rfl rfl ?_
      refine zV.iload_n C dL_runs_12 rfl ?_
      refine zV.callVR (n := 1) C G dL_runs_13 (s_ScharAt hzs hst _ s s2 bs hs (by omega) i c hc9 (by omega)) rfl ⟨cd_J0_charAt_5068e, lk_L_177, im_J0_charAt_5068e, se_J0_J0_charAt_5068e, in_J0⟩ ⟨⟨by decide, by decide⟩, by decide⟩ rfl (zRm_v 61 366 rfl rfl rfl (by omega) (by omega)) rfl (hs.1) (zaf ?_) (zno)
      refine zV.callSW (n := 2) C G dL_runs_16 (s_Lappend hzs hst (s_append2 hzs hst _ a lo g us sn off rs dt cs (bs.take i) o q c hc1 hc2 (by omega)) q.1.1 (fun v e => by cases e; exact ⟨_, rfl⟩) (fun Ex e => by cases e)) rfl ⟨cd_L_append, lk_L_180, st_L_append, in_L⟩ ⟨⟨by decide, by decide⟩, by decide⟩ rfl (zRm_v 61 366 rfl rfl rfl (by omega) (by omega)) rfl (zafC (fun h9 p9 => ?_)) (zno)
      show zV X _ _ _ _ _ (.int (nI ((bs.take i).length + 1)) :: _)
      rw [htl]
      refine zV.iload_n C dL_runs_19 rfl ?_
      refine zV.ic (v := nI 1) C dL_runs_20 (by decide) ?_
      refine zV.iadd C dL_runs_21 ?_
      refine zV.icmp_eq (tgt := 29) C dL_runs_22 (by decide) (fun q22 => ?_) (fun q22 => ?_)
      · refine zV.iinc (lo' := [(0, _), (1, _), (2, _)]) C dL_runs_29 rfl (by decide) rfl rfl rfl ?_
        refine zV.goto (tgt := 2) C dL_runs_32 (by decide) ?_
        have e8 : bs.take i ++ [c] = bs.take (i + 1) := by rw [List.take_add_one, hc9]; rfl
        have q9 := p9.2
        rw [e8] at q9
        have f9 : zXf h0 h9 a lo := f.trans (zXf.q p9.1 (by omega) (by omega))
        rw [show nI i + Int32.ofInt 1 = nI (i + 1) from nI_add i 1]
        exact ih h9 (i + 1) (kc + 0 + 0 + 1) (ks + 0 + 0 + 6) (by omega) (by omega) (by omega) f9 q9
      · exact absurd (nI_add _ _).symm q22
set_option maxHeartbeats 4000000 in
set_option maxRecDepth 100000 in
theorem s_runsR {l : Launch} {E : zG} (hzs : zS E) (hst : l.stackTraces = false) (h : zH) (a lo m : Nat) (g : zGd) (us : List zGd) (sn : Option zGd) (off rs dt cs : Int32) (o : List Nat) (q : zXa h a lo g us sn off rs dt cs [] o) (hR : gR m g) (hb : m + 50000 ≤ big) (s s2 : Nat) (bs : List Nat) (hs : zSt E s s2 bs) (hl : bs.length ≤ 60) (hc : ∀ (i c : Nat), bs[i]? = some c → 32 ≤ c ∧ c ≤ 126) : zMet l E yL_runs cL_runs 3 (some .int) ({ frames := 9, cells := 61, slots := 366, locals := 228 } : Room) 61 366 [.ref a, .retAddr s] h (lwR (q_execute g bs) (fun Ex => if Ex = IAE then -1001 else if Ex = ISE then -1002 else -1003) (exP h a lo g us sn off rs dt cs bs o)) (fun _ _ => False) := by
  refine zM_start hzs hst (by decide) (Nat.le_of_ble_eq_true rfl) (fun X C G F I => ?_)
  show zV X 0 0 _ 0 [(0, _), (1, _)] []
  refine zV.ic (v := nI 0) C dL_runs_0 (by decide) ?_
  refine zV.istore_n (lo' := [(0, _), (1, _), (2, _)]) C dL_runs_1 (by decide) rfl rfl rfl ?_
  exact L_runsR hzs hst C G hs rfl F hR hb hl hc bs.length h 0 _ _ (by omega) (by omega) (by omega) (zXf.refl h a lo) q
set_option maxHeartbeats 4000000 in
set_option maxRecDepth 100000 in
theorem L_runsH {X : zX} {l : Launch} {E : zG} {rm : Room} (hzs : zS E) (hst : l.stackTraces = false) (C : zC X cL_runs RL 3) (G : zGX X l E rm) {h0 : zH} {a lo m : Nat} {g : zGd} {us : List zGd} {sn : Option zGd} {off rs dt cs : Int32} {o : List Nat} {s : Nat} {bs : List Nat} {Qx : String → zH → Prop} (hr : rm = ({ frames := 9, cells := 61, slots := 366, locals := 228 } : Room)) (F : zF X (some .int) 61 366 (lwR (q_execute g bs) (fun Ex => if Ex = IAE then -1001 else if Ex = ISE then -1002 else -1003) (exP h0 a lo g us sn off rs dt cs bs o)) Qx) (hR : gR m g) (hb : m + 50000 ≤ big) (hl : bs.length ≤ 60) (hc : ∀ (i c : Nat), bs[i]? = some c → 32 ≤ c ∧ c ≤ 126) : ∀ n (h : zH) i kc ks, i + n = bs.length → kc + n + 1 ≤ 61 → ks + 6 * n + 6 ≤ 366 → zXf h0 h a lo → zXa h a lo g us sn off rs dt cs (bs.take i) o → zHt h s bs → (s + 1 < a ∨ a + 271 ≤ s) → zV X kc ks h 2 [(0, .ref a), (1, .ref s), (2, .int (nI i))] [] := by
  subst hr
  intro n
  induction n with
  | zero =>
    intro h i kc ks hi hkc hks f q hs hsa
    refine zV.iload_n C dL_runs_2 rfl ?_
    refine zV.aload_n C dL_runs_3 rfl rfl ?_
    refine zV.callV (n := 0) C G dL_runs_4 (s_Hlength hzs hst _ s bs hs (by omega)) rfl ⟨cd_J0_length_8abf5, lk_L_172, im_J0_length_8abf5, se_J0_J0_length_8abf5, in_J0⟩ ⟨⟨by decide, by decide⟩, by decide⟩ rfl (zRm_v 61 366 rfl rfl rfl (by omega) (by omega)) rfl hs.1 ⟨rfl, by decide⟩ (zaf ?_) (zno)
    refine zV.icmp_ge (tgt := 35) C dL_runs_7 (by decide) (fun q7 => ?_) (fun q7 => ?_)
    · have e9 : i = bs.length := by have := nle (by omega) (by omega) q7; omega
      subst e9
      rw [List.take_length] at q
      refine zV.aload_n C dL_runs_35 rfl rfl ?_
      refine zV.callSW (n := 1) C G dL_runs_36 (w_execute hzs hst q hR hb) rfl ⟨cd_L_execute, lk_L_186, st_L_execute, in_L⟩ ⟨⟨by decide, by decide⟩, by decide⟩ rfl (zRm_v 61 366 rfl rfl rfl (by omega) (by omega)) rfl (zafC (fun h9 p9 => ?_)) (zno)
      refine zV.iret C F dL_runs_39 (zhc (by omega) (by omega)) ?_
      exact ⟨rfl, f.trans p9.1, p9.2⟩
    · have hil : i < bs.length := nlt (by omega) (by omega) q7
      obtain ⟨c, hc9⟩ : ∃ c, bs[i]? = some c := ⟨_, List.getElem?_eq_getElem hil⟩
      obtain ⟨hc1, hc2⟩ := hc i c hc9
      have htl : (bs.take i).length = i := by rw [List.length_take]; omega
      refine zV.aload_n C dL_runs_10 rfl rfl ?_
      refine zV.aload_n C dL_runs_11 rfl rfl ?_
      refine zV.iload_n C dL_runs_12 rfl ?_
      refine zV.callV (n := 1) C G dL_runs_13 (s_HcharAt hzs hst _ s bs hs (by omega) i c hc9) rfl ⟨cd_J0_charAt_5068e, lk_L_177, im_J0_charAt_5068e, se_J0_J0_charAt_5068e, in_J0⟩ ⟨⟨by decide, by decide⟩, by decide⟩ rfl (zRm_v 61 366 rfl rfl rfl (by omega) (by omega)) rfl hs.1 ⟨rfl, by decide⟩ (zaf ?_) (zno)
      refine zV.callSW (n := 2) C G dL_runs_16 (s_Lappend hzs hst (s_append2 hzs hst _ a lo g us sn off rs dt cs (bs.take i) o q c hc1 hc2 (by omega)) q.1.1 (fun v e => by cases e; exact ⟨_, rfl⟩) (fun Ex e => by cases e)) rfl ⟨cd_L_append, lk_L_180, st_L_append, in_L⟩ ⟨⟨by decide, by decide⟩, by decide⟩ rfl (zRm_v 61 366 rfl rfl rfl (by omega) (by omega)) rfl (zafC (fun h9 p9 => ?_)) (zno)
      show zV X _ _ _ _ _ (.int (nI ((bs.take i).length + 1)) :: _)
      rw [htl]
      refine zV.iload_n C dL_runs_19 rfl ?_
      refine zV.ic (v := nI 1) C dL_runs_20 (by decide) ?_
      refine zV.iadd C dL_runs_21 ?_
      refine zV.icmp_eq (tgt := 29) C dL_runs_22 (by decide) (fun q22 => ?_) (fun q22 => ?_)
      · refine zV.iinc (lo' := [(0, _), (1, _), (2, _)]) C dL_runs_29 rfl (by decide) rfl rfl rfl ?_
        refine zV.goto (tgt := 2) C dL_runs_32 (by decide) ?_
        exact absurd hil (by omega)
      · exact absurd (nI_add _ _).symm q22
  | succ n ih =>
    intro h i kc ks hi hkc hks f q hs hsa
    refine zV.iload_n C dL_runs_2 rfl ?_
    refine zV.aload_n C dL_runs_3 rfl rfl ?_
    refine zV.callV (n := 0) C G dL_runs_4 (s_Hlength hzs hst _ s bs hs (by omega)) rfl ⟨cd_J0_length_8abf5, lk_L_172, im_J0_length_8abf5, se_J0_J0_length_8abf5, in_J0⟩ ⟨⟨by decide, by decide⟩, by decide⟩ rfl (zRm_v 61 366 rfl rfl rfl (by omega) (by omega)) rfl hs.1 ⟨rfl, by decide⟩ (zaf ?_) (zno)
    refine zV.icmp_ge (tgt := 35) C dL_runs_7 (by decide) (fun q7 => ?_) (fun q7 => ?_)
    · have e9 : i = bs.length := by have := nle (by omega) (by omega) q7; omega
      subst e9
      rw [List.take_length] at q
      refine zV.aload_n C dL_runs_35 rfl rfl ?_
      refine zV.callSW (n := 1) C G dL_runs_36 (w_execute hzs hst q hR hb) rfl ⟨cd_L_execute, lk_L_186, st_L_execute, in_L⟩ ⟨⟨by decide, by decide⟩, by decide⟩ rfl (zRm_v 61 366 rfl rfl rfl (by omega) (by omega)) rfl (zafC (fun h9 p9 => ?_)) (zno)
      refine zV.iret C F dL_runs_39 (zhc (by omega) (by omega)) ?_
      exact ⟨rfl, f.trans p9.1, p9.2⟩
    · have hil : i < bs.length := nlt (by omega) (by omega) q7
      obtain ⟨c, hc9⟩ : ∃ c, bs[i]? = some c := ⟨_, List.getElem?_eq_getElem hil⟩
      obtain ⟨hc1, hc2⟩ := hc i c hc9
      have htl : (bs.take i).length = i := by rw [List.length_take]; omega
      refine zV.aload_n C dL_runs_10 rfl rfl ?_
      refine zV.aload_n C dL_runs_11 rfl rfl ?_
      refine zV.iload_n C dL_runs_12 rfl ?_
      refine zV.callV (n := 1) C G dL_runs_13 (s_HcharAt hzs hst _ s bs hs (by omega) i c hc9) rfl ⟨cd_J0_charAt_5068e, lk_L_177, im_J0_charAt_5068e, se_J0_J0_charAt_5068e, in_J0⟩ ⟨⟨by decide, by decide⟩, by decide⟩ rfl (zRm_v 61 366 rfl rfl rfl (by omega) (by omega)) rfl hs.1 ⟨rfl, by decide⟩ (zaf ?_) (zno)
      refine zV.callSW (n := 2) C G dL_runs_16 (s_Lappend hzs hst (s_append2 hzs hst _ a lo g us sn off rs dt cs (bs.take i) o q c hc1 hc2 (by omega)) q.1.1 (fun v e => by cases e; exact ⟨_, rfl⟩) (fun Ex e => by cases e)) rfl ⟨cd_L_append, lk_L_180, st_L_append, in_L⟩ ⟨⟨by decide, by decide⟩, by decide⟩ rfl (zRm_v 61 366 rfl rfl rfl (by omega) (by omega)) rfl (zafC (fun h9 p9 => ?_)) (zno)
      show zV X _ _ _ _ _ (.int (nI ((bs.take i).length + 1)) :: _)
      rw [htl]
      refine zV.iload_n C dL_runs_19 rfl ?_
      refine zV.ic (v := nI 1) C dL_runs_20 (by decide) ?_
      refine zV.iadd C dL_runs_21 ?_
      refine zV.icmp_eq (tgt := 29) C dL_runs_22 (by decide) (fun q22 => ?_) (fun q22 => ?_)
      · refine zV.iinc (lo' := [(0, _), (1, _), (2, _)]) C dL_runs_29 rfl (by decide) rfl rfl rfl ?_
        refine zV.goto (tgt := 2) C dL_runs_32 (by decide) ?_
        have e8 : bs.take i ++ [c] = bs.take (i + 1) := by rw [List.take_add_one, hc9]; rfl
        have q9 := p9.2
        rw [e8] at q9
        have f9 : zXf h0 h9 a lo := f.trans (zXf.q p9.1 (by omega) (by omega))
        rw [show nI i + Int32.ofInt 1 = nI (i + 1) from nI_add i 1]
        exact ih h9 (i + 1) (kc + 0 + 0 + 1) (ks + 0 + 0 + 6) (by omega) (by omega) (by omega) f9 q9 (zHt_e hs (p9.1.e (by omega)) (p9.1.e (by omega))) hsa
      · exact absurd (nI_add _ _).symm q22
set_option maxHeartbeats 4000000 in
set_option maxRecDepth 100000 in
theorem s_runsH {l : Launch} {E : zG} (hzs : zS E) (hst : l.stackTraces = false) (h : zH) (a lo m : Nat) (g : zGd) (us : List zGd) (sn : Option zGd) (off rs dt cs : Int32) (o : List Nat) (q : zXa h a lo g us sn off rs dt cs [] o) (hR : gR m g) (hb : m + 50000 ≤ big) (s : Nat) (bs : List Nat) (hs : zHt h s bs) (hsa : s + 1 < a ∨ a + 271 ≤ s) (hl : bs.length ≤ 60) (hc : ∀ (i c : Nat), bs[i]? = some c → 32 ≤ c ∧ c ≤ 126) : zMet l E yL_runs cL_runs 3 (some .int) ({ frames := 9, cells := 61, slots := 366, locals := 228 } : Room) 61 366 [.ref a, .ref s] h (lwR (q_execute g bs) (fun Ex => if Ex = IAE then -1001 else if Ex = ISE then -1002 else -1003) (exP h a lo g us sn off rs dt cs bs o)) (fun _ _ => False) := by
  refine zM_start hzs hst (by decide) (Nat.le_of_ble_eq_true rfl) (fun X C G F I => ?_)
  show zV X 0 0 _ 0 [(0, _), (1, _)] []
  refine zV.ic (v := nI 0) C dL_runs_0 (by decide) ?_
  refine zV.istore_n (lo' := [(0, _), (1, _), (2, _)]) C dL_runs_1 (by decide) rfl rfl rfl ?_
  exact L_runsH hzs hst C G rfl F hR hb hl hc bs.length h 0 _ _ (by omega) (by omega) (by omega) (zXf.refl h a lo) q hs hsa
