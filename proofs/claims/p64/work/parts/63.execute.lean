/-! ChairMigration: execute -/
set_option maxHeartbeats 4000000 in
set_option maxRecDepth 100000 in
theorem s_throwForCommand {l : Launch} {E : zG} (hzs : zS E) (hst : l.stackTraces = false) (h : zH) (a n v r : Nat) (hx : zXs h a) (hJ : hK h (a + 263) = 10) (hv : hI h 288 (a + 263) = nI v) (hv3 : v = 3 → hI h 289 (a + 263) = nI r) (hvb : v ≤ 3) : zMet l E yX9_throwForCommand cX9_throwForCommand 2 none ({ frames := 6, cells := 1, slots := 6, locals := 95 } : Room) 1 6 [.ref a, .int (nI n)] h (fun _ _ => False) (fun Ex h' => if v = 3 then Ex = UOE ∧ h' = rjH h a (nI 11) (nI n) (nI r) else Ex = ISE ∧ h' = h) := by
  refine zM_start hzs hst (by decide) (Nat.le_of_ble_eq_true rfl) (fun X C G F I => ?_)
  show zV X 0 0 _ 0 [(0, _), (1, _)] []
  refine zV.aload_n C dX9_throwForCommand_0 rfl rfl ?_
  refine zV.gR 390 (k := 6) C dX9_throwForCommand_1 zcl_X9 (by decide) rfl lk_X9_42 (hx.1) rfl (hx.2.2.2.2.2.2.2.1) ?_
  refine zV.gNIv 288 (k := 0) C dX9_throwForCommand_4 zcl_X6 (by decide) rfl lk_X9_380 hJ rfl (hv) ?_
  refine zV.ic (v := nI 3) C dX9_throwForCommand_7 (by decide) ?_
  refine zV.icmp_eq (tgt := 22) C dX9_throwForCommand_8 (by decide) (fun q8 => ?_) (fun q8 => ?_)
  · have e : v = 3 := (neqn (by omega) (by decide)).mp q8
    refine zV.aload_n C dX9_throwForCommand_22 rfl rfl ?_
    refine zV.bi (v := nI 11) C dX9_throwForCommand_23 (by decide) ?_
    refine zV.iload_n C dX9_throwForCommand_25 rfl ?_
    refine zV.aload_n C dX9_throwForCommand_26 rfl rfl ?_
    refine zV.gR 390 (k := 6) C dX9_throwForCommand_27 zcl_X9 (by decide) rfl lk_X9_42 (hx.1) rfl (hx.2.2.2.2.2.2.2.1) ?_
    refine zV.gNIv 289 (k := 1) C dX9_throwForCommand_30 zcl_X6 (by decide) rfl lk_X9_353 hJ rfl (hv3 e) ?_
    refine zV.callV (n := 3) C G dX9_throwForCommand_33 (s_remember hzs hst h a (nI 11) (nI n) (nI r) hx.1) rfl ⟨cd_X9_rememberRejection, lk_X9_359, im_X9_rememberRejection, se_X9_X9_rememberRejection, in_X9⟩ ⟨⟨by decide, by decide⟩, by decide⟩ rfl rfl rfl hx.1 ⟨rfl, by decide⟩ (zafv ?_) (zno)
    exact zV.throwXW _ C G dX9_throwForCommand_36 dX9_throwForCommand_39 dX9_throwForCommand_40 dX9_throwForCommand_43 dX9_throwForCommand_46 hz_uoe lk_X9_363 in_java_lang_UnsupportedOperationException hs_385 hp_uoe zUW rfl (zVX.out C F (by rw [if_pos e]; exact ⟨rfl, rfl⟩) ⟨by decide, by decide⟩)
  · have e : v ≠ 3 := fun y => q8 (by rw [y])
    exact zV.throwXW _ C G dX9_throwForCommand_11 dX9_throwForCommand_14 dX9_throwForCommand_15 dX9_throwForCommand_18 dX9_throwForCommand_21 hz_ise lk_X9_274 in_java_lang_IllegalStateException hs_383 hp_ise zUW rfl (zVX.out C F (by rw [if_neg e]; exact ⟨rfl, rfl⟩) ⟨by decide, by decide⟩)
theorem shp_D {d : Nat} (h : shp d ≠ []) : isD d := by
  unfold shp at h
  split at h <;> first | exact absurd rfl h | (unfold isD; omega)
theorem rdC_D {t : List Nat} {p p' : Nat} {c : Nat × Nat × Nat} (e : rdC t p = (some c, p')) : isD c.1 := by
  by_cases h : shp (nx t p) = []
  · rw [rdC_e h] at e; cases e
  · rcases e2 : (rdL t (shp (nx t p)) true (p + 1) (0, 0)).1 with _ | v
    · rw [rdC_n h e2] at e; cases e
    · rw [rdC_s h e2] at e; cases e; exact shp_D h
theorem rdS_D {t : List Nat} (ht : t.length ≤ 60) : ∀ n p cs, 2 * cs.length ≤ p → p ≤ 60 → (∀ c ∈ cs, isD c.1) → (∀ c ∈ (rdS t n p cs).2, isD c.1) ∧ (rdS t n p cs).2.length ≤ 31 := by
  intro n
  induction n with
  | zero => intro p cs h1 h2 h3; exact ⟨h3, by show cs.length ≤ 31; omega⟩
  | succ n ih =>
    intro p cs h1 h2 h3
    rcases er : rdC t p with ⟨_ | c, p'⟩
    · rw [rdS_n er]; exact ⟨h3, by show cs.length ≤ 31; omega⟩
    · have h4 : ∀ x ∈ cs ++ [c], isD x.1 := fun x hx => by
        rcases List.mem_append.mp hx with y | y
        · exact h3 x y
        · rw [List.mem_singleton.mp y]; exact rdC_D er
      have h5 : (cs ++ [c]).length = cs.length + 1 := by rw [List.length_append]; rfl
      have hb := (rdC_b er).2.2 rfl
      by_cases e0 : nx t p' = 0
      · rw [rdS_z er e0]; exact ⟨h4, by show (cs ++ [c]).length ≤ 31; omega⟩
      · by_cases e1 : nx t p' = 59
        · rw [rdS_c er e0 e1]
          have hp9 : p' < t.length := by
            rcases Nat.lt_or_ge p' t.length with y | y
            · exact y
            · exact absurd (nx_hi y) e0
          exact ih (p' + 1) (cs ++ [c]) (by omega) (by omega) h4
        · rw [rdS_f er e0 e1]; exact ⟨h4, by show (cs ++ [c]).length ≤ 31; omega⟩
theorem pfC_v {g : zGd} : ∀ {cs : List (Nat × Nat × Nat)}, (∀ c ∈ cs, isD c.1) → (pfC g cs).2.2.1 ≤ 3 ∧ (pfC g cs).1 ≤ cs.length := by
  intro cs
  induction cs generalizing g with
  | nil => intro _; exact ⟨Nat.zero_le _, Nat.le_refl _⟩
  | cons c ks ih =>
    intro hD
    by_cases e : (jd g c.1 (nI c.2.1) (nI c.2.2)).1 = 0
    · rw [pfC_t e]
      have := ih (g := (ap g c.1 (nI c.2.1) (nI c.2.2)).1) (fun x hx => hD x (List.mem_cons_of_mem _ hx))
      exact ⟨this.1, Nat.succ_le_succ this.2⟩
    · rw [pfC_f e]
      exact ⟨jd_3 (hD c List.mem_cons_self), Nat.zero_le _⟩
