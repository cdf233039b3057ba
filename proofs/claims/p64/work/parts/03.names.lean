/-- an array of arrays: its class, by the tables (the printed names use this name and nothing defines it) -/
def va_AOA (ty : FieldType) (U : State) : Prop := (Cond.arrayOver (.array ty)).before #[] U = true
theorem va_AOA.use {ty : FieldType} {A : Array Value} {U : State} (h : va_AOA ty U) : (Cond.arrayOver (.array ty)).before A U = true := h
/-! ===== BEGIN new T[n][m]: the outer array a place, the inner ones among the pooled ===== -/
/-- f, but v at every address of l -/
def vr_up {α : Type} (f : Nat → α) (l : List Nat) (v : α) : Nat → α := fun a => if a ∈ l then v else f a
theorem vr_up_in {α : Type} {f : Nat → α} {l : List Nat} {v : α} {a : Nat} (h : a ∈ l) : vr_up f l v a = v := if_pos h
theorem vr_up_ne {α : Type} {f : Nat → α} {l : List Nat} {v : α} {a : Nat} (h : a ∉ l) : vr_up f l v a = f a := if_neg h
theorem vr_rows {L l : List Nat} {f : Nat → va_E} {e : va_E} (h : ∀ a, a ∈ l → a ∉ L) : va_pl L f ++ l.map (fun a => (a, e)) = va_pl (L ++ l) (vr_up f l e) := by
  unfold va_pl
  rw [List.map_append]
  congr 1
  · apply List.map_congr_left
    intro a ha
    rw [vr_up_ne (fun q => h a q ha)]
  · apply List.map_congr_left
    intro a ha
    rw [vr_up_in ha]
theorem vr_lay {X rows : va_W} {x : Nat × va_E} {pl : va_W} {D : va_G} {cl : List vw_C} {H : Heap} (hP : va_P D cl (((X ++ pl) ++ [x]) ++ rows) H) : va_P D cl ((X ++ [x]) ++ (pl ++ rows)) H := by
  rw [List.append_assoc (X ++ pl)] at hP
  have h := va_P.swap hP
  rw [← List.append_assoc X] at h
  have h2 := va_P.swap h
  rw [List.append_assoc (X ++ [x])] at h2
  exact h2
theorem vr_layD {X rows : va_W} {x : Nat × va_E} {pl : va_W} {A : Nat → Prop} (hD : va_D A (((X ++ pl) ++ [x]) ++ rows)) : va_D A ((X ++ [x]) ++ (pl ++ rows)) := by
  rw [List.append_assoc (X ++ pl)] at hD
  have h := va_D.swap hD
  rw [← List.append_assoc X] at h
  have h2 := va_D.swap h
  rw [List.append_assoc (X ++ [x])] at h2
  exact h2
theorem vr_outer (c : ClassId) (N h0 : Nat) : ∀ i : Nat, Jvm.Free.Multi.outerC c N h0 i = arrV c N (fun j => va_rf (if j < i then some (h0 + 1 + j) else none))
  | 0 => by
    show ({ cls := c, slots := Array.replicate N .null, vm := .none } : Cell) = _
    rw [arrV_new]
    refine congrArg (arrV c N) (funext fun j => ?_)
    simp [va_rf]
  | i + 1 => by
    show (Jvm.Free.Multi.outerC c N h0 i).setSlot i (.ref (h0 + 1 + i)) = _
    rw [vr_outer c N h0 i, arrV_store]
    refine congrArg (arrV c N) (funext fun j => ?_)
    by_cases e : j = i
    · subst e
      simp [updV, va_rf]
    · by_cases h : j < i
      · simp [updV, e, h, Nat.lt_succ_of_lt h]
      · simp [updV, e, h, show ¬ j < i + 1 by omega]
section VGM
variable {p : Program} {l : Launch} {e : Env} {R : Room} {s : State} {m : MethodId} {args : Array Value} {below : List Frame} {meth : Method} {c : Code} {H : Heap} {locs : List Loc} {cells slots : Nat} {Q : State → Prop}
variable {cc : ByteArray} {pc : Nat} {ls : Array Slot} {rest : List Value} {D : va_G} {cl : List vw_C} {A : Nat → Prop} {a : Nat} {tys : List (ClassId × FieldType)} {ws : va_W} {H0 : Heap}
theorem va_mna {X : va_W} {L : List Nat} {f : Nat → va_E} {cc : ByteArray} (hexec : p.tables.exec = Jvm.exec) (hb : c.code = cc) {own : String} {index : Nat} {ty : FieldType} {cy : ClassId} (hown : s.vm.findClass own = some m.cls) (hclink : (Cond.classLink own index ("[" ++ (FieldType.array ty).toString)).before args s = true) (hover : va_AOA ty s) (harr : (Cond.arrayClass ty).before args s = true) (hcy : s.vm.findClass (FieldType.array ty).toString = some cy)
    (hK : va_K D cl tys s) (hP : va_P D cl (X ++ va_pl L f) H) (hD : va_D A (X ++ va_pl L f)) (hS : va_S A H0 H locs) (hA : ∀ q, H0.size ≤ q → A q) {n k : Int32} {N' K' : Nat} {z : vp_A} (hn : ¬ n < 0) (hk : ¬ k < 0) (hN : n.toNatClampNeg = N') (hM : k.toNatClampNeg = K')
    (hb1 : N' * 4 ≤ 536870912) (hb2 : K' * componentBytes ty ≤ 536870912) (hb3 : K' ≤ 536870912) (hdf : fits ty (defaultValue ty) = true) (hdd : (defaultValue ty).isDefault = true) (hcells : cells + (1 + N') ≤ R.cells) (hslots : slots + (N' + N' * K') ≤ R.slots) (hz : ∀ c : ClassId, Jvm.Free.Multi.innerC c K' (defaultValue ty) = vp_cell c z) (hdg : decode cc pc = .ok (.multianewarray index 2, 4))
    (kk : ∀ (q : Nat) (r : Nat → Nat) (cA : ClassId) (H1 : Heap), (∀ i j : Nat, i < N' → j < N' → r i = r j → i = j) → (∀ i : Nat, i < N' → r i ∉ L) → va_K D cl (tys ++ [(cA, .array ty)]) s →
      va_P D cl ((X ++ [(q, .inl (cA, N', .inr (.inr (.inr (.inr (fun i => if i < N' then some (r i) else none))))))]) ++ va_pl (L ++ (List.range N').map r) (vr_up f ((List.range N').map r) (.inl (cy, z)))) H1 → va_D A ((X ++ [(q, .inl (cA, N', .inr (.inr (.inr (.inr (fun i => if i < N' then some (r i) else none))))))]) ++ va_pl (L ++ (List.range N').map r) (vr_up f ((List.range N').map r) (.inl (cy, z)))) → va_S A H0 H1 locs →
      W p l e R s m args below meth c H1 locs (cells + 1 + N') (slots + N' + N' * K') Q (F0 m (pc + 4) ls (.ref q :: rest))) : W p l e R s m args below meth c H locs cells slots Q (F0 m pc ls (.int k :: .int n :: rest)) := by
  subst hN
  subst hM
  intro T hT Xs
  obtain ⟨vm₁, cA, comp, -, fA, fC, hO, -, X', step⟩ := Xs.multianewarray2F hexec hown hclink (va_AOA.use hover) harr (g := F0 m pc ls (.int k :: .int n :: rest)) rfl (by rw [hb]; exact hdg) rfl hn hk hb1 hb2 hb3 hdf hdd hcells hslots
  have ec : some cy = some comp := hcy.symm.trans fC
  cases ec
  generalize hF : Jvm.Free.Multi.fill (T.setVm vm₁) cA cy n.toNatClampNeg k.toNatClampNeg (defaultValue ty) n.toNatClampNeg = F at X' step
  have hTh : (T.setVm vm₁).heap = H := hT
  obtain ⟨f1, f2, -, -⟩ := Jvm.Free.Multi.fill_facts (T.setVm vm₁) cA cy n.toNatClampNeg k.toNatClampNeg (defaultValue ty) n.toNatClampNeg
  rw [hF, hTh] at f1 f2
  have hold : ∀ x : Nat, x < H.size → F.heap[x]? = H[x]? := fun x hx => by
    have := Jvm.Free.Multi.fill_old (T.setVm vm₁) cA cy n.toNatClampNeg k.toNatClampNeg (defaultValue ty) (a := x) (by rw [hTh]; exact hx) n.toNatClampNeg
    rw [hF, hTh] at this
    exact this
  have hrow : ∀ j : Nat, j < n.toNatClampNeg → F.heap[H.size + 1 + j]? = some (vp_cell cy z) := fun j hj => by
    have := Jvm.Free.Multi.fill_inner (T.setVm vm₁) cA cy n.toNatClampNeg k.toNatClampNeg (defaultValue ty) n.toNatClampNeg j hj
    rw [hF, hTh, hz] at this
    exact this
  have hout : Jvm.Free.Multi.outerC cA n.toNatClampNeg H.size n.toNatClampNeg = vp_cell cA (n.toNatClampNeg, .inr (.inr (.inr (.inr (fun i => if i < n.toNatClampNeg then some (H.size + 1 + i) else none))))) := by
    rw [vp_cell_q]
    exact vr_outer cA n.toNatClampNeg H.size n.toNatClampNeg
  rw [hout] at f2
  have hlt : ∀ a, a ∈ L → a < H.size := fun a ha => by
    obtain ⟨k9, hk9⟩ := va_pl_get (X := X) (f := f) ha
    exact (hP k9 _ hk9).lt
  have hnl : ∀ i : Nat, i < n.toNatClampNeg → H.size + 1 + i ∉ L := fun i _ h => by
    have := hlt _ h
    omega
  have hnm : ∀ a, a ∈ (List.range n.toNatClampNeg).map (fun i => H.size + 1 + i) → a ∉ L := fun a ha h => by
    obtain ⟨i, -, rfl⟩ := List.mem_map.mp ha
    have := hlt _ h
    omega
  have hP0 : va_P D cl (X ++ va_pl L f) F.heap := hP.kept (fun k9 x hx => hold x.1 ((hP k9 x hx).lt))
  have hP1 : va_P D cl ((X ++ va_pl L f) ++ [(H.size, .inl (cA, n.toNatClampNeg, .inr (.inr (.inr (.inr (fun i => if i < n.toNatClampNeg then some (H.size + 1 + i) else none))))))]) F.heap := hP0.app (fun k9 x hx => by
    have h0 : k9 < 1 := (List.getElem?_eq_some_iff.mp hx).1
    rw [show k9 = 0 by omega] at hx
    cases hx
    exact f2)
  have hP2 : va_P D cl (((X ++ va_pl L f) ++ [(H.size, .inl (cA, n.toNatClampNeg, .inr (.inr (.inr (.inr (fun i => if i < n.toNatClampNeg then some (H.size + 1 + i) else none))))))]) ++ ((List.range n.toNatClampNeg).map (fun i => H.size + 1 + i)).map (fun a => (a, .inl (cy, z)))) F.heap := hP1.app (fun k9 x hx => by
    obtain ⟨a, ha, rfl⟩ := List.mem_map.mp (List.mem_of_getElem? hx)
    obtain ⟨i, hi, rfl⟩ := List.mem_map.mp ha
    exact hrow i (List.mem_range.mp hi))
  have hD2 : va_D A (((X ++ va_pl L f) ++ [(H.size, .inl (cA, n.toNatClampNeg, .inr (.inr (.inr (.inr (fun i => if i < n.toNatClampNeg then some (H.size + 1 + i) else none))))))]) ++ ((List.range n.toNatClampNeg).map (fun i => H.size + 1 + i)).map (fun a => (a, .inl (cy, z)))) := by
    have hD1 := hD.push (e := .inl (cA, n.toNatClampNeg, .inr (.inr (.inr (.inr (fun i => if i < n.toNatClampNeg then some (H.size + 1 + i) else none)))))) hP rfl (hA _ hS.1)
    generalize hW1 : (X ++ va_pl L f) ++ [(H.size, .inl (cA, n.toNatClampNeg, .inr (.inr (.inr (.inr (fun i => if i < n.toNatClampNeg then some (H.size + 1 + i) else none))))))] = W1 at hD1 hP1 ⊢
    have hle : ∀ (k9 : Nat) (x : Nat × va_E), W1[k9]? = some x → x.1 ≤ H.size := fun k9 x hx => by
      rw [← hW1] at hx
      by_cases hl : k9 < (X ++ va_pl L f).length
      · rw [List.getElem?_append_left hl] at hx
        exact Nat.le_of_lt ((hP k9 x hx).lt)
      · rw [List.getElem?_append_right (by omega)] at hx
        have h0 : k9 - (X ++ va_pl L f).length < 1 := (List.getElem?_eq_some_iff.mp hx).1
        rw [show k9 - (X ++ va_pl L f).length = 0 by omega] at hx
        cases hx
        exact Nat.le_refl _
    have hr : ∀ (k9 : Nat) (x : Nat × va_E), (((List.range n.toNatClampNeg).map (fun i => H.size + 1 + i)).map (fun a => ((a, .inl (cy, z)) : Nat × va_E)))[k9]? = some x → x.1 = H.size + 1 + k9 := fun k9 x hx => by
      rw [List.getElem?_map, List.getElem?_map] at hx
      by_cases h9 : k9 < n.toNatClampNeg
      · rw [List.getElem?_range h9] at hx
        cases hx
        rfl
      · have hn0 : (List.range n.toNatClampNeg)[k9]? = none := List.getElem?_eq_none (by rw [List.length_range]; omega)
        rw [hn0] at hx
        cases hx
    refine ⟨fun i j x y hi hj hxy => ?_, fun k9 x hx => ?_⟩
    · by_cases h1 : i < W1.length <;> by_cases h2 : j < W1.length
      · rw [List.getElem?_append_left h1] at hi
        rw [List.getElem?_append_left h2] at hj
        exact hD1.1 i j x y hi hj hxy
      · rw [List.getElem?_append_left h1] at hi
        rw [List.getElem?_append_right (by omega)] at hj
        have := hle _ _ hi
        have := hr _ _ hj
        omega
      · rw [List.getElem?_append_right (by omega)] at hi
        rw [List.getElem?_append_left h2] at hj
        have := hle _ _ hj
        have := hr _ _ hi
        omega
      · rw [List.getElem?_append_right (by omega)] at hi hj
        have := hr _ _ hi
        have := hr _ _ hj
        omega
    · by_cases h1 : k9 < W1.length
      · rw [List.getElem?_append_left h1] at hx
        exact hD1.2 k9 x hx
      · rw [List.getElem?_append_right (by omega)] at hx
        have := hr _ _ hx
        exact hA _ (by have := hS.1; omega)
  have hAr : ArrOfT s cA (.array ty) := fun N9 z9 => by
    obtain ⟨-, k9, hk9, cm9, hkk9⟩ := (hO 0 0 0).1
    exact ⟨(fun q hq => by cases hq), k9, hk9, cm9, hkk9⟩
  have hK2 : va_K D cl (tys ++ [(cA, .array ty)]) s := ⟨hK.1, fun k9 x hx => by
    by_cases hl : k9 < tys.length
    · rw [List.getElem?_append_left hl] at hx
      exact hK.2 k9 x hx
    · rw [List.getElem?_append_right (by omega)] at hx
      have h0 : k9 - tys.length < 1 := (List.getElem?_eq_some_iff.mp hx).1
      rw [show k9 - tys.length = 0 by omega] at hx
      cases hx
      exact ⟨hAr, fA⟩⟩
  obtain ⟨t, a1, b1⟩ := kk H.size (fun i => H.size + 1 + i) cA F.heap (fun i j _ _ h => by have h9 : H.size + 1 + i = H.size + 1 + j := h; omega) hnl hK2 (by rw [← vr_rows hnm]; exact vr_lay hP2) (by rw [← vr_rows hnm]; exact vr_layD hD2) ⟨by rw [f1]; have := hS.1; omega, fun x h1 h2 => (hold x (Nat.lt_of_lt_of_le h1 hS.1)).trans (hS.2.1 x h1 h2), hS.2.2⟩ F rfl X'
  refine ⟨t, step t ?_, b1⟩
  have e : T.heap.size = H.size := by rw [hT]
  rw [e]
  exact a1
end VGM
/-! ===== END ===== -/
def RX0 : String := "ChairMigration$Chair"
def TX0 : u_T := fun k => match k with
  | 0 => ("ChairMigration$Chair", "id", "I", false)
  | 1 => ("ChairMigration$Chair", "lawn", "I", false)
  | 2 => ("ChairMigration$Chair", "rust", "I", false)
  | 3 => ("ChairMigration$Chair", "dayAdded", "I", false)
  | _ => ("ChairMigration$Chair", "folded", "Z", false)
def tyX0 : Nat → FieldType := fun k => match k with
  | 0 => .int
  | 1 => .int
  | 2 => .int
  | 3 => .int
  | _ => .boolean
abbrev wsX00 : List Cond := u_ws RX0 TX0 5
theorem nmX0 : ∀ a, a < 5 → ∀ b, b < 5 → a ≠ b → (TX0 a).2.1 ≠ (TX0 b).2.1 := by decide +kernel
theorem tyX0_ok : ∀ k, k < 5 → parseFieldDescriptor (TX0 k).2.2.1 = some (tyX0 k) := by decide +kernel
abbrev cX0_init : ByteArray := prog_2_method_1_code
def yX0_init : MethodName := ⟨RX0, "<init>", "()V"⟩
abbrev cX0_become : ByteArray := prog_2_method_2_code
def yX0_become : MethodName := ⟨RX0, "become", "(LChairMigration$Chair;)V"⟩
abbrev cX0_grazesOn : ByteArray := prog_2_method_3_code
def yX0_grazesOn : MethodName := ⟨RX0, "grazesOn", "(I)Z"⟩
abbrev cX0_isElderThan : ByteArray := prog_2_method_4_code
def yX0_isElderThan : MethodName := ⟨RX0, "isElderThan", "(LChairMigration$Chair;)Z"⟩
abbrev cX0_rustsAheadOf : ByteArray := prog_2_method_5_code
def yX0_rustsAheadOf : MethodName := ⟨RX0, "rustsAheadOf", "(LChairMigration$Chair;)Z"⟩
def RX1 : String := "ChairMigration$CommandInput"
def TX1 : u_T := fun k => match k with
  | 0 => ("ChairMigration$CommandInput", "text", "[C", true)
  | 1 => ("ChairMigration$CommandInput", "deeds", "[C", true)
  | 2 => ("ChairMigration$CommandInput", "firsts", "[I", true)
  | 3 => ("ChairMigration$CommandInput", "seconds", "[I", true)
  | 4 => ("ChairMigration$CommandInput", "length", "I", false)
  | 5 => ("ChairMigration$CommandInput", "position", "I", false)
  | _ => ("ChairMigration$CommandInput", "count", "I", false)
def tyX1 : Nat → FieldType := fun k => match k with
  | 0 => .array .char
  | 1 => .array .char
  | 2 => .array .int
  | 3 => .array .int
  | 4 => .int
  | 5 => .int
  | _ => .int
abbrev wsX10 : List Cond := u_ws RX1 TX1 7
theorem nmX1 : ∀ a, a < 7 → ∀ b, b < 7 → a ≠ b → (TX1 a).2.1 ≠ (TX1 b).2.1 := by decide +kernel
theorem tyX1_ok : ∀ k, k < 7 → parseFieldDescriptor (TX1 k).2.2.1 = some (tyX1 k) := by decide +kernel
abbrev cX1_init : ByteArray := prog_3_method_1_code
def yX1_init : MethodName := ⟨RX1, "<init>", "()V"⟩
abbrev cX1_isFull : ByteArray := prog_3_method_2_code
def yX1_isFull : MethodName := ⟨RX1, "isFull", "()Z"⟩
abbrev cX1_take : ByteArray := prog_3_method_3_code
def yX1_take : MethodName := ⟨RX1, "take", "(C)I"⟩
abbrev cX1_empty : ByteArray := prog_3_method_4_code
def yX1_empty : MethodName := ⟨RX1, "empty", "()V"⟩
abbrev cX1_deedOf : ByteArray := prog_3_method_5_code
def yX1_deedOf : MethodName := ⟨RX1, "deedOf", "(I)C"⟩
abbrev cX1_firstOf : ByteArray := prog_3_method_6_code
def yX1_firstOf : MethodName := ⟨RX1, "firstOf", "(I)I"⟩
abbrev cX1_secondOf : ByteArray := prog_3_method_7_code
def yX1_secondOf : MethodName := ⟨RX1, "secondOf", "(I)I"⟩
abbrev cX1_readCommands : ByteArray := prog_3_method_8_code
def yX1_readCommands : MethodName := ⟨RX1, "readCommands", "()I"⟩
abbrev cX1_isCommand : ByteArray := prog_3_method_9_code
def yX1_isCommand : MethodName := ⟨RX1, "isCommand", "(I)Z"⟩
abbrev cX1_shapeOf : ByteArray := prog_3_method_10_code
def yX1_shapeOf : MethodName := ⟨RX1, "shapeOf", "(C)Ljava/lang/String;"⟩
abbrev cX1_readCommand : ByteArray := prog_3_method_11_code
def yX1_readCommand : MethodName := ⟨RX1, "readCommand", "()Z"⟩
abbrev cX1_readPart : ByteArray := prog_3_method_12_code
def yX1_readPart : MethodName := ⟨RX1, "readPart", "(CZ)Z"⟩
abbrev cX1_readSign : ByteArray := prog_3_method_13_code
def yX1_readSign : MethodName := ⟨RX1, "readSign", "(C)Z"⟩
abbrev cX1_readNumber : ByteArray := prog_3_method_14_code
def yX1_readNumber : MethodName := ⟨RX1, "readNumber", "(I)I"⟩
abbrev cX1_next : ByteArray := prog_3_method_15_code
def yX1_next : MethodName := ⟨RX1, "next", "()C"⟩
abbrev cX1_isDigit : ByteArray := prog_3_method_16_code
def yX1_isDigit : MethodName := ⟨RX1, "isDigit", "(C)Z"⟩
def RX2 : String := "ChairMigration$Deed"
def TX2 : u_T := fun k => match k with
  | _ => ("", "", "", false)
def tyX2 : Nat → FieldType := fun k => match k with
  | _ => .int
abbrev wsX20 : List Cond := u_ws RX2 TX2 0
theorem nmX2 : ∀ a, a < 0 → ∀ b, b < 0 → a ≠ b → (TX2 a).2.1 ≠ (TX2 b).2.1 := by decide +kernel
theorem tyX2_ok : ∀ k, k < 0 → parseFieldDescriptor (TX2 k).2.2.1 = some (tyX2 k) := by decide +kernel
def RX3 : String := "ChairMigration$Garden"
def TX3 : u_T := fun k => match k with
  | 0 => ("ChairMigration$Garden", "paths", "LChairMigration$Paths;", true)
  | 1 => ("ChairMigration$Garden", "shades", "LChairMigration$LawnRow;", true)
  | 2 => ("ChairMigration$Garden", "herdSizes", "LChairMigration$LawnRow;", true)
  | 3 => ("ChairMigration$Garden", "chairs", "[LChairMigration$Chair;", true)
  | 4 => ("ChairMigration$Garden", "chairCount", "I", false)
  | 5 => ("ChairMigration$Garden", "nextId", "I", false)
  | 6 => ("ChairMigration$Garden", "day", "I", false)
  | 7 => ("ChairMigration$Garden", "oil", "I", false)
  | 8 => ("ChairMigration$Garden", "collapsed", "I", false)
  | 9 => ("ChairMigration$Garden", "scrapped", "I", false)
  | 10 => ("ChairMigration$Garden", "moves", "I", false)
  | _ => ("ChairMigration$Garden", "grazed", "I", false)
def tyX3 : Nat → FieldType := fun k => match k with
  | 0 => .object "ChairMigration$Paths"
  | 1 => .object "ChairMigration$LawnRow"
  | 2 => .object "ChairMigration$LawnRow"
  | 3 => .array (.object "ChairMigration$Chair")
  | 4 => .int
  | 5 => .int
  | 6 => .int
  | 7 => .int
  | 8 => .int
  | 9 => .int
  | 10 => .int
  | _ => .int
abbrev wsX30 : List Cond := u_ws RX3 TX3 12
theorem nmX3 : ∀ a, a < 12 → ∀ b, b < 12 → a ≠ b → (TX3 a).2.1 ≠ (TX3 b).2.1 := by decide +kernel
theorem tyX3_ok : ∀ k, k < 12 → parseFieldDescriptor (TX3 k).2.2.1 = some (tyX3 k) := by decide +kernel
abbrev cX3_init : ByteArray := prog_5_method_1_code
def yX3_init : MethodName := ⟨RX3, "<init>", "()V"⟩
abbrev cX3_become : ByteArray := prog_5_method_2_code
def yX3_become : MethodName := ⟨RX3, "become", "(LChairMigration$Garden;)V"⟩
abbrev cX3_perform : ByteArray := prog_5_method_3_code
def yX3_perform : MethodName := ⟨RX3, "perform", "(CII)I"⟩
abbrev cX3_changeShade : ByteArray := prog_5_method_4_code
def yX3_changeShade : MethodName := ⟨RX3, "changeShade", "(II)I"⟩
abbrev cX3_settle : ByteArray := prog_5_method_5_code
def yX3_settle : MethodName := ⟨RX3, "settle", "(II)I"⟩
abbrev cX3_scrap : ByteArray := prog_5_method_6_code
def yX3_scrap : MethodName := ⟨RX3, "scrap", "(I)I"⟩
abbrev cX3_setFolded : ByteArray := prog_5_method_7_code
def yX3_setFolded : MethodName := ⟨RX3, "setFolded", "(IZ)I"⟩
abbrev cX3_useOil : ByteArray := prog_5_method_8_code
def yX3_useOil : MethodName := ⟨RX3, "useOil", "(I)I"⟩
abbrev cX3_move : ByteArray := prog_5_method_9_code
def yX3_move : MethodName := ⟨RX3, "move", "(II)I"⟩
abbrev cX3_moveHerd : ByteArray := prog_5_method_10_code
def yX3_moveHerd : MethodName := ⟨RX3, "moveHerd", "(II)I"⟩
abbrev cX3_firstGrazingOn : ByteArray := prog_5_method_11_code
def yX3_firstGrazingOn : MethodName := ⟨RX3, "firstGrazingOn", "(I)I"⟩
abbrev cX3_moveAt : ByteArray := prog_5_method_12_code
def yX3_moveAt : MethodName := ⟨RX3, "moveAt", "(II)V"⟩
abbrev cX3_shiftToEnd : ByteArray := prog_5_method_13_code
def yX3_shiftToEnd : MethodName := ⟨RX3, "shiftToEnd", "(I)V"⟩
abbrev cX3_pass : ByteArray := prog_5_method_14_code
def yX3_pass : MethodName := ⟨RX3, "pass", "(I)I"⟩
abbrev cX3_passOneDay : ByteArray := prog_5_method_15_code
def yX3_passOneDay : MethodName := ⟨RX3, "passOneDay", "()V"⟩
abbrev cX3_graze : ByteArray := prog_5_method_16_code
def yX3_graze : MethodName := ⟨RX3, "graze", "(II)V"⟩
abbrev cX3_collapse : ByteArray := prog_5_method_17_code
def yX3_collapse : MethodName := ⟨RX3, "collapse", "()V"⟩
abbrev cX3_comingSeason : ByteArray := prog_5_method_18_code
def yX3_comingSeason : MethodName := ⟨RX3, "comingSeason", "()I"⟩
abbrev cX3_indexOf : ByteArray := prog_5_method_19_code
def yX3_indexOf : MethodName := ⟨RX3, "indexOf", "(I)I"⟩
abbrev cX3_find : ByteArray := prog_5_method_20_code
def yX3_find : MethodName := ⟨RX3, "find", "(I)LChairMigration$Chair;"⟩
abbrev cX3_placeInHerd : ByteArray := prog_5_method_21_code
def yX3_placeInHerd : MethodName := ⟨RX3, "placeInHerd", "(LChairMigration$Chair;)I"⟩
abbrev cX3_findInHerd : ByteArray := prog_5_method_22_code
def yX3_findInHerd : MethodName := ⟨RX3, "findInHerd", "(II)LChairMigration$Chair;"⟩
abbrev cX3_idInHerd : ByteArray := prog_5_method_23_code
def yX3_idInHerd : MethodName := ⟨RX3, "idInHerd", "(II)I"⟩
abbrev cX3_idOfElder : ByteArray := prog_5_method_24_code
def yX3_idOfElder : MethodName := ⟨RX3, "idOfElder", "(I)I"⟩
abbrev cX3_countChairsOn : ByteArray := prog_5_method_25_code
def yX3_countChairsOn : MethodName := ⟨RX3, "countChairsOn", "(I)I"⟩
abbrev cX3_countGrazingOn : ByteArray := prog_5_method_26_code
def yX3_countGrazingOn : MethodName := ⟨RX3, "countGrazingOn", "(I)I"⟩
abbrev cX3_countFolded : ByteArray := prog_5_method_27_code
def yX3_countFolded : MethodName := ⟨RX3, "countFolded", "()I"⟩
abbrev cX3_sumOfRust : ByteArray := prog_5_method_28_code
def yX3_sumOfRust : MethodName := ⟨RX3, "sumOfRust", "()I"⟩
abbrev cX3_idAtRank : ByteArray := prog_5_method_30_code
def yX3_idAtRank : MethodName := ⟨RX3, "idAtRank", "(I)I"⟩
abbrev cX3_rankOf : ByteArray := prog_5_method_31_code
def yX3_rankOf : MethodName := ⟨RX3, "rankOf", "(LChairMigration$Chair;)I"⟩
abbrev cX3_lawnAtRank : ByteArray := prog_5_method_32_code
def yX3_lawnAtRank : MethodName := ⟨RX3, "lawnAtRank", "(I)I"⟩
abbrev cX3_rankOfLawn : ByteArray := prog_5_method_33_code
def yX3_rankOfLawn : MethodName := ⟨RX3, "rankOfLawn", "(I)I"⟩
abbrev cX3_shadiestNeighbour : ByteArray := prog_5_method_34_code
def yX3_shadiestNeighbour : MethodName := ⟨RX3, "shadiestNeighbour", "(I)I"⟩
abbrev cX3_isBetter : ByteArray := prog_5_method_35_code
def yX3_isBetter : MethodName := ⟨RX3, "isBetter", "(II)Z"⟩
abbrev cX3_describe : ByteArray := prog_5_method_39_code
def yX3_describe : MethodName := ⟨RX3, "describe", "(ILjava/lang/StringBuilder;)V"⟩
def RX4 : String := "ChairMigration$History"
def TX4 : u_T := fun k => match k with
  | 0 => ("ChairMigration$History", "past", "[LChairMigration$Garden;", true)
  | _ => ("ChairMigration$History", "count", "I", false)
def tyX4 : Nat → FieldType := fun k => match k with
  | 0 => .array (.object "ChairMigration$Garden")
  | _ => .int
abbrev wsX40 : List Cond := u_ws RX4 TX4 2
theorem nmX4 : ∀ a, a < 2 → ∀ b, b < 2 → a ≠ b → (TX4 a).2.1 ≠ (TX4 b).2.1 := by decide +kernel
theorem tyX4_ok : ∀ k, k < 2 → parseFieldDescriptor (TX4 k).2.2.1 = some (tyX4 k) := by decide +kernel
abbrev cX4_init : ByteArray := prog_6_method_1_code
def yX4_init : MethodName := ⟨RX4, "<init>", "()V"⟩
abbrev cX4_keep : ByteArray := prog_6_method_2_code
def yX4_keep : MethodName := ⟨RX4, "keep", "(LChairMigration$Garden;)V"⟩
abbrev cX4_takeBack : ByteArray := prog_6_method_3_code
def yX4_takeBack : MethodName := ⟨RX4, "takeBack", "(LChairMigration$Garden;)V"⟩
abbrev cX4_forget : ByteArray := prog_6_method_4_code
def yX4_forget : MethodName := ⟨RX4, "forget", "()V"⟩
abbrev cX4_dropOldest : ByteArray := prog_6_method_5_code
def yX4_dropOldest : MethodName := ⟨RX4, "dropOldest", "()V"⟩
def RX5 : String := "ChairMigration$Improvement"
def TX5 : u_T := fun k => match k with
  | _ => ("ChairMigration$Improvement", "bounds", "[[I", true)
def tyX5 : Nat → FieldType := fun k => match k with
  | _ => .array (.array .int)
abbrev wsX50 : List Cond := u_ws RX5 TX5 1
theorem nmX5 : ∀ a, a < 1 → ∀ b, b < 1 → a ≠ b → (TX5 a).2.1 ≠ (TX5 b).2.1 := by decide +kernel
theorem tyX5_ok : ∀ k, k < 1 → parseFieldDescriptor (TX5 k).2.2.1 = some (tyX5 k) := by decide +kernel
abbrev cX5_init : ByteArray := prog_7_method_1_code
def yX5_init : MethodName := ⟨RX5, "<init>", "()V"⟩
abbrev cX5_measure : ByteArray := prog_7_method_2_code
def yX5_measure : MethodName := ⟨RX5, "measure", "(LChairMigration$Paths;)V"⟩
abbrev cX5_between : ByteArray := prog_7_method_3_code
def yX5_between : MethodName := ⟨RX5, "between", "(II)I"⟩
abbrev cX5_firstBound : ByteArray := prog_7_method_5_code
def yX5_firstBound : MethodName := ⟨RX5, "firstBound", "(LChairMigration$Paths;II)I"⟩
abbrev cX5_improve : ByteArray := prog_7_method_6_code
def yX5_improve : MethodName := ⟨RX5, "improve", "()Z"⟩
def RX6 : String := "ChairMigration$Judge"
def TX6 : u_T := fun k => match k with
  | 0 => ("ChairMigration$Judge", "verdict", "I", false)
  | 1 => ("ChairMigration$Judge", "reason", "I", false)
  | _ => ("ChairMigration$Judge", "detail", "I", false)
def tyX6 : Nat → FieldType := fun k => match k with
  | 0 => .int
  | 1 => .int
  | _ => .int
abbrev wsX60 : List Cond := u_ws RX6 TX6 3
theorem nmX6 : ∀ a, a < 3 → ∀ b, b < 3 → a ≠ b → (TX6 a).2.1 ≠ (TX6 b).2.1 := by decide +kernel
theorem tyX6_ok : ∀ k, k < 3 → parseFieldDescriptor (TX6 k).2.2.1 = some (tyX6 k) := by decide +kernel
abbrev cX6_init : ByteArray := prog_8_method_1_code
def yX6_init : MethodName := ⟨RX6, "<init>", "()V"⟩
abbrev cX6_examine : ByteArray := prog_8_method_2_code
def yX6_examine : MethodName := ⟨RX6, "examine", "(LChairMigration$Garden;CII)I"⟩
abbrev cX6_reject : ByteArray := prog_8_method_3_code
def yX6_reject : MethodName := ⟨RX6, "reject", "(II)V"⟩
abbrev cX6_isFull : ByteArray := prog_8_method_4_code
def yX6_isFull : MethodName := ⟨RX6, "isFull", "(LChairMigration$Garden;I)Z"⟩
abbrev cX6_examineNewPath : ByteArray := prog_8_method_5_code
def yX6_examineNewPath : MethodName := ⟨RX6, "examineNewPath", "(LChairMigration$Garden;II)V"⟩
abbrev cX6_examineOldPath : ByteArray := prog_8_method_6_code
def yX6_examineOldPath : MethodName := ⟨RX6, "examineOldPath", "(LChairMigration$Garden;II)V"⟩
abbrev cX6_examineShade : ByteArray := prog_8_method_7_code
def yX6_examineShade : MethodName := ⟨RX6, "examineShade", "(II)V"⟩
abbrev cX6_examineNewChair : ByteArray := prog_8_method_8_code
def yX6_examineNewChair : MethodName := ⟨RX6, "examineNewChair", "(LChairMigration$Garden;II)V"⟩
abbrev cX6_examineScrapping : ByteArray := prog_8_method_9_code
def yX6_examineScrapping : MethodName := ⟨RX6, "examineScrapping", "(LChairMigration$Garden;I)V"⟩
abbrev cX6_examineFolding : ByteArray := prog_8_method_10_code
def yX6_examineFolding : MethodName := ⟨RX6, "examineFolding", "(LChairMigration$Garden;I)V"⟩
abbrev cX6_examineUnfolding : ByteArray := prog_8_method_11_code
def yX6_examineUnfolding : MethodName := ⟨RX6, "examineUnfolding", "(LChairMigration$Garden;I)V"⟩
abbrev cX6_examineOiling : ByteArray := prog_8_method_12_code
def yX6_examineOiling : MethodName := ⟨RX6, "examineOiling", "(LChairMigration$Garden;I)V"⟩
abbrev cX6_examineMove : ByteArray := prog_8_method_13_code
def yX6_examineMove : MethodName := ⟨RX6, "examineMove", "(LChairMigration$Garden;II)V"⟩
abbrev cX6_examineMigration : ByteArray := prog_8_method_14_code
def yX6_examineMigration : MethodName := ⟨RX6, "examineMigration", "(LChairMigration$Garden;II)V"⟩
abbrev cX6_examineNewOil : ByteArray := prog_8_method_15_code
def yX6_examineNewOil : MethodName := ⟨RX6, "examineNewOil", "(LChairMigration$Garden;I)V"⟩
abbrev cX6_examineDays : ByteArray := prog_8_method_16_code
def yX6_examineDays : MethodName := ⟨RX6, "examineDays", "(I)V"⟩
def RX7 : String := "ChairMigration$LawnRow"
def TX7 : u_T := fun k => match k with
  | _ => ("ChairMigration$LawnRow", "numbers", "[I", true)
def tyX7 : Nat → FieldType := fun k => match k with
  | _ => .array .int
abbrev wsX70 : List Cond := u_ws RX7 TX7 1
theorem nmX7 : ∀ a, a < 1 → ∀ b, b < 1 → a ≠ b → (TX7 a).2.1 ≠ (TX7 b).2.1 := by decide +kernel
theorem tyX7_ok : ∀ k, k < 1 → parseFieldDescriptor (TX7 k).2.2.1 = some (tyX7 k) := by decide +kernel
abbrev cX7_init : ByteArray := prog_9_method_1_code
def yX7_init : MethodName := ⟨RX7, "<init>", "()V"⟩
abbrev cX7_at : ByteArray := prog_9_method_2_code
def yX7_at : MethodName := ⟨RX7, "at", "(I)I"⟩
abbrev cX7_set : ByteArray := prog_9_method_3_code
def yX7_set : MethodName := ⟨RX7, "set", "(II)V"⟩
abbrev cX7_grow : ByteArray := prog_9_method_4_code
def yX7_grow : MethodName := ⟨RX7, "grow", "(II)V"⟩
abbrev cX7_become : ByteArray := prog_9_method_5_code
def yX7_become : MethodName := ⟨RX7, "become", "(LChairMigration$LawnRow;)V"⟩
def RX8 : String := "ChairMigration$Paths"
def TX8 : u_T := fun k => match k with
  | 0 => ("ChairMigration$Paths", "neighbours", "LChairMigration$LawnRow;", true)
  | _ => ("ChairMigration$Paths", "count", "I", false)
def tyX8 : Nat → FieldType := fun k => match k with
  | 0 => .object "ChairMigration$LawnRow"
  | _ => .int
abbrev wsX80 : List Cond := u_ws RX8 TX8 2
theorem nmX8 : ∀ a, a < 2 → ∀ b, b < 2 → a ≠ b → (TX8 a).2.1 ≠ (TX8 b).2.1 := by decide +kernel
theorem tyX8_ok : ∀ k, k < 2 → parseFieldDescriptor (TX8 k).2.2.1 = some (tyX8 k) := by decide +kernel
abbrev cX8_init : ByteArray := prog_10_method_1_code
def yX8_init : MethodName := ⟨RX8, "<init>", "()V"⟩
abbrev cX8_become : ByteArray := prog_10_method_2_code
def yX8_become : MethodName := ⟨RX8, "become", "(LChairMigration$Paths;)V"⟩
abbrev cX8_areNeighbours : ByteArray := prog_10_method_3_code
def yX8_areNeighbours : MethodName := ⟨RX8, "areNeighbours", "(II)Z"⟩
abbrev cX8_add : ByteArray := prog_10_method_4_code
def yX8_add : MethodName := ⟨RX8, "add", "(II)I"⟩
abbrev cX8_remove : ByteArray := prog_10_method_5_code
def yX8_remove : MethodName := ⟨RX8, "remove", "(II)I"⟩
abbrev cX8_stepsBetween : ByteArray := prog_10_method_6_code
def yX8_stepsBetween : MethodName := ⟨RX8, "stepsBetween", "(II)I"⟩
abbrev cX8_countReached : ByteArray := prog_10_method_7_code
def yX8_countReached : MethodName := ⟨RX8, "countReached", "(I)I"⟩
abbrev cX8_nextTowards : ByteArray := prog_10_method_8_code
def yX8_nextTowards : MethodName := ⟨RX8, "nextTowards", "(II)I"⟩
abbrev cX8_withNeighbours : ByteArray := prog_10_method_9_code
def yX8_withNeighbours : MethodName := ⟨RX8, "withNeighbours", "(I)I"⟩
abbrev cX8_holds : ByteArray := prog_10_method_10_code
def yX8_holds : MethodName := ⟨RX8, "holds", "(II)Z"⟩
def RX9 : String := "ChairMigration"
def TX9 : u_T := fun k => match k with
  | 0 => ("ChairMigration", "garden", "LChairMigration$Garden;", true)
  | 1 => ("ChairMigration", "forecast", "LChairMigration$Garden;", true)
  | 2 => ("ChairMigration", "beforeCommands", "LChairMigration$Garden;", true)
  | 3 => ("ChairMigration", "snapshot", "LChairMigration$Garden;", true)
  | 4 => ("ChairMigration", "history", "LChairMigration$History;", true)
  | 5 => ("ChairMigration", "improvement", "LChairMigration$Improvement;", true)
  | 6 => ("ChairMigration", "judge", "LChairMigration$Judge;", true)
  | 7 => ("ChairMigration", "input", "LChairMigration$CommandInput;", true)
  | 8 => ("ChairMigration", "output", "Ljava/lang/StringBuilder;", true)
  | 9 => ("ChairMigration", "snapshotSaved", "Z", false)
  | 10 => ("ChairMigration", "syntaxOffset", "I", false)
  | 11 => ("ChairMigration", "latestReason", "I", false)
  | 12 => ("ChairMigration", "latestDetail", "I", false)
  | _ => ("ChairMigration", "latestCause", "I", false)
def tyX9 : Nat → FieldType := fun k => match k with
  | 0 => .object "ChairMigration$Garden"
  | 1 => .object "ChairMigration$Garden"
  | 2 => .object "ChairMigration$Garden"
  | 3 => .object "ChairMigration$Garden"
  | 4 => .object "ChairMigration$History"
  | 5 => .object "ChairMigration$Improvement"
  | 6 => .object "ChairMigration$Judge"
  | 7 => .object "ChairMigration$CommandInput"
  | 8 => .object "java/lang/StringBuilder"
  | 9 => .boolean
  | 10 => .int
  | 11 => .int
  | 12 => .int
  | _ => .int
abbrev wsX90 : List Cond := u_ws RX9 TX9 14
theorem nmX9 : ∀ a, a < 14 → ∀ b, b < 14 → a ≠ b → (TX9 a).2.1 ≠ (TX9 b).2.1 := by decide +kernel
theorem tyX9_ok : ∀ k, k < 14 → parseFieldDescriptor (TX9 k).2.2.1 = some (tyX9 k) := by decide +kernel
abbrev cX9_init : ByteArray := prog_1_method_1_code
def yX9_init : MethodName := ⟨RX9, "<init>", "()V"⟩
abbrev cX9_addPath : ByteArray := prog_1_method_2_code
def yX9_addPath : MethodName := ⟨RX9, "addPath", "(II)I"⟩
abbrev cX9_removePath : ByteArray := prog_1_method_3_code
def yX9_removePath : MethodName := ⟨RX9, "removePath", "(II)I"⟩
abbrev cX9_isPath : ByteArray := prog_1_method_4_code
def yX9_isPath : MethodName := ⟨RX9, "isPath", "(II)Z"⟩
abbrev cX9_distance : ByteArray := prog_1_method_5_code
def yX9_distance : MethodName := ⟨RX9, "distance", "(II)I"⟩
abbrev cX9_distanceByImprovement : ByteArray := prog_1_method_6_code
def yX9_distanceByImprovement : MethodName := ⟨RX9, "distanceByImprovement", "(II)I"⟩
abbrev cX9_routeAt : ByteArray := prog_1_method_7_code
def yX9_routeAt : MethodName := ⟨RX9, "routeAt", "(III)I"⟩
abbrev cX9_reachableLawns : ByteArray := prog_1_method_8_code
def yX9_reachableLawns : MethodName := ⟨RX9, "reachableLawns", "(I)I"⟩
abbrev cX9_pathCount : ByteArray := prog_1_method_9_code
def yX9_pathCount : MethodName := ⟨RX9, "pathCount", "()I"⟩
abbrev cX9_setShade : ByteArray := prog_1_method_10_code
def yX9_setShade : MethodName := ⟨RX9, "setShade", "(II)I"⟩
abbrev cX9_shadeOf : ByteArray := prog_1_method_11_code
def yX9_shadeOf : MethodName := ⟨RX9, "shadeOf", "(I)I"⟩
abbrev cX9_addChair : ByteArray := prog_1_method_12_code
def yX9_addChair : MethodName := ⟨RX9, "addChair", "(II)I"⟩
abbrev cX9_scrapChair : ByteArray := prog_1_method_13_code
def yX9_scrapChair : MethodName := ⟨RX9, "scrapChair", "(I)I"⟩
abbrev cX9_fold : ByteArray := prog_1_method_14_code
def yX9_fold : MethodName := ⟨RX9, "fold", "(I)I"⟩
abbrev cX9_unfold : ByteArray := prog_1_method_15_code
def yX9_unfold : MethodName := ⟨RX9, "unfold", "(I)I"⟩
abbrev cX9_moveChair : ByteArray := prog_1_method_16_code
def yX9_moveChair : MethodName := ⟨RX9, "moveChair", "(II)I"⟩
abbrev cX9_migrate : ByteArray := prog_1_method_17_code
def yX9_migrate : MethodName := ⟨RX9, "migrate", "(II)I"⟩
abbrev cX9_oilChair : ByteArray := prog_1_method_18_code
def yX9_oilChair : MethodName := ⟨RX9, "oilChair", "(I)I"⟩
abbrev cX9_addOil : ByteArray := prog_1_method_19_code
def yX9_addOil : MethodName := ⟨RX9, "addOil", "(I)I"⟩
abbrev cX9_exists : ByteArray := prog_1_method_20_code
def yX9_exists : MethodName := ⟨RX9, "exists", "(I)Z"⟩
abbrev cX9_lawnOf : ByteArray := prog_1_method_21_code
def yX9_lawnOf : MethodName := ⟨RX9, "lawnOf", "(I)I"⟩
abbrev cX9_rustOf : ByteArray := prog_1_method_22_code
def yX9_rustOf : MethodName := ⟨RX9, "rustOf", "(I)I"⟩
abbrev cX9_isFolded : ByteArray := prog_1_method_23_code
def yX9_isFolded : MethodName := ⟨RX9, "isFolded", "(I)Z"⟩
abbrev cX9_ageOf : ByteArray := prog_1_method_24_code
def yX9_ageOf : MethodName := ⟨RX9, "ageOf", "(I)I"⟩
abbrev cX9_positionOf : ByteArray := prog_1_method_25_code
def yX9_positionOf : MethodName := ⟨RX9, "positionOf", "(I)I"⟩
abbrev cX9_herdSize : ByteArray := prog_1_method_26_code
def yX9_herdSize : MethodName := ⟨RX9, "herdSize", "(I)I"⟩
abbrev cX9_herdSizeByChairs : ByteArray := prog_1_method_27_code
def yX9_herdSizeByChairs : MethodName := ⟨RX9, "herdSizeByChairs", "(I)I"⟩
abbrev cX9_chairAt : ByteArray := prog_1_method_28_code
def yX9_chairAt : MethodName := ⟨RX9, "chairAt", "(II)I"⟩
abbrev cX9_elderOf : ByteArray := prog_1_method_29_code
def yX9_elderOf : MethodName := ⟨RX9, "elderOf", "(I)I"⟩
abbrev cX9_hungryChairs : ByteArray := prog_1_method_30_code
def yX9_hungryChairs : MethodName := ⟨RX9, "hungryChairs", "(I)I"⟩
abbrev cX9_bestNeighbour : ByteArray := prog_1_method_31_code
def yX9_bestNeighbour : MethodName := ⟨RX9, "bestNeighbour", "(I)I"⟩
abbrev cX9_passDays : ByteArray := prog_1_method_32_code
def yX9_passDays : MethodName := ⟨RX9, "passDays", "(I)I"⟩
abbrev cX9_day : ByteArray := prog_1_method_33_code
def yX9_day : MethodName := ⟨RX9, "day", "()I"⟩
abbrev cX9_daysUntil : ByteArray := prog_1_method_35_code
def yX9_daysUntil : MethodName := ⟨RX9, "daysUntil", "(I)I"⟩
abbrev cX9_wouldCollapse : ByteArray := prog_1_method_36_code
def yX9_wouldCollapse : MethodName := ⟨RX9, "wouldCollapse", "(I)I"⟩
abbrev cX9_collapseDay : ByteArray := prog_1_method_37_code
def yX9_collapseDay : MethodName := ⟨RX9, "collapseDay", "(I)I"⟩
abbrev cX9_chairCount : ByteArray := prog_1_method_38_code
def yX9_chairCount : MethodName := ⟨RX9, "chairCount", "()I"⟩
abbrev cX9_oil : ByteArray := prog_1_method_40_code
def yX9_oil : MethodName := ⟨RX9, "oil", "()I"⟩
abbrev cX9_collapsedChairs : ByteArray := prog_1_method_43_code
def yX9_collapsedChairs : MethodName := ⟨RX9, "collapsedChairs", "()I"⟩
abbrev cX9_scrappedChairs : ByteArray := prog_1_method_44_code
def yX9_scrappedChairs : MethodName := ⟨RX9, "scrappedChairs", "()I"⟩
abbrev cX9_moveCount : ByteArray := prog_1_method_45_code
def yX9_moveCount : MethodName := ⟨RX9, "moveCount", "()I"⟩
abbrev cX9_grazedShade : ByteArray := prog_1_method_46_code
def yX9_grazedShade : MethodName := ⟨RX9, "grazedShade", "()I"⟩
abbrev cX9_chairByRust : ByteArray := prog_1_method_47_code
def yX9_chairByRust : MethodName := ⟨RX9, "chairByRust", "(I)I"⟩
abbrev cX9_lawnByShade : ByteArray := prog_1_method_48_code
def yX9_lawnByShade : MethodName := ⟨RX9, "lawnByShade", "(I)I"⟩
abbrev cX9_meanRust : ByteArray := prog_1_method_49_code
def yX9_meanRust : MethodName := ⟨RX9, "meanRust", "()D"⟩
abbrev cX9_foldedShare : ByteArray := prog_1_method_50_code
def yX9_foldedShare : MethodName := ⟨RX9, "foldedShare", "()F"⟩
abbrev cX9_writeLawn : ByteArray := prog_1_method_52_code
def yX9_writeLawn : MethodName := ⟨RX9, "writeLawn", "(I)I"⟩
abbrev cX9_outputAt : ByteArray := prog_1_method_53_code
def yX9_outputAt : MethodName := ⟨RX9, "outputAt", "(I)C"⟩
abbrev cX9_appendInput : ByteArray := prog_1_method_54_code
def yX9_appendInput : MethodName := ⟨RX9, "appendInput", "(C)I"⟩
abbrev cX9_execute : ByteArray := prog_1_method_55_code
def yX9_execute : MethodName := ⟨RX9, "execute", "()I"⟩
abbrev cX9_syntaxErrorOffset : ByteArray := prog_1_method_56_code
def yX9_syntaxErrorOffset : MethodName := ⟨RX9, "syntaxErrorOffset", "()I"⟩
abbrev cX9_rejectionReason : ByteArray := prog_1_method_57_code
def yX9_rejectionReason : MethodName := ⟨RX9, "rejectionReason", "()I"⟩
abbrev cX9_rejectionDetail : ByteArray := prog_1_method_58_code
def yX9_rejectionDetail : MethodName := ⟨RX9, "rejectionDetail", "()I"⟩
abbrev cX9_causeReason : ByteArray := prog_1_method_59_code
def yX9_causeReason : MethodName := ⟨RX9, "causeReason", "()I"⟩
abbrev cX9_undo : ByteArray := prog_1_method_60_code
def yX9_undo : MethodName := ⟨RX9, "undo", "()I"⟩
abbrev cX9_saveSnapshot : ByteArray := prog_1_method_61_code
def yX9_saveSnapshot : MethodName := ⟨RX9, "saveSnapshot", "()I"⟩
abbrev cX9_restoreSnapshot : ByteArray := prog_1_method_62_code
def yX9_restoreSnapshot : MethodName := ⟨RX9, "restoreSnapshot", "()I"⟩
abbrev cX9_isLawn : ByteArray := prog_1_method_63_code
def yX9_isLawn : MethodName := ⟨RX9, "isLawn", "(I)Z"⟩
abbrev cX9_areDays : ByteArray := prog_1_method_64_code
def yX9_areDays : MethodName := ⟨RX9, "areDays", "(I)Z"⟩
abbrev cX9_demandLawn : ByteArray := prog_1_method_65_code
def yX9_demandLawn : MethodName := ⟨RX9, "demandLawn", "(I)V"⟩
abbrev cX9_demandChair : ByteArray := prog_1_method_66_code
def yX9_demandChair : MethodName := ⟨RX9, "demandChair", "(I)LChairMigration$Chair;"⟩
abbrev cX9_demandElement : ByteArray := prog_1_method_67_code
def yX9_demandElement : MethodName := ⟨RX9, "demandElement", "(I)I"⟩
abbrev cX9_demandChairs : ByteArray := prog_1_method_68_code
def yX9_demandChairs : MethodName := ⟨RX9, "demandChairs", "()V"⟩
abbrev cX9_demandRejection : ByteArray := prog_1_method_69_code
def yX9_demandRejection : MethodName := ⟨RX9, "demandRejection", "()V"⟩
abbrev cX9_change : ByteArray := prog_1_method_70_code
def yX9_change : MethodName := ⟨RX9, "change", "(CII)I"⟩
abbrev cX9_performCommands : ByteArray := prog_1_method_71_code
def yX9_performCommands : MethodName := ⟨RX9, "performCommands", "()I"⟩
abbrev cX9_throwForCommand : ByteArray := prog_1_method_72_code
def yX9_throwForCommand : MethodName := ⟨RX9, "throwForCommand", "(I)V"⟩
abbrev cX9_rememberRejection : ByteArray := prog_1_method_73_code
def yX9_rememberRejection : MethodName := ⟨RX9, "rememberRejection", "(III)V"⟩
def RX10 : String := "ChairMigrationModel"
def TX10 : u_T := fun k => match k with
  | _ => ("", "", "", false)
def tyX10 : Nat → FieldType := fun k => match k with
  | _ => .int
abbrev wsX100 : List Cond := u_ws RX10 TX10 0
theorem nmX10 : ∀ a, a < 0 → ∀ b, b < 0 → a ≠ b → (TX10 a).2.1 ≠ (TX10 b).2.1 := by decide +kernel
theorem tyX10_ok : ∀ k, k < 0 → parseFieldDescriptor (TX10 k).2.2.1 = some (tyX10 k) := by decide +kernel
def RJx145de : String := "java/io/Serializable"
def TJx145de : u_T := fun k => match k with
  | _ => ("", "", "", false)
def tyJx145de : Nat → FieldType := fun k => match k with
  | _ => .int
abbrev wsJx145de0 : List Cond := u_ws RJx145de TJx145de 0
theorem nmJx145de : ∀ a, a < 0 → ∀ b, b < 0 → a ≠ b → (TJx145de a).2.1 ≠ (TJx145de b).2.1 := by decide +kernel
theorem tyJx145de_ok : ∀ k, k < 0 → parseFieldDescriptor (TJx145de k).2.2.1 = some (tyJx145de k) := by decide +kernel
def RJ5 : String := "java/lang/AbstractStringBuilder"
def TJ5 : u_T := fun k => match k with
  | _ => ("", "", "", false)
def tyJ5 : Nat → FieldType := fun k => match k with
  | _ => .int
abbrev wsJ50 : List Cond := u_ws RJ5 TJ5 0
theorem nmJ5 : ∀ a, a < 0 → ∀ b, b < 0 → a ≠ b → (TJ5 a).2.1 ≠ (TJ5 b).2.1 := by decide +kernel
theorem tyJ5_ok : ∀ k, k < 0 → parseFieldDescriptor (TJ5 k).2.2.1 = some (tyJ5 k) := by decide +kernel
abbrev cJ5_init_d00df : ByteArray := prog_14_method_2_code
def yJ5_init_d00df : MethodName := ⟨RJ5, "<init>", "(I)V"⟩
abbrev cJ5_length_8abf5 : ByteArray := prog_14_method_6_code
def yJ5_length_8abf5 : MethodName := ⟨RJ5, "length", "()I"⟩
abbrev cJ5_ensureCapacityInternal_d00df : ByteArray := prog_14_method_9_code
def yJ5_ensureCapacityInternal_d00df : MethodName := ⟨RJ5, "ensureCapacityInternal", "(I)V"⟩
abbrev cJ5_newCapacity_0f7a4 : ByteArray := prog_14_method_10_code
def yJ5_newCapacity_0f7a4 : MethodName := ⟨RJ5, "newCapacity", "(I)I"⟩
abbrev cJ5_inflate_da8c8 : ByteArray := prog_14_method_11_code
def yJ5_inflate_da8c8 : MethodName := ⟨RJ5, "inflate", "()V"⟩
abbrev cJ5_setLength_d00df : ByteArray := prog_14_method_13_code
def yJ5_setLength_d00df : MethodName := ⟨RJ5, "setLength", "(I)V"⟩
abbrev cJ5_charAt_5068e : ByteArray := prog_14_method_14_code
def yJ5_charAt_5068e : MethodName := ⟨RJ5, "charAt", "(I)C"⟩
abbrev cJ5_append_cf1ce : ByteArray := prog_14_method_22_code
def yJ5_append_cf1ce : MethodName := ⟨RJ5, "append", "(Ljava/lang/String;)Ljava/lang/AbstractStringBuilder;"⟩
abbrev cJ5_appendNull_278bc : ByteArray := prog_14_method_26_code
def yJ5_appendNull_278bc : MethodName := ⟨RJ5, "appendNull", "()Ljava/lang/AbstractStringBuilder;"⟩
abbrev cJ5_append_3fe6f : ByteArray := prog_14_method_31_code
def yJ5_append_3fe6f : MethodName := ⟨RJ5, "append", "(C)Ljava/lang/AbstractStringBuilder;"⟩
abbrev cJ5_append_c97b9 : ByteArray := prog_14_method_32_code
def yJ5_append_c97b9 : MethodName := ⟨RJ5, "append", "(I)Ljava/lang/AbstractStringBuilder;"⟩
abbrev cJ5_getValue_6d5f1 : ByteArray := prog_14_method_64_code
def yJ5_getValue_6d5f1 : MethodName := ⟨RJ5, "getValue", "()[B"⟩
abbrev cJ5_isLatin1_aae02 : ByteArray := prog_14_method_68_code
def yJ5_isLatin1_aae02 : MethodName := ⟨RJ5, "isLatin1", "()Z"⟩
abbrev cJ5_inflateIfNeededFor_a7421 : ByteArray := prog_14_method_71_code
def yJ5_inflateIfNeededFor_a7421 : MethodName := ⟨RJ5, "inflateIfNeededFor", "(Ljava/lang/String;)V"⟩
abbrev cJ5_putStringAt_47b60 : ByteArray := prog_14_method_73_code
def yJ5_putStringAt_47b60 : MethodName := ⟨RJ5, "putStringAt", "(ILjava/lang/String;)V"⟩
def RJx2cfe8 : String := "java/lang/Appendable"
def TJx2cfe8 : u_T := fun k => match k with
  | _ => ("", "", "", false)
def tyJx2cfe8 : Nat → FieldType := fun k => match k with
  | _ => .int
abbrev wsJx2cfe80 : List Cond := u_ws RJx2cfe8 TJx2cfe8 0
theorem nmJx2cfe8 : ∀ a, a < 0 → ∀ b, b < 0 → a ≠ b → (TJx2cfe8 a).2.1 ≠ (TJx2cfe8 b).2.1 := by decide +kernel
theorem tyJx2cfe8_ok : ∀ k, k < 0 → parseFieldDescriptor (TJx2cfe8 k).2.2.1 = some (tyJx2cfe8 k) := by decide +kernel
def RJx00060 : String := "java/lang/ArrayIndexOutOfBoundsException"
def TJx00060 : u_T := fun k => match k with
  | 0 => ("java/lang/Throwable", "backtrace", "Ljava/lang/Object;", false)
  | 1 => ("java/lang/Throwable", "detailMessage", "Ljava/lang/String;", false)
  | 2 => ("java/lang/Throwable", "cause", "Ljava/lang/Throwable;", false)
  | 3 => ("java/lang/Throwable", "stackTrace", "[Ljava/lang/StackTraceElement;", false)
  | 4 => ("java/lang/Throwable", "depth", "I", false)
  | _ => ("java/lang/Throwable", "suppressedExceptions", "Ljava/util/List;", false)
def tyJx00060 : Nat → FieldType := fun k => match k with
  | 0 => .object "java/lang/Object"
  | 1 => .object "java/lang/String"
  | 2 => .object "java/lang/Throwable"
  | 3 => .array (.object "java/lang/StackTraceElement")
  | 4 => .int
  | _ => .object "java/util/List"
abbrev wsJx000600 : List Cond := u_ws RJx00060 TJx00060 6
theorem nmJx00060 : ∀ a, a < 6 → ∀ b, b < 6 → a ≠ b → (TJx00060 a).2.1 ≠ (TJx00060 b).2.1 := by decide +kernel
theorem tyJx00060_ok : ∀ k, k < 6 → parseFieldDescriptor (TJx00060 k).2.2.1 = some (tyJx00060 k) := by decide +kernel
abbrev cJx00060_init_a7421 : ByteArray := prog_17_method_2_code
def yJx00060_init_a7421 : MethodName := ⟨RJx00060, "<init>", "(Ljava/lang/String;)V"⟩
abbrev cJx00060_init_d00df : ByteArray := prog_17_method_3_code
def yJx00060_init_d00df : MethodName := ⟨RJx00060, "<init>", "(I)V"⟩
def RJx9f9b0 : String := "java/lang/CharSequence"
def TJx9f9b0 : u_T := fun k => match k with
  | _ => ("", "", "", false)
def tyJx9f9b0 : Nat → FieldType := fun k => match k with
  | _ => .int
abbrev wsJx9f9b00 : List Cond := u_ws RJx9f9b0 TJx9f9b0 0
theorem nmJx9f9b0 : ∀ a, a < 0 → ∀ b, b < 0 → a ≠ b → (TJx9f9b0 a).2.1 ≠ (TJx9f9b0 b).2.1 := by decide +kernel
theorem tyJx9f9b0_ok : ∀ k, k < 0 → parseFieldDescriptor (TJx9f9b0 k).2.2.1 = some (tyJx9f9b0 k) := by decide +kernel
def RJx8e188 : String := "java/lang/Cloneable"
def TJx8e188 : u_T := fun k => match k with
  | _ => ("", "", "", false)
def tyJx8e188 : Nat → FieldType := fun k => match k with
  | _ => .int
abbrev wsJx8e1880 : List Cond := u_ws RJx8e188 TJx8e188 0
theorem nmJx8e188 : ∀ a, a < 0 → ∀ b, b < 0 → a ≠ b → (TJx8e188 a).2.1 ≠ (TJx8e188 b).2.1 := by decide +kernel
theorem tyJx8e188_ok : ∀ k, k < 0 → parseFieldDescriptor (TJx8e188 k).2.2.1 = some (tyJx8e188 k) := by decide +kernel
def RJxb160c : String := "java/lang/Comparable"
def TJxb160c : u_T := fun k => match k with
  | _ => ("", "", "", false)
def tyJxb160c : Nat → FieldType := fun k => match k with
  | _ => .int
abbrev wsJxb160c0 : List Cond := u_ws RJxb160c TJxb160c 0
theorem nmJxb160c : ∀ a, a < 0 → ∀ b, b < 0 → a ≠ b → (TJxb160c a).2.1 ≠ (TJxb160c b).2.1 := by decide +kernel
theorem tyJxb160c_ok : ∀ k, k < 0 → parseFieldDescriptor (TJxb160c k).2.2.1 = some (tyJxb160c k) := by decide +kernel
def RJxe99ae : String := "java/lang/Double"
def TJxe99ae : u_T := fun k => match k with
  | _ => ("", "", "", false)
def tyJxe99ae : Nat → FieldType := fun k => match k with
  | _ => .int
abbrev wsJxe99ae0 : List Cond := u_ws RJxe99ae TJxe99ae 0
theorem nmJxe99ae : ∀ a, a < 0 → ∀ b, b < 0 → a ≠ b → (TJxe99ae a).2.1 ≠ (TJxe99ae b).2.1 := by decide +kernel
theorem tyJxe99ae_ok : ∀ k, k < 0 → parseFieldDescriptor (TJxe99ae k).2.2.1 = some (tyJxe99ae k) := by decide +kernel
abbrev cJxe99ae_isNaN_b9ae7 : ByteArray := prog_21_method_6_code
def yJxe99ae_isNaN_b9ae7 : MethodName := ⟨RJxe99ae, "isNaN", "(D)Z"⟩
abbrev cJxe99ae_doubleToLongBits_ccdee : ByteArray := prog_21_method_23_code
def yJxe99ae_doubleToLongBits_ccdee : MethodName := ⟨RJxe99ae, "doubleToLongBits", "(D)J"⟩
def RJxf58ca : String := "java/lang/Float"
def TJxf58ca : u_T := fun k => match k with
  | _ => ("", "", "", false)
def tyJxf58ca : Nat → FieldType := fun k => match k with
  | _ => .int
abbrev wsJxf58ca0 : List Cond := u_ws RJxf58ca TJxf58ca 0
theorem nmJxf58ca : ∀ a, a < 0 → ∀ b, b < 0 → a ≠ b → (TJxf58ca a).2.1 ≠ (TJxf58ca b).2.1 := by decide +kernel
theorem tyJxf58ca_ok : ∀ k, k < 0 → parseFieldDescriptor (TJxf58ca k).2.2.1 = some (tyJxf58ca k) := by decide +kernel
abbrev cJxf58ca_isNaN_12338 : ByteArray := prog_23_method_6_code
def yJxf58ca_isNaN_12338 : MethodName := ⟨RJxf58ca, "isNaN", "(F)Z"⟩
abbrev cJxf58ca_floatToIntBits_5c35a : ByteArray := prog_23_method_24_code
def yJxf58ca_floatToIntBits_5c35a : MethodName := ⟨RJxf58ca, "floatToIntBits", "(F)I"⟩
def RJ6 : String := "java/lang/Integer"
def TJ6 : u_T := fun k => match k with
  | _ => ("", "", "", false)
def tyJ6 : Nat → FieldType := fun k => match k with
  | _ => .int
abbrev wsJ60 : List Cond := u_ws RJ6 TJ6 0
theorem nmJ6 : ∀ a, a < 0 → ∀ b, b < 0 → a ≠ b → (TJ6 a).2.1 ≠ (TJ6 b).2.1 := by decide +kernel
theorem tyJ6_ok : ∀ k, k < 0 → parseFieldDescriptor (TJ6 k).2.2.1 = some (tyJ6 k) := by decide +kernel
abbrev cJ6_getChars_ba4f3 : ByteArray := prog_27_method_12_code
def yJ6_getChars_ba4f3 : MethodName := ⟨RJ6, "getChars", "(II[B)I"⟩
abbrev cJ6_stringSize_0f7a4 : ByteArray := prog_27_method_13_code
def yJ6_stringSize_0f7a4 : MethodName := ⟨RJ6, "stringSize", "(I)I"⟩
abbrev cJ6_bitCount_0f7a4 : ByteArray := prog_27_method_49_code
def yJ6_bitCount_0f7a4 : MethodName := ⟨RJ6, "bitCount", "(I)I"⟩
def RJ9 : String := "java/lang/Math"
def TJ9 : u_T := fun k => match k with
  | _ => ("", "", "", false)
def tyJ9 : Nat → FieldType := fun k => match k with
  | _ => .int
abbrev wsJ90 : List Cond := u_ws RJ9 TJ9 0
theorem nmJ9 : ∀ a, a < 0 → ∀ b, b < 0 → a ≠ b → (TJ9 a).2.1 ≠ (TJ9 b).2.1 := by decide +kernel
theorem tyJ9_ok : ∀ k, k < 0 → parseFieldDescriptor (TJ9 k).2.2.1 = some (tyJ9 k) := by decide +kernel
abbrev cJ9_max_7cf53 : ByteArray := prog_28_method_65_code
def yJ9_max_7cf53 : MethodName := ⟨RJ9, "max", "(II)I"⟩
abbrev cJ9_min_7cf53 : ByteArray := prog_28_method_69_code
def yJ9_min_7cf53 : MethodName := ⟨RJ9, "min", "(II)I"⟩
def RJxd2413 : String := "java/lang/Number"
def TJxd2413 : u_T := fun k => match k with
  | _ => ("", "", "", false)
def tyJxd2413 : Nat → FieldType := fun k => match k with
  | _ => .int
abbrev wsJxd24130 : List Cond := u_ws RJxd2413 TJxd2413 0
theorem nmJxd2413 : ∀ a, a < 0 → ∀ b, b < 0 → a ≠ b → (TJxd2413 a).2.1 ≠ (TJxd2413 b).2.1 := by decide +kernel
theorem tyJxd2413_ok : ∀ k, k < 0 → parseFieldDescriptor (TJxd2413 k).2.2.1 = some (tyJxd2413 k) := by decide +kernel
def RJ0 : String := "java/lang/String"
def TJ0 : u_T := fun k => match k with
  | 0 => ("java/lang/String", "value", "[B", true)
  | 1 => ("java/lang/String", "coder", "B", true)
  | 2 => ("java/lang/String", "hash", "I", false)
  | _ => ("java/lang/String", "hashIsZero", "Z", false)
def tyJ0 : Nat → FieldType := fun k => match k with
  | 0 => .array .byte
  | 1 => .byte
  | 2 => .int
  | _ => .boolean
abbrev wsJ00 : List Cond := u_ws RJ0 TJ0 4
theorem nmJ0 : ∀ a, a < 4 → ∀ b, b < 4 → a ≠ b → (TJ0 a).2.1 ≠ (TJ0 b).2.1 := by decide +kernel
theorem tyJ0_ok : ∀ k, k < 4 → parseFieldDescriptor (TJ0 k).2.2.1 = some (tyJ0 k) := by decide +kernel
abbrev cJ0_init_81219 : ByteArray := prog_31_method_53_code
def yJ0_init_81219 : MethodName := ⟨RJ0, "<init>", "(Ljava/lang/StringBuilder;)V"⟩
abbrev cJ0_length_8abf5 : ByteArray := prog_31_method_54_code
def yJ0_length_8abf5 : MethodName := ⟨RJ0, "length", "()I"⟩
abbrev cJ0_isEmpty_aae02 : ByteArray := prog_31_method_55_code
def yJ0_isEmpty_aae02 : MethodName := ⟨RJ0, "isEmpty", "()Z"⟩
abbrev cJ0_charAt_5068e : ByteArray := prog_31_method_56_code
def yJ0_charAt_5068e : MethodName := ⟨RJ0, "charAt", "(I)C"⟩
abbrev cJ0_getBytes_840e7 : ByteArray := prog_31_method_147_code
def yJ0_getBytes_840e7 : MethodName := ⟨RJ0, "getBytes", "([BIB)V"⟩
abbrev cJ0_init_db425 : ByteArray := prog_31_method_150_code
def yJ0_init_db425 : MethodName := ⟨RJ0, "<init>", "(Ljava/lang/AbstractStringBuilder;Ljava/lang/Void;)V"⟩
abbrev cJ0_coder_7d493 : ByteArray := prog_31_method_152_code
def yJ0_coder_7d493 : MethodName := ⟨RJ0, "coder", "()B"⟩
abbrev cJ0_isLatin1_aae02 : ByteArray := prog_31_method_154_code
def yJ0_isLatin1_aae02 : MethodName := ⟨RJ0, "isLatin1", "()Z"⟩
abbrev cJ0_checkIndex_df160 : ByteArray := prog_31_method_155_code
def yJ0_checkIndex_df160 : MethodName := ⟨RJ0, "checkIndex", "(II)V"⟩
abbrev cJ0_checkBoundsOffCount_cabcc : ByteArray := prog_31_method_157_code
def yJ0_checkBoundsOffCount_cabcc : MethodName := ⟨RJ0, "checkBoundsOffCount", "(III)I"⟩
abbrev cJ0_checkBoundsBeginEnd_23922 : ByteArray := prog_31_method_158_code
def yJ0_checkBoundsBeginEnd_23922 : MethodName := ⟨RJ0, "checkBoundsBeginEnd", "(III)V"⟩
def RJ4 : String := "java/lang/StringBuilder"
def TJ4 : u_T := fun k => match k with
  | 0 => ("java/lang/AbstractStringBuilder", "value", "[B", false)
  | 1 => ("java/lang/AbstractStringBuilder", "coder", "B", false)
  | 2 => ("java/lang/AbstractStringBuilder", "maybeLatin1", "Z", false)
  | _ => ("java/lang/AbstractStringBuilder", "count", "I", false)
def tyJ4 : Nat → FieldType := fun k => match k with
  | 0 => .array .byte
  | 1 => .byte
  | 2 => .boolean
  | _ => .int
abbrev wsJ40 : List Cond := u_ws RJ4 TJ4 4
theorem nmJ4 : ∀ a, a < 4 → ∀ b, b < 4 → a ≠ b → (TJ4 a).2.1 ≠ (TJ4 b).2.1 := by decide +kernel
theorem tyJ4_ok : ∀ k, k < 4 → parseFieldDescriptor (TJ4 k).2.2.1 = some (tyJ4 k) := by decide +kernel
abbrev cJ4_init_da8c8 : ByteArray := prog_32_method_1_code
def yJ4_init_da8c8 : MethodName := ⟨RJ4, "<init>", "()V"⟩
abbrev cJ4_append_15ec4 : ByteArray := prog_32_method_7_code
def yJ4_append_15ec4 : MethodName := ⟨RJ4, "append", "(Ljava/lang/String;)Ljava/lang/StringBuilder;"⟩
abbrev cJ4_append_cf468 : ByteArray := prog_32_method_14_code
def yJ4_append_cf468 : MethodName := ⟨RJ4, "append", "(C)Ljava/lang/StringBuilder;"⟩
abbrev cJ4_append_bf812 : ByteArray := prog_32_method_15_code
def yJ4_append_bf812 : MethodName := ⟨RJ4, "append", "(I)Ljava/lang/StringBuilder;"⟩
abbrev cJ4_toString_0e30d : ByteArray := prog_32_method_42_code
def yJ4_toString_0e30d : MethodName := ⟨RJ4, "toString", "()Ljava/lang/String;"⟩
abbrev cJ4_charAt_5068e : ByteArray := prog_32_method_88_code
def yJ4_charAt_5068e : MethodName := ⟨RJ4, "charAt", "(I)C"⟩
abbrev cJ4_setLength_d00df : ByteArray := prog_32_method_89_code
def yJ4_setLength_d00df : MethodName := ⟨RJ4, "setLength", "(I)V"⟩
abbrev cJ4_length_8abf5 : ByteArray := prog_32_method_93_code
def yJ4_length_8abf5 : MethodName := ⟨RJ4, "length", "()I"⟩
def RJx7c733 : String := "java/lang/StringIndexOutOfBoundsException"
def TJx7c733 : u_T := fun k => match k with
  | 0 => ("java/lang/Throwable", "backtrace", "Ljava/lang/Object;", false)
  | 1 => ("java/lang/Throwable", "detailMessage", "Ljava/lang/String;", false)
  | 2 => ("java/lang/Throwable", "cause", "Ljava/lang/Throwable;", false)
  | 3 => ("java/lang/Throwable", "stackTrace", "[Ljava/lang/StackTraceElement;", false)
  | 4 => ("java/lang/Throwable", "depth", "I", false)
  | _ => ("java/lang/Throwable", "suppressedExceptions", "Ljava/util/List;", false)
def tyJx7c733 : Nat → FieldType := fun k => match k with
  | 0 => .object "java/lang/Object"
  | 1 => .object "java/lang/String"
  | 2 => .object "java/lang/Throwable"
  | 3 => .array (.object "java/lang/StackTraceElement")
  | 4 => .int
  | _ => .object "java/util/List"
abbrev wsJx7c7330 : List Cond := u_ws RJx7c733 TJx7c733 6
theorem nmJx7c733 : ∀ a, a < 6 → ∀ b, b < 6 → a ≠ b → (TJx7c733 a).2.1 ≠ (TJx7c733 b).2.1 := by decide +kernel
theorem tyJx7c733_ok : ∀ k, k < 6 → parseFieldDescriptor (TJx7c733 k).2.2.1 = some (tyJx7c733 k) := by decide +kernel
abbrev cJx7c733_init_d00df : ByteArray := prog_33_method_3_code
def yJx7c733_init_d00df : MethodName := ⟨RJx7c733, "<init>", "(I)V"⟩
def RJ1 : String := "java/lang/StringLatin1"
def TJ1 : u_T := fun k => match k with
  | _ => ("", "", "", false)
def tyJ1 : Nat → FieldType := fun k => match k with
  | _ => .int
abbrev wsJ10 : List Cond := u_ws RJ1 TJ1 0
theorem nmJ1 : ∀ a, a < 0 → ∀ b, b < 0 → a ≠ b → (TJ1 a).2.1 ≠ (TJ1 b).2.1 := by decide +kernel
theorem tyJ1_ok : ∀ k, k < 0 → parseFieldDescriptor (TJ1 k).2.2.1 = some (tyJ1 k) := by decide +kernel
abbrev cJ1_charAt_3b067 : ByteArray := prog_34_method_2_code
def yJ1_charAt_3b067 : MethodName := ⟨RJ1, "charAt", "([BI)C"⟩
abbrev cJ1_canEncode_fc78d : ByteArray := prog_34_method_3_code
def yJ1_canEncode_fc78d : MethodName := ⟨RJ1, "canEncode", "(C)Z"⟩
abbrev cJ1_fillNull_b72d1 : ByteArray := prog_34_method_48_code
def yJ1_fillNull_b72d1 : MethodName := ⟨RJ1, "fillNull", "([BII)V"⟩
abbrev cJ1_inflate_0e8fd : ByteArray := prog_34_method_50_code
def yJ1_inflate_0e8fd : MethodName := ⟨RJ1, "inflate", "([BI[BII)V"⟩
def RJ2 : String := "java/lang/StringUTF16"
def TJ2 : u_T := fun k => match k with
  | _ => ("", "", "", false)
def tyJ2 : Nat → FieldType := fun k => match k with
  | _ => .int
abbrev wsJ20 : List Cond := u_ws RJ2 TJ2 0
theorem nmJ2 : ∀ a, a < 0 → ∀ b, b < 0 → a ≠ b → (TJ2 a).2.1 ≠ (TJ2 b).2.1 := by decide +kernel
theorem tyJ2_ok : ∀ k, k < 0 → parseFieldDescriptor (TJ2 k).2.2.1 = some (tyJ2 k) := by decide +kernel
abbrev cJ2_newBytesFor_77867 : ByteArray := prog_35_method_2_code
def yJ2_newBytesFor_77867 : MethodName := ⟨RJ2, "newBytesFor", "(I)[B"⟩
abbrev cJ2_newBytesLength_0f7a4 : ByteArray := prog_35_method_3_code
def yJ2_newBytesLength_0f7a4 : MethodName := ⟨RJ2, "newBytesLength", "(I)I"⟩
abbrev cJ2_putChar_b72d1 : ByteArray := prog_35_method_4_code
def yJ2_putChar_b72d1 : MethodName := ⟨RJ2, "putChar", "([BII)V"⟩
abbrev cJ2_getChar_3b067 : ByteArray := prog_35_method_5_code
def yJ2_getChar_3b067 : MethodName := ⟨RJ2, "getChar", "([BI)C"⟩
abbrev cJ2_length_9d52b : ByteArray := prog_35_method_6_code
def yJ2_length_9d52b : MethodName := ⟨RJ2, "length", "([B)I"⟩
abbrev cJ2_coderFromArrayLen_85cad : ByteArray := prog_35_method_15_code
def yJ2_coderFromArrayLen_85cad : MethodName := ⟨RJ2, "coderFromArrayLen", "([BI)B"⟩
abbrev cJ2_compress_39247 : ByteArray := prog_35_method_17_code
def yJ2_compress_39247 : MethodName := ⟨RJ2, "compress", "([BII)[B"⟩
abbrev cJ2_compress_5af95 : ByteArray := prog_35_method_22_code
def yJ2_compress_5af95 : MethodName := ⟨RJ2, "compress", "([BI[BII)I"⟩
abbrev cJ2_fillNull_b72d1 : ByteArray := prog_35_method_70_code
def yJ2_fillNull_b72d1 : MethodName := ⟨RJ2, "fillNull", "([BII)V"⟩
abbrev cJ2_putCharSB_b72d1 : ByteArray := prog_35_method_71_code
def yJ2_putCharSB_b72d1 : MethodName := ⟨RJ2, "putCharSB", "([BII)V"⟩
abbrev cJ2_getChars_46870 : ByteArray := prog_35_method_77_code
def yJ2_getChars_46870 : MethodName := ⟨RJ2, "getChars", "(III[B)I"⟩
abbrev cJ2_putCharsAt_cd4e5 : ByteArray := prog_35_method_81_code
def yJ2_putCharsAt_cd4e5 : MethodName := ⟨RJ2, "putCharsAt", "([BICCCC)I"⟩
abbrev cJ2_charAt_3b067 : ByteArray := prog_35_method_83_code
def yJ2_charAt_3b067 : MethodName := ⟨RJ2, "charAt", "([BI)C"⟩
abbrev cJ2_inflate_0e8fd : ByteArray := prog_35_method_86_code
def yJ2_inflate_0e8fd : MethodName := ⟨RJ2, "inflate", "([BI[BII)V"⟩
abbrev cJ2_getChars_ba4f3 : ByteArray := prog_35_method_89_code
def yJ2_getChars_ba4f3 : MethodName := ⟨RJ2, "getChars", "(II[B)I"⟩
abbrev cJ2_checkIndex_2214a : ByteArray := prog_35_method_91_code
def yJ2_checkIndex_2214a : MethodName := ⟨RJ2, "checkIndex", "(I[B)V"⟩
abbrev cJ2_checkBoundsBeginEnd_d044e : ByteArray := prog_35_method_93_code
def yJ2_checkBoundsBeginEnd_d044e : MethodName := ⟨RJ2, "checkBoundsBeginEnd", "(II[B)V"⟩
abbrev cJ2_checkBoundsOffCount_d044e : ByteArray := prog_35_method_94_code
def yJ2_checkBoundsOffCount_d044e : MethodName := ⟨RJ2, "checkBoundsOffCount", "(II[B)V"⟩
def RJ10 : String := "java/lang/System"
def TJ10 : u_T := fun k => match k with
  | _ => ("", "", "", false)
def tyJ10 : Nat → FieldType := fun k => match k with
  | _ => .int
abbrev wsJ100 : List Cond := u_ws RJ10 TJ10 0
theorem nmJ10 : ∀ a, a < 0 → ∀ b, b < 0 → a ≠ b → (TJ10 a).2.1 ≠ (TJ10 b).2.1 := by decide +kernel
theorem tyJ10_ok : ∀ k, k < 0 → parseFieldDescriptor (TJ10 k).2.2.1 = some (tyJ10 k) := by decide +kernel
def RJxfd54e : String := "java/lang/constant/Constable"
def TJxfd54e : u_T := fun k => match k with
  | _ => ("", "", "", false)
def tyJxfd54e : Nat → FieldType := fun k => match k with
  | _ => .int
abbrev wsJxfd54e0 : List Cond := u_ws RJxfd54e TJxfd54e 0
theorem nmJxfd54e : ∀ a, a < 0 → ∀ b, b < 0 → a ≠ b → (TJxfd54e a).2.1 ≠ (TJxfd54e b).2.1 := by decide +kernel
theorem tyJxfd54e_ok : ∀ k, k < 0 → parseFieldDescriptor (TJxfd54e k).2.2.1 = some (tyJxfd54e k) := by decide +kernel
def RJx3cf43 : String := "java/lang/constant/ConstantDesc"
def TJx3cf43 : u_T := fun k => match k with
  | _ => ("", "", "", false)
def tyJx3cf43 : Nat → FieldType := fun k => match k with
  | _ => .int
abbrev wsJx3cf430 : List Cond := u_ws RJx3cf43 TJx3cf43 0
theorem nmJx3cf43 : ∀ a, a < 0 → ∀ b, b < 0 → a ≠ b → (TJx3cf43 a).2.1 ≠ (TJx3cf43 b).2.1 := by decide +kernel
theorem tyJx3cf43_ok : ∀ k, k < 0 → parseFieldDescriptor (TJx3cf43 k).2.2.1 = some (tyJx3cf43 k) := by decide +kernel
def RJ7 : String := "java/util/Arrays"
def TJ7 : u_T := fun k => match k with
  | _ => ("", "", "", false)
def tyJ7 : Nat → FieldType := fun k => match k with
  | _ => .int
abbrev wsJ70 : List Cond := u_ws RJ7 TJ7 0
theorem nmJ7 : ∀ a, a < 0 → ∀ b, b < 0 → a ≠ b → (TJ7 a).2.1 ≠ (TJ7 b).2.1 := by decide +kernel
theorem tyJ7_ok : ∀ k, k < 0 → parseFieldDescriptor (TJ7 k).2.2.1 = some (tyJ7 k) := by decide +kernel
abbrev cJ7_rangeCheck_23922 : ByteArray := prog_41_method_30_code
def yJ7_rangeCheck_23922 : MethodName := ⟨RJ7, "rangeCheck", "(III)V"⟩
abbrev cJ7_fill_eb02e : ByteArray := prog_41_method_110_code
def yJ7_fill_eb02e : MethodName := ⟨RJ7, "fill", "([BIIB)V"⟩
abbrev cJ7_copyOf_9075b : ByteArray := prog_41_method_121_code
def yJ7_copyOf_9075b : MethodName := ⟨RJ7, "copyOf", "([BI)[B"⟩
abbrev cJ7_checkLength_df160 : ByteArray := prog_41_method_131_code
def yJ7_checkLength_df160 : MethodName := ⟨RJ7, "checkLength", "(II)V"⟩
abbrev cJ7_copyOfRange_39247 : ByteArray := prog_41_method_132_code
def yJ7_copyOfRange_39247 : MethodName := ⟨RJ7, "copyOfRange", "([BII)[B"⟩
abbrev cJ7_copyOfRangeByte_39247 : ByteArray := prog_41_method_133_code
def yJ7_copyOfRangeByte_39247 : MethodName := ⟨RJ7, "copyOfRangeByte", "([BII)[B"⟩
def RJ8 : String := "jdk/internal/util/ArraysSupport"
def TJ8 : u_T := fun k => match k with
  | _ => ("", "", "", false)
def tyJ8 : Nat → FieldType := fun k => match k with
  | _ => .int
abbrev wsJ80 : List Cond := u_ws RJ8 TJ8 0
theorem nmJ8 : ∀ a, a < 0 → ∀ b, b < 0 → a ≠ b → (TJ8 a).2.1 ≠ (TJ8 b).2.1 := by decide +kernel
theorem tyJ8_ok : ∀ k, k < 0 → parseFieldDescriptor (TJ8 k).2.2.1 = some (tyJ8 k) := by decide +kernel
abbrev cJ8_newLength_cabcc : ByteArray := prog_43_method_27_code
def yJ8_newLength_cabcc : MethodName := ⟨RJ8, "newLength", "(III)I"⟩
abbrev cJ8_hugeLength_7cf53 : ByteArray := prog_43_method_28_code
def yJ8_hugeLength_7cf53 : MethodName := ⟨RJ8, "hugeLength", "(II)I"⟩
def RJ3 : String := "jdk/internal/util/Preconditions"
def TJ3 : u_T := fun k => match k with
  | _ => ("", "", "", false)
def tyJ3 : Nat → FieldType := fun k => match k with
  | _ => .int
abbrev wsJ30 : List Cond := u_ws RJ3 TJ3 0
theorem nmJ3 : ∀ a, a < 0 → ∀ b, b < 0 → a ≠ b → (TJ3 a).2.1 ≠ (TJ3 b).2.1 := by decide +kernel
theorem tyJ3_ok : ∀ k, k < 0 → parseFieldDescriptor (TJ3 k).2.2.1 = some (tyJ3 k) := by decide +kernel
abbrev cJ3_checkIndex_8e157 : ByteArray := prog_44_method_11_code
def yJ3_checkIndex_8e157 : MethodName := ⟨RJ3, "checkIndex", "(IILjava/util/function/BiFunction;)I"⟩
abbrev cJ3_checkFromToIndex_8c36e : ByteArray := prog_44_method_12_code
def yJ3_checkFromToIndex_8c36e : MethodName := ⟨RJ3, "checkFromToIndex", "(IIILjava/util/function/BiFunction;)I"⟩
abbrev cJ3_checkFromIndexSize_8c36e : ByteArray := prog_44_method_13_code
def yJ3_checkFromIndexSize_8c36e : MethodName := ⟨RJ3, "checkFromIndexSize", "(IIILjava/util/function/BiFunction;)I"⟩
def RL : String := "ChairMigrationLaw"
abbrev cL_at : ByteArray := method_2_code
def yL_at : MethodName := ⟨RL, "at", "([II)I"⟩
abbrev cL_some : ByteArray := method_3_code
def yL_some : MethodName := ⟨RL, "some", "(II)I"⟩
abbrev cL_addPath : ByteArray := method_4_code
def yL_addPath : MethodName := ⟨RL, "addPath", "(LChairMigration;II)I"⟩
abbrev cL_removePath : ByteArray := method_5_code
def yL_removePath : MethodName := ⟨RL, "removePath", "(LChairMigration;II)I"⟩
abbrev cL_isPath : ByteArray := method_6_code
def yL_isPath : MethodName := ⟨RL, "isPath", "(LChairMigration;II)I"⟩
abbrev cL_distance : ByteArray := method_7_code
def yL_distance : MethodName := ⟨RL, "distance", "(LChairMigration;II)I"⟩
abbrev cL_distanceAgain : ByteArray := method_8_code
def yL_distanceAgain : MethodName := ⟨RL, "distanceAgain", "(LChairMigration;II)I"⟩
abbrev cL_routeAt : ByteArray := method_9_code
def yL_routeAt : MethodName := ⟨RL, "routeAt", "(LChairMigration;III)I"⟩
abbrev cL_reachable : ByteArray := method_10_code
def yL_reachable : MethodName := ⟨RL, "reachable", "(LChairMigration;I)I"⟩
abbrev cL_setShade : ByteArray := method_11_code
def yL_setShade : MethodName := ⟨RL, "setShade", "(LChairMigration;II)I"⟩
abbrev cL_shade : ByteArray := method_12_code
def yL_shade : MethodName := ⟨RL, "shade", "(LChairMigration;I)I"⟩
abbrev cL_addChair : ByteArray := method_13_code
def yL_addChair : MethodName := ⟨RL, "addChair", "(LChairMigration;II)I"⟩
abbrev cL_scrap : ByteArray := method_14_code
def yL_scrap : MethodName := ⟨RL, "scrap", "(LChairMigration;I)I"⟩
abbrev cL_fold : ByteArray := method_15_code
def yL_fold : MethodName := ⟨RL, "fold", "(LChairMigration;I)I"⟩
abbrev cL_unfold : ByteArray := method_16_code
def yL_unfold : MethodName := ⟨RL, "unfold", "(LChairMigration;I)I"⟩
abbrev cL_move : ByteArray := method_17_code
def yL_move : MethodName := ⟨RL, "move", "(LChairMigration;II)I"⟩
abbrev cL_migrate : ByteArray := method_18_code
def yL_migrate : MethodName := ⟨RL, "migrate", "(LChairMigration;II)I"⟩
abbrev cL_oilChair : ByteArray := method_19_code
def yL_oilChair : MethodName := ⟨RL, "oilChair", "(LChairMigration;I)I"⟩
abbrev cL_addOil : ByteArray := method_20_code
def yL_addOil : MethodName := ⟨RL, "addOil", "(LChairMigration;I)I"⟩
abbrev cL_lawnOf : ByteArray := method_21_code
def yL_lawnOf : MethodName := ⟨RL, "lawnOf", "(LChairMigration;I)I"⟩
abbrev cL_rust : ByteArray := method_22_code
def yL_rust : MethodName := ⟨RL, "rust", "(LChairMigration;I)I"⟩
abbrev cL_isFolded : ByteArray := method_23_code
def yL_isFolded : MethodName := ⟨RL, "isFolded", "(LChairMigration;I)I"⟩
abbrev cL_age : ByteArray := method_24_code
def yL_age : MethodName := ⟨RL, "age", "(LChairMigration;I)I"⟩
abbrev cL_position : ByteArray := method_25_code
def yL_position : MethodName := ⟨RL, "position", "(LChairMigration;I)I"⟩
abbrev cL_herdSize : ByteArray := method_26_code
def yL_herdSize : MethodName := ⟨RL, "herdSize", "(LChairMigration;I)I"⟩
abbrev cL_herdSizeAgain : ByteArray := method_27_code
def yL_herdSizeAgain : MethodName := ⟨RL, "herdSizeAgain", "(LChairMigration;I)I"⟩
abbrev cL_chairAt : ByteArray := method_28_code
def yL_chairAt : MethodName := ⟨RL, "chairAt", "(LChairMigration;II)I"⟩
abbrev cL_elder : ByteArray := method_29_code
def yL_elder : MethodName := ⟨RL, "elder", "(LChairMigration;I)I"⟩
abbrev cL_hungry : ByteArray := method_30_code
def yL_hungry : MethodName := ⟨RL, "hungry", "(LChairMigration;I)I"⟩
abbrev cL_bestNeighbour : ByteArray := method_31_code
def yL_bestNeighbour : MethodName := ⟨RL, "bestNeighbour", "(LChairMigration;I)I"⟩
abbrev cL_passDays : ByteArray := method_32_code
def yL_passDays : MethodName := ⟨RL, "passDays", "(LChairMigration;I)I"⟩
abbrev cL_daysUntil : ByteArray := method_33_code
def yL_daysUntil : MethodName := ⟨RL, "daysUntil", "(LChairMigration;I)I"⟩
abbrev cL_wouldCollapse : ByteArray := method_34_code
def yL_wouldCollapse : MethodName := ⟨RL, "wouldCollapse", "(LChairMigration;I)I"⟩
abbrev cL_collapseDay : ByteArray := method_35_code
def yL_collapseDay : MethodName := ⟨RL, "collapseDay", "(LChairMigration;I)I"⟩
abbrev cL_byRust : ByteArray := method_36_code
def yL_byRust : MethodName := ⟨RL, "byRust", "(LChairMigration;I)I"⟩
abbrev cL_byShade : ByteArray := method_37_code
def yL_byShade : MethodName := ⟨RL, "byShade", "(LChairMigration;I)I"⟩
abbrev cL_meanRust : ByteArray := method_38_code
def yL_meanRust : MethodName := ⟨RL, "meanRust", "(LChairMigration;)D"⟩
abbrev cL_foldedShare : ByteArray := method_39_code
def yL_foldedShare : MethodName := ⟨RL, "foldedShare", "(LChairMigration;)F"⟩
abbrev cL_writeLawn : ByteArray := method_40_code
def yL_writeLawn : MethodName := ⟨RL, "writeLawn", "(LChairMigration;I)I"⟩
abbrev cL_outputAt : ByteArray := method_41_code
def yL_outputAt : MethodName := ⟨RL, "outputAt", "(LChairMigration;I)I"⟩
abbrev cL_append : ByteArray := method_42_code
def yL_append : MethodName := ⟨RL, "append", "(LChairMigration;C)I"⟩
abbrev cL_execute : ByteArray := method_43_code
def yL_execute : MethodName := ⟨RL, "execute", "(LChairMigration;)I"⟩
abbrev cL_syntaxError : ByteArray := method_44_code
def yL_syntaxError : MethodName := ⟨RL, "syntaxError", "(LChairMigration;)I"⟩
abbrev cL_reason : ByteArray := method_45_code
def yL_reason : MethodName := ⟨RL, "reason", "(LChairMigration;)I"⟩
abbrev cL_detail : ByteArray := method_46_code
def yL_detail : MethodName := ⟨RL, "detail", "(LChairMigration;)I"⟩
abbrev cL_cause : ByteArray := method_47_code
def yL_cause : MethodName := ⟨RL, "cause", "(LChairMigration;)I"⟩
abbrev cL_undo : ByteArray := method_48_code
def yL_undo : MethodName := ⟨RL, "undo", "(LChairMigration;)I"⟩
abbrev cL_restore : ByteArray := method_49_code
def yL_restore : MethodName := ⟨RL, "restore", "(LChairMigration;)I"⟩
abbrev cL_runs : ByteArray := method_50_code
def yL_runs : MethodName := ⟨RL, "runs", "(LChairMigration;Ljava/lang/String;)I"⟩
abbrev cL_is : ByteArray := method_51_code
def yL_is : MethodName := ⟨RL, "is", "(LChairMigration;II)Z"⟩
abbrev cL_makes : ByteArray := method_53_code
def yL_makes : MethodName := ⟨RL, "makes", "(LChairMigration;[I)Z"⟩
abbrev cL_asks : ByteArray := method_54_code
def yL_asks : MethodName := ⟨RL, "asks", "(LChairMigration;)J"⟩
abbrev cL_changes : ByteArray := method_55_code
def yL_changes : MethodName := ⟨RL, "changes", "(LChairMigration;I)Z"⟩
abbrev cL_thrown : ByteArray := method_56_code
def yL_thrown : MethodName := ⟨RL, "thrown", "(LChairMigration;)Z"⟩
abbrev cL_rejects : ByteArray := method_57_code
def yL_rejects : MethodName := ⟨RL, "rejects", "(LChairMigration;)Z"⟩
abbrev cL_law : ByteArray := code
def yL_law : MethodName := ⟨RL, "law", "([I)Z"⟩
abbrev vwCl : List vw_C := [(RJ0, TJ0, 4), (RJ4, TJ4, 4), (RJx00060, TJx00060, 6), (RJx7c733, TJx7c733, 6), (RX0, TX0, 5), (RX1, TX1, 7), (RX3, TX3, 12), (RX4, TX4, 2), (RX5, TX5, 1), (RX6, TX6, 3), (RX7, TX7, 1), (RX8, TX8, 2), (RX9, TX9, 14)]
