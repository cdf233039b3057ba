/-! Strings made by the law -/
section ZST7
variable {X : zX} {l : Launch} {E : zG} {kc ks : Nat} {h : zH} {pc : Nat} {lo : List (Nat × Value)} {st rest : List Value} {cc bytes : ByteArray} {own : String} {nL : Nat} {rm rm' : Room} {mc ms n index maxL : Nat} {x y : MethodName} {ret : Option FieldType} {As : List Value} {Qr : Option Value → zH → Prop} {Qx : String → zH → Prop}
/-- ldc_w of a String -/
theorem zV.ldcSw {q : Nat} {tx : String} (C : zC X cc own nL) (G : zGX X l E rm) (d : decode cc pc = .ok (.ldc_w index, 3)) (hw : zSq own index tx E q) (kk : zV X kc ks h (pc + 3) lo (.retAddr q :: st)) : zV X kc ks h pc lo st := by
  obtain ⟨p, l', e, R, s, m, args, below, meth, c, E', ad0, n0, Z⟩ := X
  obtain ⟨hx, hb, hml, hown, hlk, hst, hzs, hwm, hsz, hzh⟩ := id C
  intro ad H rl ls e1 e2 w S ol os hl
  obtain ⟨rfl, rfl, rfl⟩ := id G
  have hZ := vk_R.warm hwm hw
  intro T hT Y
  obtain ⟨t, a1, b1⟩ := kk ad H rl ls e1 e2 w S ol ⟨trivial, os⟩ hl T hT Y
  exact ⟨t, Y.ldcStringW hx hown (text := tx) (a := q) hZ.1 hZ.2 (g := F0 m pc ls (st.map (tr ad))) rfl (by rw [hb]; exact d) t a1, b1⟩
/-- System.arraycopy out of an array that is there from the start, from its first byte on -/
theorem zV.copyT {t b N n dp : Nat} {f : Nat → Int32} {z u : Int32} (C : zC X cc own nL) (G : zGX X l E rm) (d : decode cc pc = .ok (.invokestatic index, 3)) (hw : zWd (.methodLink own index arraycopyName) ∧ zWd (.native arraycopyName) ∧ zWd (.static arraycopyName) ∧ zWd (.initialized "java/lang/System")) (hT : va_T .byte t N (fun j => .int (f j)) (zA E) E.2.2.1 E.2.2.1.heap) (hb9 : hK h b = 101) (hx9 : z = nI n) (hy9 : u = nI dp) (hn : n < 2 ^ 31) (hd : dp < 2 ^ 31) (h4 : n ≤ N) (h5 : dp + n ≤ hL h b) (hfi : ∀ i, fits .byte (.int (f i)) = true) (hRo : Nat.ble 1 rm.frames && Nat.ble ((rest.map fun v => v.category).sum + (nativeFrameWords "java/lang/System" "arraycopy" 5 + 11)) rm.locals) (kk : zV X kc ks (sRow h b (va_cpy f (aI h b) 0 dp n)) (pc + 3) lo rest) : zV X kc ks h pc lo (.int z :: .int u :: .ref b :: .int 0 :: .retAddr t :: rest) := by
  obtain ⟨p, l', e, R, s, m, args, below, meth, c, E', ad0, n0, Z⟩ := X
  obtain ⟨hx, hb, hml, hown, hlk, hst, hzs, hwm, hsz, hzh⟩ := id C
  obtain ⟨rfl, rfl, rfl⟩ := id G
  intro ad H rl ls e1 e2 w S ol os hl
  rw [Bool.and_eq_true] at hRo
  have hb0 : (zcells E' ad h)[b]? = some (ad b, .inl (E'.2.1 101, (hL h b, .inl (aI h b)))) := by
    rw [zcells_arr w.2.2.2.2.2 hb9 (by decide)]
    unfold zarr
    rw [hb9]
    rfl
  have hc : z.toNatClampNeg = n := by rw [hx9, nI_clamp hn]
  have hc2 : u.toNatClampNeg = dp := by rw [hy9, nI_clamp hd]
  refine vk_copyt hx hb (hml.trans (hl.1.trans hml).symm) hown (zwd hzs hwm hw.1) (zwd hzs hwm hw.2.1) (zwd hzs hwm hw.2.2.1) (zwd hzs hwm hw.2.2.2) (zKs hzs hwm) w.2.2.2.1 (zDs w.2.2.2.2.1) S ((va_T.moved hwm.alike hT).kept (fun a ha _ => hzh a ha)) b 0 hb0 (zTys_at E' 0 (by decide)) (by decide) (by rw [hy9]; exact nI_pos hd) (by rw [hx9]; exact nI_pos hn) (by rw [hc]; show 0 + n ≤ _; omega) (by rw [hc, hc2]; exact h5) (fun i _ => hfi _) (Nat.le_of_ble_eq_true hRo.1) (by rw [cats_tr]; exact Nat.le_of_ble_eq_true hRo.2) d (fun H1 rl1 hP hD hS => ?_)
  rw [hc, hc2, show (0 : Int32).toNatClampNeg = 0 by decide, sRow_cells hb9 (by decide) (by decide)] at hP
  exact kk ad H1 rl1 ls e1 e2 (zW_of hsz hzh w hP hS rfl w.2.2.2.2.2) hS ol os.2.2.2.2.2 hl
/-- invokevirtual of a superclass's method that the receiver's class has its own for -/
theorem zV.callU2 {b ci N : Nat} {T : u_T} {Cn : String} {bx : ByteArray} {mx : Nat} {rx : Option FieldType} (C : zC X cc own nL) (G : zGX X l E rm) (d : decode cc pc = .ok (.invokevirtual index, 3)) (hM : zMet l E y bytes maxL ret rm' mc ms (.ref b :: As) h Qr Qx) (hs : st = As.reverse ++ .ref b :: rest)
    (hw : zWd (.code y bytes maxL ret) ∧ zWd (.methodLink own index x) ∧ zWd (.sameMethod x.cls x.cls x.name x.desc) ∧ (zWd (.instanceMethod x) ∧ zWd (.code x bx mx rx)) ∧ zWd (.selects Cn x y) ∧ zWd (.initialized y.cls) ∧ zWd (.instanceMethod y)) (hx1 : x.cls ≠ "java/lang/invoke/MethodHandle" ∧ x.cls ≠ "java/lang/invoke/VarHandle") (hd : zNm y n) (hdx : zNm x n) (hn : As.length = n) (hR : zRm rm rm' maxL mc ms kc ks = true) (hst : Nat.ble (rest.map fun v => v.category).sum 8 = true)
    (hk : hK h b = ci + 1) (hci : vwCl[ci]? = some (Cn, T, N) ∧ ci < 99)
    (kk : ∀ (r : Option Value) (h' : zH), Qr r h' → hN h ≤ hN h' → zV X (kc + mc) (ks + ms) h' (pc + 3) lo (r.toList ++ rest))
    (kx : ∀ (Ex : String) (h' : zH), Qx Ex h' → hN h ≤ hN h' → zVX X (kc + mc) (ks + ms) h' pc lo rest Ex) : zV X kc ks h pc lo st := by
  obtain ⟨p, l', e, R, s, m, args, below, meth, c, E', ad0, n0, Z⟩ := X
  obtain ⟨hx, hb, hml, hown, hlk, hst2, hzs, hwm, hsz, hzh⟩ := id C
  obtain ⟨rfl, rfl, rfl⟩ := id G
  subst hs
  intro ad H rl ls e1 e2 w S ol os hl
  obtain ⟨r1, r2, r3⟩ := zRm_ok hR
  obtain ⟨o1, o2⟩ := zOks_split os
  refine z_after (a := (Value.ref (ad b) :: As.map (tr ad)).toArray) hwm hsz hzh e1 e2 S ol o2 hl ?_ kk kx
  exact vx_runU (x := x) (owner := x.cls) (As := As.map (tr ad)) (C := Cn) (Ts := []) ⟨hx, hb, hml, hown, fun w hw => by cases hw⟩ (hM ad) ⟨⟨r2.1, r2.2, r1.1, r1.2, zpay hzs hwm hw.1, List.mem_cons_self⟩, zwd hzs hwm hw.1, zwd hzs hwm hw.2.2.2.2.2.1, hx1, zParse hdx, zwd hzs hwm hw.2.1, zwd hzs hwm hw.2.2.1, va_Decl.of (args := args) (zwd hzs hwm hw.2.2.2.1.1) (zwd hzs hwm hw.2.2.2.1.2), zwd hzs hwm hw.2.2.2.2.1, zwd hzs hwm hw.2.2.2.2.2.2⟩
    ⟨zblind, zrecv (zKs hzs hwm) w hk hci.2 hci.1, fun U hU hW => ⟨rfl, by rw [hU]; exact zW_vm (State.WarmedH.trans hwm hW) w, o1⟩⟩ rfl (by rw [List.length_map]; exact hn) (hl.1.trans hml) (map_rev ad As rest b) (zroom hst) d r3
theorem zV.pFI {ci k N a : Nat} {Cn : String} {T : u_T} {ty0 : Nat → FieldType} {z : Int32} (f : Nat) (C : zC X cc own nL) (d : decode cc pc = .ok (.putfield index, 3)) (K : zCl ci Cn T N ty0) (hk : k < N) (hf : (zFl ci)[k]? = some false) (hw : zWd (.fieldLink own index (T k).1 (T k).2.1 (T k).2.2.1)) (hfin : (T k).2.2.2 = true) (hin2 : zIni X) (hdecl : (T k).1 = own) (hK : hK h a = ci + 1) (hf9 : ci * 32 + k = f) (hx9 : narrow (ty0 k) (.int z) = .int z ∧ fits (ty0 k) (.int z) = true) (kk : zV X kc ks (sI h f a z) (pc + 3) lo st) : zV X kc ks h pc lo (.int z :: .ref a :: st) := by
  subst hf9
  obtain ⟨p, l, e, R, s, m, args, below, meth, c, E, ad0, n0, Z⟩ := X
  obtain ⟨hx, hb, hml, hown, hlk, hst, hzs, hwm, hsz, hzh⟩ := id C
  intro ad H rl ls e1 e2 w S ol os hl
  refine va_putF (v := .int z) hx hb (Ts := u_ws Cn T N) (fun v hv => zwd hzs hwm (K.2.1 v hv)) (fun _ q => q) ty0 K.2.2.1 K.2.2.2.1 hown (zKs hzs hwm) w.2.2.2.1 (zDs w.2.2.2.2.1) S a (zcells_obj w.2.2.2.2.2 hK K.2.2.2.2.2) K.1 k hk (zwd hzs hwm hw) (fun _ q => q) hfin hin2 hdecl (K.2.2.1 k hk) hx9.1 hx9.2 (by unfold zobj; rw [List.length_map, List.length_range, K.2.2.2.2.1]; exact hk) d (fun H1 rl1 hP hD hS => ?_)
  rw [zsI_cells hK K.2.2.2.2.2 hf] at hP
  exact kk ad H1 rl1 ls e1 e2 (zW_of hsz hzh w hP hS rfl w.2.2.2.2.2) hS ol os.2.2 hl
end ZST7
/-- the text in its bytes' cell v, which has room for more -/
def zOw (h : zH) (a : Nat) (o : List Nat) : Prop := (∀ lo, zOv h a (a + 1) lo o) ∧ hL h (a + 1) = 16
/-- nothing but the text's two cells is other -/
def zOg (h h' : zH) (a : Nat) : Prop := hN h' = hN h ∧ ∀ c, c ≠ a → c ≠ a + 1 → zEq h h' c
theorem zOg_of {h h' : zH} {a : Nat} (e : hN h' = hN h) (f : ∀ lo, a + 2 ≤ lo → zOf h h' a lo) : zOg h h' a := ⟨e, fun c z1 z2 => (f (max (a + 2) (c + 1)) (by omega)).2 c (by omega) (by omega)⟩
theorem zOg.refl (h : zH) (a : Nat) : zOg h h a := ⟨rfl, fun c _ _ => zEq.refl h c⟩
theorem zOg.trans {h h1 h2 : zH} {a : Nat} (p : zOg h h1 a) (q : zOg h1 h2 a) : zOg h h2 a := ⟨q.1.trans p.1, fun c z1 z2 => (p.2 c z1 z2).trans (q.2 c z1 z2)⟩
theorem zOw_dig {h : zH} {a n : Nat} {o : List Nat} (hu : zOw h a o) (hn : n < 100000000) (h3 : o.length + (dcs n).length ≤ 16) : zOw (sI (gcH 3 h (a + 1) (o.length + (dcs n).length) n) 35 a (nI (o.length + (dcs n).length))) a (o ++ dcs n) ∧ zOg h (sI (gcH 3 h (a + 1) (o.length + (dcs n).length) n) 35 a (nI (o.length + (dcs n).length))) a := by
  have k := fun lo h2 => zOv_dig (lo := lo) (hu.1 lo) h2 (show n < 100 ^ 4 by omega) (Nat.le_trans h3 (Nat.le_of_eq hu.2.symm))
  have f := gcH_f (f := 3) (p := o.length + (dcs n).length) (n := n) (zFq.refl h (a + 1) (a + 1 + 1))
  refine ⟨⟨fun lo => ?_, (congrFun f.2.2.1 (a + 1)).trans hu.2⟩, zOg_of f.1 (fun lo z => (k lo z).2)⟩
  obtain ⟨q1, q2, q3, q4, q5, q6⟩ := (k (a + 2) (Nat.le_refl _)).1
  exact ⟨q1, q2, q3, q4, Or.inl rfl, q6⟩
def putH (h : zH) (a n : Nat) (bs : List Nat) : zH := sRow h (a + 1) (va_cpy (fun j => nI (bs.getD j 0)) (aI h (a + 1)) 0 n bs.length)
theorem zOw_put {h : zH} {a : Nat} {o bs : List Nat} (hu : zOw h a o) (h3 : o.length + bs.length ≤ 16) (hb : ∀ (i c : Nat), bs[i]? = some c → c < 128) : zOw (sI (putH h a o.length bs) 35 a (nI (o.length + bs.length))) a (o ++ bs) ∧ zOg h (sI (putH h a o.length bs) 35 a (nI (o.length + bs.length))) a := by
  have e0 : ∀ {c : Nat}, c ≠ a → c ≠ a + 1 → zEq h (sI (putH h a o.length bs) 35 a (nI (o.length + bs.length))) c := fun z1 z2 => (zEq_sRow z2).trans (zEq_sI z1)
  refine ⟨⟨fun lo => ?_, hu.2⟩, rfl, fun c z1 z2 => e0 z1 z2⟩
  obtain ⟨q1, q2, q3, q4, q5, q6, q7, q8, q9, q10, q11⟩ := hu.1 lo
  have ea : aI (sI (putH h a o.length bs) 35 a (nI (o.length + bs.length))) (a + 1) = va_cpy (fun j => nI (bs.getD j 0)) (aI h (a + 1)) 0 o.length bs.length := aI_sRow
  refine ⟨q1, (hI_sI_f (by decide)).trans q2, hI_sI.trans (congrArg nI (by rw [List.length_append])), q4, Or.inl rfl, q6, q7, ?_, q9, ?_, ?_⟩
  · rw [List.length_append]; exact Nat.le_trans h3 (Nat.le_of_eq hu.2.symm)
  · intro i d hd
    rw [ea]
    by_cases e : i < o.length
    · rw [List.getElem?_append_left e] at hd
      exact ⟨(if_neg (by omega)).trans (q10 i d hd).1, (q10 i d hd).2⟩
    · rw [List.getElem?_append_right (by omega)] at hd
      have h9 := (List.getElem?_eq_some_iff.mp hd).1
      refine ⟨(if_pos ⟨by omega, by omega⟩).trans ?_, hb _ _ hd⟩
      show nI (bs.getD (0 + (i - o.length)) 0) = nI d
      rw [Nat.zero_add, List.getD_eq_getElem?_getD, hd]; rfl
  · rw [ea]
    refine sb_fitC (fun i => ?_) q11
    show fits .byte (.int (nI (bs.getD i 0))) = true
    rw [List.getD_eq_getElem?_getD]
    rcases e : bs[i]? with _ | c
    · exact bb_f 0 (by decide)
    · exact bb_f c (hb i c e)
theorem pr_J5_putS : Cond.privateMethod yJ5_putStringAt_47b60 ∈ lw_tbl := pm_6 _ (List.mem_of_getElem? (i := 43) (by decide +kernel))
theorem pr_J5_infl : Cond.privateMethod yJ5_inflateIfNeededFor_a7421 ∈ lw_tbl := pm_6 _ (List.mem_of_getElem? (i := 47) (by decide +kernel))
theorem fit_bs {bs : List Nat} (hb : ∀ (i c : Nat), bs[i]? = some c → c < 128) : ∀ i, fits .byte (.int (nI (bs.getD i 0))) = true := fun i => by
  rw [List.getD_eq_getElem?_getD]
  rcases e : bs[i]? with _ | c
  · exact bb_f 0 (by decide)
  · exact bb_f c (hb i c e)
set_option maxHeartbeats 4000000 in
set_option maxRecDepth 100000 in
theorem s_TbensN {l : Launch} {E : zG} (hzs : zS E) (hst : l.stackTraces = false) (h : zH) (a : Nat) (o : List Nat) (hu : zOw h a o) (q : Nat) (hq : q ≤ 16) : zMet l E yJ5_ensureCapacityInternal_d00df cJ5_ensureCapacityInternal_d00df 3 none ({ frames := 0, cells := 0, slots := 0, locals := 0 } : Room) 0 0 [.ref a, .int (nI q)] h (fun r h' => r = none ∧ h' = h) (fun _ _ => False) := by
  refine zM_start hzs hst (by decide) (Nat.le_of_ble_eq_true rfl) (fun X C G F I => ?_)
  show zV X 0 0 _ 0 [(0, _), (1, _)] []
  have h16 := hu.2
  refine zV.aload_n C dJ5_ensureCapacityInternal_d00df_0 rfl rfl ?_
  refine zV.gR 32 (k := 0) C dJ5_ensureCapacityInternal_d00df_1 zcl_J4 (by decide) rfl lk_J5_15 (hu.1 0).1 rfl (hu.1 0).2.2.2.1 ?_
  refine zV.alen (t0 := 0) C dJ5_ensureCapacityInternal_d00df_4 (hu.1 0).2.2.2.2.2.2.1 (by decide) ?_
  refine zV.aload_n C dJ5_ensureCapacityInternal_d00df_5 rfl rfl ?_
  refine zV.gIv 33 (k := 1) C dJ5_ensureCapacityInternal_d00df_6 zcl_J4 (by decide) rfl lk_J5_22 (hu.1 0).1 rfl ((hu.1 0).2.1) ?_
  refine zV.ishr C dJ5_ensureCapacityInternal_d00df_9 ?_
  rw [sb_shr0]
  refine zV.istore_n (lo' := [(0, _), (1, _), (2, _)]) C dJ5_ensureCapacityInternal_d00df_10 (by decide) rfl rfl rfl ?_
  refine zV.iload_n C dJ5_ensureCapacityInternal_d00df_11 rfl ?_
  refine zV.iload_n C dJ5_ensureCapacityInternal_d00df_12 rfl ?_
  refine zV.isub C dJ5_ensureCapacityInternal_d00df_13 ?_
  refine zV.if_le (tgt := 38) C dJ5_ensureCapacityInternal_d00df_14 (by decide) (fun q14 => ?_) (fun q14 => ?_)
  · refine zV.vret C F dJ5_ensureCapacityInternal_d00df_38 rfl ?_
    exact ⟨rfl, rfl⟩
  · exact absurd ((sub_le0 (by omega) (by omega)).mpr (by rw [hu.2]; exact hq)) q14
set_option maxHeartbeats 4000000 in
set_option maxRecDepth 100000 in
theorem s_TappI5 {l : Launch} {E : zG} (hzs : zS E) (hst : l.stackTraces = false) (h : zH) (a : Nat) (o : List Nat) (hu : zOw h a o) (n : Nat) (hn : n < 100000000) (hl : o.length + (dcs n).length ≤ 16) : zMet l E yJ5_append_c97b9 cJ5_append_c97b9 4 (some (.object "java/lang/AbstractStringBuilder")) ({ frames := 1, cells := 0, slots := 0, locals := 26 } : Room) 0 0 [.ref a, .int (nI n)] h (fun r h' => r = some (.ref a) ∧ zOw h' a (o ++ dcs n) ∧ zOg h h' a) (fun _ _ => False) := by
  refine zM_start hzs hst (by decide) (Nat.le_of_ble_eq_true rfl) (fun X C G F I => ?_)
  show zV X 0 0 _ 0 [(0, _), (1, _)] []
  refine zV.aload_n C dJ5_append_c97b9_0 rfl rfl ?_
  refine zV.gIv 35 (k := 3) C dJ5_append_c97b9_1 zcl_J4 (by decide) rfl lk_J5_79 (hu.1 0).1 rfl ((hu.1 0).2.2.1) ?_
  refine zV.istore_n (lo' := [(0, _), (1, _), (2, _)]) C dJ5_append_c97b9_4 (by decide) rfl rfl rfl ?_
  refine zV.iload_n C dJ5_append_c97b9_5 rfl ?_
  refine zV.iload_n C dJ5_append_c97b9_6 rfl ?_
  refine zV.callS (n := 1) C G dJ5_append_c97b9_7 (s_stringSize hzs hst h n hn) rfl ⟨cd_J6_stringSize_0f7a4, lk_J5_245, st_J6_stringSize_0f7a4, in_J6⟩ ⟨⟨by decide, by decide⟩, by decide⟩ rfl rfl rfl (zaf ?_) (zno)
  refine zV.iadd C dJ5_append_c97b9_10 ?_
  rw [nI_add]
  refine zV.istore_n (lo' := [(0, _), (1, _), (2, _), (3, _)]) C dJ5_append_c97b9_11 (by decide) rfl rfl rfl ?_
  refine zV.aload_n C dJ5_append_c97b9_12 rfl rfl ?_
  refine zV.iload_n C dJ5_append_c97b9_13 rfl ?_
  refine zV.callP (n := 1) C G dJ5_append_c97b9_14 (s_TbensN hzs hst h a o hu (o.length + (dcs n).length) hl) rfl ⟨cd_J5_ensureCapacityInternal_d00df, lk_J5_100, im_J5_ensureCapacityInternal_d00df, pr_J5_ensure, in_J5⟩ se_J4_J5_isLatin1_aae02 rfl ⟨⟨by decide, by decide⟩, by decide⟩ rfl rfl rfl (hu.1 0).1 ⟨rfl, by decide⟩ (zafv ?_) (zno)
  refine zV.aload_n C dJ5_append_c97b9_17 rfl rfl ?_
  refine zV.callU (n := 0) C G dJ5_append_c97b9_18 (s_BisLatin1 hzs hst h a (hu.1 0).1 (hu.1 0).2.1) rfl ⟨cd_J5_isLatin1_aae02, lk_J5_83, sm_J5_J5_J5_isLatin1_aae02, im_J5_isLatin1_aae02, se_J4_J5_isLatin1_aae02, in_J5⟩ ⟨⟨by decide, by decide⟩, by decide⟩ rfl rfl rfl (hu.1 0).1 ⟨rfl, by decide⟩ (zaf ?_) (zno)
  refine zV.if_eq (tgt := 37) C dJ5_append_c97b9_21 (by decide) (fun q21 => ?_) (fun q21 => ?_)
  · exact absurd q21 (by decide)
  · refine zV.iload_n C dJ5_append_c97b9_24 rfl ?_
    refine zV.iload_n C dJ5_append_c97b9_25 rfl ?_
    refine zV.aload_n C dJ5_append_c97b9_26 rfl rfl ?_
    refine zV.gR 32 (k := 0) C dJ5_append_c97b9_27 zcl_J4 (by decide) rfl lk_J5_15 (hu.1 0).1 rfl (hu.1 0).2.2.2.1 ?_
    refine zV.callS (n := 3) C G dJ5_append_c97b9_30 (s_getChars hzs hst h (a + 1) n (o.length + (dcs n).length) hn (by omega) (by rw [hu.2]; exact hl) (by rw [hu.2]; decide) (hu.1 0).2.2.2.2.2.2.1) rfl ⟨cd_J6_getChars_ba4f3, lk_J5_248, st_J6_getChars_ba4f3, in_J6⟩ ⟨⟨by decide, by decide⟩, by decide⟩ rfl rfl rfl (zaf ?_) (zno)
    refine zV.pop C dJ5_append_c97b9_33 rfl ?_
    refine zV.goto (tgt := 48) C dJ5_append_c97b9_34 (by decide) ?_
    refine zV.aload_n C dJ5_append_c97b9_48 rfl rfl ?_
    refine zV.iload_n C dJ5_append_c97b9_49 rfl ?_
    refine zV.pI 35 (k := 3) C dJ5_append_c97b9_50 zcl_J4 (by decide) rfl lk_J5_79 rfl ((congrFun (gcH_f (f := 3) (p := o.length + (dcs n).length) (n := n) (zFq.refl h (a + 1) (a + 1 + 1))).2.1 a).trans (hu.1 0).1) rfl ⟨rfl, rfl⟩ ?_
    refine zV.aload_n C dJ5_append_c97b9_53 rfl rfl ?_
    refine zV.aret C F dJ5_append_c97b9_54 (Or.inl ⟨_, rfl⟩) rfl rfl ?_
    exact ⟨rfl, zOw_dig hu hn hl⟩
set_option maxHeartbeats 4000000 in
set_option maxRecDepth 100000 in
theorem s_TappI {l : Launch} {E : zG} (hzs : zS E) (hst : l.stackTraces = false) (h : zH) (a : Nat) (o : List Nat) (hu : zOw h a o) (n : Nat) (hn : n < 100000000) (hl : o.length + (dcs n).length ≤ 16) : zMet l E yJ4_append_bf812 cJ4_append_bf812 2 (some (.object "java/lang/StringBuilder")) ({ frames := 2, cells := 0, slots := 0, locals := 49 } : Room) 0 0 [.ref a, .int (nI n)] h (fun r h' => r = some (.ref a) ∧ zOw h' a (o ++ dcs n) ∧ zOg h h' a) (fun _ _ => False) := by
  refine zM_start hzs hst (by decide) (Nat.le_of_ble_eq_true rfl) (fun X C G F I => ?_)
  show zV X 0 0 _ 0 [(0, _), (1, _)] []
  refine zV.aload_n C dJ4_append_bf812_0 rfl rfl ?_
  refine zV.iload_n C dJ4_append_bf812_1 rfl ?_
  refine zV.callSU (n := 1) C G dJ4_append_bf812_2 (s_TappI5 hzs hst h a o hu n hn hl) rfl ⟨cd_J5_append_c97b9, lk_J4_53, sm_J5_J5_J5_append_c97b9, su_J4_J5, im_J5_append_c97b9, in_J5⟩ (by decide) ⟨⟨by decide, by decide⟩, by decide⟩ rfl rfl rfl (hu.1 0).1 ⟨rfl, by decide⟩ (zafR (fun h9 p9 => ?_)) (zno)
  refine zV.pop C dJ4_append_bf812_5 rfl ?_
  refine zV.aload_n C dJ4_append_bf812_6 rfl rfl ?_
  refine zV.aret C F dJ4_append_bf812_7 (Or.inl ⟨_, rfl⟩) rfl rfl ?_
  exact ⟨rfl, p9⟩
set_option maxHeartbeats 4000000 in
set_option maxRecDepth 100000 in
theorem s_SgetBytes {l : Launch} {E : zG} (hzs : zS E) (hst : l.stackTraces = false) (h : zH) (a : Nat) (o : List Nat) (hu : zOw h a o) (q q2 : Nat) (bs : List Nat) (hs : zSt E q q2 bs) (hl : bs.length < 100) (hb : ∀ (i c : Nat), bs[i]? = some c → c < 128) (h3 : o.length + bs.length ≤ 16) : zMet l E yJ0_getBytes_840e7 cJ0_getBytes_840e7 4 none ({ frames := 1, cells := 0, slots := 0, locals := 60 } : Room) 0 0 [.retAddr q, .ref (a + 1), .int (nI o.length), .int (nI 0)] h (fun r h' => r = none ∧ h' = putH h a o.length bs) (fun _ _ => False) := by
  refine zM_start hzs hst (by decide) (Nat.le_of_ble_eq_true rfl) (fun X C G F I => ?_)
  show zV X 0 0 _ 0 [(0, _), (1, _), (2, _), (3, _)] []
  have h16 := hu.2
  refine zV.aload_n C dJ0_getBytes_840e7_0 rfl rfl ?_
  refine zV.callVR (n := 0) C G dJ0_getBytes_840e7_1 (s_Scoder hzs hst h q q2 bs hs hl) rfl ⟨cd_J0_coder_7d493, lk_J0_335, im_J0_coder_7d493, se_J0_J0_coder_7d493, in_J0⟩ ⟨⟨by decide, by decide⟩, by decide⟩ rfl rfl rfl (hs.1) (zaf ?_) (zno)
  refine zV.iload_n C dJ0_getBytes_840e7_4 rfl ?_
  refine zV.icmp_ne (tgt := 28) C dJ0_getBytes_840e7_5 (by decide) (fun q5 => ?_) (fun q5 => ?_)
  · exact absurd rfl q5
  · refine zV.aload_n C dJ0_getBytes_840e7_8 rfl rfl ?_
    refine zV.gRawR C G dJ0_getBytes_840e7_9 (hs.2.2.1) lk_J0_9 ?_
    refine zV.ic (v := nI 0) C dJ0_getBytes_840e7_12 (by decide) ?_
    refine zV.aload_n C dJ0_getBytes_840e7_13 rfl rfl ?_
    refine zV.iload_n C dJ0_getBytes_840e7_14 rfl ?_
    refine zV.iload_n C dJ0_getBytes_840e7_15 rfl ?_
    refine zV.ishl C dJ0_getBytes_840e7_16 ?_
    rw [show nI 0 = (0 : Int32) from rfl, sb_shl0]
    refine zV.aload_n C dJ0_getBytes_840e7_17 rfl rfl ?_
    refine zV.gRawR C G dJ0_getBytes_840e7_18 (hs.2.2.1) lk_J0_9 ?_
    refine zV.alenRaw C G dJ0_getBytes_840e7_21 (hs.2.2.2) ?_
    refine zV.copyT (t := q2) (b := a + 1) (N := bs.length) (n := bs.length) (dp := o.length) (f := fun j => nI (bs.getD j 0)) C G dJ0_getBytes_840e7_22 ⟨lk_J0_212, na_acopy, st_acopy, in_J10⟩ hs.2.2.2 (hu.1 0).2.2.2.2.2.2.1 rfl rfl (by omega) (by omega) (Nat.le_refl _) (by rw [hu.2]; exact h3) (fit_bs hb) rfl ?_
    refine zV.goto (tgt := 43) C dJ0_getBytes_840e7_25 (by decide) ?_
    refine zV.vret C F dJ0_getBytes_840e7_43 rfl ?_
    exact ⟨rfl, rfl⟩
set_option maxHeartbeats 4000000 in
set_option maxRecDepth 100000 in
theorem s_Tinfl {l : Launch} {E : zG} (hzs : zS E) (hst : l.stackTraces = false) (h : zH) (a : Nat) (o : List Nat) (hu : zOw h a o) (q q2 : Nat) (bs : List Nat) (hs : zSt E q q2 bs) (hl : bs.length < 100) : zMet l E yJ5_inflateIfNeededFor_a7421 cJ5_inflateIfNeededFor_a7421 2 none ({ frames := 1, cells := 0, slots := 0, locals := 20 } : Room) 0 0 [.ref a, .retAddr q] h (fun r h' => r = none ∧ h' = h) (fun _ _ => False) := by
  refine zM_start hzs hst (by decide) (Nat.le_of_ble_eq_true rfl) (fun X C G F I => ?_)
  show zV X 0 0 _ 0 [(0, _), (1, _)] []
  refine zV.gstI C G dJ5_inflateIfNeededFor_a7421_0 (st_compact hzs) lk_J5_18 ?_
  refine zV.if_eq (tgt := 21) C dJ5_inflateIfNeededFor_a7421_3 (by decide) (fun q3 => ?_) (fun q3 => ?_)
  · exact absurd q3 (by decide)
  · refine zV.aload_n C dJ5_inflateIfNeededFor_a7421_6 rfl rfl ?_
    refine zV.gIv 33 (k := 1) C dJ5_inflateIfNeededFor_a7421_7 zcl_J4 (by decide) rfl lk_J5_22 (hu.1 0).1 rfl ((hu.1 0).2.1) ?_
    refine zV.aload_n C dJ5_inflateIfNeededFor_a7421_10 rfl rfl ?_
    refine zV.callVR (n := 0) C G dJ5_inflateIfNeededFor_a7421_11 (s_Scoder hzs hst h q q2 bs hs hl) rfl ⟨cd_J0_coder_7d493, lk_J5_40, im_J0_coder_7d493, se_J0_J0_coder_7d493, in_J0⟩ ⟨⟨by decide, by decide⟩, by decide⟩ rfl rfl rfl (hs.1) (zaf ?_) (zno)
    refine zV.icmp_eq (tgt := 21) C dJ5_inflateIfNeededFor_a7421_14 (by decide) (fun q14 => ?_) (fun q14 => ?_)
    · refine zV.vret C F dJ5_inflateIfNeededFor_a7421_21 rfl ?_
      exact ⟨rfl, rfl⟩
    · exact absurd rfl q14
set_option maxHeartbeats 4000000 in
set_option maxRecDepth 100000 in
theorem s_Tput {l : Launch} {E : zG} (hzs : zS E) (hst : l.stackTraces = false) (h : zH) (a : Nat) (o : List Nat) (hu : zOw h a o) (q q2 : Nat) (bs : List Nat) (hs : zSt E q q2 bs) (hl : bs.length < 100) (hb : ∀ (i c : Nat), bs[i]? = some c → c < 128) (h3 : o.length + bs.length ≤ 16) : zMet l E yJ5_putStringAt_47b60 cJ5_putStringAt_47b60 3 none ({ frames := 2, cells := 0, slots := 0, locals := 83 } : Room) 0 0 [.ref a, .int (nI o.length), .retAddr q] h (fun r h' => r = none ∧ h' = putH h a o.length bs) (fun _ _ => False) := by
  refine zM_start hzs hst (by decide) (Nat.le_of_ble_eq_true rfl) (fun X C G F I => ?_)
  show zV X 0 0 _ 0 [(0, _), (1, _), (2, _)] []
  refine zV.aload_n C dJ5_putStringAt_47b60_0 rfl rfl ?_
  refine zV.aload_n C dJ5_putStringAt_47b60_1 rfl rfl ?_
  refine zV.callP (n := 1) C G dJ5_putStringAt_47b60_2 (s_Tinfl hzs hst h a o hu q q2 bs hs hl) rfl ⟨cd_J5_inflateIfNeededFor_a7421, lk_J5_397, im_J5_inflateIfNeededFor_a7421, pr_J5_infl, in_J5⟩ se_J4_J5_isLatin1_aae02 rfl ⟨⟨by decide, by decide⟩, by decide⟩ rfl rfl rfl (hu.1 0).1 ⟨rfl, by decide⟩ (zafv ?_) (zno)
  refine zV.aload_n C dJ5_putStringAt_47b60_5 rfl rfl ?_
  refine zV.aload_n C dJ5_putStringAt_47b60_6 rfl rfl ?_
  refine zV.gR 32 (k := 0) C dJ5_putStringAt_47b60_7 zcl_J4 (by decide) rfl lk_J5_15 (hu.1 0).1 rfl (hu.1 0).2.2.2.1 ?_
  refine zV.iload_n C dJ5_putStringAt_47b60_10 rfl ?_
  refine zV.aload_n C dJ5_putStringAt_47b60_11 rfl rfl ?_
  refine zV.gIv 33 (k := 1) C dJ5_putStringAt_47b60_12 zcl_J4 (by decide) rfl lk_J5_22 (hu.1 0).1 rfl ((hu.1 0).2.1) ?_
  refine zV.callVR (n := 3) C G dJ5_putStringAt_47b60_15 (s_SgetBytes hzs hst h a o hu q q2 bs hs hl hb h3) rfl ⟨cd_J0_getBytes_840e7, lk_J5_399, im_J0_getBytes_840e7, se_J0_J0_getBytes_840e7, in_J0⟩ ⟨⟨by decide, by decide⟩, by decide⟩ rfl rfl rfl (hs.1) (zafv ?_) (zno)
  refine zV.vret C F dJ5_putStringAt_47b60_18 rfl ?_
  exact ⟨rfl, rfl⟩
set_option maxHeartbeats 4000000 in
set_option maxRecDepth 100000 in
theorem s_TappS5 {l : Launch} {E : zG} (hzs : zS E) (hst : l.stackTraces = false) (h : zH) (a : Nat) (o : List Nat) (hu : zOw h a o) (q q2 : Nat) (bs : List Nat) (hs : zSt E q q2 bs) (hl : bs.length < 100) (hb : ∀ (i c : Nat), bs[i]? = some c → c < 128) (h3 : o.length + bs.length ≤ 16) : zMet l E yJ5_append_cf1ce cJ5_append_cf1ce 3 (some (.object "java/lang/AbstractStringBuilder")) ({ frames := 3, cells := 0, slots := 0, locals := 105 } : Room) 0 0 [.ref a, .retAddr q] h (fun r h' => r = some (.ref a) ∧ zOw h' a (o ++ bs) ∧ zOg h h' a) (fun _ _ => False) := by
  refine zM_start hzs hst (by decide) (Nat.le_of_ble_eq_true rfl) (fun X C G F I => ?_)
  show zV X 0 0 _ 0 [(0, _), (1, _)] []
  refine zV.aload_n C dJ5_append_cf1ce_0 rfl rfl ?_
  refine zV.ifnonnull (tgt := 9) C dJ5_append_cf1ce_1 (by decide) rfl (fun q1 => ?_) (fun q1 => ?_)
  · refine zV.aload_n C dJ5_append_cf1ce_9 rfl rfl ?_
    refine zV.callVR (n := 0) C G dJ5_append_cf1ce_10 (s_Slength hzs hst h q q2 bs hs hl) rfl ⟨cd_J0_length_8abf5, lk_J5_32, im_J0_length_8abf5, se_J0_J0_length_8abf5, in_J0⟩ ⟨⟨by decide, by decide⟩, by decide⟩ rfl rfl rfl (hs.1) (zaf ?_) (zno)
    refine zV.istore_n (lo' := [(0, _), (1, _), (2, _)]) C dJ5_append_cf1ce_13 (by decide) rfl rfl rfl ?_
    refine zV.aload_n C dJ5_append_cf1ce_14 rfl rfl ?_
    refine zV.aload_n C dJ5_append_cf1ce_15 rfl rfl ?_
    refine zV.gIv 35 (k := 3) C dJ5_append_cf1ce_16 zcl_J4 (by decide) rfl lk_J5_79 (hu.1 0).1 rfl ((hu.1 0).2.2.1) ?_
    refine zV.iload_n C dJ5_append_cf1ce_19 rfl ?_
    refine zV.iadd C dJ5_append_cf1ce_20 ?_
    rw [nI_add]
    refine zV.callP (n := 1) C G dJ5_append_cf1ce_21 (s_TbensN hzs hst h a o hu (o.length + bs.length) h3) rfl ⟨cd_J5_ensureCapacityInternal_d00df, lk_J5_100, im_J5_ensureCapacityInternal_d00df, pr_J5_ensure, in_J5⟩ se_J4_J5_isLatin1_aae02 rfl ⟨⟨by decide, by decide⟩, by decide⟩ rfl rfl rfl (hu.1 0).1 ⟨rfl, by decide⟩ (zafv ?_) (zno)
    refine zV.aload_n C dJ5_append_cf1ce_24 rfl rfl ?_
    refine zV.aload_n C dJ5_append_cf1ce_25 rfl rfl ?_
    refine zV.gIv 35 (k := 3) C dJ5_append_cf1ce_26 zcl_J4 (by decide) rfl lk_J5_79 (hu.1 0).1 rfl ((hu.1 0).2.2.1) ?_
    refine zV.aload_n C dJ5_append_cf1ce_29 rfl rfl ?_
    refine zV.callP (n := 2) C G dJ5_append_cf1ce_30 (s_Tput hzs hst h a o hu q q2 bs hs hl hb h3) rfl ⟨cd_J5_putStringAt_47b60, lk_J5_208, im_J5_putStringAt_47b60, pr_J5_putS, in_J5⟩ se_J4_J5_isLatin1_aae02 rfl ⟨⟨by decide, by decide⟩, by decide⟩ rfl rfl rfl (hu.1 0).1 ⟨rfl, by decide⟩ (zafv ?_) (zno)
    refine zV.aload_n C dJ5_append_cf1ce_33 rfl rfl ?_
    refine zV.dup C dJ5_append_cf1ce_34 rfl ?_
    refine zV.gIv 35 (k := 3) C dJ5_append_cf1ce_35 zcl_J4 (by decide) rfl lk_J5_79 (show hK (putH h a o.length bs) a = 2 from (hu.1 0).1) rfl ((show hI (putH h a o.length bs) 35 a = nI o.length from (hu.1 0).2.2.1)) ?_
    refine zV.iload_n C dJ5_append_cf1ce_38 rfl ?_
    refine zV.iadd C dJ5_append_cf1ce_39 ?_
    rw [nI_add]
    refine zV.pI 35 (k := 3) C dJ5_append_cf1ce_40 zcl_J4 (by decide) rfl lk_J5_79 rfl (show hK (putH h a o.length bs) a = 2 from (hu.1 0).1) rfl ⟨rfl, rfl⟩ ?_
    refine zV.aload_n C dJ5_append_cf1ce_43 rfl rfl ?_
    refine zV.aret C F dJ5_append_cf1ce_44 (Or.inl ⟨_, rfl⟩) rfl rfl ?_
    exact ⟨rfl, zOw_put hu h3 hb⟩
  · cases q1
set_option maxHeartbeats 4000000 in
set_option maxRecDepth 100000 in
theorem s_TappS {l : Launch} {E : zG} (hzs : zS E) (hst : l.stackTraces = false) (h : zH) (a : Nat) (o : List Nat) (hu : zOw h a o) (q q2 : Nat) (bs : List Nat) (hs : zSt E q q2 bs) (hl : bs.length < 100) (hb : ∀ (i c : Nat), bs[i]? = some c → c < 128) (h3 : o.length + bs.length ≤ 16) : zMet l E yJ4_append_15ec4 cJ4_append_15ec4 2 (some (.object "java/lang/StringBuilder")) ({ frames := 4, cells := 0, slots := 0, locals := 127 } : Room) 0 0 [.ref a, .retAddr q] h (fun r h' => r = some (.ref a) ∧ zOw h' a (o ++ bs) ∧ zOg h h' a) (fun _ _ => False) := by
  refine zM_start hzs hst (by decide) (Nat.le_of_ble_eq_true rfl) (fun X C G F I => ?_)
  show zV X 0 0 _ 0 [(0, _), (1, _)] []
  refine zV.aload_n C dJ4_append_15ec4_0 rfl rfl ?_
  refine zV.aload_n C dJ4_append_15ec4_1 rfl rfl ?_
  refine zV.callSU (n := 1) C G dJ4_append_15ec4_2 (s_TappS5 hzs hst h a o hu q q2 bs hs hl hb h3) rfl ⟨cd_J5_append_cf1ce, lk_J4_29, sm_J5_J5_J5_append_cf1ce, su_J4_J5, im_J5_append_cf1ce, in_J5⟩ (by decide) ⟨⟨by decide, by decide⟩, by decide⟩ rfl rfl rfl (hu.1 0).1 ⟨rfl, by decide⟩ (zafR (fun h9 p9 => ?_)) (zno)
  refine zV.pop C dJ4_append_15ec4_5 rfl ?_
  refine zV.aload_n C dJ4_append_15ec4_6 rfl rfl ?_
  refine zV.aret C F dJ4_append_15ec4_7 (Or.inl ⟨_, rfl⟩) rfl rfl ?_
  exact ⟨rfl, p9⟩
/-- a String made by the law: its cell s, its bytes in the next -/
def zHt (h : zH) (s : Nat) (bs : List Nat) : Prop := hK h s = 1 ∧ hI h 1 s = nI 0 ∧ hR h 0 s = some (s + 1) ∧ hK h (s + 1) = 101 ∧ hL h (s + 1) = bs.length ∧ ∀ (i c : Nat), bs[i]? = some c → aI h (s + 1) i = nI c ∧ c < 128
theorem zHt_e {h h' : zH} {s : Nat} {bs : List Nat} (q : zHt h s bs) (e0 : zEq h h' s) (e1 : zEq h h' (s + 1)) : zHt h' s bs := by
  obtain ⟨q1, q2, q3, q4, q5, q6⟩ := q
  exact ⟨e0.1.trans q1, (e0.2.2.2.1 _).trans q2, (e0.2.2.1 _).trans q3, e1.1.trans q4, e1.2.1.trans q5, fun i c hc => ⟨(congrFun e1.2.2.2.2.1 i).trans (q6 i c hc).1, (q6 i c hc).2⟩⟩
def cpyH (h : zH) (v n : Nat) : zH := sRow (hNew h 101 n) (hN h) (va_cpy (aI h v) (fun _ => 0) 0 0 n)
set_option maxHeartbeats 4000000 in
set_option maxRecDepth 100000 in
theorem s_Tchk {l : Launch} {E : zG} (hzs : zS E) (hst : l.stackTraces = false) (h : zH) (n : Nat) (hn : n ≤ 16) : zMet l E yJ7_checkLength_df160 cJ7_checkLength_df160 2 none ({ frames := 0, cells := 0, slots := 0, locals := 0 } : Room) 0 0 [.int (nI 0), .int (nI n)] h (fun r h' => r = none ∧ h' = h) (fun _ _ => False) := by
  refine zM_start hzs hst (by decide) (Nat.le_of_ble_eq_true rfl) (fun X C G F I => ?_)
  show zV X 0 0 _ 0 [(0, _), (1, _)] []
  refine zV.iload_n C dJ7_checkLength_df160_0 rfl ?_
  refine zV.iload_n C dJ7_checkLength_df160_1 rfl ?_
  refine zV.icmp_ge (tgt := 37) C dJ7_checkLength_df160_2 (by decide) (fun q2 => ?_) (fun q2 => ?_)
  · refine zV.vret C F dJ7_checkLength_df160_37 rfl ?_
    exact ⟨rfl, rfl⟩
  · exact absurd (nI_le (Nat.zero_le _) (by omega)) q2
set_option maxHeartbeats 4000000 in
set_option maxRecDepth 100000 in
theorem s_TcopyB {l : Launch} {E : zG} (hzs : zS E) (hst : l.stackTraces = false) (h : zH) (v n : Nat) (hk : hK h v = 101) (hv : v < hN h) (hm : n < hL h v) (hn : n ≤ 16) (hf : sb_Fit (aI h v)) (h2 : hL h v < 2 ^ 31) : zMet l E yJ7_copyOfRangeByte_39247 cJ7_copyOfRangeByte_39247 5 (some (.array .byte)) ({ frames := 1, cells := 1, slots := 16, locals := 60 } : Room) 1 16 [.ref v, .int (nI 0), .int (nI n)] h (fun r h' => r = some (.ref (hN h)) ∧ h' = cpyH h v n) (fun _ _ => False) := by
  refine zM_start hzs hst (by decide) (Nat.le_of_ble_eq_true rfl) (fun X C G F I => ?_)
  show zV X 0 0 _ 0 [(0, _), (1, _), (2, _)] []
  have en1 : aI (hNew h 101 n) v = aI h v := funext fun i => aI_new (k := 101) (z := n) (by omega)
  have en2 : aI (hNew h 101 n) (hN h) = fun _ => 0 := funext fun i => aI_newE (k := 101) (z := n)
  refine zV.iload_n C dJ7_copyOfRangeByte_39247_0 rfl ?_
  refine zV.iload_n C dJ7_copyOfRangeByte_39247_1 rfl ?_
  refine zV.callS (n := 2) C G dJ7_copyOfRangeByte_39247_2 (s_Tchk hzs hst h n hn) rfl ⟨cd_J7_checkLength_df160, lk_J7_343, st_J7_checkLength_df160, in_J7⟩ ⟨⟨by decide, by decide⟩, by decide⟩ rfl rfl rfl (zafv ?_) (zno)
  refine zV.iload_n C dJ7_copyOfRangeByte_39247_5 rfl ?_
  refine zV.iload_n C dJ7_copyOfRangeByte_39247_6 rfl ?_
  refine zV.isub C dJ7_copyOfRangeByte_39247_7 ?_
  rw [show nI n - nI 0 = nI n from Int32.sub_zero _]
  refine zV.istore_n (lo' := [(0, _), (1, _), (2, _), (3, _)]) C dJ7_copyOfRangeByte_39247_8 (by decide) rfl rfl rfl ?_
  refine zV.iload_n C dJ7_copyOfRangeByte_39247_9 rfl ?_
  refine zV.newB (n := n) C G dJ7_copyOfRangeByte_39247_10 ac_byte (rfl) (by omega) (by rw [Bool.and_eq_true]; exact ⟨rfl, Nat.ble_eq_true_of_le (by show 0 + n ≤ 16; omega)⟩) ?_
  refine zV.up (kc' := 1) (ks' := 16) (by omega) (by omega) ?_
  refine zV.astore (lo' := [(0, _), (1, _), (2, _), (3, _), (4, _)]) C dJ7_copyOfRangeByte_39247_12 rfl (by decide) rfl rfl rfl ?_
  refine zV.aload_n C dJ7_copyOfRangeByte_39247_14 rfl rfl ?_
  refine zV.iload_n C dJ7_copyOfRangeByte_39247_15 rfl ?_
  refine zV.aload C dJ7_copyOfRangeByte_39247_16 rfl rfl ?_
  refine zV.ic (v := nI 0) C dJ7_copyOfRangeByte_39247_18 (by decide) ?_
  refine zV.aload_n C dJ7_copyOfRangeByte_39247_19 rfl rfl ?_
  refine zV.alen (t0 := 0) C dJ7_copyOfRangeByte_39247_20 ((hK_new (z := n) (k := 101) (by omega)).trans hk) (by decide) ?_
  refine zV.iload_n C dJ7_copyOfRangeByte_39247_21 rfl ?_
  refine zV.isub C dJ7_copyOfRangeByte_39247_22 ?_
  rw [hL_new (z := n) (k := 101) (a := v) (by omega), show nI (hL h v) - nI 0 = nI (hL h v) from Int32.sub_zero _]
  refine zV.iload_n C dJ7_copyOfRangeByte_39247_23 rfl ?_
  refine zV.mmin C G dJ7_copyOfRangeByte_39247_24 ⟨lk_J7_304, st_J9_min_7cf53, in_J9, cd_J9_min_7cf53⟩ rfl ?_
  rw [show (if nI n < nI (hL h v) then nI n else nI (hL h v)) = nI n from if_pos (nI_lt hm h2)]
  refine zV.copyB (a := v) (b := hN h) (n := n) C G dJ7_copyOfRangeByte_39247_27 ⟨lk_J7_150, na_acopy, st_acopy, in_J10⟩ ((hK_new (z := n) (k := 101) (by omega)).trans hk) hK_newE rfl (by omega) (by rw [hL_new (z := n) (k := 101) (a := v) (by omega)]; omega) (by rw [hL_newE]; omega) (by rw [en1]; exact hf) rfl ?_
  refine zV.aload C dJ7_copyOfRangeByte_39247_30 rfl rfl ?_
  refine zV.aret C F dJ7_copyOfRangeByte_39247_32 (Or.inr ⟨_, rfl⟩) rfl rfl ?_
  exact ⟨rfl, by rw [en1, en2]; rfl⟩
set_option maxHeartbeats 4000000 in
set_option maxRecDepth 100000 in
theorem s_TcopyR {l : Launch} {E : zG} (hzs : zS E) (hst : l.stackTraces = false) (h : zH) (v n : Nat) (hk : hK h v = 101) (hv : v < hN h) (hm : n < hL h v) (hn : n ≤ 16) (hf : sb_Fit (aI h v)) (h2 : hL h v < 2 ^ 31) : zMet l E yJ7_copyOfRange_39247 cJ7_copyOfRange_39247 3 (some (.array .byte)) ({ frames := 2, cells := 1, slots := 16, locals := 84 } : Room) 1 16 [.ref v, .int (nI 0), .int (nI n)] h (fun r h' => r = some (.ref (hN h)) ∧ h' = cpyH h v n) (fun _ _ => False) := by
  refine zM_start hzs hst (by decide) (Nat.le_of_ble_eq_true rfl) (fun X C G F I => ?_)
  show zV X 0 0 _ 0 [(0, _), (1, _), (2, _)] []
  refine zV.iload_n C dJ7_copyOfRange_39247_0 rfl ?_
  refine zV.if_ne (tgt := 10) C dJ7_copyOfRange_39247_1 (by decide) (fun q1 => ?_) (fun q1 => ?_)
  · exact absurd rfl q1
  · refine zV.iload_n C dJ7_copyOfRange_39247_4 rfl ?_
    refine zV.aload_n C dJ7_copyOfRange_39247_5 rfl rfl ?_
    refine zV.alen (t0 := 0) C dJ7_copyOfRange_39247_6 hk (by decide) ?_
    refine zV.icmp_eq (tgt := 17) C dJ7_copyOfRange_39247_7 (by decide) (fun q7 => ?_) (fun q7 => ?_)
    · exact absurd q7 (nI_ne (by omega) h2 (by omega))
    · refine zV.aload_n C dJ7_copyOfRange_39247_10 rfl rfl ?_
      refine zV.iload_n C dJ7_copyOfRange_39247_11 rfl ?_
      refine zV.iload_n C dJ7_copyOfRange_39247_12 rfl ?_
      refine zV.callS (n := 3) C G dJ7_copyOfRange_39247_13 (s_TcopyB hzs hst h v n hk hv hm hn hf h2) rfl ⟨cd_J7_copyOfRangeByte_39247, lk_J7_339, st_J7_copyOfRangeByte_39247, in_J7⟩ ⟨⟨by decide, by decide⟩, by decide⟩ rfl rfl rfl (zaf ?_) (zno)
      refine zV.aret C F dJ7_copyOfRange_39247_16 (Or.inr ⟨_, rfl⟩) rfl rfl ?_
      exact ⟨rfl, rfl⟩
set_option maxHeartbeats 4000000 in
set_option maxRecDepth 100000 in
theorem s_TgetValue {l : Launch} {E : zG} (hzs : zS E) (hst : l.stackTraces = false) (h : zH) (a : Nat) (o : List Nat) (hu : zOw h a o) : zMet l E yJ5_getValue_6d5f1 cJ5_getValue_6d5f1 1 (some (.array .byte)) ({ frames := 0, cells := 0, slots := 0, locals := 0 } : Room) 0 0 [.ref a] h (fun r h' => r = some (.ref (a + 1)) ∧ h' = h) (fun _ _ => False) := by
  refine zM_start hzs hst (by decide) (Nat.le_of_ble_eq_true rfl) (fun X C G F I => ?_)
  show zV X 0 0 _ 0 [(0, _)] []
  refine zV.aload_n C dJ5_getValue_6d5f1_0 rfl rfl ?_
  refine zV.gR 32 (k := 0) C dJ5_getValue_6d5f1_1 zcl_J4 (by decide) rfl lk_J5_15 (hu.1 0).1 rfl (hu.1 0).2.2.2.1 ?_
  refine zV.aret C F dJ5_getValue_6d5f1_4 (Or.inr ⟨_, rfl⟩) rfl rfl ?_
  exact ⟨rfl, rfl⟩
theorem strm {h : zH} {s a : Nat} {o : List Nat} (hk : hK h s = 1) (hn : hN h = s + 1) (ha : a + 1 < s) (hu : zOw h a o) : zHt (sR (cpyH (sI h 1 s (nI 0)) (a + 1) o.length) 0 s (some (hN (sI h 1 s (nI 0))))) s o ∧ hN (sR (cpyH (sI h 1 s (nI 0)) (a + 1) o.length) 0 s (some (hN (sI h 1 s (nI 0))))) = s + 2 ∧ ∀ c, c < s → zEq h (sR (cpyH (sI h 1 s (nI 0)) (a + 1) o.length) 0 s (some (hN (sI h 1 s (nI 0))))) c := by
  have e9 : hN (sI h 1 s (nI 0)) = s + 1 := hn
  have ea : aI (cpyH (sI h 1 s (nI 0)) (a + 1) o.length) (s + 1) = va_cpy (aI h (a + 1)) (fun _ => 0) 0 0 o.length := by
    have := aI_sRow (h := hNew (sI h 1 s (nI 0)) 101 o.length) (a := hN (sI h 1 s (nI 0))) (g := va_cpy (aI (sI h 1 s (nI 0)) (a + 1)) (fun _ => 0) 0 0 o.length)
    rw [show cpyH (sI h 1 s (nI 0)) (a + 1) o.length = sRow (hNew (sI h 1 s (nI 0)) 101 o.length) (hN (sI h 1 s (nI 0))) (va_cpy (aI (sI h 1 s (nI 0)) (a + 1)) (fun _ => 0) 0 0 o.length) from rfl, ← e9]
    exact this
  rw [e9]
  refine ⟨⟨?_, ?_, hR_sR, ?_, ?_, ?_⟩, congrArg (· + 1) hn, fun c hc => ?_⟩
  · exact (hK_new (h := sI h 1 s (nI 0)) (k := 101) (z := o.length) (a := s) (by omega)).trans hk
  · exact (hI_new (h := sI h 1 s (nI 0)) (k := 101) (z := o.length) (a := s) (by omega)).trans hI_sI
  · have := hK_newE (h := sI h 1 s (nI 0)) (k := 101) (z := o.length)
    rw [e9] at this; exact this
  · have := hL_newE (h := sI h 1 s (nI 0)) (k := 101) (z := o.length)
    rw [e9] at this; exact this
  · intro i c hc
    have h9 := (List.getElem?_eq_some_iff.mp hc).1
    obtain ⟨q1, q2⟩ := (hu.1 0).2.2.2.2.2.2.2.2.2.1 i c hc
    refine ⟨?_, q2⟩
    show aI (cpyH (sI h 1 s (nI 0)) (a + 1) o.length) (s + 1) i = nI c
    rw [ea]
    refine (if_pos ⟨Nat.zero_le _, by omega⟩).trans ?_
    rw [Nat.zero_add, Nat.sub_zero]; exact q1
  · exact (((zEq_sI (by omega)).trans (zEq_new (k := 101) (z := o.length) (show c ≠ hN (sI h 1 s (nI 0)) by omega))).trans (zEq_sRow (by omega))).trans (zEq_sR (by omega))
set_option maxHeartbeats 4000000 in
set_option maxRecDepth 100000 in
theorem s_TstrI5 {l : Launch} {E : zG} (hzs : zS E) (hst : l.stackTraces = false) (h : zH) (s a : Nat) (o : List Nat) (hk : hK h s = 1) (hn : hN h = s + 1) (ha : a + 1 < s) (hu : zOw h a o) (ho : o.length < 16) : zMet l E yJ0_init_db425 cJ0_init_db425 5 none ({ frames := 3, cells := 1, slots := 16, locals := 106 } : Room) 1 16 [.ref s, .ref a, .null] h (fun r h' => r = none ∧ zHt h' s o ∧ hN h' = s + 2 ∧ ∀ c, c < s → zEq h h' c) (fun _ _ => False) := by
  refine zM_start hzs hst (by decide) (Nat.le_of_ble_eq_true rfl) (fun X C G F I => ?_)
  show zV X 0 0 _ 0 [(0, _), (1, _), (2, _)] []
  have I := I rfl
  refine zV.aload_n C dJ0_init_db425_0 rfl rfl ?_
  refine zV.obj C G dJ0_init_db425_1 ⟨lk_J0_1, im_Oinit, cd_Oinit⟩ rfl rfl ?_
  refine zV.aload_n C dJ0_init_db425_4 rfl rfl ?_
  refine zV.callU (n := 0) C G dJ0_init_db425_5 (s_TgetValue hzs hst h a o hu) rfl ⟨cd_J5_getValue_6d5f1, lk_J0_552, sm_J5_J5_J5_getValue_6d5f1, im_J5_getValue_6d5f1, se_J4_J5_getValue_6d5f1, in_J5⟩ ⟨⟨by decide, by decide⟩, by decide⟩ rfl rfl rfl (hu.1 0).1 ⟨rfl, by decide⟩ (zaf ?_) (zno)
  refine zV.astore_n (lo' := [(0, _), (1, _), (2, _), (3, _)]) C dJ0_init_db425_8 rfl (by decide) rfl rfl rfl ?_
  refine zV.aload_n C dJ0_init_db425_9 rfl rfl ?_
  refine zV.callU2 (n := 0) (x := yJ5_length_8abf5) C G dJ0_init_db425_10 (s_Blength hzs hst h a (a + 1) 0 o (hu.1 0)) rfl ⟨cd_J4_length_8abf5, lk_J0_549, sm_J5_J5_J5_length_8abf5, ⟨im_J5_length_8abf5, cd_J5_length_8abf5⟩, se_J4_J5_length_8abf5, in_J4, im_J4_length_8abf5⟩ ⟨by decide, by decide⟩ ⟨⟨by decide, by decide⟩, by decide⟩ ⟨⟨by decide, by decide⟩, by decide⟩ rfl rfl rfl (hu.1 0).1 ⟨rfl, by decide⟩ (zaf ?_) (zno)
  refine zV.istore (lo' := [(0, _), (1, _), (2, _), (3, _), (4, _)]) C dJ0_init_db425_13 (by decide) rfl rfl rfl ?_
  refine zV.aload_n C dJ0_init_db425_15 rfl rfl ?_
  refine zV.callU (n := 0) C G dJ0_init_db425_16 (s_BisLatin1 hzs hst h a (hu.1 0).1 (hu.1 0).2.1) rfl ⟨cd_J5_isLatin1_aae02, lk_J0_1047, sm_J5_J5_J5_isLatin1_aae02, im_J5_isLatin1_aae02, se_J4_J5_isLatin1_aae02, in_J5⟩ ⟨⟨by decide, by decide⟩, by decide⟩ rfl rfl rfl (hu.1 0).1 ⟨rfl, by decide⟩ (zaf ?_) (zno)
  refine zV.if_eq (tgt := 41) C dJ0_init_db425_19 (by decide) (fun q19 => ?_) (fun q19 => ?_)
  · exact absurd q19 (by decide)
  · refine zV.aload_n C dJ0_init_db425_22 rfl rfl ?_
    refine zV.ic (v := nI 0) C dJ0_init_db425_23 (by decide) ?_
    refine zV.pFI 1 (k := 1) C dJ0_init_db425_24 zcl_J0 (by decide) rfl lk_J0_15 rfl I rfl hk rfl ⟨rfl, rfl⟩ ?_
    refine zV.aload_n C dJ0_init_db425_27 rfl rfl ?_
    refine zV.aload_n C dJ0_init_db425_28 rfl rfl ?_
    refine zV.ic (v := nI 0) C dJ0_init_db425_29 (by decide) ?_
    refine zV.iload C dJ0_init_db425_30 rfl ?_
    refine zV.callS (n := 3) C G dJ0_init_db425_32 (s_TcopyR hzs hst (sI h 1 s (nI 0)) (a + 1) o.length (hu.1 0).2.2.2.2.2.2.1 (show a + 1 < hN h by omega) (show o.length < hL h (a + 1) by rw [hu.2]; exact ho) (by omega) (hu.1 0).2.2.2.2.2.2.2.2.2.2 (show hL h (a + 1) < 2 ^ 31 by rw [hu.2]; decide)) rfl ⟨cd_J7_copyOfRange_39247, lk_J0_54, st_J7_copyOfRange_39247, in_J7⟩ ⟨⟨by decide, by decide⟩, by decide⟩ rfl rfl rfl (zaf ?_) (zno)
    refine zV.pFR 0 (k := 0) C dJ0_init_db425_35 zcl_J0 (by decide) rfl lk_J0_9 rfl I rfl ((hK_new (h := sI h 1 s (nI 0)) (z := o.length) (k := 101) (a := s) (show s ≠ hN h by omega)).trans hk) rfl (fun _ => ⟨rfl, rfl⟩) ?_
    refine zV.goto (tgt := 97) C dJ0_init_db425_38 (by decide) ?_
    refine zV.vret C F dJ0_init_db425_97 rfl ?_
    exact ⟨rfl, strm hk hn ha hu⟩
set_option maxHeartbeats 4000000 in
set_option maxRecDepth 100000 in
theorem s_TstrI {l : Launch} {E : zG} (hzs : zS E) (hst : l.stackTraces = false) (h : zH) (s a : Nat) (o : List Nat) (hk : hK h s = 1) (hn : hN h = s + 1) (ha : a + 1 < s) (hu : zOw h a o) (ho : o.length < 16) : zMet l E yJ0_init_81219 cJ0_init_81219 2 none ({ frames := 4, cells := 1, slots := 16, locals := 130 } : Room) 1 16 [.ref s, .ref a] h (fun r h' => r = none ∧ zHt h' s o ∧ hN h' = s + 2 ∧ ∀ c, c < s → zEq h h' c) (fun _ _ => False) := by
  refine zM_start hzs hst (by decide) (Nat.le_of_ble_eq_true rfl) (fun X C G F I => ?_)
  show zV X 0 0 _ 0 [(0, _), (1, _)] []
  have I := I rfl
  refine zV.aload_n C dJ0_init_81219_0 rfl rfl ?_
  refine zV.aload_n C dJ0_init_81219_1 rfl rfl ?_
  refine zV.null C dJ0_init_81219_2 ?_
  refine zV.callI (n := 2) C G dJ0_init_81219_3 (s_TstrI5 hzs hst h s a o hk hn ha hu ho) rfl ⟨cd_J0_init_db425, lk_J0_489, im_J0_init_db425, in_J0⟩ rfl ⟨⟨by decide, by decide⟩, by decide⟩ rfl rfl rfl (zafRv (fun h9 p9 => ?_)) (zno)
  refine zV.vret C F dJ0_init_81219_6 rfl ?_
  exact ⟨rfl, p9⟩
theorem zOw_e {h h' : zH} {a : Nat} {o : List Nat} (q : zOw h a o) (hn : hN h ≤ hN h') (ea : zEq h h' a) (ev : zEq h h' (a + 1)) : zOw h' a o := ⟨fun lo => zOv_e (q.1 lo) hn ea ev, ev.2.1.trans q.2⟩
set_option maxHeartbeats 4000000 in
set_option maxRecDepth 100000 in
theorem s_TtoS {l : Launch} {E : zG} (hzs : zS E) (hst : l.stackTraces = false) (h : zH) (a : Nat) (o : List Nat) (ha : a + 1 < hN h) (hu : zOw h a o) (ho : o.length < 16) : zMet l E yJ4_toString_0e30d cJ4_toString_0e30d 1 (some (.object "java/lang/String")) ({ frames := 5, cells := 2, slots := 20, locals := 151 } : Room) 2 20 [.ref a] h (fun r h' => r = some (.ref (hN h)) ∧ zHt h' (hN h) o ∧ hN h' = hN h + 2 ∧ ∀ c, c < hN h → zEq h h' c) (fun _ _ => False) := by
  refine zM_start hzs hst (by decide) (Nat.le_of_ble_eq_true rfl) (fun X C G F I => ?_)
  show zV X 0 0 _ 0 [(0, _)] []
  refine zV.new C G dJ4_toString_0e30d_0 zcl_J0 ⟨lk_J4_18, it_J0, in_J0⟩ (by decide) rfl ?_
  refine zV.dup C dJ4_toString_0e30d_3 rfl ?_
  refine zV.aload_n C dJ4_toString_0e30d_4 rfl rfl ?_
  refine zV.callI (n := 1) C G dJ4_toString_0e30d_5 (s_TstrI hzs hst (hNew h 1 0) (hN h) a o hK_newE rfl ha (zOw_e hu (Nat.le_succ _) (zEq_new (by omega)) (zEq_new (by omega))) ho) rfl ⟨cd_J0_init_81219, lk_J4_137, im_J0_init_81219, in_J0⟩ rfl ⟨⟨by decide, by decide⟩, by decide⟩ rfl rfl rfl (zafRv (fun h9 p9 => ?_)) (zno)
  refine zV.aret C F dJ4_toString_0e30d_8 (Or.inl ⟨_, rfl⟩) rfl rfl ?_
  exact ⟨rfl, p9.1, p9.2.1, fun c hc => (zEq_new (by omega)).trans (p9.2.2 c hc)⟩
set_option maxHeartbeats 4000000 in
set_option maxRecDepth 100000 in
theorem s_HisLatin1 {l : Launch} {E : zG} (hzs : zS E) (hst : l.stackTraces = false) (h : zH) (s : Nat) (bs : List Nat) (hs : zHt h s bs) (hl : bs.length < 100) : zMet l E yJ0_isLatin1_aae02 cJ0_isLatin1_aae02 1 (some .boolean) ({ frames := 0, cells := 0, slots := 0, locals := 0 } : Room) 0 0 [.ref s] h (fun r h' => r = some (.int (nI 1)) ∧ h' = h) (fun _ _ => False) := by
  refine zM_start hzs hst (by decide) (Nat.le_of_ble_eq_true rfl) (fun X C G F I => ?_)
  show zV X 0 0 _ 0 [(0, _)] []
  refine zV.gstI C G dJ0_isLatin1_aae02_0 (st_compact hzs) lk_J0_38 ?_
  refine zV.if_eq (tgt := 17) C dJ0_isLatin1_aae02_3 (by decide) (fun q3 => ?_) (fun q3 => ?_)
  · exact absurd q3 (by decide)
  · refine zV.aload_n C dJ0_isLatin1_aae02_6 rfl rfl ?_
    refine zV.gIv 1 (k := 1) C dJ0_isLatin1_aae02_7 zcl_J0 (by decide) rfl lk_J0_15 hs.1 rfl (hs.2.1) ?_
    refine zV.if_ne (tgt := 17) C dJ0_isLatin1_aae02_10 (by decide) (fun q10 => ?_) (fun q10 => ?_)
    · exact absurd rfl q10
    · refine zV.ic (v := nI 1) C dJ0_isLatin1_aae02_13 (by decide) ?_
      refine zV.goto (tgt := 18) C dJ0_isLatin1_aae02_14 (by decide) ?_
      refine zV.zret C F dJ0_isLatin1_aae02_18 rfl rfl ?_
      exact ⟨rfl, rfl⟩
set_option maxHeartbeats 4000000 in
set_option maxRecDepth 100000 in
theorem s_Hcoder {l : Launch} {E : zG} (hzs : zS E) (hst : l.stackTraces = false) (h : zH) (s : Nat) (bs : List Nat) (hs : zHt h s bs) (hl : bs.length < 100) : zMet l E yJ0_coder_7d493 cJ0_coder_7d493 1 (some .byte) ({ frames := 0, cells := 0, slots := 0, locals := 0 } : Room) 0 0 [.ref s] h (fun r h' => r = some (.int (nI 0)) ∧ h' = h) (fun _ _ => False) := by
  refine zM_start hzs hst (by decide) (Nat.le_of_ble_eq_true rfl) (fun X C G F I => ?_)
  show zV X 0 0 _ 0 [(0, _)] []
  refine zV.gstI C G dJ0_coder_7d493_0 (st_compact hzs) lk_J0_38 ?_
  refine zV.if_eq (tgt := 13) C dJ0_coder_7d493_3 (by decide) (fun q3 => ?_) (fun q3 => ?_)
  · exact absurd q3 (by decide)
  · refine zV.aload_n C dJ0_coder_7d493_6 rfl rfl ?_
    refine zV.gIv 1 (k := 1) C dJ0_coder_7d493_7 zcl_J0 (by decide) rfl lk_J0_15 hs.1 rfl (hs.2.1) ?_
    refine zV.goto (tgt := 14) C dJ0_coder_7d493_10 (by decide) ?_
    refine zV.zret C F dJ0_coder_7d493_14 rfl rfl ?_
    exact ⟨rfl, rfl⟩
set_option maxHeartbeats 4000000 in
set_option maxRecDepth 100000 in
theorem s_Hlength {l : Launch} {E : zG} (hzs : zS E) (hst : l.stackTraces = false) (h : zH) (s : Nat) (bs : List Nat) (hs : zHt h s bs) (hl : bs.length < 100) : zMet l E yJ0_length_8abf5 cJ0_length_8abf5 1 (some .int) ({ frames := 1, cells := 0, slots := 0, locals := 20 } : Room) 0 0 [.ref s] h (fun r h' => r = some (.int (nI bs.length)) ∧ h' = h) (fun _ _ => False) := by
  refine zM_start hzs hst (by decide) (Nat.le_of_ble_eq_true rfl) (fun X C G F I => ?_)
  show zV X 0 0 _ 0 [(0, _)] []
  refine zV.aload_n C dJ0_length_8abf5_0 rfl rfl ?_
  refine zV.gR 0 (k := 0) C dJ0_length_8abf5_1 zcl_J0 (by decide) rfl lk_J0_9 hs.1 rfl hs.2.2.1 ?_
  refine zV.alen (t0 := 0) C dJ0_length_8abf5_4 hs.2.2.2.1 (by decide) ?_
  refine zV.aload_n C dJ0_length_8abf5_5 rfl rfl ?_
  refine zV.callV (n := 0) C G dJ0_length_8abf5_6 (s_Hcoder hzs hst h s bs hs hl) rfl ⟨cd_J0_coder_7d493, lk_J0_335, im_J0_coder_7d493, se_J0_J0_coder_7d493, in_J0⟩ ⟨⟨by decide, by decide⟩, by decide⟩ rfl rfl rfl hs.1 ⟨rfl, by decide⟩ (zaf ?_) (zno)
  rw [hs.2.2.2.2.1]
  refine zV.ishr C dJ0_length_8abf5_9 ?_
  rw [shr0 _ (by omega)]
  refine zV.iret C F dJ0_length_8abf5_10 rfl ?_
  exact ⟨rfl, rfl⟩
set_option maxHeartbeats 4000000 in
set_option maxRecDepth 100000 in
theorem s_LcharAtH {l : Launch} {E : zG} (hzs : zS E) (hst : l.stackTraces = false) (h : zH) (s : Nat) (bs : List Nat) (hs : zHt h s bs) (hl : bs.length < 100) (i c : Nat) (hc : bs[i]? = some c) : zMet l E yJ1_charAt_3b067 cJ1_charAt_3b067 2 (some .char) ({ frames := 2, cells := 0, slots := 0, locals := 43 } : Room) 0 0 [.ref (s + 1), .int (nI i)] h (fun r h' => r = some (.int (nI c)) ∧ h' = h) (fun _ _ => False) := by
  refine zM_start hzs hst (by decide) (Nat.le_of_ble_eq_true rfl) (fun X C G F I => ?_)
  show zV X 0 0 _ 0 [(0, _), (1, _)] []
  have hi : i < bs.length := (List.getElem?_eq_some_iff.mp hc).1
  have h128 : c < 128 := (hs.2.2.2.2.2 i c hc).2
  have h5 := hs.2.2.2.2.1
  refine zV.iload_n C dJ1_charAt_3b067_0 rfl ?_
  refine zV.aload_n C dJ1_charAt_3b067_1 rfl rfl ?_
  refine zV.alen (t0 := 0) C dJ1_charAt_3b067_2 hs.2.2.2.1 (by decide) ?_
  rw [h5]
  refine zV.callS (n := 2) C G dJ1_charAt_3b067_3 (s_ScheckIndex hzs hst h i bs.length hi (by omega)) rfl ⟨cd_J0_checkIndex_df160, lk_J1_9, st_J0_checkIndex_df160, in_J0⟩ ⟨⟨by decide, by decide⟩, by decide⟩ rfl rfl rfl (zafv ?_) (zno)
  refine zV.aload_n C dJ1_charAt_3b067_6 rfl rfl ?_
  refine zV.iload_n C dJ1_charAt_3b067_7 rfl ?_
  refine zV.baldv (j := i) C dJ1_charAt_3b067_8 hs.2.2.2.1 (rfl) (by omega) (by omega) ((hs.2.2.2.2.2 i c hc).1) ?_
  refine zV.si (v := nI 255) C dJ1_charAt_3b067_9 (by decide) ?_
  refine zV.iand C dJ1_charAt_3b067_12 ?_
  rw [nI255 c h128]
  refine zV.i2c C dJ1_charAt_3b067_13 ?_
  rw [i2c_c c h128]
  refine zV.zret C F dJ1_charAt_3b067_14 (nar_c c h128).1 rfl ?_
  exact ⟨rfl, rfl⟩
set_option maxHeartbeats 4000000 in
set_option maxRecDepth 100000 in
theorem s_HcharAt {l : Launch} {E : zG} (hzs : zS E) (hst : l.stackTraces = false) (h : zH) (s : Nat) (bs : List Nat) (hs : zHt h s bs) (hl : bs.length < 100) (i c : Nat) (hc : bs[i]? = some c) : zMet l E yJ0_charAt_5068e cJ0_charAt_5068e 2 (some .char) ({ frames := 3, cells := 0, slots := 0, locals := 64 } : Room) 0 0 [.ref s, .int (nI i)] h (fun r h' => r = some (.int (nI c)) ∧ h' = h) (fun _ _ => False) := by
  refine zM_start hzs hst (by decide) (Nat.le_of_ble_eq_true rfl) (fun X C G F I => ?_)
  show zV X 0 0 _ 0 [(0, _), (1, _)] []
  refine zV.aload_n C dJ0_charAt_5068e_0 rfl rfl ?_
  refine zV.callV (n := 0) C G dJ0_charAt_5068e_1 (s_HisLatin1 hzs hst h s bs hs hl) rfl ⟨cd_J0_isLatin1_aae02, lk_J0_492, im_J0_isLatin1_aae02, se_J0_J0_isLatin1_aae02, in_J0⟩ ⟨⟨by decide, by decide⟩, by decide⟩ rfl rfl rfl hs.1 ⟨rfl, by decide⟩ (zaf ?_) (zno)
  refine zV.if_eq (tgt := 16) C dJ0_charAt_5068e_4 (by decide) (fun q4 => ?_) (fun q4 => ?_)
  · exact absurd q4 (by decide)
  · refine zV.aload_n C dJ0_charAt_5068e_7 rfl rfl ?_
    refine zV.gR 0 (k := 0) C dJ0_charAt_5068e_8 zcl_J0 (by decide) rfl lk_J0_9 hs.1 rfl hs.2.2.1 ?_
    refine zV.iload_n C dJ0_charAt_5068e_11 rfl ?_
    refine zV.callS (n := 2) C G dJ0_charAt_5068e_12 (s_LcharAtH hzs hst h s bs hs hl i c hc) rfl ⟨cd_J1_charAt_3b067, lk_J0_495, st_J1_charAt_3b067, in_J1⟩ ⟨⟨by decide, by decide⟩, by decide⟩ rfl rfl rfl (zaf ?_) (zno)
    refine zV.zret C F dJ0_charAt_5068e_15 (nar_c c (hs.2.2.2.2.2 i c hc).2).1 rfl ?_
    exact ⟨rfl, rfl⟩
