/-! ChairMigration: input and commands -/
def aiA (t : List Nat) (x : Int32) : zAn := if x < nI 32 ∨ nI 126 < x then .inl IAE else if t.length < 60 then .inr (.int (nI (t.length + 1))) else .inl ISE
def aiT (t : List Nat) (x : Int32) : List Nat := if x < nI 32 ∨ nI 126 < x then t else if t.length < 60 then t ++ [x.toNatClampNeg] else t
def aiP (h : zH) (a lo : Nat) (x : Int32) (g : zGd) (us : List zGd) (sn : Option zGd) (off rs dt cs : Int32) (t o : List Nat) (h' : zH) : Prop := zXf h h' a lo ∧ zXa h' a lo g us sn off rs dt cs (aiT t x) o
theorem ch_of {x : Int32} (h1 : ¬ x < nI 32) (h2 : x ≤ nI 126) : ∃ c, c ≤ 126 ∧ x = nI c ∧ 32 ≤ c := by
  obtain ⟨c, h3, h4⟩ := nI_of2 (n := 126) (x := x) (by decide) (fun z => h1 (Int32.lt_trans z (by decide))) h2
  subst h4
  exact ⟨c, h3, rfl, nle (by omega) (by decide) (Int32.not_lt.mp h1)⟩
set_option maxHeartbeats 4000000 in
set_option maxRecDepth 100000 in
theorem s_appendInput {l : Launch} {E : zG} (hzs : zS E) (hst : l.stackTraces = false) (h : zH) (a lo : Nat) (x : Int32) (g : zGd) (us : List zGd) (sn : Option zGd) (off rs dt cs : Int32) (t o : List Nat) (q : zXa h a lo g us sn off rs dt cs t o) : zMet l E yX9_appendInput cX9_appendInput 2 (some .int) ({ frames := 6, cells := 1, slots := 6, locals := 95 } : Room) 1 6 [.ref a, .int x] h (sQ9 h (aiA t x) (aiP h a lo x g us sn off rs dt cs t o)) (sX9 h (aiA t x) (aiP h a lo x g us sn off rs dt cs t o)) := by
  refine zM_start hzs hst (by decide) (Nat.le_of_ble_eq_true rfl) (fun X C G F I => ?_)
  show zV X 0 0 _ 0 [(0, _), (1, _)] []
  obtain ⟨hx, ⟨hg, hf, hb⟩, hs, hH, hI, hJ, hin, hou, hn, hlo, hl9⟩ := id q
  refine zV.iload_n C dX9_appendInput_0 rfl ?_
  refine zV.bi (v := nI 32) C dX9_appendInput_1 (by decide) ?_
  refine zV.icmp_lt (tgt := 12) C dX9_appendInput_3 (by decide) (fun q3 => ?_) (fun q3 => ?_)
  · exact zV.throwXW _ C G dX9_appendInput_12 dX9_appendInput_15 dX9_appendInput_16 dX9_appendInput_19 dX9_appendInput_22 hz_iae lk_X9_180 in_java_lang_IllegalArgumentException hs_269 hp_iae zUW rfl (zVX.out C F (⟨if_pos (by first | exact Or.inl q3 | exact Or.inr (Int32.not_le.mp q9)), zXf.refl h a lo, by rw [show aiT t x = t from if_pos (by first | exact Or.inl q3 | exact Or.inr (Int32.not_le.mp q9))]; exact q⟩) ⟨by decide, by decide⟩)
  · refine zV.iload_n C dX9_appendInput_6 rfl ?_
    refine zV.bi (v := nI 126) C dX9_appendInput_7 (by decide) ?_
    refine zV.icmp_le (tgt := 23) C dX9_appendInput_9 (by decide) (fun q9 => ?_) (fun q9 => ?_)
    · have eo : ¬ (x < nI 32 ∨ nI 126 < x) := (fun z => by rcases z with z | z; exact q3 z; exact Int32.not_le.mpr z q9)
      obtain ⟨c, hc2, rfl, hc1⟩ := ch_of q3 q9
      refine zV.aload_n C dX9_appendInput_23 rfl rfl ?_
      refine zV.gR 391 (k := 7) C dX9_appendInput_24 zcl_X9 (by decide) rfl lk_X9_49 (hx.1) rfl (hx.2.2.2.2.2.2.2.2.1) ?_
      refine zV.callV (n := 0) C G dX9_appendInput_27 (s_inFull hzs hst h (a + 264) t hin) rfl ⟨cd_X1_isFull, lk_X9_271, im_X1_isFull, se_X1_X1_isFull, in_X1⟩ ⟨⟨by decide, by decide⟩, by decide⟩ rfl rfl rfl hin.1.1 ⟨rfl, by decide⟩ (zaf ?_) (zno)
      refine zV.if_eq (tgt := 44) C dX9_appendInput_30 (by decide) (fun q30 => ?_) (fun q30 => ?_)
      · have e : t.length < 60 := by
          rcases Nat.lt_or_ge t.length 60 with y | y
          · exact y
          · rw [if_neg (by omega)] at q30; exact absurd q30 (by decide)
        refine zV.aload_n C dX9_appendInput_44 rfl rfl ?_
        refine zV.gR 391 (k := 7) C dX9_appendInput_45 zcl_X9 (by decide) rfl lk_X9_49 (hx.1) rfl (hx.2.2.2.2.2.2.2.2.1) ?_
        refine zV.iload_n C dX9_appendInput_48 rfl ?_
        refine zV.callV (n := 1) C G dX9_appendInput_49 (s_take hzs hst h (a + 264) t c hin e hc1 hc2) rfl ⟨cd_X1_take, lk_X9_279, im_X1_take, se_X1_X1_take, in_X1⟩ ⟨⟨by decide, by decide⟩, by decide⟩ rfl rfl rfl hin.1.1 ⟨rfl, by decide⟩ (zafR (fun h9 ⟨n9, f9⟩ => ?_)) (zno)
        refine zV.iret C F dX9_appendInput_52 rfl ?_
        exact sQ_of ((if_neg eo).trans (if_pos e)) ⟨zXf.q f9 (by omega) (by omega), by rw [show aiT t (nI c) = t ++ [c] from (if_neg eo).trans ((if_pos e).trans (by rw [nI_cl (by omega)]))]; exact zXa_in q f9 n9⟩
      · have e : ¬ t.length < 60 := fun y => q30 (by rw [if_pos y]; rfl)
        exact zV.throwXW _ C G dX9_appendInput_33 dX9_appendInput_36 dX9_appendInput_37 dX9_appendInput_40 dX9_appendInput_43 hz_ise lk_X9_274 in_java_lang_IllegalStateException hs_276 hp_ise zUW rfl (zVX.out C F (⟨(if_neg eo).trans (if_neg e), zXf.refl h a lo, by rw [show aiT t (nI c) = t from (if_neg eo).trans (if_neg e)]; exact q⟩) ⟨by decide, by decide⟩)
    · exact zV.throwXW _ C G dX9_appendInput_12 dX9_appendInput_15 dX9_appendInput_16 dX9_appendInput_19 dX9_appendInput_22 hz_iae lk_X9_180 in_java_lang_IllegalArgumentException hs_269 hp_iae zUW rfl (zVX.out C F (⟨if_pos (by first | exact Or.inl q3 | exact Or.inr (Int32.not_le.mp q9)), zXf.refl h a lo, by rw [show aiT t x = t from if_pos (by first | exact Or.inl q3 | exact Or.inr (Int32.not_le.mp q9))]; exact q⟩) ⟨by decide, by decide⟩)
