/-! the reference: a command carried out -/
theorem isD_12 {d : Nat} (h : isD d) : d = 97 ∨ d = 99 ∨ d = 100 ∨ d = 102 ∨ d = 103 ∨ d = 104 ∨ d = 109 ∨ d = 111 ∨ d = 112 ∨ d = 113 ∨ d = 115 ∨ d = 117 := by
  rcases h with rfl | rfl | rfl | rfl | rfl | rfl | rfl | rfl | rfl | rfl | rfl | rfl <;> decide
set_option maxHeartbeats 4000000 in
set_option maxRecDepth 100000 in
theorem s_mcarries {l : Launch} {E : zG} (hzs : zS E) (hst : l.stackTraces = false) (h : zH) (r m : Nat) (g : zGd) (hm : zMs h r) (hg : rG (aI h (r + 1)) g) (hR : gR m g) (hb : m + 3000 ≤ big) (d a b : Nat) (hd : isD d) (hw : hI h 428 r = nI d) (h0 : aI h (r + 8) 0 = nI a) (h1 : tw d → aI h (r + 8) 1 = nI b) : zMet l E yX10_carries cX10_carries 1 (some .int) ({ frames := 5, cells := 0, slots := 0, locals := 118 } : Room) 0 0 [.ref r] h (opQ h r (jd g d (nI a) (nI b)) (ap g d (nI a) (nI b)).2 (fun f' => rG f' (ap g d (nI a) (nI b)).1)) (fun _ _ => False) := by
  refine zM_start hzs hst (by decide) (Nat.le_of_ble_eq_true rfl) (fun X C G F I => ?_)
  show zV X 0 0 _ 0 [(0, _)] []
  rcases isD_12 hd with rfl | rfl | rfl | rfl | rfl | rfl | rfl | rfl | rfl | rfl | rfl | rfl
  · refine zV.aload_n C dX10_carries_0 rfl rfl ?_
    refine zV.gIv 428 (k := 12) C dX10_carries_1 zcl_X10 (by decide) rfl lk_X10_226 hm.1 rfl (hw) ?_
    refine zV.tIn 252 C dX10_carries_4 (by decide) (by decide) (show _ = some 248 from by rfl) (by decide) ?_
    refine zV.aload_n C dX10_carries_252 rfl rfl ?_
    refine zV.aload_n C dX10_carries_253 rfl rfl ?_
    refine zV.gR 429 (k := 13) C dX10_carries_254 zcl_X10 (by decide) rfl lk_X10_32 (hm.1) rfl (hm.2.2.2.2.2.2.2.2.1) ?_
    refine zV.ic (v := nI 0) C dX10_carries_257 (by decide) ?_
    refine zV.ialdv (j := 0) C dX10_carries_258 (hm.2.2.2.2.2.2.2.2.2.2.2.2.2.2.2.2.1) (rfl) (Nat.lt_of_lt_of_eq (show 0 < 2 by decide) (hm.2.2.2.2.2.2.2.2.2.2.2.2.2.2.2.2.2).symm) (by omega) (h0) ?_
    refine zV.callV (n := 1) C G dX10_carries_259 (s_mstores hzs hst h r m g hm hg hR hb (nI a)) rfl ⟨cd_X10_stores, lk_X10_164, im_X10_stores, se_X10_X10_stores, in_X10⟩ ⟨⟨by decide, by decide⟩, by decide⟩ rfl rfl rfl (hm.1) ⟨rfl, by decide⟩ (zafX (fun v1 H1 q1 => ?_)) (zno)
    rcases q1 with ⟨e1, rfl, f1, rfl, p1⟩ | ⟨e1, rfl, e9⟩ | ⟨e1, rfl, e9⟩ | ⟨e1, rfl, rfl⟩
    · show zV X 0 0 _ 262 _ [.int (nI 0)]
      refine zV.iret C F dX10_carries_262 rfl ?_
      exact Or.inl ⟨e1, rfl, f1, rfl, p1⟩
    · obtain rfl := e9.symm
      show zV X 0 0 _ 262 _ [.int (nI 1)]
      refine zV.iret C F dX10_carries_262 rfl ?_
      exact Or.inr (Or.inl ⟨e1, rfl, rfl⟩)
    · obtain rfl := e9.symm
      show zV X 0 0 _ 262 _ [.int (nI 2)]
      refine zV.iret C F dX10_carries_262 rfl ?_
      exact Or.inr (Or.inr (Or.inl ⟨e1, rfl, rfl⟩))
    · show zV X 0 0 _ 262 _ [.int (-1)]
      refine zV.iret C F dX10_carries_262 rfl ?_
      exact Or.inr (Or.inr (Or.inr ⟨e1, rfl, rfl⟩))
  · refine zV.aload_n C dX10_carries_0 rfl rfl ?_
    refine zV.gIv 428 (k := 12) C dX10_carries_1 zcl_X10 (by decide) rfl lk_X10_226 hm.1 rfl (hw) ?_
    refine zV.tIn 138 C dX10_carries_4 (by decide) (by decide) (show _ = some 134 from by rfl) (by decide) ?_
    refine zV.aload_n C dX10_carries_138 rfl rfl ?_
    refine zV.aload_n C dX10_carries_139 rfl rfl ?_
    refine zV.gR 429 (k := 13) C dX10_carries_140 zcl_X10 (by decide) rfl lk_X10_32 (hm.1) rfl (hm.2.2.2.2.2.2.2.2.1) ?_
    refine zV.ic (v := nI 0) C dX10_carries_143 (by decide) ?_
    refine zV.ialdv (j := 0) C dX10_carries_144 (hm.2.2.2.2.2.2.2.2.2.2.2.2.2.2.2.2.1) (rfl) (Nat.lt_of_lt_of_eq (show 0 < 2 by decide) (hm.2.2.2.2.2.2.2.2.2.2.2.2.2.2.2.2.2).symm) (by omega) (h0) ?_
    refine zV.aload_n C dX10_carries_145 rfl rfl ?_
    refine zV.gR 429 (k := 13) C dX10_carries_146 zcl_X10 (by decide) rfl lk_X10_32 (hm.1) rfl (hm.2.2.2.2.2.2.2.2.1) ?_
    refine zV.ic (v := nI 1) C dX10_carries_149 (by decide) ?_
    refine zV.ialdv (j := 1) C dX10_carries_150 (hm.2.2.2.2.2.2.2.2.2.2.2.2.2.2.2.2.1) (rfl) (Nat.lt_of_lt_of_eq (show 1 < 2 by decide) (hm.2.2.2.2.2.2.2.2.2.2.2.2.2.2.2.2.2).symm) (by omega) ((h1 (by unfold tw; decide))) ?_
    refine zV.callV (n := 2) C G dX10_carries_151 (s_mcomes hzs hst h r m g hm hg hR hb (nI a) (nI b)) rfl ⟨cd_X10_comes, lk_X10_126, im_X10_comes, se_X10_X10_comes, in_X10⟩ ⟨⟨by decide, by decide⟩, by decide⟩ rfl rfl rfl (hm.1) ⟨rfl, by decide⟩ (zafX (fun v1 H1 q1 => ?_)) (zno)
    rcases q1 with ⟨e1, rfl, f1, rfl, p1⟩ | ⟨e1, rfl, e9⟩ | ⟨e1, rfl, e9⟩ | ⟨e1, rfl, rfl⟩
    · show zV X 0 0 _ 154 _ [.int (nI 0)]
      refine zV.iret C F dX10_carries_154 rfl ?_
      exact Or.inl ⟨e1, rfl, f1, rfl, p1⟩
    · obtain rfl := e9.symm
      show zV X 0 0 _ 154 _ [.int (nI 1)]
      refine zV.iret C F dX10_carries_154 rfl ?_
      exact Or.inr (Or.inl ⟨e1, rfl, rfl⟩)
    · obtain rfl := e9.symm
      show zV X 0 0 _ 154 _ [.int (nI 2)]
      refine zV.iret C F dX10_carries_154 rfl ?_
      exact Or.inr (Or.inr (Or.inl ⟨e1, rfl, rfl⟩))
    · show zV X 0 0 _ 154 _ [.int (-1)]
      refine zV.iret C F dX10_carries_154 rfl ?_
      exact Or.inr (Or.inr (Or.inr ⟨e1, rfl, rfl⟩))
  · refine zV.aload_n C dX10_carries_0 rfl rfl ?_
    refine zV.gIv 428 (k := 12) C dX10_carries_1 zcl_X10 (by decide) rfl lk_X10_226 hm.1 rfl (hw) ?_
    refine zV.tIn 263 C dX10_carries_4 (by decide) (by decide) (show _ = some 259 from by rfl) (by decide) ?_
    refine zV.aload_n C dX10_carries_263 rfl rfl ?_
    refine zV.aload_n C dX10_carries_264 rfl rfl ?_
    refine zV.gR 429 (k := 13) C dX10_carries_265 zcl_X10 (by decide) rfl lk_X10_32 (hm.1) rfl (hm.2.2.2.2.2.2.2.2.1) ?_
    refine zV.ic (v := nI 0) C dX10_carries_268 (by decide) ?_
    refine zV.ialdv (j := 0) C dX10_carries_269 (hm.2.2.2.2.2.2.2.2.2.2.2.2.2.2.2.2.1) (rfl) (Nat.lt_of_lt_of_eq (show 0 < 2 by decide) (hm.2.2.2.2.2.2.2.2.2.2.2.2.2.2.2.2.2).symm) (by omega) (h0) ?_
    refine zV.callV (n := 1) C G dX10_carries_270 (s_mpasses hzs hst h r m g hm hg hR hb (nI a)) rfl ⟨cd_X10_passes, lk_X10_173, im_X10_passes, se_X10_X10_passes, in_X10⟩ ⟨⟨by decide, by decide⟩, by decide⟩ rfl rfl rfl (hm.1) ⟨rfl, by decide⟩ (zafX (fun v1 H1 q1 => ?_)) (zno)
    rcases q1 with ⟨e1, rfl, f1, rfl, p1⟩ | ⟨e1, rfl, e9⟩ | ⟨e1, rfl, e9⟩ | ⟨e1, rfl, rfl⟩
    · show zV X 0 0 _ 273 _ [.int (nI 0)]
      refine zV.iret C F dX10_carries_273 rfl ?_
      exact Or.inl ⟨e1, rfl, f1, rfl, p1⟩
    · obtain rfl := e9.symm
      show zV X 0 0 _ 273 _ [.int (nI 1)]
      refine zV.iret C F dX10_carries_273 rfl ?_
      exact Or.inr (Or.inl ⟨e1, rfl, rfl⟩)
    · obtain rfl := e9.symm
      show zV X 0 0 _ 273 _ [.int (nI 2)]
      refine zV.iret C F dX10_carries_273 rfl ?_
      exact Or.inr (Or.inr (Or.inl ⟨e1, rfl, rfl⟩))
    · show zV X 0 0 _ 273 _ [.int (-1)]
      refine zV.iret C F dX10_carries_273 rfl ?_
      exact Or.inr (Or.inr (Or.inr ⟨e1, rfl, rfl⟩))
  · refine zV.aload_n C dX10_carries_0 rfl rfl ?_
    refine zV.gIv 428 (k := 12) C dX10_carries_1 zcl_X10 (by decide) rfl lk_X10_226 hm.1 rfl (hw) ?_
    refine zV.tIn 217 C dX10_carries_4 (by decide) (by decide) (show _ = some 213 from by rfl) (by decide) ?_
    refine zV.aload_n C dX10_carries_217 rfl rfl ?_
    refine zV.aload_n C dX10_carries_218 rfl rfl ?_
    refine zV.gR 429 (k := 13) C dX10_carries_219 zcl_X10 (by decide) rfl lk_X10_32 (hm.1) rfl (hm.2.2.2.2.2.2.2.2.1) ?_
    refine zV.ic (v := nI 0) C dX10_carries_222 (by decide) ?_
    refine zV.ialdv (j := 0) C dX10_carries_223 (hm.2.2.2.2.2.2.2.2.2.2.2.2.2.2.2.2.1) (rfl) (Nat.lt_of_lt_of_eq (show 0 < 2 by decide) (hm.2.2.2.2.2.2.2.2.2.2.2.2.2.2.2.2.2).symm) (by omega) (h0) ?_
    refine zV.ic (v := nI 1) C dX10_carries_224 (by decide) ?_
    refine zV.callV (n := 2) C G dX10_carries_225 (s_mfold1 hzs hst h r m g hm hg hR hb (nI a)) rfl ⟨cd_X10_folds, lk_X10_141, im_X10_folds, se_X10_X10_folds, in_X10⟩ ⟨⟨by decide, by decide⟩, by decide⟩ rfl rfl rfl (hm.1) ⟨rfl, by decide⟩ (zafX (fun v1 H1 q1 => ?_)) (zno)
    rcases q1 with ⟨e1, rfl, f1, rfl, p1⟩ | ⟨e1, rfl, e9⟩ | ⟨e1, rfl, e9⟩ | ⟨e1, rfl, rfl⟩
    · show zV X 0 0 _ 228 _ [.int (nI 0)]
      refine zV.iret C F dX10_carries_228 rfl ?_
      exact Or.inl ⟨e1, rfl, f1, rfl, p1⟩
    · obtain rfl := e9.symm
      show zV X 0 0 _ 228 _ [.int (nI 1)]
      refine zV.iret C F dX10_carries_228 rfl ?_
      exact Or.inr (Or.inl ⟨e1, rfl, rfl⟩)
    · obtain rfl := e9.symm
      show zV X 0 0 _ 228 _ [.int (nI 2)]
      refine zV.iret C F dX10_carries_228 rfl ?_
      exact Or.inr (Or.inr (Or.inl ⟨e1, rfl, rfl⟩))
    · show zV X 0 0 _ 228 _ [.int (-1)]
      refine zV.iret C F dX10_carries_228 rfl ?_
      exact Or.inr (Or.inr (Or.inr ⟨e1, rfl, rfl⟩))
  · refine zV.aload_n C dX10_carries_0 rfl rfl ?_
    refine zV.gIv 428 (k := 12) C dX10_carries_1 zcl_X10 (by decide) rfl lk_X10_226 hm.1 rfl (hw) ?_
    refine zV.tIn 189 C dX10_carries_4 (by decide) (by decide) (show _ = some 185 from by rfl) (by decide) ?_
    refine zV.aload_n C dX10_carries_189 rfl rfl ?_
    refine zV.aload_n C dX10_carries_190 rfl rfl ?_
    refine zV.gR 429 (k := 13) C dX10_carries_191 zcl_X10 (by decide) rfl lk_X10_32 (hm.1) rfl (hm.2.2.2.2.2.2.2.2.1) ?_
    refine zV.ic (v := nI 0) C dX10_carries_194 (by decide) ?_
    refine zV.ialdv (j := 0) C dX10_carries_195 (hm.2.2.2.2.2.2.2.2.2.2.2.2.2.2.2.2.1) (rfl) (Nat.lt_of_lt_of_eq (show 0 < 2 by decide) (hm.2.2.2.2.2.2.2.2.2.2.2.2.2.2.2.2.2).symm) (by omega) (h0) ?_
    refine zV.aload_n C dX10_carries_196 rfl rfl ?_
    refine zV.gR 429 (k := 13) C dX10_carries_197 zcl_X10 (by decide) rfl lk_X10_32 (hm.1) rfl (hm.2.2.2.2.2.2.2.2.1) ?_
    refine zV.ic (v := nI 1) C dX10_carries_200 (by decide) ?_
    refine zV.ialdv (j := 1) C dX10_carries_201 (hm.2.2.2.2.2.2.2.2.2.2.2.2.2.2.2.2.1) (rfl) (Nat.lt_of_lt_of_eq (show 1 < 2 by decide) (hm.2.2.2.2.2.2.2.2.2.2.2.2.2.2.2.2.2).symm) (by omega) ((h1 (by unfold tw; decide))) ?_
    refine zV.callV (n := 2) C G dX10_carries_202 (s_mwanders hzs hst h r m g hm hg hR hb (nI a) (nI b)) rfl ⟨cd_X10_wanders, lk_X10_153, im_X10_wanders, se_X10_X10_wanders, in_X10⟩ ⟨⟨by decide, by decide⟩, by decide⟩ rfl rfl rfl (hm.1) ⟨rfl, by decide⟩ (zafX (fun v1 H1 q1 => ?_)) (zno)
    rcases q1 with ⟨e1, rfl, f1, rfl, p1⟩ | ⟨e1, rfl, e9⟩ | ⟨e1, rfl, e9⟩ | ⟨e1, rfl, rfl⟩
    · show zV X 0 0 _ 205 _ [.int (nI 0)]
      refine zV.iret C F dX10_carries_205 rfl ?_
      exact Or.inl ⟨e1, rfl, f1, rfl, p1⟩
    · obtain rfl := e9.symm
      show zV X 0 0 _ 205 _ [.int (nI 1)]
      refine zV.iret C F dX10_carries_205 rfl ?_
      exact Or.inr (Or.inl ⟨e1, rfl, rfl⟩)
    · obtain rfl := e9.symm
      show zV X 0 0 _ 205 _ [.int (nI 2)]
      refine zV.iret C F dX10_carries_205 rfl ?_
      exact Or.inr (Or.inr (Or.inl ⟨e1, rfl, rfl⟩))
    · show zV X 0 0 _ 205 _ [.int (-1)]
      refine zV.iret C F dX10_carries_205 rfl ?_
      exact Or.inr (Or.inr (Or.inr ⟨e1, rfl, rfl⟩))
  · refine zV.aload_n C dX10_carries_0 rfl rfl ?_
    refine zV.gIv 428 (k := 12) C dX10_carries_1 zcl_X10 (by decide) rfl lk_X10_226 hm.1 rfl (hw) ?_
    refine zV.tIn 155 C dX10_carries_4 (by decide) (by decide) (show _ = some 151 from by rfl) (by decide) ?_
    refine zV.aload_n C dX10_carries_155 rfl rfl ?_
    refine zV.aload_n C dX10_carries_156 rfl rfl ?_
    refine zV.gR 429 (k := 13) C dX10_carries_157 zcl_X10 (by decide) rfl lk_X10_32 (hm.1) rfl (hm.2.2.2.2.2.2.2.2.1) ?_
    refine zV.ic (v := nI 0) C dX10_carries_160 (by decide) ?_
    refine zV.ialdv (j := 0) C dX10_carries_161 (hm.2.2.2.2.2.2.2.2.2.2.2.2.2.2.2.2.1) (rfl) (Nat.lt_of_lt_of_eq (show 0 < 2 by decide) (hm.2.2.2.2.2.2.2.2.2.2.2.2.2.2.2.2.2).symm) (by omega) (h0) ?_
    refine zV.aload_n C dX10_carries_162 rfl rfl ?_
    refine zV.gR 429 (k := 13) C dX10_carries_163 zcl_X10 (by decide) rfl lk_X10_32 (hm.1) rfl (hm.2.2.2.2.2.2.2.2.1) ?_
    refine zV.ic (v := nI 1) C dX10_carries_166 (by decide) ?_
    refine zV.ialdv (j := 1) C dX10_carries_167 (hm.2.2.2.2.2.2.2.2.2.2.2.2.2.2.2.2.1) (rfl) (Nat.lt_of_lt_of_eq (show 1 < 2 by decide) (hm.2.2.2.2.2.2.2.2.2.2.2.2.2.2.2.2.2).symm) (by omega) ((h1 (by unfold tw; decide))) ?_
    refine zV.callV (n := 2) C G dX10_carries_168 (s_mshades hzs hst h r m g hm hg hR hb (nI a) (nI b)) rfl ⟨cd_X10_shades, lk_X10_119, im_X10_shades, se_X10_X10_shades, in_X10⟩ ⟨⟨by decide, by decide⟩, by decide⟩ rfl rfl rfl (hm.1) ⟨rfl, by decide⟩ (zafX (fun v1 H1 q1 => ?_)) (zno)
    rcases q1 with ⟨e1, rfl, f1, rfl, p1⟩ | ⟨e1, rfl, e9⟩ | ⟨e1, rfl, e9⟩ | ⟨e1, rfl, rfl⟩
    · show zV X 0 0 _ 171 _ [.int (nI 0)]
      refine zV.iret C F dX10_carries_171 rfl ?_
      exact Or.inl ⟨e1, rfl, f1, rfl, p1⟩
    · obtain rfl := e9.symm
      show zV X 0 0 _ 171 _ [.int (nI 1)]
      refine zV.iret C F dX10_carries_171 rfl ?_
      exact Or.inr (Or.inl ⟨e1, rfl, rfl⟩)
    · obtain rfl := e9.symm
      show zV X 0 0 _ 171 _ [.int (nI 2)]
      refine zV.iret C F dX10_carries_171 rfl ?_
      exact Or.inr (Or.inr (Or.inl ⟨e1, rfl, rfl⟩))
    · show zV X 0 0 _ 171 _ [.int (-1)]
      refine zV.iret C F dX10_carries_171 rfl ?_
      exact Or.inr (Or.inr (Or.inr ⟨e1, rfl, rfl⟩))
  · refine zV.aload_n C dX10_carries_0 rfl rfl ?_
    refine zV.gIv 428 (k := 12) C dX10_carries_1 zcl_X10 (by decide) rfl lk_X10_226 hm.1 rfl (hw) ?_
    refine zV.tIn 172 C dX10_carries_4 (by decide) (by decide) (show _ = some 168 from by rfl) (by decide) ?_
    refine zV.aload_n C dX10_carries_172 rfl rfl ?_
    refine zV.aload_n C dX10_carries_173 rfl rfl ?_
    refine zV.gR 429 (k := 13) C dX10_carries_174 zcl_X10 (by decide) rfl lk_X10_32 (hm.1) rfl (hm.2.2.2.2.2.2.2.2.1) ?_
    refine zV.ic (v := nI 0) C dX10_carries_177 (by decide) ?_
    refine zV.ialdv (j := 0) C dX10_carries_178 (hm.2.2.2.2.2.2.2.2.2.2.2.2.2.2.2.2.1) (rfl) (Nat.lt_of_lt_of_eq (show 0 < 2 by decide) (hm.2.2.2.2.2.2.2.2.2.2.2.2.2.2.2.2.2).symm) (by omega) (h0) ?_
    refine zV.aload_n C dX10_carries_179 rfl rfl ?_
    refine zV.gR 429 (k := 13) C dX10_carries_180 zcl_X10 (by decide) rfl lk_X10_32 (hm.1) rfl (hm.2.2.2.2.2.2.2.2.1) ?_
    refine zV.ic (v := nI 1) C dX10_carries_183 (by decide) ?_
    refine zV.ialdv (j := 1) C dX10_carries_184 (hm.2.2.2.2.2.2.2.2.2.2.2.2.2.2.2.2.1) (rfl) (Nat.lt_of_lt_of_eq (show 1 < 2 by decide) (hm.2.2.2.2.2.2.2.2.2.2.2.2.2.2.2.2.2).symm) (by omega) ((h1 (by unfold tw; decide))) ?_
    refine zV.callV (n := 2) C G dX10_carries_185 (s_mmoves hzs hst h r m g hm hg hR hb (nI a) (nI b)) rfl ⟨cd_X10_moves, lk_X10_144, im_X10_moves, se_X10_X10_moves, in_X10⟩ ⟨⟨by decide, by decide⟩, by decide⟩ rfl rfl rfl (hm.1) ⟨rfl, by decide⟩ (zafX (fun v1 H1 q1 => ?_)) (zno)
    rcases q1 with ⟨e1, rfl, f1, rfl, p1⟩ | ⟨e1, rfl, e9⟩ | ⟨e1, rfl, e9⟩ | ⟨e1, rfl, rfl⟩
    · show zV X 0 0 _ 188 _ [.int (nI 0)]
      refine zV.iret C F dX10_carries_188 rfl ?_
      exact Or.inl ⟨e1, rfl, f1, rfl, p1⟩
    · obtain rfl := e9.symm
      show zV X 0 0 _ 188 _ [.int (nI 1)]
      refine zV.iret C F dX10_carries_188 rfl ?_
      exact Or.inr (Or.inl ⟨e1, rfl, rfl⟩)
    · obtain rfl := e9.symm
      show zV X 0 0 _ 188 _ [.int (nI 2)]
      refine zV.iret C F dX10_carries_188 rfl ?_
      exact Or.inr (Or.inr (Or.inl ⟨e1, rfl, rfl⟩))
    · show zV X 0 0 _ 188 _ [.int (-1)]
      refine zV.iret C F dX10_carries_188 rfl ?_
      exact Or.inr (Or.inr (Or.inr ⟨e1, rfl, rfl⟩))
  · refine zV.aload_n C dX10_carries_0 rfl rfl ?_
    refine zV.gIv 428 (k := 12) C dX10_carries_1 zcl_X10 (by decide) rfl lk_X10_226 hm.1 rfl (hw) ?_
    refine zV.tIn 241 C dX10_carries_4 (by decide) (by decide) (show _ = some 237 from by rfl) (by decide) ?_
    refine zV.aload_n C dX10_carries_241 rfl rfl ?_
    refine zV.aload_n C dX10_carries_242 rfl rfl ?_
    refine zV.gR 429 (k := 13) C dX10_carries_243 zcl_X10 (by decide) rfl lk_X10_32 (hm.1) rfl (hm.2.2.2.2.2.2.2.2.1) ?_
    refine zV.ic (v := nI 0) C dX10_carries_246 (by decide) ?_
    refine zV.ialdv (j := 0) C dX10_carries_247 (hm.2.2.2.2.2.2.2.2.2.2.2.2.2.2.2.2.1) (rfl) (Nat.lt_of_lt_of_eq (show 0 < 2 by decide) (hm.2.2.2.2.2.2.2.2.2.2.2.2.2.2.2.2.2).symm) (by omega) (h0) ?_
    refine zV.callV (n := 1) C G dX10_carries_248 (s_moils hzs hst h r m g hm hg hR hb (nI a)) rfl ⟨cd_X10_oils, lk_X10_161, im_X10_oils, se_X10_X10_oils, in_X10⟩ ⟨⟨by decide, by decide⟩, by decide⟩ rfl rfl rfl (hm.1) ⟨rfl, by decide⟩ (zafX (fun v1 H1 q1 => ?_)) (zno)
    rcases q1 with ⟨e1, rfl, f1, rfl, p1⟩ | ⟨e1, rfl, e9⟩ | ⟨e1, rfl, e9⟩ | ⟨e1, rfl, rfl⟩
    · show zV X 0 0 _ 251 _ [.int (nI 0)]
      refine zV.iret C F dX10_carries_251 rfl ?_
      exact Or.inl ⟨e1, rfl, f1, rfl, p1⟩
    · obtain rfl := e9.symm
      show zV X 0 0 _ 251 _ [.int (nI 1)]
      refine zV.iret C F dX10_carries_251 rfl ?_
      exact Or.inr (Or.inl ⟨e1, rfl, rfl⟩)
    · obtain rfl := e9.symm
      show zV X 0 0 _ 251 _ [.int (nI 2)]
      refine zV.iret C F dX10_carries_251 rfl ?_
      exact Or.inr (Or.inr (Or.inl ⟨e1, rfl, rfl⟩))
    · show zV X 0 0 _ 251 _ [.int (-1)]
      refine zV.iret C F dX10_carries_251 rfl ?_
      exact Or.inr (Or.inr (Or.inr ⟨e1, rfl, rfl⟩))
  · refine zV.aload_n C dX10_carries_0 rfl rfl ?_
    refine zV.gIv 428 (k := 12) C dX10_carries_1 zcl_X10 (by decide) rfl lk_X10_226 hm.1 rfl (hw) ?_
    refine zV.tIn 104 C dX10_carries_4 (by decide) (by decide) (show _ = some 100 from by rfl) (by decide) ?_
    refine zV.aload_n C dX10_carries_104 rfl rfl ?_
    refine zV.aload_n C dX10_carries_105 rfl rfl ?_
    refine zV.gR 429 (k := 13) C dX10_carries_106 zcl_X10 (by decide) rfl lk_X10_32 (hm.1) rfl (hm.2.2.2.2.2.2.2.2.1) ?_
    refine zV.ic (v := nI 0) C dX10_carries_109 (by decide) ?_
    refine zV.ialdv (j := 0) C dX10_carries_110 (hm.2.2.2.2.2.2.2.2.2.2.2.2.2.2.2.2.1) (rfl) (Nat.lt_of_lt_of_eq (show 0 < 2 by decide) (hm.2.2.2.2.2.2.2.2.2.2.2.2.2.2.2.2.2).symm) (by omega) (h0) ?_
    refine zV.aload_n C dX10_carries_111 rfl rfl ?_
    refine zV.gR 429 (k := 13) C dX10_carries_112 zcl_X10 (by decide) rfl lk_X10_32 (hm.1) rfl (hm.2.2.2.2.2.2.2.2.1) ?_
    refine zV.ic (v := nI 1) C dX10_carries_115 (by decide) ?_
    refine zV.ialdv (j := 1) C dX10_carries_116 (hm.2.2.2.2.2.2.2.2.2.2.2.2.2.2.2.2.1) (rfl) (Nat.lt_of_lt_of_eq (show 1 < 2 by decide) (hm.2.2.2.2.2.2.2.2.2.2.2.2.2.2.2.2.2).symm) (by omega) ((h1 (by unfold tw; decide))) ?_
    refine zV.callV (n := 2) C G dX10_carries_117 (s_mpaves hzs hst h r m g hm hg hR hb (nI a) (nI b)) rfl ⟨cd_X10_paves, lk_X10_106, im_X10_paves, se_X10_X10_paves, in_X10⟩ ⟨⟨by decide, by decide⟩, by decide⟩ rfl rfl rfl (hm.1) ⟨rfl, by decide⟩ (zafX (fun v1 H1 q1 => ?_)) (zno)
    rcases q1 with ⟨e1, rfl, f1, rfl, p1⟩ | ⟨e1, rfl, e9⟩ | ⟨e1, rfl, e9⟩ | ⟨e1, rfl, rfl⟩
    · show zV X 0 0 _ 120 _ [.int (nI 0)]
      refine zV.iret C F dX10_carries_120 rfl ?_
      exact Or.inl ⟨e1, rfl, f1, rfl, p1⟩
    · obtain rfl := e9.symm
      show zV X 0 0 _ 120 _ [.int (nI 1)]
      refine zV.iret C F dX10_carries_120 rfl ?_
      exact Or.inr (Or.inl ⟨e1, rfl, rfl⟩)
    · obtain rfl := e9.symm
      show zV X 0 0 _ 120 _ [.int (nI 2)]
      refine zV.iret C F dX10_carries_120 rfl ?_
      exact Or.inr (Or.inr (Or.inl ⟨e1, rfl, rfl⟩))
    · show zV X 0 0 _ 120 _ [.int (-1)]
      refine zV.iret C F dX10_carries_120 rfl ?_
      exact Or.inr (Or.inr (Or.inr ⟨e1, rfl, rfl⟩))
  · refine zV.aload_n C dX10_carries_0 rfl rfl ?_
    refine zV.gIv 428 (k := 12) C dX10_carries_1 zcl_X10 (by decide) rfl lk_X10_226 hm.1 rfl (hw) ?_
    refine zV.tIn 121 C dX10_carries_4 (by decide) (by decide) (show _ = some 117 from by rfl) (by decide) ?_
    refine zV.aload_n C dX10_carries_121 rfl rfl ?_
    refine zV.aload_n C dX10_carries_122 rfl rfl ?_
    refine zV.gR 429 (k := 13) C dX10_carries_123 zcl_X10 (by decide) rfl lk_X10_32 (hm.1) rfl (hm.2.2.2.2.2.2.2.2.1) ?_
    refine zV.ic (v := nI 0) C dX10_carries_126 (by decide) ?_
    refine zV.ialdv (j := 0) C dX10_carries_127 (hm.2.2.2.2.2.2.2.2.2.2.2.2.2.2.2.2.1) (rfl) (Nat.lt_of_lt_of_eq (show 0 < 2 by decide) (hm.2.2.2.2.2.2.2.2.2.2.2.2.2.2.2.2.2).symm) (by omega) (h0) ?_
    refine zV.aload_n C dX10_carries_128 rfl rfl ?_
    refine zV.gR 429 (k := 13) C dX10_carries_129 zcl_X10 (by decide) rfl lk_X10_32 (hm.1) rfl (hm.2.2.2.2.2.2.2.2.1) ?_
    refine zV.ic (v := nI 1) C dX10_carries_132 (by decide) ?_
    refine zV.ialdv (j := 1) C dX10_carries_133 (hm.2.2.2.2.2.2.2.2.2.2.2.2.2.2.2.2.1) (rfl) (Nat.lt_of_lt_of_eq (show 1 < 2 by decide) (hm.2.2.2.2.2.2.2.2.2.2.2.2.2.2.2.2.2).symm) (by omega) ((h1 (by unfold tw; decide))) ?_
    refine zV.callV (n := 2) C G dX10_carries_134 (s_mdigs hzs hst h r m g hm hg hR hb (nI a) (nI b)) rfl ⟨cd_X10_digs, lk_X10_116, im_X10_digs, se_X10_X10_digs, in_X10⟩ ⟨⟨by decide, by decide⟩, by decide⟩ rfl rfl rfl (hm.1) ⟨rfl, by decide⟩ (zafX (fun v1 H1 q1 => ?_)) (zno)
    rcases q1 with ⟨e1, rfl, f1, rfl, p1⟩ | ⟨e1, rfl, e9⟩ | ⟨e1, rfl, e9⟩ | ⟨e1, rfl, rfl⟩
    · show zV X 0 0 _ 137 _ [.int (nI 0)]
      refine zV.iret C F dX10_carries_137 rfl ?_
      exact Or.inl ⟨e1, rfl, f1, rfl, p1⟩
    · obtain rfl := e9.symm
      show zV X 0 0 _ 137 _ [.int (nI 1)]
      refine zV.iret C F dX10_carries_137 rfl ?_
      exact Or.inr (Or.inl ⟨e1, rfl, rfl⟩)
    · obtain rfl := e9.symm
      show zV X 0 0 _ 137 _ [.int (nI 2)]
      refine zV.iret C F dX10_carries_137 rfl ?_
      exact Or.inr (Or.inr (Or.inl ⟨e1, rfl, rfl⟩))
    · show zV X 0 0 _ 137 _ [.int (-1)]
      refine zV.iret C F dX10_carries_137 rfl ?_
      exact Or.inr (Or.inr (Or.inr ⟨e1, rfl, rfl⟩))
  · refine zV.aload_n C dX10_carries_0 rfl rfl ?_
    refine zV.gIv 428 (k := 12) C dX10_carries_1 zcl_X10 (by decide) rfl lk_X10_226 hm.1 rfl (hw) ?_
    refine zV.tIn 206 C dX10_carries_4 (by decide) (by decide) (show _ = some 202 from by rfl) (by decide) ?_
    refine zV.aload_n C dX10_carries_206 rfl rfl ?_
    refine zV.aload_n C dX10_carries_207 rfl rfl ?_
    refine zV.gR 429 (k := 13) C dX10_carries_208 zcl_X10 (by decide) rfl lk_X10_32 (hm.1) rfl (hm.2.2.2.2.2.2.2.2.1) ?_
    refine zV.ic (v := nI 0) C dX10_carries_211 (by decide) ?_
    refine zV.ialdv (j := 0) C dX10_carries_212 (hm.2.2.2.2.2.2.2.2.2.2.2.2.2.2.2.2.1) (rfl) (Nat.lt_of_lt_of_eq (show 0 < 2 by decide) (hm.2.2.2.2.2.2.2.2.2.2.2.2.2.2.2.2.2).symm) (by omega) (h0) ?_
    refine zV.callV (n := 1) C G dX10_carries_213 (s_mscraps hzs hst h r m g hm hg hR hb (nI a)) rfl ⟨cd_X10_scraps, lk_X10_135, im_X10_scraps, se_X10_X10_scraps, in_X10⟩ ⟨⟨by decide, by decide⟩, by decide⟩ rfl rfl rfl (hm.1) ⟨rfl, by decide⟩ (zafX (fun v1 H1 q1 => ?_)) (zno)
    rcases q1 with ⟨e1, rfl, f1, rfl, p1⟩ | ⟨e1, rfl, e9⟩ | ⟨e1, rfl, e9⟩ | ⟨e1, rfl, rfl⟩
    · show zV X 0 0 _ 216 _ [.int (nI 0)]
      refine zV.iret C F dX10_carries_216 rfl ?_
      exact Or.inl ⟨e1, rfl, f1, rfl, p1⟩
    · obtain rfl := e9.symm
      show zV X 0 0 _ 216 _ [.int (nI 1)]
      refine zV.iret C F dX10_carries_216 rfl ?_
      exact Or.inr (Or.inl ⟨e1, rfl, rfl⟩)
    · obtain rfl := e9.symm
      show zV X 0 0 _ 216 _ [.int (nI 2)]
      refine zV.iret C F dX10_carries_216 rfl ?_
      exact Or.inr (Or.inr (Or.inl ⟨e1, rfl, rfl⟩))
    · show zV X 0 0 _ 216 _ [.int (-1)]
      refine zV.iret C F dX10_carries_216 rfl ?_
      exact Or.inr (Or.inr (Or.inr ⟨e1, rfl, rfl⟩))
  · refine zV.aload_n C dX10_carries_0 rfl rfl ?_
    refine zV.gIv 428 (k := 12) C dX10_carries_1 zcl_X10 (by decide) rfl lk_X10_226 hm.1 rfl (hw) ?_
    refine zV.tIn 229 C dX10_carries_4 (by decide) (by decide) (show _ = some 225 from by rfl) (by decide) ?_
    refine zV.aload_n C dX10_carries_229 rfl rfl ?_
    refine zV.aload_n C dX10_carries_230 rfl rfl ?_
    refine zV.gR 429 (k := 13) C dX10_carries_231 zcl_X10 (by decide) rfl lk_X10_32 (hm.1) rfl (hm.2.2.2.2.2.2.2.2.1) ?_
    refine zV.ic (v := nI 0) C dX10_carries_234 (by decide) ?_
    refine zV.ialdv (j := 0) C dX10_carries_235 (hm.2.2.2.2.2.2.2.2.2.2.2.2.2.2.2.2.1) (rfl) (Nat.lt_of_lt_of_eq (show 0 < 2 by decide) (hm.2.2.2.2.2.2.2.2.2.2.2.2.2.2.2.2.2).symm) (by omega) (h0) ?_
    refine zV.ic (v := nI 0) C dX10_carries_236 (by decide) ?_
    refine zV.callV (n := 2) C G dX10_carries_237 (s_mfold0 hzs hst h r m g hm hg hR hb (nI a)) rfl ⟨cd_X10_folds, lk_X10_141, im_X10_folds, se_X10_X10_folds, in_X10⟩ ⟨⟨by decide, by decide⟩, by decide⟩ rfl rfl rfl (hm.1) ⟨rfl, by decide⟩ (zafX (fun v1 H1 q1 => ?_)) (zno)
    rcases q1 with ⟨e1, rfl, f1, rfl, p1⟩ | ⟨e1, rfl, e9⟩ | ⟨e1, rfl, e9⟩ | ⟨e1, rfl, rfl⟩
    · show zV X 0 0 _ 240 _ [.int (nI 0)]
      refine zV.iret C F dX10_carries_240 rfl ?_
      exact Or.inl ⟨e1, rfl, f1, rfl, p1⟩
    · obtain rfl := e9.symm
      show zV X 0 0 _ 240 _ [.int (nI 1)]
      refine zV.iret C F dX10_carries_240 rfl ?_
      exact Or.inr (Or.inl ⟨e1, rfl, rfl⟩)
    · obtain rfl := e9.symm
      show zV X 0 0 _ 240 _ [.int (nI 2)]
      refine zV.iret C F dX10_carries_240 rfl ?_
      exact Or.inr (Or.inr (Or.inl ⟨e1, rfl, rfl⟩))
    · show zV X 0 0 _ 240 _ [.int (-1)]
      refine zV.iret C F dX10_carries_240 rfl ?_
      exact Or.inr (Or.inr (Or.inr ⟨e1, rfl, rfl⟩))
