/-! the law: all that is asked of a garden, as a number of it -/
theorem zafD {X : zX} {kc ks : Nat} {pc : Nat} {lo : List (Nat × Value)} {rest : List Value} {n : Nat} {A : zAn} {h2 : zH} (k : zV X kc ks h2 pc lo (.double (anD A) :: rest)) : ∀ (r : Option Value) (h' : zH), lwRD A (fun h' => h' = h2) r h' → n ≤ hN h' → zV X kc ks h' pc lo (r.toList ++ rest) := fun r h' q _ => by
  obtain ⟨rfl, rfl⟩ := q
  exact k
theorem zafF {X : zX} {kc ks : Nat} {pc : Nat} {lo : List (Nat × Value)} {rest : List Value} {n : Nat} {A : zAn} {h2 : zH} (k : zV X kc ks h2 pc lo (.float (anF A) :: rest)) : ∀ (r : Option Value) (h' : zH), lwRF A (fun h' => h' = h2) r h' → n ≤ hN h' → zV X kc ks h' pc lo (r.toList ++ rest) := fun r h' q _ => by
  obtain ⟨rfl, rfl⟩ := q
  exact k
def aDq (g : zGd) (l q : Nat) : Int64 := (anI (q_distance g (nI l) (nI q)) (fun Ex => if Ex = IOB then -1001 else -1002)).toInt64
def aDs (g : zGd) (l : Nat) : Nat → Nat → Int64 → Int64
  | 0, _, s => s
  | n + 1, q, s => aDs g l n (q + 1) (31 * s + aDq g l q)
def aTx : List Nat → Int64 → Int64
  | [], s => s
  | c :: cs, s => aTx cs (31 * s + (nI c).toInt64)
def aHd (g : zGd) (l : Nat) (s : Int64) : Int64 := 31 * (31 * (31 * s + (anI (q_elder g (nI l)) (fun Ex => if Ex = IOB then -1001 else -1002)).toInt64) + (anI (q_bestNeighbour g (nI l)) (fun Ex => if Ex = IOB then -1001 else -1002)).toInt64) + (anI (q_byShade g (nI l)) (fun _ => -1001)).toInt64
def aLw (g : zGd) : Nat → Nat → Int64 → Int64
  | 0, _, s => s
  | n + 1, l, s => aLw g n (l + 1) (aTx (wl g l) (aDs g l l 0 (aHd g l s)))
def aBr (g : zGd) (k : Nat) : Int32 := anI (q_byRust g (nI k)) (fun _ => -1001)
def aCh (g : zGd) : Nat → Nat → Int64 → Int64
  | 0, _, s => s
  | n + 1, k, s => aCh g n (k + 1) (31 * (31 * s + (aBr g k).toInt64) + (anI (q_age g (aBr g k)) (fun _ => -1001)).toInt64)
def aS0 (g : zGd) : Int64 := 31 * (anD (q_meanRust g)).toInt64 + (anF (q_foldedShare g)).toInt32.toInt64
def aS1 (g : zGd) : Int64 := 31 * (31 * (31 * (31 * (31 * aS0 g + (nI (gC g).length).toInt64) + (nI (gP g)).toInt64) + (nI (gD g)).toInt64) + (nI (gO g)).toInt64) + (nI (gF g)).toInt64
def aS2 (g : zGd) : Int64 := 31 * (31 * (31 * aS1 g + (nI (gU g)).toInt64) + (nI (gM g)).toInt64) + (nI (gZ g)).toInt64
def aS3 (g : zGd) : Int64 := 31 * aS2 g + (anI (q_wouldCollapse g (nI 20)) (fun _ => -1001)).toInt64
/-- what asks answers -/
def askF (g : zGd) : Int64 := aCh g (gC g).length 0 (aLw g 6 0 (aS3 g))
theorem mr_ok {g : zGd} (hw : gW g) : Op.cmpValue (FP.dcmp (anD (q_meanRust g)) (anD (q_meanRust g))) .l = 0 := by
  unfold q_meanRust mrA
  split
  · decide +kernel
  · rename_i ne
    exact vdq _ (Nat.lt_succ_of_le (gW_len hw)) (fun z => ne (List.length_eq_zero_iff.mp z)) _ (rsum_b hw)
theorem fs_ok {g : zGd} (hw : gW g) : Op.cmpValue (FP.fcmp (anF (q_foldedShare g)) (anF (q_foldedShare g))) .l = 0 := by
  unfold q_foldedShare fsA
  split
  · decide +kernel
  · rename_i ne
    exact vfq2 _ (Nat.lt_succ_of_le (gW_len hw)) (fun z => ne (List.length_eq_zero_iff.mp z)) _ (Nat.lt_succ_of_le (Nat.le_trans List.countP_le_length (gW_len hw)))
theorem ou_v {o : List Nat} {i c : Nat} {cf : String → Int32} (hc : o[i]? = some c) (hi : i < 2 ^ 31) : anI (ouA o (nI i)) cf = nI c := by
  unfold ouA
  rw [if_neg (nI_pos hi), nI_cl hi, hc]; rfl
theorem wl_v {g : zGd} {l : Nat} {cf : String → Int32} (h : l < 6) : anI (wlA g (nI l)) cf = nI (wl g l).length := by
  unfold wlA lawA
  rw [ln_n l h]; rfl
theorem wlC_le {K l : Nat} : ∀ {cs : List zCh}, (∀ c ∈ cs, (wlc c).length ≤ K) → (wlC l cs).length ≤ K * hsz cs l
  | [], _ => Nat.zero_le _
  | c :: cs, h => by
    have ih := wlC_le (K := K) (l := l) (cs := cs) (fun d hd => h d (List.mem_cons_of_mem _ hd))
    have h1 := h c List.mem_cons_self
    rw [hsz_cons, wlC, List.length_append]
    by_cases e : chL c = l
    · rw [if_pos e, if_pos e, Nat.mul_add]; omega
    · rw [if_neg e, if_neg e]; simpa using ih
theorem wl_le {K l : Nat} {g : zGd} (hw : gW g) (hl : l < 6) (h5 : hsz (gC g) l ≤ 5) (hK : ∀ c ∈ gC g, (wlc c).length ≤ K) : (wl g l).length ≤ 4 + K * 5 := by
  have a1 := wlC_le (l := l) hK
  have a2 := dcs_le 0 l (by omega)
  have a3 := dcs_le 1 (gS g l) (by have := hw.2.2.2.1 l hl; omega)
  have a4 : K * hsz (gC g) l ≤ K * 5 := Nat.mul_le_mul_left _ h5
  unfold wl
  simp only [List.length_append, List.length_cons, List.length_nil]
  omega
theorem wl_80 {g : zGd} {l : Nat} (hw : gW g) (hX : gX g ≤ 100000000) (h5 : hsz (gC g) l ≤ 5) (hl : l < 6) : (wl g l).length ≤ 80 := by
  refine Nat.le_trans (wl_le hw hl h5 (fun c hc => ?_) (K := 13)) (by decide)
  have := hw.1 c hc
  exact wlc_le (by omega) this.2.2.1
theorem out_e {g : zGd} {n l : Nat} {o : List Nat} (h : l + (n + 1) = 6) : (if n = 0 then wl g l else wl g 5) = (if n + 1 = 0 then o else wl g 5) := by
  rw [if_neg (Nat.succ_ne_zero n)]
  by_cases z : n = 0
  · rw [if_pos z, show l = 5 by omega]
  · rw [if_neg z]
theorem wl_o {g : zGd} {l : Nat} {o : List Nat} (h : l < 6) : wlO g (nI l) o = wl g l := by
  unfold wlO
  rw [ln_n l h]
set_option maxHeartbeats 4000000 in
set_option maxRecDepth 100000 in
theorem L_askD {X : zX} {l : Launch} {E : zG} {rm : Room} (hzs : zS E) (hst : l.stackTraces = false) (C : zC X cL_asks RL 7) (G : zGX X l E rm)  {h : zH} {a lo : Nat} {g : zGd} {us : List zGd} {sn : Option zGd} {off rs dt cs : Int32} {t o : List Nat} {N : Int32} {K KS : Nat} (hr : rm = ({ frames := 9, cells := 1000, slots := 40000, locals := 215 } : Room)) (hw : gW g) (q : zXa h a lo g us sn off rs dt cs t o) (hK : K ≤ 1000) (hKS : KS ≤ 40000) {l : Nat} (hl : l < 6) : ∀ n p s kc ks, p + n = l → kc + 3 * n ≤ K → ks + 18 * n ≤ KS → zV X K KS h 201 [(0, .ref a), (1, .int N), (2, .long (aDs g l n p s)), (4, .int (nI l)), (5, .int (nI l))] [] → zV X kc ks h 172 [(0, .ref a), (1, .int N), (2, .long s), (4, .int (nI l)), (5, .int (nI p))] [] := by
  subst hr
  intro n
  induction n with
  | zero =>
    intro p s kc ks hp h1 h2 kk
    obtain rfl : p = l := by omega
    refine zV.iload C dL_asks_172 rfl ?_
    refine zV.iload C dL_asks_174 rfl ?_
    refine zV.icmp_ge (tgt := 201) C dL_asks_176 (by decide) (fun q176 => ?_) (fun q176 => ?_)
    · exact zV.up (by omega) (by omega) kk
    · exact absurd (nI_le (Nat.le_refl _) (by omega)) q176
  | succ n ih =>
    intro p s kc ks hp h1 h2 kk
    refine zV.iload C dL_asks_172 rfl ?_
    refine zV.iload C dL_asks_174 rfl ?_
    refine zV.icmp_ge (tgt := 201) C dL_asks_176 (by decide) (fun q176 => ?_) (fun q176 => ?_)
    · exact absurd (nle (by omega) (by omega) q176) (by omega)
    · refine zV.ldcL C dL_asks_179 co_L_225 ?_
      refine zV.lload_n C dL_asks_182 rfl ?_
      refine zV.lmul C dL_asks_183 ?_
      refine zV.aload_n C dL_asks_184 rfl rfl ?_
      refine zV.iload C dL_asks_185 rfl ?_
      refine zV.iload C dL_asks_187 rfl ?_
      refine zV.callSW (n := 3) C G dL_asks_189 (w_distance hzs hst q hw _ _) rfl ⟨cd_L_distance, lk_L_276, st_L_distance, in_L⟩ ⟨⟨by decide, by decide⟩, by decide⟩ rfl (zRm_v 1000 40000 rfl rfl rfl (by omega) (by omega)) rfl (zafQ ?_) (zno)
      refine zV.i2l C dL_asks_192 ?_
      refine zV.ladd C dL_asks_193 ?_
      refine zV.lstore_n (lo' := [(0, _), (1, _), (2, _), (4, _), (5, _)]) C dL_asks_194 (by decide) rfl rfl rfl ?_
      refine zV.kinc (lo' := [(0, _), (1, _), (2, _), (4, _), (5, _)]) C dL_asks_195 rfl (by decide) rfl rfl rfl ?_
      refine zV.goto (tgt := 172) C dL_asks_198 (by decide) ?_
      rw [show nI p + Int32.ofInt 1 = nI (p + 1) from nI_add p 1]
      exact ih (p + 1) _ _ _ (by omega) (by omega) (by omega) kk
set_option maxHeartbeats 4000000 in
set_option maxRecDepth 100000 in
theorem L_askT {X : zX} {l : Launch} {E : zG} {rm : Room} (hzs : zS E) (hst : l.stackTraces = false) (C : zC X cL_asks RL 7) (G : zGX X l E rm)  {h : zH} {a lo : Nat} {g : zGd} {us : List zGd} {sn : Option zGd} {off rs dt cs : Int32} {t o : List Nat} {N : Int32} {K KS : Nat} (hr : rm = ({ frames := 9, cells := 1000, slots := 40000, locals := 215 } : Room)) (hw : gW g) (q : zXa h a lo g us sn off rs dt cs t o) (hK : K ≤ 1000) (hKS : KS ≤ 40000) {l : Nat} (hol : o.length ≤ 200) : ∀ rest i s kc ks, o.drop i = rest → i ≤ o.length → kc + rest.length ≤ K → ks + 6 * rest.length ≤ KS → zV X K KS h 239 [(0, .ref a), (1, .int N), (2, .long (aTx rest s)), (4, .int (nI l)), (5, .int (nI o.length)), (6, .int (nI o.length))] [] → zV X kc ks h 212 [(0, .ref a), (1, .int N), (2, .long s), (4, .int (nI l)), (5, .int (nI o.length)), (6, .int (nI i))] [] := by
  subst hr
  intro rest
  induction rest with
  | nil =>
    intro i s kc ks hd hi h1 h2 kk
    obtain rfl : i = o.length := by have := congrArg List.length hd; rw [List.length_drop, List.length_nil] at this; omega
    refine zV.iload C dL_asks_212 rfl ?_
    refine zV.iload C dL_asks_214 rfl ?_
    refine zV.icmp_ge (tgt := 239) C dL_asks_216 (by decide) (fun q216 => ?_) (fun q216 => ?_)
    · exact zV.up (by omega) (by omega) kk
    · exact absurd (nI_le (Nat.le_refl _) (by omega)) q216
  | cons c rest ih =>
    intro i s kc ks hd hi h1 h2 kk
    have hil : i < o.length := by have := congrArg List.length hd; rw [List.length_drop, List.length_cons] at this; omega
    have hc : o[i]? = some c := by have := congrArg (fun z => z[0]?) hd; simpa [List.getElem?_drop] using this
    have hd2 : o.drop (i + 1) = rest := by rw [← List.tail_drop, hd]; rfl
    rw [List.length_cons] at h1 h2
    refine zV.iload C dL_asks_212 rfl ?_
    refine zV.iload C dL_asks_214 rfl ?_
    refine zV.icmp_ge (tgt := 239) C dL_asks_216 (by decide) (fun q216 => ?_) (fun q216 => ?_)
    · exact absurd (nle (by omega) (by omega) q216) (by omega)
    · refine zV.ldcL C dL_asks_219 co_L_225 ?_
      refine zV.lload_n C dL_asks_222 rfl ?_
      refine zV.lmul C dL_asks_223 ?_
      refine zV.aload_n C dL_asks_224 rfl rfl ?_
      refine zV.iload C dL_asks_225 rfl ?_
      refine zV.callSW (n := 2) C G dL_asks_227 (w_outputAt hzs hst q _) rfl ⟨cd_L_outputAt, lk_L_198, st_L_outputAt, in_L⟩ ⟨⟨by decide, by decide⟩, by decide⟩ rfl (zRm_v 1000 40000 rfl rfl rfl (by omega) (by omega)) rfl (zafQe (ou_v hc (by omega)) ?_) (zno)
      refine zV.i2l C dL_asks_230 ?_
      refine zV.ladd C dL_asks_231 ?_
      refine zV.lstore_n (lo' := [(0, _), (1, _), (2, _), (4, _), (5, _), (6, _)]) C dL_asks_232 (by decide) rfl rfl rfl ?_
      refine zV.kinc (lo' := [(0, _), (1, _), (2, _), (4, _), (5, _), (6, _)]) C dL_asks_233 rfl (by decide) rfl rfl rfl ?_
      refine zV.goto (tgt := 212) C dL_asks_236 (by decide) ?_
      rw [show nI i + Int32.ofInt 1 = nI (i + 1) from nI_add i 1]
      exact ih (i + 1) _ _ _ hd2 (by omega) (by omega) (by omega) kk
set_option maxHeartbeats 4000000 in
set_option maxRecDepth 100000 in
theorem L_askL {X : zX} {l : Launch} {E : zG} {rm : Room} (hzs : zS E) (hst : l.stackTraces = false) (C : zC X cL_asks RL 7) (G : zGX X l E rm)  {h0 : zH} {a lo : Nat} {g : zGd} {us : List zGd} {sn : Option zGd} {off rs dt cs : Int32} {t : List Nat} {N : Int32} {K KS : Nat} (hr : rm = ({ frames := 9, cells := 1000, slots := 40000, locals := 215 } : Room)) (hw : gW g) (hX : gX g ≤ 100000000) (h5 : ∀ l, l < 6 → hsz (gC g) l ≤ 5) (hlN : lo ≤ hN h0) (hK : K ≤ 1000) (hKS : KS ≤ 40000) : ∀ n l s (h : zH) (o : List Nat) kc ks, l + n = 6 → zXf h0 h a lo → zXa h a lo g us sn off rs dt cs t o → kc + 140 * n ≤ K → ks + 6500 * n ≤ KS → (∀ h' o', zXf h0 h' a lo → zXa h' a lo g us sn off rs dt cs t o' → o' = (if n = 0 then o else wl g 5) → zV X K KS h' 245 [(0, .ref a), (1, .int N), (2, .long (aLw g n l s)), (4, .int (nI 6))] []) → zV X kc ks h 124 [(0, .ref a), (1, .int N), (2, .long s), (4, .int (nI l))] [] := by
  have hr0 := hr
  subst hr
  intro n
  induction n with
  | zero =>
    intro l s h o kc ks hl f q h1 h2 kk
    obtain rfl : l = 6 := by omega
    refine zV.iload C dL_asks_124 rfl ?_
    refine zV.bi (v := nI 6) C dL_asks_126 (by decide) ?_
    refine zV.icmp_ge (tgt := 245) C dL_asks_128 (by decide) (fun q128 => ?_) (fun q128 => ?_)
    · exact zV.up (by omega) (by omega) (kk h o f q (if_pos rfl).symm)
    · exact absurd (nI_le (Nat.le_refl 6) (by decide)) q128
  | succ n ih =>
    intro l s h o kc ks hl f q h1 h2 kk
    have hl6 : l < 6 := by omega
    refine zV.iload C dL_asks_124 rfl ?_
    refine zV.bi (v := nI 6) C dL_asks_126 (by decide) ?_
    refine zV.icmp_ge (tgt := 245) C dL_asks_128 (by decide) (fun q128 => ?_) (fun q128 => ?_)
    · exact absurd (nle (by omega) (by omega) q128) (by omega)
    · refine zV.ldcL C dL_asks_131 co_L_225 ?_
      refine zV.ldcL C dL_asks_134 co_L_225 ?_
      refine zV.ldcL C dL_asks_137 co_L_225 ?_
      refine zV.lload_n C dL_asks_140 rfl ?_
      refine zV.lmul C dL_asks_141 ?_
      refine zV.aload_n C dL_asks_142 rfl rfl ?_
      refine zV.iload C dL_asks_143 rfl ?_
      refine zV.callSW (n := 2) C G dL_asks_145 (w_elder hzs hst q hw _) rfl ⟨cd_L_elder, lk_L_268, st_L_elder, in_L⟩ ⟨⟨by decide, by decide⟩, by decide⟩ rfl (zRm_v 1000 40000 rfl rfl rfl (by omega) (by omega)) rfl (zafQ ?_) (zno)
      refine zV.i2l C dL_asks_148 ?_
      refine zV.ladd C dL_asks_149 ?_
      refine zV.lmul C dL_asks_150 ?_
      refine zV.aload_n C dL_asks_151 rfl rfl ?_
      refine zV.iload C dL_asks_152 rfl ?_
      refine zV.callSW (n := 2) C G dL_asks_154 (w_bestNeighbour hzs hst q hw _) rfl ⟨cd_L_bestNeighbour, lk_L_271, st_L_bestNeighbour, in_L⟩ ⟨⟨by decide, by decide⟩, by decide⟩ rfl (zRm_v 1000 40000 rfl rfl rfl (by omega) (by omega)) rfl (zafQ ?_) (zno)
      refine zV.i2l C dL_asks_157 ?_
      refine zV.ladd C dL_asks_158 ?_
      refine zV.lmul C dL_asks_159 ?_
      refine zV.aload_n C dL_asks_160 rfl rfl ?_
      refine zV.iload C dL_asks_161 rfl ?_
      refine zV.callSW (n := 2) C G dL_asks_163 (w_byShade hzs hst q hw _) rfl ⟨cd_L_byShade, lk_L_273, st_L_byShade, in_L⟩ ⟨⟨by decide, by decide⟩, by decide⟩ rfl (zRm_v 1000 40000 rfl rfl rfl (by omega) (by omega)) rfl (zafQ ?_) (zno)
      refine zV.i2l C dL_asks_166 ?_
      refine zV.ladd C dL_asks_167 ?_
      refine zV.lstore_n (lo' := [(0, _), (1, _), (2, .long (aHd g l s)), (4, _)]) C dL_asks_168 (by decide) rfl rfl rfl ?_
      refine zV.ic (v := nI 0) C dL_asks_169 (by decide) ?_
      refine zV.jstore (lo' := [(0, _), (1, _), (2, _), (4, _), (5, _)]) C dL_asks_170 (by decide) rfl rfl rfl ?_
      refine L_askD hzs hst C G hr0 hw q (K := kc + 2 + 2 + 1 + 15) (KS := ks + 12 + 12 + 6 + 90) (by omega) (by omega) hl6 l 0 _ _ _ (by omega) (by omega) (by omega) ?_
      refine zV.aload_n C dL_asks_201 rfl rfl ?_
      refine zV.iload C dL_asks_202 rfl ?_
      refine zV.callSW (n := 2) C G dL_asks_204 (w_writeLawn hzs hst q hw hX h5 (Nat.le_trans hlN f.1) _) rfl ⟨cd_L_writeLawn, lk_L_278, st_L_writeLawn, in_L⟩ ⟨⟨by decide, by decide⟩, by decide⟩ rfl (zRm_v 1000 40000 rfl rfl rfl (by omega) (by omega)) rfl (zafCe (wl_v hl6) (fun h9 p9 => ?_)) (zno)
      have q := p9.2
      rw [wl_o hl6] at q
      have f := f.trans p9.1
      have hol : (wl g l).length ≤ 80 := wl_80 hw hX (h5 l hl6) hl6
      refine zV.jstore (lo' := [(0, _), (1, _), (2, _), (4, _), (5, _)]) C dL_asks_207 (by decide) rfl rfl rfl ?_
      refine zV.ic (v := nI 0) C dL_asks_209 (by decide) ?_
      refine zV.jstore (lo' := [(0, _), (1, _), (2, _), (4, _), (5, _), (6, _)]) C dL_asks_210 (by decide) rfl rfl rfl ?_
      refine L_askT hzs hst C G hr0 hw q (K := kc + 140) (KS := ks + 6500) (by omega) (by omega) (by omega) (wl g l) 0 _ _ _ rfl (Nat.zero_le _) (by omega) (by omega) ?_
      refine zV.kinc (lo' := [(0, _), (1, _), (2, _), (4, _), (5, _), (6, _)]) C dL_asks_239 rfl (by decide) rfl rfl rfl ?_
      refine zV.goto (tgt := 124) C dL_asks_242 (by decide) ?_
      rw [show nI l + Int32.ofInt 1 = nI (l + 1) from nI_add l 1]
      exact zV.sub [0, 1, 2, 3] rfl (ih (l + 1) _ h9 (wl g l) _ _ (by omega) f q (by omega) (by omega) (fun h' o' f' q' e' => kk h' o' f' q' (e'.trans (out_e hl))))
set_option maxHeartbeats 4000000 in
set_option maxRecDepth 100000 in
theorem L_askC {X : zX} {l : Launch} {E : zG} {rm : Room} (hzs : zS E) (hst : l.stackTraces = false) (C : zC X cL_asks RL 7) (G : zGX X l E rm)  {h : zH} {a lo : Nat} {g : zGd} {us : List zGd} {sn : Option zGd} {off rs dt cs : Int32} {t o : List Nat} {N : Nat} (hN9 : N ≤ 12) {K KS : Nat} (hr : rm = ({ frames := 9, cells := 1000, slots := 40000, locals := 215 } : Room)) (hw : gW g) (q : zXa h a lo g us sn off rs dt cs t o) (hK : K ≤ 1000) (hKS : KS ≤ 40000) : ∀ n k s kc ks, k + n = N → kc + 3 * n ≤ K → ks + 18 * n ≤ KS → zV X K KS h 290 [(0, .ref a), (1, .int (nI N)), (2, .long (aCh g n k s)), (4, .int (nI N))] [] → zV X kc ks h 248 [(0, .ref a), (1, .int (nI N)), (2, .long s), (4, .int (nI k))] [] := by
  subst hr
  intro n
  induction n with
  | zero =>
    intro k s kc ks hp h1 h2 kk
    obtain rfl : k = N := by omega
    refine zV.iload C dL_asks_248 rfl ?_
    refine zV.iload_n C dL_asks_250 rfl ?_
    refine zV.icmp_ge (tgt := 290) C dL_asks_251 (by decide) (fun q251 => ?_) (fun q251 => ?_)
    · exact zV.up (by omega) (by omega) kk
    · exact absurd (nI_le (Nat.le_refl _) (by omega)) q251
  | succ n ih =>
    intro k s kc ks hp h1 h2 kk
    refine zV.iload C dL_asks_248 rfl ?_
    refine zV.iload_n C dL_asks_250 rfl ?_
    refine zV.icmp_ge (tgt := 290) C dL_asks_251 (by decide) (fun q251 => ?_) (fun q251 => ?_)
    · exact absurd (nle (by omega) (by omega) q251) (by omega)
    · refine zV.ldcL C dL_asks_254 co_L_225 ?_
      refine zV.ldcL C dL_asks_257 co_L_225 ?_
      refine zV.lload_n C dL_asks_260 rfl ?_
      refine zV.lmul C dL_asks_261 ?_
      refine zV.aload_n C dL_asks_262 rfl rfl ?_
      refine zV.iload C dL_asks_263 rfl ?_
      refine zV.callSW (n := 2) C G dL_asks_265 (w_byRust hzs hst q hw _) rfl ⟨cd_L_byRust, lk_L_280, st_L_byRust, in_L⟩ ⟨⟨by decide, by decide⟩, by decide⟩ rfl (zRm_v 1000 40000 rfl rfl rfl (by omega) (by omega)) rfl (zafQ ?_) (zno)
      refine zV.i2l C dL_asks_268 ?_
      refine zV.ladd C dL_asks_269 ?_
      refine zV.lmul C dL_asks_270 ?_
      refine zV.aload_n C dL_asks_271 rfl rfl ?_
      refine zV.aload_n C dL_asks_272 rfl rfl ?_
      refine zV.iload C dL_asks_273 rfl ?_
      refine zV.callSW (n := 2) C G dL_asks_275 (w_byRust hzs hst q hw _) rfl ⟨cd_L_byRust, lk_L_280, st_L_byRust, in_L⟩ ⟨⟨by decide, by decide⟩, by decide⟩ rfl (zRm_v 1000 40000 rfl rfl rfl (by omega) (by omega)) rfl (zafQ ?_) (zno)
      refine zV.callSW (n := 2) C G dL_asks_278 (w_age hzs hst q hw _) rfl ⟨cd_L_age, lk_L_283, st_L_age, in_L⟩ ⟨⟨by decide, by decide⟩, by decide⟩ rfl (zRm_v 1000 40000 rfl rfl rfl (by omega) (by omega)) rfl (zafQ ?_) (zno)
      refine zV.i2l C dL_asks_281 ?_
      refine zV.ladd C dL_asks_282 ?_
      refine zV.lstore_n (lo' := [(0, _), (1, _), (2, _), (4, _)]) C dL_asks_283 (by decide) rfl rfl rfl ?_
      refine zV.kinc (lo' := [(0, _), (1, _), (2, _), (4, _)]) C dL_asks_284 rfl (by decide) rfl rfl rfl ?_
      refine zV.goto (tgt := 248) C dL_asks_287 (by decide) ?_
      rw [show nI k + Int32.ofInt 1 = nI (k + 1) from nI_add k 1]
      exact ih (k + 1) _ _ _ (by omega) (by omega) (by omega) kk
set_option maxHeartbeats 4000000 in
set_option maxRecDepth 100000 in
theorem s_asks {l : Launch} {E : zG} (hzs : zS E) (hst : l.stackTraces = false) (h : zH) (a lo m : Nat) (g : zGd) (us : List zGd) (sn : Option zGd) (off rs dt cs : Int32) (t o : List Nat) (q : zXa h a lo g us sn off rs dt cs t o) (hR : gR m g) (hb : m + 3000 ≤ big) (hX : gX g ≤ 100000000) (hlN : lo ≤ hN h) : zMet l E yL_asks cL_asks 7 (some .long) ({ frames := 9, cells := 1000, slots := 40000, locals := 215 } : Room) 1000 40000 [.ref a] h (fun r h' => r = some (.long (askF g)) ∧ zXf h h' a lo ∧ zXa h' a lo g us sn off rs dt cs t (wl g 5)) (fun _ _ => False) := by
  refine zM_start hzs hst (by decide) (Nat.le_of_ble_eq_true rfl) (fun X C G F I => ?_)
  show zV X 0 0 _ 0 [(0, _)] []
  have hw : gW g := gW_of hR.1.1 hR.1.2.2.2 (Nat.le_trans (Nat.le_add_right _ _) hb)
  refine zV.aload_n C dL_asks_0 rfl rfl ?_
  refine zV.callV (n := 0) C G dL_asks_1 (s_chairCount hzs hst _ a g q.1 q.2.1.1 hw) rfl ⟨cd_X9_chairCount, lk_L_222, im_X9_chairCount, se_X9_X9_chairCount, in_X9⟩ ⟨⟨by decide, by decide⟩, by decide⟩ rfl rfl rfl q.1.1 ⟨rfl, by decide⟩ (zaf ?_) (zno)
  refine zV.jstore_n (lo' := [(0, _), (1, _)]) C dL_asks_4 (by decide) rfl rfl rfl ?_
  refine zV.ldcL C dL_asks_5 co_L_225 ?_
  refine zV.aload_n C dL_asks_8 rfl rfl ?_
  refine zV.callSW (n := 1) C G dL_asks_9 (w_meanRust hzs hst q hw) rfl ⟨cd_L_meanRust, lk_L_227, st_L_meanRust, in_L⟩ ⟨⟨by decide, by decide⟩, by decide⟩ rfl rfl rfl (zafD ?_) (zno)
  refine zV.callS (n := 1) C G dL_asks_12 (s_d2l hzs hst _ _ (mr_ok hw)) rfl ⟨cd_Jxe99ae_doubleToLongBits_ccdee, lk_L_230, st_Jxe99ae_doubleToLongBits_ccdee, in_Jxe99ae⟩ ⟨⟨by decide, by decide⟩, by decide⟩ rfl rfl rfl (zaf ?_) (zno)
  refine zV.lmul C dL_asks_15 ?_
  refine zV.aload_n C dL_asks_16 rfl rfl ?_
  refine zV.callSW (n := 1) C G dL_asks_17 (w_foldedShare hzs hst q hw) rfl ⟨cd_L_foldedShare, lk_L_236, st_L_foldedShare, in_L⟩ ⟨⟨by decide, by decide⟩, by decide⟩ rfl rfl rfl (zafF ?_) (zno)
  refine zV.callS (n := 1) C G dL_asks_20 (s_f2i hzs hst _ _ (fs_ok hw)) rfl ⟨cd_Jxf58ca_floatToIntBits_5c35a, lk_L_239, st_Jxf58ca_floatToIntBits_5c35a, in_Jxf58ca⟩ ⟨⟨by decide, by decide⟩, by decide⟩ rfl rfl rfl (zaf ?_) (zno)
  refine zV.i2l C dL_asks_23 ?_
  refine zV.ladd C dL_asks_24 ?_
  refine zV.lstore_n (lo' := [(0, _), (1, _), (2, .long (aS0 g))]) C dL_asks_25 (by decide) rfl rfl rfl ?_
  refine zV.ldcL C dL_asks_26 co_L_225 ?_
  refine zV.ldcL C dL_asks_29 co_L_225 ?_
  refine zV.ldcL C dL_asks_32 co_L_225 ?_
  refine zV.ldcL C dL_asks_35 co_L_225 ?_
  refine zV.ldcL C dL_asks_38 co_L_225 ?_
  refine zV.lload_n C dL_asks_41 rfl ?_
  refine zV.lmul C dL_asks_42 ?_
  refine zV.iload_n C dL_asks_43 rfl ?_
  refine zV.i2l C dL_asks_44 ?_
  refine zV.ladd C dL_asks_45 ?_
  refine zV.lmul C dL_asks_46 ?_
  refine zV.aload_n C dL_asks_47 rfl rfl ?_
  refine zV.callV (n := 0) C G dL_asks_48 (s_pathCount hzs hst _ a g q.1 q.2.1.1 hw) rfl ⟨cd_X9_pathCount, lk_L_245, im_X9_pathCount, se_X9_X9_pathCount, in_X9⟩ ⟨⟨by decide, by decide⟩, by decide⟩ rfl rfl rfl q.1.1 ⟨rfl, by decide⟩ (zaf ?_) (zno)
  refine zV.i2l C dL_asks_51 ?_
  refine zV.ladd C dL_asks_52 ?_
  refine zV.lmul C dL_asks_53 ?_
  refine zV.aload_n C dL_asks_54 rfl rfl ?_
  refine zV.callV (n := 0) C G dL_asks_55 (s_day hzs hst _ a g q.1 q.2.1.1 hw) rfl ⟨cd_X9_day, lk_L_248, im_X9_day, se_X9_X9_day, in_X9⟩ ⟨⟨by decide, by decide⟩, by decide⟩ rfl rfl rfl q.1.1 ⟨rfl, by decide⟩ (zaf ?_) (zno)
  refine zV.i2l C dL_asks_58 ?_
  refine zV.ladd C dL_asks_59 ?_
  refine zV.lmul C dL_asks_60 ?_
  refine zV.aload_n C dL_asks_61 rfl rfl ?_
  refine zV.callV (n := 0) C G dL_asks_62 (s_oil hzs hst _ a g q.1 q.2.1.1 hw) rfl ⟨cd_X9_oil, lk_L_251, im_X9_oil, se_X9_X9_oil, in_X9⟩ ⟨⟨by decide, by decide⟩, by decide⟩ rfl rfl rfl q.1.1 ⟨rfl, by decide⟩ (zaf ?_) (zno)
  refine zV.i2l C dL_asks_65 ?_
  refine zV.ladd C dL_asks_66 ?_
  refine zV.lmul C dL_asks_67 ?_
  refine zV.aload_n C dL_asks_68 rfl rfl ?_
  refine zV.callV (n := 0) C G dL_asks_69 (s_collapsedChairs hzs hst _ a g q.1 q.2.1.1 hw) rfl ⟨cd_X9_collapsedChairs, lk_L_254, im_X9_collapsedChairs, se_X9_X9_collapsedChairs, in_X9⟩ ⟨⟨by decide, by decide⟩, by decide⟩ rfl rfl rfl q.1.1 ⟨rfl, by decide⟩ (zaf ?_) (zno)
  refine zV.i2l C dL_asks_72 ?_
  refine zV.ladd C dL_asks_73 ?_
  refine zV.lstore_n (lo' := [(0, _), (1, _), (2, .long (aS1 g))]) C dL_asks_74 (by decide) rfl rfl rfl ?_
  refine zV.ldcL C dL_asks_75 co_L_225 ?_
  refine zV.ldcL C dL_asks_78 co_L_225 ?_
  refine zV.ldcL C dL_asks_81 co_L_225 ?_
  refine zV.lload_n C dL_asks_84 rfl ?_
  refine zV.lmul C dL_asks_85 ?_
  refine zV.aload_n C dL_asks_86 rfl rfl ?_
  refine zV.callV (n := 0) C G dL_asks_87 (s_scrappedChairs hzs hst _ a g q.1 q.2.1.1 hw) rfl ⟨cd_X9_scrappedChairs, lk_L_257, im_X9_scrappedChairs, se_X9_X9_scrappedChairs, in_X9⟩ ⟨⟨by decide, by decide⟩, by decide⟩ rfl rfl rfl q.1.1 ⟨rfl, by decide⟩ (zaf ?_) (zno)
  refine zV.i2l C dL_asks_90 ?_
  refine zV.ladd C dL_asks_91 ?_
  refine zV.lmul C dL_asks_92 ?_
  refine zV.aload_n C dL_asks_93 rfl rfl ?_
  refine zV.callV (n := 0) C G dL_asks_94 (s_moveCount hzs hst _ a g q.1 q.2.1.1 hw) rfl ⟨cd_X9_moveCount, lk_L_260, im_X9_moveCount, se_X9_X9_moveCount, in_X9⟩ ⟨⟨by decide, by decide⟩, by decide⟩ rfl rfl rfl q.1.1 ⟨rfl, by decide⟩ (zaf ?_) (zno)
  refine zV.i2l C dL_asks_97 ?_
  refine zV.ladd C dL_asks_98 ?_
  refine zV.lmul C dL_asks_99 ?_
  refine zV.aload_n C dL_asks_100 rfl rfl ?_
  refine zV.callV (n := 0) C G dL_asks_101 (s_grazedShade hzs hst _ a g q.1 q.2.1.1 hw) rfl ⟨cd_X9_grazedShade, lk_L_263, im_X9_grazedShade, se_X9_X9_grazedShade, in_X9⟩ ⟨⟨by decide, by decide⟩, by decide⟩ rfl rfl rfl q.1.1 ⟨rfl, by decide⟩ (zaf ?_) (zno)
  refine zV.i2l C dL_asks_104 ?_
  refine zV.ladd C dL_asks_105 ?_
  refine zV.lstore_n (lo' := [(0, _), (1, _), (2, .long (aS2 g))]) C dL_asks_106 (by decide) rfl rfl rfl ?_
  refine zV.ldcL C dL_asks_107 co_L_225 ?_
  refine zV.lload_n C dL_asks_110 rfl ?_
  refine zV.lmul C dL_asks_111 ?_
  refine zV.aload_n C dL_asks_112 rfl rfl ?_
  refine zV.bi (v := nI 20) C dL_asks_113 (by decide) ?_
  refine zV.callSW (n := 2) C G dL_asks_115 (w_wouldCollapse hzs hst q hR.1 hb _) rfl ⟨cd_L_wouldCollapse, lk_L_266, st_L_wouldCollapse, in_L⟩ ⟨⟨by decide, by decide⟩, by decide⟩ rfl rfl rfl (zafC (fun h9 p9 => ?_)) (zno)
  have f := p9.1
  have q := p9.2
  refine zV.i2l C dL_asks_118 ?_
  refine zV.ladd C dL_asks_119 ?_
  refine zV.lstore_n (lo' := [(0, _), (1, _), (2, .long (aS3 g))]) C dL_asks_120 (by decide) rfl rfl rfl ?_
  refine zV.ic (v := nI 0) C dL_asks_121 (by decide) ?_
  refine zV.jstore (lo' := [(0, _), (1, _), (2, _), (4, _)]) C dL_asks_122 (by decide) rfl rfl rfl ?_
  refine L_askL hzs hst C G rfl hw hX hR.1.2.2.1 hlN (K := 900) (KS := 39500) (by decide) (by decide) 6 0 _ _ _ _ _ (by decide) f q (by decide) (by decide) (fun h9 o9 f q e => ?_)
  obtain rfl : o9 = wl g 5 := e
  refine zV.ic (v := nI 0) C dL_asks_245 (by decide) ?_
  refine zV.jstore (lo' := [(0, _), (1, _), (2, _), (4, _)]) C dL_asks_246 (by decide) rfl rfl rfl ?_
  refine L_askC hzs hst C G (gW_len hw) rfl hw q (K := 936) (KS := 39716) (by decide) (by decide) (gC g).length 0 _ _ _ (Nat.zero_add _) (by have := gW_len hw; omega) (by have := gW_len hw; omega) ?_
  refine zV.lload_n C dL_asks_290 rfl ?_
  refine zV.lret C F dL_asks_291 rfl ?_
  exact ⟨rfl, f, q⟩
