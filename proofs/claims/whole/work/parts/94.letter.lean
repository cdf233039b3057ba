/-! the reference: a letter looked for in a constant -/
theorem sc_X10_219 {E : zG} (hzs : zS E) : ∃ q q2, zSq RX10 219 "pqhcsfuomgad" E q ∧ zSt E q q2 [112, 113, 104, 99, 115, 102, 117, 111, 109, 103, 97, 100] := by
  refine zSt_of hzs (by decide) lk_X10_219 (List.mem_of_getElem? (i := 987) (by decide +kernel)) (List.mem_of_getElem? (i := 988) (by decide +kernel)) (List.mem_of_getElem? (i := 989) (by decide +kernel)) (List.mem_of_getElem? (i := 990) (by decide +kernel)) (fun j hj => by
    have hj2 : j < 12 := hj
    match j, hj2 with
    | 0, _ => exact List.mem_of_getElem? (i := 991) (by decide +kernel)
    | 1, _ => exact List.mem_of_getElem? (i := 992) (by decide +kernel)
    | 2, _ => exact List.mem_of_getElem? (i := 993) (by decide +kernel)
    | 3, _ => exact List.mem_of_getElem? (i := 994) (by decide +kernel)
    | 4, _ => exact List.mem_of_getElem? (i := 995) (by decide +kernel)
    | 5, _ => exact List.mem_of_getElem? (i := 996) (by decide +kernel)
    | 6, _ => exact List.mem_of_getElem? (i := 997) (by decide +kernel)
    | 7, _ => exact List.mem_of_getElem? (i := 998) (by decide +kernel)
    | 8, _ => exact List.mem_of_getElem? (i := 999) (by decide +kernel)
    | 9, _ => exact List.mem_of_getElem? (i := 1000) (by decide +kernel)
    | 10, _ => exact List.mem_of_getElem? (i := 1001) (by decide +kernel)
    | 11, _ => exact List.mem_of_getElem? (i := 1002) (by decide +kernel))
/-- the first place of c in bs *)-/
def ioF (c : Nat) : List Nat → Nat → Option Nat
  | [], _ => none
  | b :: bs, k => if b = c then some k else ioF c bs (k + 1)
theorem i2b_c : ∀ c, c < 128 → (nI c).toInt8.toInt32 = nI c := by decide +kernel
set_option maxHeartbeats 4000000 in
set_option maxRecDepth 100000 in
theorem s_canEnc {l : Launch} {E : zG} (hzs : zS E) (hst : l.stackTraces = false) (h : zH) (c : Nat) (hc : c < 128) : zMet l E yJ1_canEncode_9a6ad cJ1_canEncode_9a6ad 1 (some .boolean) ({ frames := 0, cells := 0, slots := 0, locals := 0 } : Room) 0 0 [.int (nI c)] h (fun r h' => r = some (.int (nI 1)) ∧ h' = h) (fun _ _ => False) := by
  refine zM_start hzs hst (by decide) (Nat.le_of_ble_eq_true rfl) (fun X C G F I => ?_)
  show zV X 0 0 _ 0 [(0, _)] []
  refine zV.iload_n C dJ1_canEncode_9a6ad_0 rfl ?_
  refine zV.if_lt (tgt := 15) C dJ1_canEncode_9a6ad_1 (by decide) (fun q1 => ?_) (fun q1 => ?_)
  · exact absurd q1 (nn0 (by omega))
  · refine zV.iload_n C dJ1_canEncode_9a6ad_4 rfl ?_
    refine zV.si (v := nI 255) C dJ1_canEncode_9a6ad_5 (by decide) ?_
    refine zV.icmp_gt (tgt := 15) C dJ1_canEncode_9a6ad_8 (by decide) (fun q8 => ?_) (fun q8 => ?_)
    · exact absurd (nI_le (show c ≤ 255 by omega) (by decide)) (Int32.not_le.mpr q8)
    · refine zV.ic (v := nI 1) C dJ1_canEncode_9a6ad_11 (by decide) ?_
      refine zV.goto (tgt := 16) C dJ1_canEncode_9a6ad_12 (by decide) ?_
      refine zV.zret C F dJ1_canEncode_9a6ad_16 rfl rfl ?_
      exact ⟨rfl, rfl⟩
set_option maxHeartbeats 4000000 in
set_option maxRecDepth 100000 in
theorem s_iocE {X : zX} {l : Launch} {E : zG} {rm : Room} (hzs : zS E) (hst : l.stackTraces = false) (C : zC X cJ1_indexOfChar_4cfef RJ1 6) (G : zGX X l E rm) {h : zH} {q2 c k n : Nat} {x2 : Int32} {Qr : Option Value → zH → Prop} {Qx : String → zH → Prop} (F : zF X (some .int) 0 0 Qr Qx) (hk : n ≤ k) (hk2 : k < 2 ^ 31) (hq : Qr (some (.int (-1))) h) : zV X 0 0 h 7 [(0, .retAddr q2), (1, .int (nI c)), (2, .int x2), (3, .int (nI n)), (4, .int (nI c)), (5, .int (nI k))] [] := by
  
  refine zV.iload C dJ1_indexOfChar_4cfef_7 rfl ?_
  refine zV.iload_n C dJ1_indexOfChar_4cfef_9 rfl ?_
  refine zV.icmp_ge (tgt := 31) C dJ1_indexOfChar_4cfef_10 (by decide) (fun q10 => ?_) (fun q10 => ?_)
  · refine zV.ic (v := (-1)) C dJ1_indexOfChar_4cfef_31 (by decide) ?_
    refine zV.iret C F dJ1_indexOfChar_4cfef_32 rfl ?_
    exact hq
  · exact absurd (nI_le hk hk2) q10
set_option maxHeartbeats 4000000 in
set_option maxRecDepth 100000 in
theorem L_ioc {X : zX} {l : Launch} {E : zG} {rm : Room} (hzs : zS E) (hst : l.stackTraces = false) (C : zC X cJ1_indexOfChar_4cfef RJ1 6) (G : zGX X l E rm) {h : zH} {q q2 c : Nat} {bs : List Nat} {x2 : Int32} {R : Int32} {Qx : String → zH → Prop} (F : zF X (some .int) 0 0 (fun r h2 => r = some (.int R) ∧ h2 = h) Qx) (hs : zSt E q q2 bs) (hl : bs.length < 100) (hb : ∀ b ∈ bs, b < 128) (hc : c < 128) : ∀ n k, k + n = bs.length → R = oI (ioF c (bs.drop k) k) → zV X 0 0 h 7 [(0, .retAddr q2), (1, .int (nI c)), (2, .int x2), (3, .int (nI bs.length)), (4, .int (nI c)), (5, .int (nI k))] [] := by
  intro n
  induction n with
  | zero =>
    intro k hk e
    obtain rfl : k = bs.length := by omega
    rw [List.drop_length] at e
    exact s_iocE hzs hst C G F (Nat.le_refl _) (by omega) (by rw [e]; exact ⟨rfl, rfl⟩)
  | succ n ih =>
    intro k hk e
    obtain ⟨b, hb9, hdd⟩ := drop_cons (show k < bs.length by omega)
    have hb128 := hb b (List.mem_of_getElem? hb9)
    have hv : bs.getD k 0 = b := by rw [List.getD_eq_getElem?_getD, hb9]; rfl
    rw [hdd, ioF] at e
    refine zV.iload C dJ1_indexOfChar_4cfef_7 rfl ?_
    refine zV.iload_n C dJ1_indexOfChar_4cfef_9 rfl ?_
    refine zV.icmp_ge (tgt := 31) C dJ1_indexOfChar_4cfef_10 (by decide) (fun q10 => ?_) (fun q10 => ?_)
    · exact absurd (nle (by omega) (by omega) q10) (by omega)
    · refine zV.aload_n C dJ1_indexOfChar_4cfef_13 rfl rfl ?_
      refine zV.iload C dJ1_indexOfChar_4cfef_14 rfl ?_
      refine zV.baldRaw (j := k) C G dJ1_indexOfChar_4cfef_16 (hs.2.2.2) (rfl) (show k < bs.length by omega) (by omega) (by rw [hv]) ?_
      refine zV.iload C dJ1_indexOfChar_4cfef_17 rfl ?_
      refine zV.icmp_ne (tgt := 25) C dJ1_indexOfChar_4cfef_19 (by decide) (fun q19 => ?_) (fun q19 => ?_)
      · have e9 : ¬ b = c := fun z => q19 (by rw [z])
        refine zV.iinc (lo' := [(0, _), (1, _), (2, _), (3, _), (4, _), (5, _)]) C dJ1_indexOfChar_4cfef_25 rfl (by decide) rfl rfl rfl ?_
        refine zV.goto (tgt := 7) C dJ1_indexOfChar_4cfef_28 (by decide) ?_
        rw [if_neg e9] at e
        rw [inc1]
        exact ih (k + 1) (by omega) e
      · have e9 : b = c := neq (by omega) (by omega) q19
        refine zV.iload C dJ1_indexOfChar_4cfef_22 rfl ?_
        refine zV.iret C F dJ1_indexOfChar_4cfef_24 rfl ?_
        rw [if_pos e9] at e
        exact ⟨by rw [e]; rfl, rfl⟩
set_option maxHeartbeats 4000000 in
set_option maxRecDepth 100000 in
theorem s_ioc {l : Launch} {E : zG} (hzs : zS E) (hst : l.stackTraces = false) (h : zH) (q q2 : Nat) (bs : List Nat) (hs : zSt E q q2 bs) (hl : bs.length < 100) (c : Nat) (hc : c < 128) (hb : ∀ b ∈ bs, b < 128) (hp : 0 < bs.length) : zMet l E yJ1_indexOfChar_4cfef cJ1_indexOfChar_4cfef 6 (some .int) ({ frames := 0, cells := 0, slots := 0, locals := 0 } : Room) 0 0 [.retAddr q2, .int (nI c), .int (nI 0), .int (nI bs.length)] h (fun r h' => r = some (.int (oI (ioF c bs 0))) ∧ h' = h) (fun _ _ => False) := by
  refine zM_start hzs hst (by decide) (Nat.le_of_ble_eq_true rfl) (fun X C G F I => ?_)
  show zV X 0 0 _ 0 [(0, _), (1, _), (2, _), (3, _)] []
  refine zV.iload_n C dJ1_indexOfChar_4cfef_0 rfl ?_
  refine zV.i2b C dJ1_indexOfChar_4cfef_1 ?_
  rw [i2b_c c hc]
  refine zV.istore (lo' := [(0, _), (1, _), (2, _), (3, _), (4, _)]) C dJ1_indexOfChar_4cfef_2 (by decide) rfl rfl rfl ?_
  refine zV.iload_n C dJ1_indexOfChar_4cfef_4 rfl ?_
  refine zV.istore (lo' := [(0, _), (1, _), (2, _), (3, _), (4, _), (5, _)]) C dJ1_indexOfChar_4cfef_5 (by decide) rfl rfl rfl ?_
  exact L_ioc hzs hst C G F hs hl hb hc bs.length 0 (Nat.zero_add _) (by rw [List.drop_zero])
set_option maxHeartbeats 4000000 in
set_option maxRecDepth 100000 in
theorem s_LindexOf {l : Launch} {E : zG} (hzs : zS E) (hst : l.stackTraces = false) (h : zH) (q q2 : Nat) (bs : List Nat) (hs : zSt E q q2 bs) (hl : bs.length < 100) (c : Nat) (hc : c < 128) (hb : ∀ b ∈ bs, b < 128) (hp : 0 < bs.length) : zMet l E yJ1_indexOf_4cfef cJ1_indexOf_4cfef 4 (some .int) ({ frames := 1, cells := 0, slots := 0, locals := 25 } : Room) 0 0 [.retAddr q2, .int (nI c), .int (nI 0), .int (nI bs.length)] h (fun r h' => r = some (.int (oI (ioF c bs 0))) ∧ h' = h) (fun _ _ => False) := by
  refine zM_start hzs hst (by decide) (Nat.le_of_ble_eq_true rfl) (fun X C G F I => ?_)
  show zV X 0 0 _ 0 [(0, _), (1, _), (2, _), (3, _)] []
  refine zV.iload_n C dJ1_indexOf_4cfef_0 rfl ?_
  refine zV.callS (n := 1) C G dJ1_indexOf_4cfef_1 (s_canEnc hzs hst h c hc) rfl ⟨cd_J1_canEncode_9a6ad, lk_J1_88, st_J1_canEncode_9a6ad, in_J1⟩ ⟨⟨by decide, by decide⟩, by decide⟩ rfl rfl rfl (zaf ?_) (zno)
  refine zV.if_ne (tgt := 9) C dJ1_indexOf_4cfef_4 (by decide) (fun q4 => ?_) (fun q4 => ?_)
  · refine zV.iload_n C dJ1_indexOf_4cfef_9 rfl ?_
    refine zV.ic (v := nI 0) C dJ1_indexOf_4cfef_10 (by decide) ?_
    refine zV.mmax C G dJ1_indexOf_4cfef_11 ⟨lk_J1_92, st_J9_max_7cf53, in_J9, cd_J9_max_7cf53⟩ rfl ?_
    rw [show (if nI 0 < nI 0 then nI 0 else nI 0) = nI 0 from rfl]
    refine zV.istore_n (lo' := [(0, _), (1, _), (2, _), (3, _)]) C dJ1_indexOf_4cfef_14 (by decide) rfl rfl rfl ?_
    refine zV.iload_n C dJ1_indexOf_4cfef_15 rfl ?_
    refine zV.aload_n C dJ1_indexOf_4cfef_16 rfl rfl ?_
    refine zV.alenRaw C G dJ1_indexOf_4cfef_17 (hs.2.2.2) ?_
    refine zV.mmin C G dJ1_indexOf_4cfef_18 ⟨lk_J1_38, st_J9_min_7cf53, in_J9, cd_J9_min_7cf53⟩ rfl ?_
    rw [show (if nI bs.length < nI bs.length then nI bs.length else nI bs.length) = nI bs.length from ite_self _]
    refine zV.istore_n (lo' := [(0, _), (1, _), (2, _), (3, _)]) C dJ1_indexOf_4cfef_21 (by decide) rfl rfl rfl ?_
    refine zV.iload_n C dJ1_indexOf_4cfef_22 rfl ?_
    refine zV.iload_n C dJ1_indexOf_4cfef_23 rfl ?_
    refine zV.icmp_lt (tgt := 29) C dJ1_indexOf_4cfef_24 (by decide) (fun q24 => ?_) (fun q24 => ?_)
    · refine zV.aload_n C dJ1_indexOf_4cfef_29 rfl rfl ?_
      refine zV.iload_n C dJ1_indexOf_4cfef_30 rfl ?_
      refine zV.iload_n C dJ1_indexOf_4cfef_31 rfl ?_
      refine zV.iload_n C dJ1_indexOf_4cfef_32 rfl ?_
      refine zV.callS (n := 4) C G dJ1_indexOf_4cfef_33 (s_ioc hzs hst h q q2 bs hs hl c hc hb hp) rfl ⟨cd_J1_indexOfChar_4cfef, lk_J1_95, st_J1_indexOfChar_4cfef, in_J1⟩ ⟨⟨by decide, by decide⟩, by decide⟩ rfl rfl rfl (zaf ?_) (zno)
      refine zV.iret C F dJ1_indexOf_4cfef_36 rfl ?_
      exact ⟨rfl, rfl⟩
    · exact absurd (nI_lt hp (by omega)) q24
  · exact absurd q4 (by decide)
set_option maxHeartbeats 4000000 in
set_option maxRecDepth 100000 in
theorem s_SindexOf2 {l : Launch} {E : zG} (hzs : zS E) (hst : l.stackTraces = false) (h : zH) (q q2 : Nat) (bs : List Nat) (hs : zSt E q q2 bs) (hl : bs.length < 100) (c : Nat) (hc : c < 128) (hb : ∀ b ∈ bs, b < 128) (hp : 0 < bs.length) : zMet l E yJ0_indexOf_7cf53 cJ0_indexOf_7cf53 3 (some .int) ({ frames := 2, cells := 0, slots := 0, locals := 48 } : Room) 0 0 [.retAddr q, .int (nI c), .int (nI 0)] h (fun r h' => r = some (.int (oI (ioF c bs 0))) ∧ h' = h) (fun _ _ => False) := by
  refine zM_start hzs hst (by decide) (Nat.le_of_ble_eq_true rfl) (fun X C G F I => ?_)
  show zV X 0 0 _ 0 [(0, _), (1, _), (2, _)] []
  refine zV.aload_n C dJ0_indexOf_7cf53_0 rfl rfl ?_
  refine zV.callVR (n := 0) C G dJ0_indexOf_7cf53_1 (s_SisLatin1 hzs hst h q q2 bs hs hl) rfl ⟨cd_J0_isLatin1_aae02, lk_J0_492, im_J0_isLatin1_aae02, se_J0_J0_isLatin1_aae02, in_J0⟩ ⟨⟨by decide, by decide⟩, by decide⟩ rfl rfl rfl (hs.1) (zaf ?_) (zno)
  refine zV.if_eq (tgt := 23) C dJ0_indexOf_7cf53_4 (by decide) (fun q4 => ?_) (fun q4 => ?_)
  · exact absurd q4 (by decide)
  · refine zV.aload_n C dJ0_indexOf_7cf53_7 rfl rfl ?_
    refine zV.gRawR C G dJ0_indexOf_7cf53_8 (hs.2.2.1) lk_J0_9 ?_
    refine zV.iload_n C dJ0_indexOf_7cf53_11 rfl ?_
    refine zV.iload_n C dJ0_indexOf_7cf53_12 rfl ?_
    refine zV.aload_n C dJ0_indexOf_7cf53_13 rfl rfl ?_
    refine zV.callVR (n := 0) C G dJ0_indexOf_7cf53_14 (s_Slength hzs hst h q q2 bs hs hl) rfl ⟨cd_J0_length_8abf5, lk_J0_505, im_J0_length_8abf5, se_J0_J0_length_8abf5, in_J0⟩ ⟨⟨by decide, by decide⟩, by decide⟩ rfl rfl rfl (hs.1) (zaf ?_) (zno)
    refine zV.callS (n := 4) C G dJ0_indexOf_7cf53_17 (s_LindexOf hzs hst h q q2 bs hs hl c hc hb hp) rfl ⟨cd_J1_indexOf_4cfef, lk_J0_637, st_J1_indexOf_4cfef, in_J1⟩ ⟨⟨by decide, by decide⟩, by decide⟩ rfl rfl rfl (zaf ?_) (zno)
    refine zV.goto (tgt := 36) C dJ0_indexOf_7cf53_20 (by decide) ?_
    refine zV.iret C F dJ0_indexOf_7cf53_36 rfl ?_
    exact ⟨rfl, rfl⟩
set_option maxHeartbeats 4000000 in
set_option maxRecDepth 100000 in
theorem s_SindexOf {l : Launch} {E : zG} (hzs : zS E) (hst : l.stackTraces = false) (h : zH) (q q2 : Nat) (bs : List Nat) (hs : zSt E q q2 bs) (hl : bs.length < 100) (c : Nat) (hc : c < 128) (hb : ∀ b ∈ bs, b < 128) (hp : 0 < bs.length) : zMet l E yJ0_indexOf_0f7a4 cJ0_indexOf_0f7a4 2 (some .int) ({ frames := 3, cells := 0, slots := 0, locals := 70 } : Room) 0 0 [.retAddr q, .int (nI c)] h (fun r h' => r = some (.int (oI (ioF c bs 0))) ∧ h' = h) (fun _ _ => False) := by
  refine zM_start hzs hst (by decide) (Nat.le_of_ble_eq_true rfl) (fun X C G F I => ?_)
  show zV X 0 0 _ 0 [(0, _), (1, _)] []
  refine zV.aload_n C dJ0_indexOf_0f7a4_0 rfl rfl ?_
  refine zV.iload_n C dJ0_indexOf_0f7a4_1 rfl ?_
  refine zV.ic (v := nI 0) C dJ0_indexOf_0f7a4_2 (by decide) ?_
  refine zV.callVR (n := 2) C G dJ0_indexOf_0f7a4_3 (s_SindexOf2 hzs hst h q q2 bs hs hl c hc hb hp) rfl ⟨cd_J0_indexOf_7cf53, lk_J0_633, im_J0_indexOf_7cf53, se_J0_J0_indexOf_7cf53, in_J0⟩ ⟨⟨by decide, by decide⟩, by decide⟩ rfl rfl rfl (hs.1) (zaf ?_) (zno)
  refine zV.iret C F dJ0_indexOf_0f7a4_6 rfl ?_
  exact ⟨rfl, rfl⟩
