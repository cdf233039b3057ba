/-! Improvement -/
theorem zafX {X : zX} {kc ks : Nat} {pc : Nat} {lo : List (Nat × Value)} {rest : List Value} {n : Nat} {Q : Option Value → zH → Prop} (k : ∀ r h', Q r h' → zV X kc ks h' pc lo (r.toList ++ rest)) : ∀ (r : Option Value) (h' : zH), Q r h' → n ≤ hN h' → zV X kc ks h' pc lo (r.toList ++ rest) := fun r h' q _ => k r h' q
def zIs (h : zH) (a : Nat) : Prop := hK h a = 9 ∧ hR h 256 a = some (a + 1) ∧ hK h (a + 1) = 108 ∧ hL h (a + 1) = 6 ∧ ∀ i, i < 6 → aR h (a + 1) i = some (a + 2 + i) ∧ hK h (a + 2 + i) = 103 ∧ hL h (a + 2 + i) = 6
def zIm (h : zH) (a : Nat) (B : Nat → Nat → Nat) : Prop := zIs h a ∧ ∀ i j, i < 6 → j < 6 → aI h (a + 2 + i) j = nI (B i j) ∧ B i j ≤ 6
theorem zIs_e {h h' : zH} {a : Nat} (q : zIs h a) (e : ∀ c, a ≤ c → c < a + 8 → zEq h h' c) : zIs h' a := by
  obtain ⟨q1, q2, q3, q4, q5⟩ := q
  have e1 := e (a + 1) (by omega) (by omega)
  exact ⟨(e a (by omega) (by omega)).1.trans q1, ((e a (by omega) (by omega)).2.2.1 _).trans q2, e1.1.trans q3, e1.2.1.trans q4, fun i hi => ⟨(congrFun e1.2.2.2.2.2.1 i).trans (q5 i hi).1, (e (a + 2 + i) (by omega) (by omega)).1.trans (q5 i hi).2.1, (e (a + 2 + i) (by omega) (by omega)).2.1.trans (q5 i hi).2.2⟩⟩
theorem zPa_q {h h' : zH} {b lo hi : Nat} {nb : Nat → Nat} (q : zPa h b nb) (f : zFq h h' lo hi) (hd : b + 3 ≤ lo ∨ hi ≤ b) : zPa h' b nb := zPa_same q f.2.1 f.2.2.1 f.2.2.2.1 (fun j => (f.2.2.2.2.2.2.2 _ _ (by omega)).1)
-- sums over the six lawns
def fs (f : Nat → Nat) : Nat := f 0 + f 1 + f 2 + f 3 + f 4 + f 5
def bs (B : Nat → Nat → Nat) : Nat := fs (fun i => fs (B i))
theorem fs_up {f g : Nat → Nat} {i v : Nat} (hi : i < 6) (h1 : g i = v) (h2 : ∀ x, x ≠ i → g x = f x) : fs g + f i = fs f + v := by
  unfold fs
  rcases lt6 hi with rfl | rfl | rfl | rfl | rfl | rfl
  · rw [h1, h2 1 (by omega), h2 2 (by omega), h2 3 (by omega), h2 4 (by omega), h2 5 (by omega)]; omega
  · rw [h1, h2 0 (by omega), h2 2 (by omega), h2 3 (by omega), h2 4 (by omega), h2 5 (by omega)]; omega
  · rw [h1, h2 1 (by omega), h2 0 (by omega), h2 3 (by omega), h2 4 (by omega), h2 5 (by omega)]; omega
  · rw [h1, h2 1 (by omega), h2 2 (by omega), h2 0 (by omega), h2 4 (by omega), h2 5 (by omega)]; omega
  · rw [h1, h2 1 (by omega), h2 2 (by omega), h2 3 (by omega), h2 0 (by omega), h2 5 (by omega)]; omega
  · rw [h1, h2 1 (by omega), h2 2 (by omega), h2 3 (by omega), h2 4 (by omega), h2 0 (by omega)]; omega
theorem fs_le {f g : Nat → Nat} (h : ∀ x, x < 6 → f x ≤ g x) : fs f ≤ fs g := by
  unfold fs
  have := h 0 (by omega); have := h 1 (by omega); have := h 2 (by omega); have := h 3 (by omega); have := h 4 (by omega); have := h 5 (by omega)
  omega
theorem bs_up {B : Nat → Nat → Nat} {i j v : Nat} (hi : i < 6) (hj : j < 6) : bs (up2 B i j v) + B i j = bs B + v := by
  have h1 := fs_up (f := fun x => fs (B x)) (g := fun x => fs (up2 B i j v x)) (i := i) hi rfl (fun x hx => by
    show fs (fun y => up2 B i j v x y) = _
    rw [show (fun y => up2 B i j v x y) = B x from funext fun y => up2_ne (fun z => hx z.1)])
  have h2 := fs_up (f := B i) (g := up2 B i j v i) (i := j) (v := v) hj up2_eq (fun y hy => up2_ne (fun z => hy z.2))
  have h1 : bs (up2 B i j v) + fs (B i) = bs B + fs (up2 B i j v i) := h1
  omega
theorem bs_le {B D : Nat → Nat → Nat} (h : ∀ x y, x < 6 → y < 6 → B x y ≤ D x y) : bs B ≤ bs D := fs_le (fun x hx => fs_le (fun y hy => h x y hx hy))
/-- the triples ahead of i, j, k -/
def dn3 (i j k x y z : Nat) : Prop := x < i ∨ (x = i ∧ (y < j ∨ (y = j ∧ z < k)))
def zIv (h0 h : zH) (a : Nat) (B0 D : Nat → Nat → Nat) (f : Bool) (i j k : Nat) : Prop := ∃ B, zIm h a B ∧ zFq h0 h a (a + 8) ∧ (∀ x y, x < 6 → y < 6 → D x y ≤ B x y ∧ B x y ≤ B0 x y) ∧ (f = false → (∀ x y, x < 6 → y < 6 → B x y = B0 x y) ∧ ∀ x y z, x < 6 → y < 6 → z < 6 → dn3 i j k x y z → B0 x y ≤ B0 x z + B0 z y) ∧ (f = true → bs B < bs B0)
theorem zIv_j {h0 h : zH} {a i j : Nat} {B0 D : Nat → Nat → Nat} {f : Bool} (q : zIv h0 h a B0 D f i j 6) : zIv h0 h a B0 D f i (j + 1) 0 := by
  obtain ⟨B, q1, q2, q3, q4, q5⟩ := q
  exact ⟨B, q1, q2, q3, fun hf => ⟨(q4 hf).1, fun x y z h1 h2 h3 h4 => (q4 hf).2 x y z h1 h2 h3 (by unfold dn3 at *; omega)⟩, q5⟩
theorem zIv_i {h0 h : zH} {a i : Nat} {B0 D : Nat → Nat → Nat} {f : Bool} (q : zIv h0 h a B0 D f i 6 0) : zIv h0 h a B0 D f (i + 1) 0 0 := by
  obtain ⟨B, q1, q2, q3, q4, q5⟩ := q
  exact ⟨B, q1, q2, q3, fun hf => ⟨(q4 hf).1, fun x y z h1 h2 h3 h4 => (q4 hf).2 x y z h1 h2 h3 (by unfold dn3 at *; omega)⟩, q5⟩
theorem zIm_up {h : zH} {a i j v : Nat} {B : Nat → Nat → Nat} (q : zIm h a B) (hi : i < 6) (hv : v ≤ 6) : zIm (saI h (a + 2 + i) j (nI v)) a (up2 B i j v) := by
  refine ⟨q.1, fun x y hx hy => ?_⟩
  show up2 (aI h) (a + 2 + i) j (nI v) (a + 2 + x) y = nI (up2 B i j v x y) ∧ up2 B i j v x y ≤ 6
  unfold up2
  by_cases z : x = i ∧ y = j
  · rw [if_pos ⟨by omega, z.2⟩, if_pos z]; exact ⟨rfl, hv⟩
  · rw [if_neg (fun w => z ⟨by omega, w.2⟩), if_neg z]; exact q.2 x y hx hy
theorem zIv_t {h0 h : zH} {a i j k : Nat} {B0 D : Nat → Nat → Nat} {f : Bool} {B : Nat → Nat → Nat} (hi : i < 6) (hj : j < 6) (hk : k < 6) (ht : ∀ x y z, x < 6 → y < 6 → z < 6 → D x y ≤ D x z + D z y)
    (q1 : zIm h a B) (q2 : zFq h0 h a (a + 8)) (q3 : ∀ x y, x < 6 → y < 6 → D x y ≤ B x y ∧ B x y ≤ B0 x y) (hl : B i k + B k j < B i j) : zIv h0 (saI h (a + 2 + i) j (nI (B i k + B k j))) a B0 D true i j (k + 1) := by
  have b6 := (q1.2 i j hi hj).2
  refine ⟨_, zIm_up q1 hi (by omega), q2.saI (by omega) (by omega), fun x y hx hy => ?_, fun z => (by cases z), fun _ => ?_⟩
  · unfold up2
    split
    · rename_i z
      obtain ⟨rfl, rfl⟩ := z
      have := ht x y k hx hy hk
      have := q3 x k hx hk
      have := q3 k y hk hy
      have := q3 x y hx hy
      omega
    · exact q3 x y hx hy
  · have := bs_up (B := B) (v := B i k + B k j) hi hj
    have := bs_le (B := B) (D := B0) (fun x y hx hy => (q3 x y hx hy).2)
    omega
theorem zIv_n {h0 h : zH} {a i j k : Nat} {B0 D : Nat → Nat → Nat} {f : Bool} {B : Nat → Nat → Nat} (hi : i < 6) (hj : j < 6) (hk : k < 6)
    (q1 : zIm h a B) (q2 : zFq h0 h a (a + 8)) (q3 : ∀ x y, x < 6 → y < 6 → D x y ≤ B x y ∧ B x y ≤ B0 x y) (q4 : f = false → (∀ x y, x < 6 → y < 6 → B x y = B0 x y) ∧ ∀ x y z, x < 6 → y < 6 → z < 6 → dn3 i j k x y z → B0 x y ≤ B0 x z + B0 z y) (q5 : f = true → bs B < bs B0) (hl : ¬ B i k + B k j < B i j) : zIv h0 h a B0 D f i j (k + 1) := by
  refine ⟨B, q1, q2, q3, fun hf => ?_, q5⟩
  obtain ⟨e, t⟩ := q4 hf
  refine ⟨e, fun x y z hx hy hz hd => ?_⟩
  rcases Decidable.em (x = i ∧ y = j ∧ z = k) with ⟨rfl, rfl, rfl⟩ | w
  · rw [← e x y hx hy, ← e x z hx hz, ← e z y hz hy]; omega
  · exact t x y z hx hy hz (by unfold dn3 at *; omega)
set_option maxHeartbeats 4000000 in
set_option maxRecDepth 100000 in
theorem L_imp3 {X : zX} {l : Launch} {E : zG} {rm : Room} (hzs : zS E) (hst : l.stackTraces = false) (C : zC X cX5_improve RX5 6) (G : zGX X l E rm) {h0 : zH} {a i j : Nat} {B0 D : Nat → Nat → Nat} (hr : rm = ({ frames := 0, cells := 0, slots := 0, locals := 0 } : Room)) (ht : ∀ x y z, x < 6 → y < 6 → z < 6 → D x y ≤ D x z + D z y) (hi : i < 6) (hj : j < 6) (kx : ∀ h f k, zIv h0 h a B0 D f i j 6 → zV X 0 0 h 80 [(0, .ref a), (1, .int (nI (b2 f))), (2, .int (nI i)), (3, .int (nI j)), (4, .int (nI k))] []) : ∀ n k h f, k ≤ 6 → 7 ≤ k + n → zIv h0 h a B0 D f i j k → zV X 0 0 h 21 [(0, .ref a), (1, .int (nI (b2 f))), (2, .int (nI i)), (3, .int (nI j)), (4, .int (nI k))] [] := by
  subst hr
  intro n
  induction n with
  | zero => intro k h f h1 h2; exact absurd h2 (by omega)
  | succ n ih =>
    intro k h f hk6 hn q
    refine zV.iload C dX5_improve_21 rfl ?_
    refine zV.bi (v := nI 6) C dX5_improve_23 (by decide) ?_
    refine zV.icmp_ge (tgt := 80) C dX5_improve_25 (by decide) (fun q25 => ?_) (fun q25 => ?_)
    · have e : k = 6 := by have := nle (by omega) (by decide) q25; omega
      subst e
      exact kx h f 6 q
    · have hk : k < 6 := nlt (by omega) (by decide) q25
      obtain ⟨B, q1, q2, q3, q4, q5⟩ := q
      have u1 := (q1.2 i k hi hk).2
      have u2 := (q1.2 k j hk hj).2
      have u3 := (q1.2 i j hi hj).2
      refine zV.aload_n C dX5_improve_28 rfl rfl ?_
      refine zV.gR 256 (k := 0) C dX5_improve_29 zcl_X5 (by decide) rfl lk_X5_13 (q1.1.1) rfl (q1.1.2.1) ?_
      refine zV.iload_n C dX5_improve_32 rfl ?_
      refine zV.aaldI (j := i) C dX5_improve_33 (q1.1.2.2.1) (rfl) (Nat.lt_of_lt_of_eq hi (q1.1.2.2.2.1).symm) (by omega) (q1.1.2.2.2.2 i hi).1 ?_
      refine zV.iload C dX5_improve_34 rfl ?_
      refine zV.ialdv (j := k) C dX5_improve_36 ((q1.1.2.2.2.2 i hi).2.1) (rfl) (Nat.lt_of_lt_of_eq hk ((q1.1.2.2.2.2 i hi).2.2).symm) (by omega) ((q1.2 i k hi hk).1) ?_
      refine zV.aload_n C dX5_improve_37 rfl rfl ?_
      refine zV.gR 256 (k := 0) C dX5_improve_38 zcl_X5 (by decide) rfl lk_X5_13 (q1.1.1) rfl (q1.1.2.1) ?_
      refine zV.iload C dX5_improve_41 rfl ?_
      refine zV.aaldI (j := k) C dX5_improve_43 (q1.1.2.2.1) (rfl) (Nat.lt_of_lt_of_eq hk (q1.1.2.2.2.1).symm) (by omega) (q1.1.2.2.2.2 k hk).1 ?_
      refine zV.iload_n C dX5_improve_44 rfl ?_
      refine zV.ialdv (j := j) C dX5_improve_45 ((q1.1.2.2.2.2 k hk).2.1) (rfl) (Nat.lt_of_lt_of_eq hj ((q1.1.2.2.2.2 k hk).2.2).symm) (by omega) ((q1.2 k j hk hj).1) ?_
      refine zV.iadd C dX5_improve_46 ?_
      rw [nI_add]
      refine zV.istore (lo' := [(0, _), (1, _), (2, _), (3, _), (4, _), (5, _)]) C dX5_improve_47 (by decide) rfl rfl rfl ?_
      refine zV.iload C dX5_improve_49 rfl ?_
      refine zV.aload_n C dX5_improve_51 rfl rfl ?_
      refine zV.gR 256 (k := 0) C dX5_improve_52 zcl_X5 (by decide) rfl lk_X5_13 (q1.1.1) rfl (q1.1.2.1) ?_
      refine zV.iload_n C dX5_improve_55 rfl ?_
      refine zV.aaldI (j := i) C dX5_improve_56 (q1.1.2.2.1) (rfl) (Nat.lt_of_lt_of_eq hi (q1.1.2.2.2.1).symm) (by omega) (q1.1.2.2.2.2 i hi).1 ?_
      refine zV.iload_n C dX5_improve_57 rfl ?_
      refine zV.ialdv (j := j) C dX5_improve_58 ((q1.1.2.2.2.2 i hi).2.1) (rfl) (Nat.lt_of_lt_of_eq hj ((q1.1.2.2.2.2 i hi).2.2).symm) (by omega) ((q1.2 i j hi hj).1) ?_
      refine zV.icmp_ge (tgt := 74) C dX5_improve_59 (by decide) (fun q59 => ?_) (fun q59 => ?_)
      · have hl : ¬ B i k + B k j < B i j := by have := nle (by omega) (by omega) q59; omega
        refine zV.iinc (lo' := [(0, _), (1, _), (2, _), (3, _), (4, _), (5, _)]) C dX5_improve_74 rfl (by decide) rfl rfl rfl ?_
        refine zV.goto (tgt := 21) C dX5_improve_77 (by decide) ?_
        rw [inc1]
        refine zV.sub [0, 1, 2, 3, 4] rfl ?_
        first
          | exact ih (k + 1) _ true (by omega) (by omega) (zIv_t (f := f) hi hj hk ht q1 q2 q3 hl)
          | exact ih (k + 1) h f (by omega) (by omega) (zIv_n hi hj hk q1 q2 q3 q4 q5 hl)
      · have hl : B i k + B k j < B i j := nlt (by omega) (by omega) q59
        refine zV.aload_n C dX5_improve_62 rfl rfl ?_
        refine zV.gR 256 (k := 0) C dX5_improve_63 zcl_X5 (by decide) rfl lk_X5_13 (q1.1.1) rfl (q1.1.2.1) ?_
        refine zV.iload_n C dX5_improve_66 rfl ?_
        refine zV.aaldI (j := i) C dX5_improve_67 (q1.1.2.2.1) (rfl) (Nat.lt_of_lt_of_eq hi (q1.1.2.2.2.1).symm) (by omega) (q1.1.2.2.2.2 i hi).1 ?_
        refine zV.iload_n C dX5_improve_68 rfl ?_
        refine zV.iload C dX5_improve_69 rfl ?_
        refine zV.iast (j := j) C dX5_improve_71 ((q1.1.2.2.2.2 i hi).2.1) (rfl) (Nat.lt_of_lt_of_eq hj ((q1.1.2.2.2.2 i hi).2.2).symm) (by omega) ?_
        refine zV.ic (v := nI 1) C dX5_improve_72 (by decide) ?_
        refine zV.istore_n (lo' := [(0, _), (1, _), (2, _), (3, _), (4, _), (5, _)]) C dX5_improve_73 (by decide) rfl rfl rfl ?_
        refine zV.iinc (lo' := [(0, _), (1, _), (2, _), (3, _), (4, _), (5, _)]) C dX5_improve_74 rfl (by decide) rfl rfl rfl ?_
        refine zV.goto (tgt := 21) C dX5_improve_77 (by decide) ?_
        rw [inc1]
        refine zV.sub [0, 1, 2, 3, 4] rfl ?_
        first
          | exact ih (k + 1) _ true (by omega) (by omega) (zIv_t (f := f) hi hj hk ht q1 q2 q3 hl)
          | exact ih (k + 1) h f (by omega) (by omega) (zIv_n hi hj hk q1 q2 q3 q4 q5 hl)
set_option maxHeartbeats 4000000 in
set_option maxRecDepth 100000 in
theorem L_imp2 {X : zX} {l : Launch} {E : zG} {rm : Room} (hzs : zS E) (hst : l.stackTraces = false) (C : zC X cX5_improve RX5 6) (G : zGX X l E rm) {h0 : zH} {a i : Nat} {B0 D : Nat → Nat → Nat} (hr : rm = ({ frames := 0, cells := 0, slots := 0, locals := 0 } : Room)) (ht : ∀ x y z, x < 6 → y < 6 → z < 6 → D x y ≤ D x z + D z y) (hi : i < 6) (kx : ∀ h f j, zIv h0 h a B0 D f i 6 0 → zV X 0 0 h 86 [(0, .ref a), (1, .int (nI (b2 f))), (2, .int (nI i)), (3, .int (nI j))] []) : ∀ n j h f, j ≤ 6 → 7 ≤ j + n → zIv h0 h a B0 D f i j 0 → zV X 0 0 h 12 [(0, .ref a), (1, .int (nI (b2 f))), (2, .int (nI i)), (3, .int (nI j))] [] := by
  subst hr
  intro n
  induction n with
  | zero => intro k h f h1 h2; exact absurd h2 (by omega)
  | succ n ih =>
    intro j h f hj6 hn q
    refine zV.iload_n C dX5_improve_12 rfl ?_
    refine zV.bi (v := nI 6) C dX5_improve_13 (by decide) ?_
    refine zV.icmp_ge (tgt := 86) C dX5_improve_15 (by decide) (fun q15 => ?_) (fun q15 => ?_)
    · have e : j = 6 := by have := nle (by omega) (by decide) q15; omega
      subst e
      exact kx h f 6 q
    · have hj : j < 6 := nlt (by omega) (by decide) q15
      refine zV.ic (v := nI 0) C dX5_improve_18 (by decide) ?_
      refine zV.istore (lo' := [(0, _), (1, _), (2, _), (3, _), (4, _)]) C dX5_improve_19 (by decide) rfl rfl rfl ?_
      refine L_imp3 hzs hst C G rfl ht hi hj (fun h f k q => ?_) 7 0 h f (by omega) (by omega) q
      refine zV.iinc (lo' := [(0, _), (1, _), (2, _), (3, _), (4, _)]) C dX5_improve_80 rfl (by decide) rfl rfl rfl ?_
      refine zV.goto (tgt := 12) C dX5_improve_83 (by decide) ?_
      rw [inc1]
      exact zV.sub [0, 1, 2, 3] rfl (ih (j + 1) h f (by omega) (by omega) (zIv_j q))
set_option maxHeartbeats 4000000 in
set_option maxRecDepth 100000 in
theorem L_imp1 {X : zX} {l : Launch} {E : zG} {rm : Room} (hzs : zS E) (hst : l.stackTraces = false) (C : zC X cX5_improve RX5 6) (G : zGX X l E rm) {h0 : zH} {a : Nat} {B0 D : Nat → Nat → Nat} (hr : rm = ({ frames := 0, cells := 0, slots := 0, locals := 0 } : Room)) (ht : ∀ x y z, x < 6 → y < 6 → z < 6 → D x y ≤ D x z + D z y) {Qr : Option Value → zH → Prop} {Qx : String → zH → Prop} (F : zF X (some .boolean) 0 0 Qr Qx) (hq : ∀ h f, zIv h0 h a B0 D f 6 0 0 → Qr (some (.int (nI (b2 f)))) h) : ∀ n i h f, i ≤ 6 → 7 ≤ i + n → zIv h0 h a B0 D f i 0 0 → zV X 0 0 h 4 [(0, .ref a), (1, .int (nI (b2 f))), (2, .int (nI i))] [] := by
  subst hr
  intro n
  induction n with
  | zero => intro k h f h1 h2; exact absurd h2 (by omega)
  | succ n ih =>
    intro i h f hi6 hn q
    refine zV.iload_n C dX5_improve_4 rfl ?_
    refine zV.bi (v := nI 6) C dX5_improve_5 (by decide) ?_
    refine zV.icmp_ge (tgt := 92) C dX5_improve_7 (by decide) (fun q7 => ?_) (fun q7 => ?_)
    · have e : i = 6 := by have := nle (by omega) (by decide) q7; omega
      subst e
      refine zV.iload_n C dX5_improve_92 rfl ?_
      refine zV.zret C F dX5_improve_93 (b01b (v := f)).1 rfl ?_
      exact hq h f q
    · have hi : i < 6 := nlt (by omega) (by decide) q7
      refine zV.ic (v := nI 0) C dX5_improve_10 (by decide) ?_
      refine zV.istore_n (lo' := [(0, _), (1, _), (2, _), (3, _)]) C dX5_improve_11 (by decide) rfl rfl rfl ?_
      refine L_imp2 hzs hst C G rfl ht hi (fun h f j q => ?_) 7 0 h f (by omega) (by omega) q
      refine zV.iinc (lo' := [(0, _), (1, _), (2, _), (3, _)]) C dX5_improve_86 rfl (by decide) rfl rfl rfl ?_
      refine zV.goto (tgt := 4) C dX5_improve_89 (by decide) ?_
      rw [inc1]
      exact zV.sub [0, 1, 2] rfl (ih (i + 1) h f (by omega) (by omega) (zIv_i q))
set_option maxHeartbeats 4000000 in
set_option maxRecDepth 100000 in
theorem s_improve {l : Launch} {E : zG} (hzs : zS E) (hst : l.stackTraces = false) (h : zH) (a : Nat) (B0 D : Nat → Nat → Nat) (hq : zIm h a B0) (hD : ∀ x y, x < 6 → y < 6 → D x y ≤ B0 x y) (ht : ∀ x y z, x < 6 → y < 6 → z < 6 → D x y ≤ D x z + D z y) : zMet l E yX5_improve cX5_improve 6 (some .boolean) ({ frames := 0, cells := 0, slots := 0, locals := 0 } : Room) 0 0 [.ref a] h (fun r h' => ∃ f, r = some (.int (nI (b2 f))) ∧ zIv h h' a B0 D f 6 0 0) (fun _ _ => False) := by
  refine zM_start hzs hst (by decide) (Nat.le_of_ble_eq_true rfl) (fun X C G F I => ?_)
  show zV X 0 0 _ 0 [(0, _)] []
  refine zV.ic (v := nI 0) C dX5_improve_0 (by decide) ?_
  refine zV.istore_n (lo' := [(0, _), (1, _)]) C dX5_improve_1 (by decide) rfl rfl rfl ?_
  refine zV.ic (v := nI 0) C dX5_improve_2 (by decide) ?_
  refine zV.istore_n (lo' := [(0, _), (1, _), (2, _)]) C dX5_improve_3 (by decide) rfl rfl rfl ?_
  exact L_imp1 (h0 := h) hzs hst C G rfl ht F (fun h1 f q => ⟨f, rfl, q⟩) 7 0 h false (by omega) (by omega) ⟨B0, hq, zFq.refl h _ _, fun x y hx hy => ⟨hD x y hx hy, Nat.le_refl _⟩, fun _ => ⟨fun _ _ _ _ => rfl, fun x y z _ _ _ hd => by unfold dn3 at hd; omega⟩, fun z => by cases z⟩
def ini (nb : Nat → Nat) (i j : Nat) : Nat := if i = j then 0 else if (nb i).testBit j = true then 1 else 6
theorem ini_6 {nb : Nat → Nat} {i j : Nat} : ini nb i j ≤ 6 := by unfold ini; split; omega; split <;> omega
theorem ini_0 {nb : Nat → Nat} {i : Nat} : ini nb i i = 0 := if_pos rfl
theorem ini_d {nb : Nat → Nat} {i j : Nat} (hi : i < 6) : dd nb i j ≤ ini nb i j := by
  unfold ini
  split
  · rename_i e
    subst e
    rw [dd_0]; exact Nat.le_refl _
  · split
    · exact dd_1 hi (by assumption)
    · exact dd_6
theorem ini_bs {nb : Nat → Nat} : bs (ini nb) ≤ 180 := by
  have r : ∀ i, i < 6 → fs (ini nb i) ≤ 30 := fun i hi => by
    have z : ∀ j, ini nb i j ≤ 6 := fun j => ini_6
    have z0 := ini_0 (nb := nb) (i := i)
    have a0 := z 0; have a1 := z 1; have a2 := z 2; have a3 := z 3; have a4 := z 4; have a5 := z 5
    unfold fs
    rcases lt6 hi with rfl | rfl | rfl | rfl | rfl | rfl <;> omega
  unfold bs
  have := r 0 (by omega); have := r 1 (by omega); have := r 2 (by omega); have := r 3 (by omega); have := r 4 (by omega); have := r 5 (by omega)
  show fs (ini nb 0) + fs (ini nb 1) + fs (ini nb 2) + fs (ini nb 3) + fs (ini nb 4) + fs (ini nb 5) ≤ 180
  omega
set_option maxHeartbeats 4000000 in
set_option maxRecDepth 100000 in
theorem s_firstBound {l : Launch} {E : zG} (hzs : zS E) (hst : l.stackTraces = false) (h : zH) (b i j : Nat) (nb : Nat → Nat) (hi : i < 6) (hj : j < 6) (g : zPa h b nb) : zMet l E yX5_firstBound cX5_firstBound 3 (some .int) ({ frames := 2, cells := 0, slots := 0, locals := 43 } : Room) 0 0 [.ref b, .int (nI i), .int (nI j)] h (fun r h' => r = some (.int (nI (ini nb i j))) ∧ h' = h) (fun _ _ => False) := by
  refine zM_start hzs hst (by decide) (Nat.le_of_ble_eq_true rfl) (fun X C G F I => ?_)
  show zV X 0 0 _ 0 [(0, _), (1, _), (2, _)] []
  refine zV.iload_n C dX5_firstBound_0 rfl ?_
  refine zV.iload_n C dX5_firstBound_1 rfl ?_
  refine zV.icmp_ne (tgt := 7) C dX5_firstBound_2 (by decide) (fun q2 => ?_) (fun q2 => ?_)
  · have hij : i ≠ j := fun z => q2 (congrArg nI z)
    refine zV.aload_n C dX5_firstBound_7 rfl rfl ?_
    refine zV.iload_n C dX5_firstBound_8 rfl ?_
    refine zV.iload_n C dX5_firstBound_9 rfl ?_
    refine zV.callV (n := 2) C G dX5_firstBound_10 (s_Paths_areNeighbours hzs hst h b i j nb hi hj g) rfl ⟨cd_X8_areNeighbours, lk_X5_37, im_X8_areNeighbours, se_X8_X8_areNeighbours, in_X8⟩ ⟨⟨by decide, by decide⟩, by decide⟩ rfl rfl rfl g.1.1 ⟨rfl, by decide⟩ (zaf ?_) (zno)
    refine zV.if_eq (tgt := 20) C dX5_firstBound_13 (by decide) (fun q13 => ?_) (fun q13 => ?_)
    · have hb := b01.mp q13
      refine zV.bi (v := nI 6) C dX5_firstBound_20 (by decide) ?_
      refine zV.iret C F dX5_firstBound_22 rfl ?_
      refine ⟨?_, rfl⟩
      unfold ini
      first
        | (rw [if_neg hij, if_pos hb]; done)
        | (rw [if_neg hij, if_neg hb]; done)
    · have hb := Decidable.of_not_not (fun z => q13 (b01.mpr z))
      refine zV.ic (v := nI 1) C dX5_firstBound_16 (by decide) ?_
      refine zV.goto (tgt := 22) C dX5_firstBound_17 (by decide) ?_
      refine zV.iret C F dX5_firstBound_22 rfl ?_
      refine ⟨?_, rfl⟩
      unfold ini
      first
        | (rw [if_neg hij, if_pos hb]; done)
        | (rw [if_neg hij, if_neg hb]; done)
  · have hij : i = j := (neqn (by omega) (by omega)).mp q2
    refine zV.ic (v := nI 0) C dX5_firstBound_5 (by decide) ?_
    refine zV.iret C F dX5_firstBound_6 rfl ?_
    exact ⟨by unfold ini; rw [if_pos hij], rfl⟩
def zIf (h0 h : zH) (a b : Nat) (nb : Nat → Nat) (i j : Nat) : Prop := zIs h a ∧ zFq h0 h a (a + 8) ∧ zPa h b nb ∧ ∀ x y, x < 6 → y < 6 → (x < i ∨ (x = i ∧ y < j)) → aI h (a + 2 + x) y = nI (ini nb x y)
theorem zIf_s {h0 h : zH} {a b i j : Nat} {nb : Nat → Nat} (q : zIf h0 h a b nb i j) (hi : i < 6) (hd : b + 3 ≤ a ∨ a + 8 ≤ b) : zIf h0 (saI h (a + 2 + i) j (nI (ini nb i j))) a b nb i (j + 1) := by
  obtain ⟨q1, q2, q3, q4⟩ := q
  refine ⟨q1, q2.saI (by omega) (by omega), zPa_q q3 ((zFq.refl h a (a + 8)).saI (by omega) (by omega)) hd, fun x y hx hy hz => ?_⟩
  show up2 (aI h) (a + 2 + i) j (nI (ini nb i j)) (a + 2 + x) y = _
  unfold up2
  by_cases z : x = i ∧ y = j
  · obtain ⟨rfl, rfl⟩ := z
    rw [if_pos ⟨rfl, rfl⟩]
  · rw [if_neg (fun w => z ⟨by omega, w.2⟩)]
    exact q4 x y hx hy (by omega)
theorem zIf_i {h0 h : zH} {a b i : Nat} {nb : Nat → Nat} (q : zIf h0 h a b nb i 6) : zIf h0 h a b nb (i + 1) 0 := ⟨q.1, q.2.1, q.2.2.1, fun x y hx hy hz => q.2.2.2 x y hx hy (by omega)⟩
set_option maxHeartbeats 4000000 in
set_option maxRecDepth 100000 in
theorem L_fill2 {X : zX} {l : Launch} {E : zG} {rm : Room} (hzs : zS E) (hst : l.stackTraces = false) (C : zC X cX5_measure RX5 4) (G : zGX X l E rm) {h0 : zH} {a b i : Nat} {nb : Nat → Nat} (hr : rm = ({ frames := 3, cells := 0, slots := 0, locals := 65 } : Room)) (hd : b + 3 ≤ a ∨ a + 8 ≤ b) (hi : i < 6) (kx : ∀ h j, zIf h0 h a b nb i 6 → zV X 0 0 h 36 [(0, .ref a), (1, .ref b), (2, .int (nI i)), (3, .int (nI j))] []) : ∀ n j h, j ≤ 6 → 7 ≤ j + n → zIf h0 h a b nb i j → zV X 0 0 h 10 [(0, .ref a), (1, .ref b), (2, .int (nI i)), (3, .int (nI j))] [] := by
  subst hr
  intro n
  induction n with
  | zero => intro j h h1 h2; exact absurd h2 (by omega)
  | succ n ih =>
    intro j h hj6 hn q
    refine zV.iload_n C dX5_measure_10 rfl ?_
    refine zV.bi (v := nI 6) C dX5_measure_11 (by decide) ?_
    refine zV.icmp_ge (tgt := 36) C dX5_measure_13 (by decide) (fun q13 => ?_) (fun q13 => ?_)
    · have e : j = 6 := by have := nle (by omega) (by decide) q13; omega
      subst e
      exact kx h 6 q
    · have hj : j < 6 := nlt (by omega) (by decide) q13
      refine zV.aload_n C dX5_measure_16 rfl rfl ?_
      refine zV.gR 256 (k := 0) C dX5_measure_17 zcl_X5 (by decide) rfl lk_X5_13 (q.1.1) rfl (q.1.2.1) ?_
      refine zV.iload_n C dX5_measure_20 rfl ?_
      refine zV.aaldI (j := i) C dX5_measure_21 (q.1.2.2.1) (rfl) (Nat.lt_of_lt_of_eq hi (q.1.2.2.2.1).symm) (by omega) (q.1.2.2.2.2 i hi).1 ?_
      refine zV.iload_n C dX5_measure_22 rfl ?_
      refine zV.aload_n C dX5_measure_23 rfl rfl ?_
      refine zV.iload_n C dX5_measure_24 rfl ?_
      refine zV.iload_n C dX5_measure_25 rfl ?_
      refine zV.callS (n := 3) C G dX5_measure_26 (s_firstBound hzs hst h b i j nb hi hj q.2.2.1) rfl ⟨cd_X5_firstBound, lk_X5_16, st_X5_firstBound, in_X5⟩ ⟨⟨by decide, by decide⟩, by decide⟩ rfl rfl rfl (zaf ?_) (zno)
      refine zV.iast (j := j) C dX5_measure_29 ((q.1.2.2.2.2 i hi).2.1) (rfl) (Nat.lt_of_lt_of_eq hj ((q.1.2.2.2.2 i hi).2.2).symm) (by omega) ?_
      refine zV.iinc (lo' := [(0, _), (1, _), (2, _), (3, _)]) C dX5_measure_30 rfl (by decide) rfl rfl rfl ?_
      refine zV.goto (tgt := 10) C dX5_measure_33 (by decide) ?_
      rw [inc1]
      exact ih (j + 1) _ (by omega) (by omega) (zIf_s q hi hd)
set_option maxHeartbeats 4000000 in
set_option maxRecDepth 100000 in
theorem L_fill1 {X : zX} {l : Launch} {E : zG} {rm : Room} (hzs : zS E) (hst : l.stackTraces = false) (C : zC X cX5_measure RX5 4) (G : zGX X l E rm) {h0 : zH} {a b : Nat} {nb : Nat → Nat} (hr : rm = ({ frames := 3, cells := 0, slots := 0, locals := 65 } : Room)) (hd : b + 3 ≤ a ∨ a + 8 ≤ b) (kx : ∀ h i, zIf h0 h a b nb 6 0 → zV X 0 0 h 42 [(0, .ref a), (1, .ref b), (2, .int (nI i))] []) : ∀ n i h, i ≤ 6 → 7 ≤ i + n → zIf h0 h a b nb i 0 → zV X 0 0 h 2 [(0, .ref a), (1, .ref b), (2, .int (nI i))] [] := by
  subst hr
  intro n
  induction n with
  | zero => intro i h h1 h2; exact absurd h2 (by omega)
  | succ n ih =>
    intro i h hi6 hn q
    refine zV.iload_n C dX5_measure_2 rfl ?_
    refine zV.bi (v := nI 6) C dX5_measure_3 (by decide) ?_
    refine zV.icmp_ge (tgt := 42) C dX5_measure_5 (by decide) (fun q5 => ?_) (fun q5 => ?_)
    · have e : i = 6 := by have := nle (by omega) (by decide) q5; omega
      subst e
      exact kx h 6 q
    · have hi : i < 6 := nlt (by omega) (by decide) q5
      refine zV.ic (v := nI 0) C dX5_measure_8 (by decide) ?_
      refine zV.istore_n (lo' := [(0, _), (1, _), (2, _), (3, _)]) C dX5_measure_9 (by decide) rfl rfl rfl ?_
      refine L_fill2 hzs hst C G rfl hd hi (fun h j q => ?_) 7 0 h (by omega) (by omega) q
      refine zV.iinc (lo' := [(0, _), (1, _), (2, _), (3, _)]) C dX5_measure_36 rfl (by decide) rfl rfl rfl ?_
      refine zV.goto (tgt := 2) C dX5_measure_39 (by decide) ?_
      rw [inc1]
      exact zV.sub [0, 1, 2] rfl (ih (i + 1) h (by omega) (by omega) (zIf_i q))
set_option maxHeartbeats 4000000 in
set_option maxRecDepth 100000 in
theorem L_rounds {X : zX} {l : Launch} {E : zG} {rm : Room} (hzs : zS E) (hst : l.stackTraces = false) (C : zC X cX5_measure RX5 4) (G : zGX X l E rm) {h0 : zH} {a b : Nat} {nb : Nat → Nat} {Qr : Option Value → zH → Prop} {Qx : String → zH → Prop} (hr : rm = ({ frames := 3, cells := 0, slots := 0, locals := 65 } : Room)) (F : zF X none 0 0 Qr Qx) (hq : ∀ h, zIm h a (dd nb) → zFq h0 h a (a + 8) → Qr none h) : ∀ n r h f B, r ≤ 216 → 217 ≤ r + n → zIm h a B → zFq h0 h a (a + 8) → (∀ x y, x < 6 → y < 6 → dd nb x y ≤ B x y ∧ B x y ≤ ini nb x y) → (f = true → bs B + r ≤ bs (ini nb)) → (f = false → ∀ x y z, x < 6 → y < 6 → z < 6 → B x y ≤ B x z + B z y) → zV X 0 0 h 46 [(0, .ref a), (1, .ref b), (2, .int (nI (b2 f))), (3, .int (nI r))] [] := by
  subst hr
  intro n
  induction n with
  | zero => intro r h f B h1 h2; exact absurd h2 (by omega)
  | succ n ih =>
    intro r h f B hr6 hn q1 q2 q3 q4 q5
    refine zV.iload_n C dX5_measure_46 rfl ?_
    refine zV.if_eq (tgt := 68) C dX5_measure_47 (by decide) (fun q47 => ?_) (fun q47 => ?_)
    · have e : f = false := b2n.mp q47
      have eB := dd_of (nb := nb) (B := B) (fun i hi => Nat.le_trans (q3 i i hi hi).2 (Nat.le_of_eq ini_0)) (fun i j hi hj hb => Nat.le_trans (q3 i j hi hj).2 (by unfold ini; split <;> first | omega | (rw [if_pos hb]; exact Nat.le_refl _))) (fun i j hi hj => (q1.2 i j hi hj).2) (q5 e) (fun i j hi hj => (q3 i j hi hj).1)
      refine zV.vret C F dX5_measure_68 rfl ?_
      exact hq h ⟨q1.1, fun i j hi hj => by rw [← eB i j hi hj]; exact q1.2 i j hi hj⟩ q2
    · have e : f = true := Bool.of_not_eq_false (fun z => q47 (b2n.mpr z))
      refine zV.iload_n C dX5_measure_50 rfl ?_
      refine zV.si (v := nI 216) C dX5_measure_51 (by decide) ?_
      refine zV.icmp_ge (tgt := 68) C dX5_measure_54 (by decide) (fun q54 => ?_) (fun q54 => ?_)
      · have e9 : r = 216 := by have := nle (by omega) (by decide) q54; omega
        have := ini_bs (nb := nb)
        have := q4 e
        omega
      · refine zV.aload_n C dX5_measure_57 rfl rfl ?_
        refine zV.callV (n := 0) C G dX5_measure_58 (s_improve hzs hst h a B (dd nb) q1 (fun x y hx hy => (q3 x y hx hy).1) (fun x y z _ _ _ => dd_tri)) rfl ⟨cd_X5_improve, lk_X5_20, im_X5_improve, se_X5_X5_improve, in_X5⟩ ⟨⟨by decide, by decide⟩, by decide⟩ rfl rfl rfl q1.1.1 ⟨rfl, by decide⟩ (zafX (fun r9 h9 ⟨f9, hr9, q9⟩ => ?_)) (zno)
        subst hr9
        show zV X 0 0 h9 61 _ (.int (nI (b2 f9)) :: _)
        refine zV.istore_n (lo' := [(0, _), (1, _), (2, _), (3, _)]) C dX5_measure_61 (by decide) rfl rfl rfl ?_
        refine zV.iinc (lo' := [(0, _), (1, _), (2, _), (3, _)]) C dX5_measure_62 rfl (by decide) rfl rfl rfl ?_
        refine zV.goto (tgt := 46) C dX5_measure_65 (by decide) ?_
        rw [inc1]
        obtain ⟨B9, a1, a2, a3, a4, a5⟩ := q9
        have hlt : r < 216 := nlt (by omega) (by decide) q54
        refine ih (r + 1) h9 f9 B9 (by omega) (by omega) a1 (q2.trans a2) (fun x y hx hy => ⟨(a3 x y hx hy).1, Nat.le_trans (a3 x y hx hy).2 (q3 x y hx hy).2⟩) (fun hf => ?_) (fun hf x y z hx hy hz => ?_)
        · have := a5 hf
          have := q4 e
          omega
        · obtain ⟨b1, b2⟩ := a4 hf
          rw [b1 x y hx hy, b1 x z hx hz, b1 z y hz hy]
          exact b2 x y z hx hy hz (by unfold dn3; omega)
set_option maxHeartbeats 4000000 in
set_option maxRecDepth 100000 in
theorem s_measure {l : Launch} {E : zG} (hzs : zS E) (hst : l.stackTraces = false) (h : zH) (a b : Nat) (nb : Nat → Nat) (hs : zIs h a) (g : zPa h b nb) (hd : b + 3 ≤ a ∨ a + 8 ≤ b) : zMet l E yX5_measure cX5_measure 4 none ({ frames := 3, cells := 0, slots := 0, locals := 65 } : Room) 0 0 [.ref a, .ref b] h (fun r h' => r = none ∧ zIm h' a (dd nb) ∧ zFq h h' a (a + 8)) (fun _ _ => False) := by
  refine zM_start hzs hst (by decide) (Nat.le_of_ble_eq_true rfl) (fun X C G F I => ?_)
  show zV X 0 0 _ 0 [(0, _), (1, _)] []
  refine zV.ic (v := nI 0) C dX5_measure_0 (by decide) ?_
  refine zV.istore_n (lo' := [(0, _), (1, _), (2, _)]) C dX5_measure_1 (by decide) rfl rfl rfl ?_
  refine L_fill1 (h0 := h) hzs hst C G rfl hd (fun h1 i q => ?_) 7 0 h (by omega) (by omega) ⟨hs, zFq.refl h _ _, g, fun x y hx hy hz => by omega⟩
  refine zV.ic (v := nI 1) C dX5_measure_42 (by decide) ?_
  refine zV.istore_n (lo' := [(0, _), (1, _), (2, _)]) C dX5_measure_43 (by decide) rfl rfl rfl ?_
  refine zV.ic (v := nI 0) C dX5_measure_44 (by decide) ?_
  refine zV.istore_n (lo' := [(0, _), (1, _), (2, _), (3, _)]) C dX5_measure_45 (by decide) rfl rfl rfl ?_
  exact L_rounds (h0 := h) hzs hst C G rfl F (fun h2 z f => ⟨rfl, z, f⟩) 217 0 h1 true (ini nb) (by omega) (by omega) ⟨q.1, fun x y hx hy => ⟨q.2.2.2 x y hx hy (by omega), ini_6⟩⟩ q.2.1 (fun x y hx hy => ⟨ini_d hx, Nat.le_refl _⟩) (fun _ => by omega) (fun z => by cases z)
set_option maxHeartbeats 4000000 in
set_option maxRecDepth 100000 in
theorem s_between {l : Launch} {E : zG} (hzs : zS E) (hst : l.stackTraces = false) (h : zH) (a i j : Nat) (nb : Nat → Nat) (hi : i < 6) (hj : j < 6) (q : zIm h a (dd nb)) : zMet l E yX5_between cX5_between 4 (some .int) ({ frames := 1, cells := 0, slots := 0, locals := 20 } : Room) 0 0 [.ref a, .int (nI i), .int (nI j)] h (fun r h' => r = some (.int (oI (far nb i j))) ∧ h' = h) (fun _ _ => False) := by
  refine zM_start hzs hst (by decide) (Nat.le_of_ble_eq_true rfl) (fun X C G F I => ?_)
  show zV X 0 0 _ 0 [(0, _), (1, _), (2, _)] []
  refine zV.iload_n C dX5_between_0 rfl ?_
  refine zV.callSN (n := 1) C G dX5_between_1 (s_isLawn hzs hst h (nI i)) rfl ⟨cd_X9_isLawn, lk_X5_24, st_X9_isLawn, in_X9⟩ ⟨⟨by decide, by decide⟩, by decide⟩ rfl rfl rfl (zafe (show Value.int (nI (b2 (ln (nI i)).isSome)) = .int (nI 1) from by rw [ln_n i hi]; rfl) ?_) (zno)
  refine zV.if_eq (tgt := 14) C dX5_between_4 (by decide) (fun q4 => ?_) (fun q4 => ?_)
  · exact absurd (show nI 1 = 0 from q4) (by decide)
  · refine zV.iload_n C dX5_between_7 rfl ?_
    refine zV.callSN (n := 1) C G dX5_between_8 (s_isLawn hzs hst h (nI j)) rfl ⟨cd_X9_isLawn, lk_X5_24, st_X9_isLawn, in_X9⟩ ⟨⟨by decide, by decide⟩, by decide⟩ rfl rfl rfl (zafe (show Value.int (nI (b2 (ln (nI j)).isSome)) = .int (nI 1) from by rw [ln_n j hj]; rfl) ?_) (zno)
    refine zV.if_ne (tgt := 16) C dX5_between_11 (by decide) (fun q11 => ?_) (fun q11 => ?_)
    · refine zV.aload_n C dX5_between_16 rfl rfl ?_
      refine zV.gR 256 (k := 0) C dX5_between_17 zcl_X5 (by decide) rfl lk_X5_13 (q.1.1) rfl (q.1.2.1) ?_
      refine zV.iload_n C dX5_between_20 rfl ?_
      refine zV.aaldI (j := i) C dX5_between_21 (q.1.2.2.1) (rfl) (Nat.lt_of_lt_of_eq hi (q.1.2.2.2.1).symm) (by omega) (q.1.2.2.2.2 i hi).1 ?_
      refine zV.iload_n C dX5_between_22 rfl ?_
      refine zV.ialdv (j := j) C dX5_between_23 ((q.1.2.2.2.2 i hi).2.1) (rfl) (Nat.lt_of_lt_of_eq hj ((q.1.2.2.2.2 i hi).2.2).symm) (by omega) ((q.2 i j hi hj).1) ?_
      refine zV.istore_n (lo' := [(0, _), (1, _), (2, _), (3, _)]) C dX5_between_24 (by decide) rfl rfl rfl ?_
      refine zV.iload_n C dX5_between_25 rfl ?_
      refine zV.bi (v := nI 6) C dX5_between_26 (by decide) ?_
      refine zV.icmp_ge (tgt := 35) C dX5_between_28 (by decide) (fun q28 => ?_) (fun q28 => ?_)
      · have hl : ¬ dd nb i j < 6 := by have := nle (by have := (q.2 i j hi hj).2; omega) (by decide) q28; omega
        refine zV.ic (v := (-1)) C dX5_between_35 (by decide) ?_
        refine zV.iret C F dX5_between_36 rfl ?_
        refine ⟨?_, rfl⟩
        rw [dd_o]
        first
          | (rw [if_pos hl]; done)
          | (rw [if_neg hl]; done)
      · have hl : dd nb i j < 6 := nlt (by have := (q.2 i j hi hj).2; omega) (by decide) q28
        refine zV.iload_n C dX5_between_31 rfl ?_
        refine zV.goto (tgt := 36) C dX5_between_32 (by decide) ?_
        refine zV.iret C F dX5_between_36 rfl ?_
        refine ⟨?_, rfl⟩
        rw [dd_o]
        first
          | (rw [if_pos hl]; done)
          | (rw [if_neg hl]; done)
    · exact absurd (show nI 1 = 0 from q11) (by decide)
set_option maxHeartbeats 4000000 in
set_option maxRecDepth 100000 in
theorem s_Iinit {l : Launch} {E : zG} (hzs : zS E) (hst : l.stackTraces = false) (h : zH) (a : Nat) (hk : hK h a = 9) (hn : hN h = a + 1) : zMet l E yX5_init cX5_init 1 none ({ frames := 1, cells := 7, slots := 42, locals := 20 } : Room) 7 42 [.ref a] h (fun r h' => r = none ∧ zIs h' a ∧ hN h' = a + 8 ∧ zEx h h' a) (fun _ _ => False) := by
  refine zM_start hzs hst (by decide) (Nat.le_of_ble_eq_true rfl) (fun X C G F I => ?_)
  show zV X 0 0 _ 0 [(0, _)] []
  have I := I rfl
  refine zV.aload_n C dX5_init_0 rfl rfl ?_
  refine zV.obj C G dX5_init_1 ⟨lk_X5_5, im_Oinit, cd_Oinit⟩ rfl rfl ?_
  refine zV.aload_n C dX5_init_4 rfl rfl ?_
  refine zV.bi (v := nI 6) C dX5_init_5 (by decide) ?_
  refine zV.bi (v := nI 6) C dX5_init_7 (by decide) ?_
  refine zV.mna C G dX5_init_9 ⟨lk_X5_11, ao_array_int, ac_int⟩ rfl ?_
  refine zV.pFR 256 (k := 0) C dX5_init_13 zcl_X5 (by decide) rfl lk_X5_13 rfl I rfl ((mnaH_e (by omega)).1.trans hk) rfl (fun _ => ⟨rfl, rfl⟩) ?_
  refine zV.vret C F dX5_init_16 rfl ?_
  have eN : hN h = a + 1 := hn
  refine ⟨rfl, ⟨(mnaH_e (by omega)).1.trans hk, ?_, ?_, ?_, fun i hi => ⟨?_, ?_, ?_⟩⟩, ?_, ⟨?_, fun c hc => (mnaH_e (by omega)).trans (zEq_sR (by omega))⟩⟩
  · rw [hn]; exact hR_sR
  · rw [← hn]; exact mnaH_o.1
  · rw [← hn]; exact mnaH_o.2.1
  · show aR (mnaH h) (a + 1) i = _
    rw [← hn, mnaH_o.2.2]
    show (if i < 6 then some (hN h + 1 + i) else none) = _
    rw [if_pos hi, hn]
  · rw [show a + 2 + i = hN h + 1 + i by omega]; exact (mnaH_r hi).1
  · rw [show a + 2 + i = hN h + 1 + i by omega]; exact (mnaH_r hi).2.1
  · show hN (mnaH h) = _
    rw [mnaH_N]; omega
  · show hN h ≤ hN (mnaH h)
    rw [mnaH_N]; omega
