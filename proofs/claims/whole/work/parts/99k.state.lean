/-! the law: the state between two calls -/
def lwS (a k : Nat) (h : zH) (g : zGd) (us : List zGd) (sn : Option zGd) (off rs dt cs : Int32) (t o : List Nat) : Prop :=
  (zXa h a (a + 282) g us sn off rs dt cs t o ∧ rSt h (a + 271) g us sn off rs dt cs t o) ∧ ((hK h (a + 280) = 104 ∧ hL h (a + 280) = 1) ∧ (hK h (a + 281) = 105 ∧ hL h (a + 281) = 1)) ∧ a + 282 ≤ hN h ∧ LI k g us sn off rs cs
def lwSx (a k : Nat) (h : zH) : Prop := ∃ g us sn off rs dt cs t o, lwS a k h g us sn off rs dt cs t o
/-- nothing but what lies in the law's two arrays is other -/
def zWr (a : Nat) (h1 h2 : zH) : Prop := (hN h2 = hN h1 ∧ hK h2 = hK h1 ∧ hL h2 = hL h1) ∧ ∀ c, c ≠ a + 280 → c ≠ a + 281 → zEq h1 h2 c
theorem zWr_0 {a : Nat} {h1 : zH} : zWr a h1 h1 := ⟨⟨rfl, rfl, rfl⟩, fun c _ _ => zEq.refl h1 c⟩
theorem zWr_J {a i : Nat} {h1 : zH} {v : Int64} : zWr a h1 (saJ h1 (a + 280) i v) := ⟨⟨rfl, rfl, rfl⟩, fun c h _ => zEq_saJ h⟩
theorem zWr_D {a i : Nat} {h1 : zH} {v : UInt64} : zWr a h1 (saD h1 (a + 281) i v) := ⟨⟨rfl, rfl, rfl⟩, fun c _ h => zEq_saD h⟩
theorem zWr_H {a : Nat} {A : zAn} {h1 : zH} : zWr a h1 (lwH A (a + 280) h1) := by
  unfold lwH
  split
  · exact zWr_J
  · exact zWr_0
theorem zWr_HB {a : Nat} {A : zAn} {h1 : zH} : zWr a h1 (lwHB A (a + 280) h1) := by
  unfold lwHB
  split
  · exact zWr_J
  · exact zWr_0
theorem zWr_HD {a : Nat} {A : zAn} {h1 : zH} : zWr a h1 (lwHD A (a + 281) h1) := by
  unfold lwHD
  split
  · exact zWr_D
  · exact zWr_0
theorem zWr_HF {a : Nat} {A : zAn} {h1 : zH} : zWr a h1 (lwHF A (a + 281) h1) := by
  unfold lwHF
  split
  · exact zWr_D
  · exact zWr_0
section LST
variable {a k : Nat} {h h1 h2 h3 : zH} {g : zGd} {us : List zGd} {sn : Option zGd} {off rs dt cs : Int32} {t o : List Nat}
theorem LS_r (S : lwS a k h g us sn off rs dt cs t o) (f : zXf h h1 a (a + 282)) (w : zWr a h1 h2) : rSt h2 (a + 271) g us sn off rs dt cs t o :=
  rSt_f S.1.2 (fun c hc1 hc2 => (zXf_c f hc1 (by omega)).trans (w.2 c (by omega) (by omega)))
theorem LS_ob (S : lwS a k h g us sn off rs dt cs t o) (f : zXf h h1 a (a + 282)) : hK h1 (a + 280) = 104 ∧ hL h1 (a + 280) = 1 :=
  have e := zXf_c f (c := a + 280) (by omega) (by omega)
  ⟨e.1.trans S.2.1.1.1, e.2.1.trans S.2.1.1.2⟩
theorem LS_od (S : lwS a k h g us sn off rs dt cs t o) (f : zXf h h1 a (a + 282)) : hK h1 (a + 281) = 105 ∧ hL h1 (a + 281) = 1 :=
  have e := zXf_c f (c := a + 281) (by omega) (by omega)
  ⟨e.1.trans S.2.1.2.1, e.2.1.trans S.2.1.2.2⟩
theorem LSx_ob (S : lwSx a k h) : hK h (a + 280) = 104 ∧ hL h (a + 280) = 1 := by
  obtain ⟨g, us, sn, off, rs, dt, cs, t, o, S⟩ := S
  exact S.2.1.1
theorem LSx_od (S : lwSx a k h) : hK h (a + 281) = 105 ∧ hL h (a + 281) = 1 := by
  obtain ⟨g, us, sn, off, rs, dt, cs, t, o, S⟩ := S
  exact S.2.1.2
theorem LSx_r (S : lwSx a k h) : zMs h (a + 271) := by
  obtain ⟨g, us, sn, off, rs, dt, cs, t, o, S⟩ := S
  exact S.1.2.1
theorem LS_W (S : lwS a k h g us sn off rs dt cs t o) (hk : k < 512) : gW g := gW_of S.2.2.2.1.1.1.1 S.2.2.2.1.1.1.2.2.2 (show 60000 * k ≤ 1000000000 by omega)
theorem LS_big (hk : k < 512) : 60000 * k + 50000 ≤ big := show 60000 * k + 50000 ≤ 1000000000 by omega
theorem LS_step {g' : zGd} {us' : List zGd} {sn' : Option zGd} {off' rs' dt' cs' : Int32} {t' o' : List Nat} {F A : List Nat} (S : lwS a k h g us sn off rs dt cs t o) (f : zXf h h1 a (a + 282)) (x : zXa h1 a (a + 282) g' us' sn' off' rs' dt' cs' t' o') (w : zWr a h1 h2) (e : rE h2 h3 (a + 271) F A) (hA : ∀ i ∈ A, i < 9) (s : rSt h3 (a + 271) g' us' sn' off' rs' dt' cs' t' o') (i : LI (k + 1) g' us' sn' off' rs' cs') : lwSx a (k + 1) h3 := by
  have e3 := e.q hA
  have Z : ∀ c, c < a + 271 ∨ a + 282 ≤ c → zEq h1 h3 c := fun c hc => (w.2 c (by omega) (by omega)).trans (e3.e (by omega))
  have hn : hN h1 ≤ hN h3 := by rw [e.1.1, w.1.1]; exact Nat.le_refl _
  have ob := LS_ob S f
  have od := LS_od S f
  refine ⟨g', us', sn', off', rs', dt', cs', t', o', ⟨zXa_x x hn (fun c _ q => Z c (Or.inl q)) (fun c q _ => Z c (Or.inr q)), s⟩, ⟨?_, ?_⟩, ?_, i⟩
  · rw [e.1.2.1, e.1.2.2.1, w.1.2.1, w.1.2.2]; exact ob
  · rw [e.1.2.1, e.1.2.2.1, w.1.2.1, w.1.2.2]; exact od
  · exact Nat.le_trans S.2.2.1 (Nat.le_trans f.1 hn)
theorem LSx_q {v : Int32} (S : lwS a k h g us sn off rs dt cs t o) (w : zWr a h h2) : lwSx a (k + 1) (sI h2 435 (a + 271) v) :=
  LS_step S (zXf.refl h a (a + 282)) S.1.1 w rE.i (fun i hi => by cases hi) (rSt_x (LS_r S (zXf.refl h a (a + 282)) w) rE.i (by decide) (by decide)) (LI_mono S.2.2.2)
theorem LSx_m {v : Int32} (S : lwS a k h g us sn off rs dt cs t o) (f : sm9 h a (a + 282) g us sn off rs dt cs t o h1) (w : zWr a h1 h2) : lwSx a (k + 1) (sI h2 435 (a + 271) v) :=
  LS_step S f.1 f.2 w rE.i (fun i hi => by cases hi) (rSt_x (LS_r S f.1 w) rE.i (by decide) (by decide)) (LI_mono S.2.2.2)
theorem LSx_w (S : lwS a k h g us sn off rs dt cs t o) (f : sm9 h a (a + 282) g us sn off rs dt cs t o h1) (w : zWr a h1 h2) (e : rE h2 h3 (a + 271) [435] [1, 3]) (hg : rG (aI h3 (a + 271 + 1)) g) : lwSx a (k + 1) h3 := by
  obtain ⟨q1, q2, q3, q4, q5, q6, q7⟩ := LS_r S f.1 w
  exact LS_step S f.1 f.2 w e (by decide) ⟨e.m q1, hg, rKp_e q3 e (by decide) (by decide), rSv_e q4 e (by decide) (by decide), rNm_e q5 e (by decide), rTx_e q6 e (by decide) (by decide), rOt_e q7 e (by decide) (by decide)⟩ (LI_mono S.2.2.2)
theorem LSx_c {d c1 c2 c3 : Nat} {x y : Int32} (hd : isD d) (S : lwS a k h g us sn off rs dt cs t o) (f : chgP h a (a + 282) d x y g us sn off rs dt cs t o h1) (w : zWr a h1 h2) (e : mchP h2 (a + 271) (jd g d x y) (ap g d x y).1 c1 c2 c3 g us sn off rs dt cs t o h3) : lwSx a (k + 1) h3 := by
  obtain ⟨f1, f2⟩ := f
  obtain ⟨-, e2, e3⟩ := e
  by_cases z0 : (jd g d x y).1 = 0
  · rw [if_pos z0] at f2 e3
    exact LS_step S f1 f2 w e2 (by decide) e3 (LI_kp S.2.2.2 (gR_mono (ap_R hd S.2.2.2.1.1 z0) (by omega)) (Nat.le_trans ap_X (by have := S.2.2.2.2.1.1; omega)))
  · rw [if_neg z0] at f2 e3
    by_cases z3 : (jd g d x y).1 = 3
    · rw [if_pos z3] at f2 e3
      exact LS_step S f1 f2 w e2 (by decide) e3 (LI_rj S.2.2.2 (jd_r z3))
    · rw [if_neg z3] at f2 e3
      exact LS_step S f1 f2 w e2 (by decide) e3 (LI_mono S.2.2.2)
theorem LSx_un {A : zAn} {cf : String → Nat} {v : Option Value} (S : lwS a k h g us sn off rs dt cs t o) (f : unP h a (a + 282) g us sn off rs dt cs t o h1) (w : zWr a h1 h2) (e : msP h2 (a + 271) A cf (unM h2 (a + 271) g us sn off rs dt cs t o) v h3) : lwSx a (k + 1) h3 := by
  obtain ⟨f1, f2⟩ := f
  obtain ⟨-, -, e2, e3⟩ := e
  unfold unM at e3
  rcases hu : us.getLast? with _ | g'
  · rw [hu] at f2 e3
    exact LS_step S f1 f2 w e2 (by decide) e3 (LI_mono S.2.2.2)
  · rw [hu] at f2 e3
    have hm : g' ∈ us := List.mem_of_getLast? hu
    obtain ⟨⟨a1, a2, a3⟩, ⟨b1, b2, b3⟩, c⟩ := LI_mono S.2.2.2
    exact LS_step S f1 f2 w e2 (by decide) e3 ⟨⟨a2 g' hm, fun u hu => a2 u ((List.dropLast_sublist us).subset hu), a3⟩, ⟨b2 g' hm, fun u hu => b2 u ((List.dropLast_sublist us).subset hu), b3⟩, c⟩
theorem LSx_rs {A : zAn} {cf : String → Nat} {v : Option Value} (S : lwS a k h g us sn off rs dt cs t o) (f : rsP h a (a + 282) g us sn off rs dt cs t o h1) (w : zWr a h1 h2) (e : msP h2 (a + 271) A cf (rsM h2 (a + 271) g us sn off rs dt cs t o) v h3) : lwSx a (k + 1) h3 := by
  obtain ⟨f1, f2⟩ := f
  obtain ⟨-, -, e2, e3⟩ := e
  unfold rsM at e3
  rcases sn with _ | s
  · exact LS_step S f1 f2 w e2 (by decide) e3 (LI_mono S.2.2.2)
  · obtain ⟨⟨a1, a2, a3⟩, ⟨b1, b2, b3⟩, c⟩ := LI_mono S.2.2.2
    exact LS_step S f1 f2 w e2 (by decide) e3 ⟨⟨a3 s rfl, fun u hu => (by cases hu), a3⟩, ⟨b3 s rfl, fun u hu => (by cases hu), b3⟩, c⟩
theorem LSx_sv {A : zAn} {cf : String → Nat} {v : Option Value} (S : lwS a k h g us sn off rs dt cs t o) (f1 : zXf h h1 a (a + 282)) (f2 : zXa h1 a (a + 282) g us (some g) off rs dt cs t o) (w : zWr a h1 h2) (e : msP h2 (a + 271) A cf (fun h' => rSt h' (a + 271) g us (some g) off rs dt cs t o) v h3) : lwSx a (k + 1) h3 := by
  obtain ⟨-, -, e2, e3⟩ := e
  obtain ⟨⟨a1, a2, a3⟩, ⟨b1, b2, b3⟩, c⟩ := LI_mono S.2.2.2
  exact LS_step S f1 f2 w e2 (by decide) e3 ⟨⟨a1, a2, fun s hs => by cases hs; exact a1⟩, ⟨b1, b2, fun s hs => by cases hs; exact b1⟩, c⟩
theorem LSx_s {A : zAn} {cf : String → Nat} {v : Option Value} {t' o' : List Nat} (S : lwS a k h g us sn off rs dt cs t o) (f1 : zXf h h1 a (a + 282)) (f2 : zXa h1 a (a + 282) g us sn off rs dt cs t' o') (w : zWr a h1 h2) (e : msP h2 (a + 271) A cf (fun h' => rSt h' (a + 271) g us sn off rs dt cs t' o') v h3) : lwSx a (k + 1) h3 := by
  obtain ⟨-, -, e2, e3⟩ := e
  exact LS_step S f1 f2 w e2 (by decide) e3 (LI_mono S.2.2.2)
theorem LSx_ex {v : Option Value} (S : lwS a k h g us sn off rs dt cs t o) (f : exP h a (a + 282) g us sn off rs dt cs t o h1) (w : zWr a h1 h2) (e : exQ h2 (a + 271) g us sn off rs dt cs t o v h3) : lwSx a (k + 1) h3 := by
  obtain ⟨f1, f2⟩ := f
  obtain ⟨-, -, e2, e3⟩ := e
  have ht : t.length ≤ 60 := S.1.2.2.2.2.2.2.1.2.1
  unfold exM at e3
  have hD := rdS_D ht 61 0 [] (Nat.le_refl _) (Nat.zero_le _) (fun c hc => by cases hc)
  rcases hr : rdS t 61 0 [] with ⟨_ | p, K9⟩
  · rw [hr] at f2 e3 hD
    dsimp only at f2 e3 hD
    by_cases z : (pfC g K9).1 < K9.length
    · rw [if_pos z] at f2 e3
      by_cases z3 : (pfC g K9).2.2.1 = 3
      · rw [if_pos z3] at f2 e3
        exact LS_step S f1 f2 w e2 (by decide) e3 (LI_ex S.2.2.2 (pfC_r z3))
      · rw [if_neg z3] at f2 e3
        exact LS_step S f1 f2 w e2 (by decide) e3 (LI_mono S.2.2.2)
    · rw [if_neg z] at f2 e3
      exact LS_step S f1 f2 w e2 (by decide) e3 (LI_kp S.2.2.2 (gR_mono (pfC_R hD.1 S.2.2.2.1.1) (by have := hD.2; omega)) (Nat.le_trans pfC_X (by have := S.2.2.2.2.1.1; have := hD.2; omega)))
  · rw [hr] at f2 e3
    dsimp only at f2 e3
    exact LS_step S f1 f2 w e2 (by decide) e3 (LI_of S.2.2.2 (by have := rdS_o ht 61 0 [] p (Nat.zero_le _) (by rw [hr]); omega))
end LST
-- what the comparison needs
def anC (A : zAn) (cf : String → Nat) : Nat := match A with
  | .inl Ex => cf Ex
  | .inr _ => 0
def anV (A : zAn) (d : Value) : Value := match A with
  | .inl _ => d
  | .inr w => w
theorem cfn1 (Ex : String) : 1 ≤ (fun _ : String => 1) Ex ∧ (fun _ : String => 1) Ex ≤ 3 := ⟨Nat.le_refl 1, Nat.le_of_ble_eq_true rfl⟩
theorem cfn2 {x : String} (Ex : String) : 1 ≤ (if Ex = x then 1 else 2) ∧ (if Ex = x then 1 else 2) ≤ 3 := by split <;> exact ⟨by decide, by decide⟩
theorem cfn3 {x y : String} (Ex : String) : 1 ≤ (if Ex = x then 1 else if Ex = y then 2 else 3) ∧ (if Ex = x then 1 else if Ex = y then 2 else 3) ≤ 3 := by
  split
  · exact ⟨by decide, by decide⟩
  · split <;> exact ⟨by decide, by decide⟩
theorem fct {A : zAn} {cf : String → Nat} {h1 h3 : zH} {ob r : Nat} {d : Int32} {v3 : Option Value} (hV : ∀ v, A = .inr v → ∃ w, v = .int w) (hne : ∀ Ex, A = .inl Ex → 1 ≤ cf Ex ∧ cf Ex ≤ 3) (e0 : v3 = some (anV A (.int d))) (e1 : hI h3 435 r = nI (anC A cf)) (e2 : aJ h3 = aJ (lwH A ob h1)) : ∃ b : Int32, v3 = some (.int b) ∧ hI h3 435 r = nI (anC A cf) ∧ (nI (anC A cf) = 0 → aJ h3 ob 0 = b.toInt64) := by
  rcases A with Ex | v
  · refine ⟨d, e0, e1, fun z => absurd z ?_⟩
    have := hne Ex rfl
    exact nI_ne (a := cf Ex) (b := 0) (by omega) (by decide) (by omega)
  · obtain ⟨w, rfl⟩ := hV v rfl
    refine ⟨w, e0, e1, fun _ => ?_⟩
    rw [e2]
    exact if_pos ⟨rfl, rfl⟩
theorem fctB {A : zAn} {cf : String → Nat} {h1 h3 : zH} {ob r : Nat} {d : Int32} {v3 : Option Value} (hV : ∀ v, A = .inr v → ∃ w, v = .int w) (hne : ∀ Ex, A = .inl Ex → 1 ≤ cf Ex ∧ cf Ex ≤ 3) (e0 : v3 = some (anV A (.int d))) (e1 : hI h3 435 r = nI (anC A cf)) (e2 : aJ h3 = aJ (lwHB A ob h1)) : ∃ b : Int32, v3 = some (.int b) ∧ hI h3 435 r = nI (anC A cf) ∧ (nI (anC A cf) = 0 → aJ h3 ob 0 = if b = 0 then 0 else 1) := by
  rcases A with Ex | v
  · refine ⟨d, e0, e1, fun z => absurd z ?_⟩
    have := hne Ex rfl
    exact nI_ne (a := cf Ex) (b := 0) (by omega) (by decide) (by omega)
  · obtain ⟨w, rfl⟩ := hV v rfl
    refine ⟨w, e0, e1, fun _ => ?_⟩
    rw [e2]
    exact if_pos ⟨rfl, rfl⟩
theorem chg_m {g : zGd} {d : Nat} {x y : Int32} : anV (chgA g d x y) (.int (nI 0)) = .int (if (jd g d x y).1 = 0 then (ap g d x y).2 else nI 0) := by
  unfold chgA anV
  by_cases e0 : (jd g d x y).1 = 0
  · rw [if_pos e0, if_pos e0]
  · rw [if_neg e0, if_neg e0]
    by_cases e1 : (jd g d x y).1 = 1
    · rw [if_pos e1]
    · rw [if_neg e1]
      by_cases e2 : (jd g d x y).1 = 2
      · rw [if_pos e2]
      · rw [if_neg e2]
-- which answers there are
def okA (A : zAn) (S : String → Prop) : Prop := (∀ v, A = .inr v → ∃ w, v = .int w) ∧ ∀ Ex, A = .inl Ex → S Ex
theorem okA_v {w : Int32} {S : String → Prop} : okA (.inr (.int w)) S := ⟨fun v h => by cases h; exact ⟨w, rfl⟩, fun Ex h => by cases h⟩
theorem okA_x {Ex : String} {S : String → Prop} (hs : S Ex) : okA (.inl Ex) S := ⟨fun v h => (by cases h), fun E9 h => by cases h; exact hs⟩
theorem okA_law {x : Int32} {f : Nat → zAn} {S : String → Prop} (hs : S IOB) (hf : ∀ i, okA (f i) S) : okA (lawA x f) S := by
  rcases e : ln x with _ | i
  · rw [lawA_n e]; exact okA_x hs
  · rw [lawA_s e]; exact hf i
theorem okA_ch {g : zGd} {x : Int32} {f : Nat → zCh → zAn} {S : String → Prop} (hs : S IOB) (hf : ∀ k c, okA (f k c) S) : okA (chQ g x f) S := by
  rcases e : kc g x with _ | ⟨k, c⟩
  · rw [chQ_n e]; exact okA_x hs
  · rw [chQ_s e]; exact hf k c
theorem okA_el {x : Int32} {S : String → Prop} (hs : S NSE) : okA (elA x) S := by
  unfold elA
  split
  · exact okA_x hs
  · exact okA_v
theorem okA_rt {nb : Nat → Nat} {i j : Nat} {p : Int32} {S : String → Prop} (hs : S NSE) : okA (rtA nb i j p) S := by
  unfold rtA
  split
  · exact okA_x hs
  · exact okA_v
theorem okA_op {q : Option Nat} {S : String → Prop} (hs : S NSE) : okA (opA q) S := by
  unfold opA
  split
  · exact okA_x hs
  · exact okA_v
theorem okA_du {g : zGd} {x : Int32} {S : String → Prop} (hs : S IAE) : okA (duA g x) S := by
  unfold duA
  split
  · exact okA_x hs
  · exact okA_v
theorem okA_wc {g : zGd} {x : Int32} {S : String → Prop} (hs : S IAE) : okA (wcA g x) S := by
  unfold wcA
  split
  · exact okA_v
  · exact okA_x hs
theorem okA_ou {o : List Nat} {x : Int32} {S : String → Prop} (hs : S IOB) : okA (ouA o x) S := by
  unfold ouA
  split
  · exact okA_x hs
  · split
    · exact okA_x hs
    · exact okA_v
theorem okA_rj {rs v : Int32} {S : String → Prop} (hs : S NSE) : okA (rjA rs v) S := by
  unfold rjA
  split
  · exact okA_x hs
  · exact okA_v
theorem okA_cs {rs cs : Int32} {S : String → Prop} (hs : S NSE) : okA (csA rs cs) S := by
  unfold csA
  split
  · exact okA_v
  · exact okA_x hs
theorem okA_un {us : List zGd} {S : String → Prop} (hs : S ISE) : okA (unA us) S := by
  unfold unA
  split
  · exact okA_x hs
  · exact okA_v
theorem okA_rs {sn : Option zGd} {S : String → Prop} (hs : S ISE) : okA (rsA sn) S := by
  unfold rsA
  split
  · exact okA_x hs
  · exact okA_v
theorem okA_ai {t : List Nat} {x : Int32} {S : String → Prop} (h1 : S IAE) (h2 : S ISE) : okA (aiA t x) S := by
  unfold aiA
  split
  · exact okA_x h1
  · split
    · exact okA_v
    · exact okA_x h2
theorem okA_ex {g : zGd} {t : List Nat} {S : String → Prop} (h1 : S IAE) (h2 : S ISE) (h3 : S UOE) : okA (exA g t) S := by
  unfold exA
  split
  · exact okA_x h1
  · split
    · split
      · exact okA_x h3
      · exact okA_x h2
    · exact okA_v
theorem okA_chg {g : zGd} {d : Nat} {x y : Int32} {S : String → Prop} (hd : isD d) (h1 : (jd g d x y).1 = 1 → S IOB) (h2 : (jd g d x y).1 = 2 → S IAE) (h3 : (jd g d x y).1 = 3 → S UOE) : okA (chgA g d x y) S := by
  have := jd_3 (g := g) (x := x) (y := y) hd
  unfold chgA
  by_cases e0 : (jd g d x y).1 = 0
  · rw [if_pos e0]; exact okA_v
  · rw [if_neg e0]
    by_cases e1 : (jd g d x y).1 = 1
    · rw [if_pos e1]; exact okA_x (h1 e1)
    · rw [if_neg e1]
      by_cases e2 : (jd g d x y).1 = 2
      · rw [if_pos e2]; exact okA_x (h2 e2)
      · rw [if_neg e2]; exact okA_x (h3 (by omega))
