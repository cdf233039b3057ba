/-! the law: the script, the room, the bounds of what a change makes -/
def zSc (E : zG) (sq L : Nat) (xs : Nat → Int32) : Prop := va_T .int sq L (fun j => .int (xs j)) (zA E) E.2.2.1 E.2.2.1.heap
theorem zSc_of {E : zG} {sq L : Nat} {xs : Nat → Int32} (h : va_X sq L xs E.2.2.1 E.2.2.1.heap) (hb : sq < E.2.2.1.heap.size) : zSc E sq L xs := by
  obtain ⟨scr, h1, h2, h3, h4, h5⟩ := h
  exact ⟨scr, h1, h2, h3, Nat.le_of_eq h4.symm, by rw [h4], h5, Nat.not_le.mpr hb⟩
section ZLW
variable {X : zX} {l : Launch} {E : zG} {rm : Room} {kc ks : Nat} {h : zH} {pc : Nat} {lo : List (Nat × Value)} {st : List Value} {cc : ByteArray} {own : String} {nL : Nat}
theorem zV.ialdRaw {t N j : Nat} {f : Nat → Value} {i x : Int32} (C : zC X cc own nL) (G : zGX X l E rm) (d : decode cc pc = .ok (.iaload, 1)) (hT : va_T .int t N f (zA E) E.2.2.1 E.2.2.1.heap) (hi : i = nI j) (hj : j < N) (hj2 : j < 2 ^ 31) (hv : f j = .int x) (kk : zV X kc ks h (pc + 1) lo (.int x :: st)) : zV X kc ks h pc lo (.int i :: .retAddr t :: st) := by
  obtain ⟨p, l', e, R, s, m, args, below, meth, c, E', ad0, n0, Z⟩ := X
  obtain ⟨hx, hb, hml, hown, hlk, hst2, hzs, hwm, hsz, hzh⟩ := id C
  obtain ⟨rfl, rfl, rfl⟩ := id G
  intro ad H rl ls e1 e2 w S ol os hl
  exact va_ti hx hb ((va_T.moved hwm.alike hT).kept (fun a ha _ => hzh a ha)) S (zin hi hj hj2) (v := .int x) (by rw [hi, nI_cl hj2]; exact hv) d (kk ad H rl ls e1 e2 w S ol ⟨trivial, os.2.2⟩ hl)
/-- script[i + c] on the stack -/
theorem zV.arg {p sq L k c : Nat} {n : Int} {xs : Nat → Int32} (C : zC X cc own nL) (G : zGX X l E rm) (T : zSc E sq L xs) (hk : 4 * k + 4 ≤ L) (hL : L ≤ 2048) (hc : c < 4) (d0 : decode cc p = .ok (.aload_n 0, 1)) (d1 : decode cc (p + 1) = .ok (.iload 5, 2)) (d3 : decode cc (p + 3) = .ok (.iconst n, 1)) (d4 : decode cc (p + 4) = .ok (.iadd, 1)) (d5 : decode cc (p + 5) = .ok (.iaload, 1)) (hn : Int32.ofInt n = nI c) (g0 : zg lo 0 = some (.retAddr sq)) (g5 : zg lo 5 = some (.int (nI (4 * k)))) (kk : zV X kc ks h (p + 6) lo (.int (xs (4 * k + c)) :: st)) : zV X kc ks h p lo st := by
  refine zV.aload_n C d0 g0 rfl ?_
  refine zV.iload C d1 g5 ?_
  refine zV.ic (v := nI c) C d3 hn ?_
  refine zV.iadd C d4 ?_
  exact zV.ialdRaw (j := 4 * k + c) C G d5 T (nI_add _ _) (by omega) (by omega) rfl kk
/-- script[i] on the stack -/
theorem zV.arg0 {p sq L k : Nat} {xs : Nat → Int32} (C : zC X cc own nL) (G : zGX X l E rm) (T : zSc E sq L xs) (hk : 4 * k + 4 ≤ L) (hL : L ≤ 2048) (d0 : decode cc p = .ok (.aload_n 0, 1)) (d1 : decode cc (p + 1) = .ok (.iload 5, 2)) (d5 : decode cc (p + 3) = .ok (.iaload, 1)) (g0 : zg lo 0 = some (.retAddr sq)) (g5 : zg lo 5 = some (.int (nI (4 * k)))) (kk : zV X kc ks h (p + 4) lo (.int (xs (4 * k)) :: st)) : zV X kc ks h p lo st := by
  refine zV.aload_n C d0 g0 rfl ?_
  refine zV.iload C d1 g5 ?_
  exact zV.ialdRaw (j := 4 * k) C G d5 T rfl (by omega) (by omega) rfl kk
end ZLW
theorem zRmL {rm' : Room} {maxL mc ms kc ks : Nat} (h : (Nat.ble (rm'.frames + 1) 2048 && Nat.ble (8 + (maxL + 11) + rm'.locals) 94400 && Nat.beq rm'.cells mc && Nat.beq rm'.slots ms) = true) (h1 : kc + mc ≤ 604272) (h2 : ks + ms ≤ 7174744) : zRm room_1 rm' maxL mc ms kc ks = true := by
  unfold zRm
  rw [Bool.and_eq_true, Bool.and_eq_true]
  exact ⟨⟨h, Nat.ble_eq_true_of_le h1⟩, Nat.ble_eq_true_of_le h2⟩
-- the ids of a garden
theorem grs_X {g : zGd} {s : Nat} : ∀ n, gX (grs g s n) = gX g
  | 0 => rfl
  | n + 1 => by
    rw [show grs g s (n + 1) = grz (grs g s n) n s from rfl]
    unfold grz
    rw [p_X_Z, p_X_S, p_X_C]
    exact grs_X n
theorem days_X {g : zGd} : ∀ n, gX (days g n) = gX g
  | 0 => rfl
  | n + 1 => by
    rw [show days g (n + 1) = dayO (days g n) from rfl]
    generalize hd : days g n = d
    unfold dayO col
    rw [p_X_D, p_X_F, p_X_C, grs_X, ← hd]
    exact days_X n
theorem opHd_X {i j : Nat} : ∀ (n : Nat) (g : zGd), gX (opHd i j n g) = gX g
  | 0, _ => rfl
  | n + 1, g => by
    rw [opHd]
    split
    · rfl
    · rename_i k e
      rw [opHd_X n]
      unfold opMk
      split
      · rfl
      · unfold opMv
        rw [p_X_M, p_X_C]
theorem ap_X {g : zGd} {d : Nat} {x y : Int32} : gX (ap g d x y).1 ≤ gX g + 1 := by
  unfold ap
  have hLL : ∀ f : Nat → Nat → zGd × Int32, (∀ i j, gX (f i j).1 ≤ gX g + 1) → gX (aLL g x y f).1 ≤ gX g + 1 := by
    intro f hf
    unfold aLL
    split
    · exact Nat.le_succ _
    · split
      · exact Nat.le_succ _
      · exact hf _ _
  have hL : ∀ (z : Int32) (f : Nat → zGd × Int32), (∀ i, gX (f i).1 ≤ gX g + 1) → gX (aL g z f).1 ≤ gX g + 1 := by
    intro z f hf
    unfold aL
    split
    · exact Nat.le_succ _
    · exact hf _
  have hK : ∀ f : Nat → zCh → zGd × Int32, (∀ k c, gX (f k c).1 ≤ gX g + 1) → gX (aK g x f).1 ≤ gX g + 1 := by
    intro f hf
    unfold aK
    split
    · exact Nat.le_succ _
    · exact hf _ _
  by_cases h1 : d = 112
  · rw [if_pos h1]; refine hLL _ (fun i j => ?_); show gX (pvN g i j) ≤ _; unfold pvN; rw [p_X_N]; exact Nat.le_succ _
  rw [if_neg h1]
  by_cases h2 : d = 113
  · rw [if_pos h2]; refine hLL _ (fun i j => ?_); show gX (dgN g i j) ≤ _; unfold dgN; rw [p_X_N]; exact Nat.le_succ _
  rw [if_neg h2]
  by_cases h3 : d = 104
  · rw [if_pos h3]; refine hL _ _ (fun i => ?_); show gX (opSh g i _) ≤ _; unfold opSh; rw [p_X_S]; exact Nat.le_succ _
  rw [if_neg h3]
  by_cases h4 : d = 99
  · rw [if_pos h4]; refine hL _ _ (fun i => ?_); show gX (opSt g i _) ≤ _; unfold opSt; rw [p_X_X]; exact Nat.le_refl _
  rw [if_neg h4]
  by_cases h5 : d = 115
  · rw [if_pos h5]; refine hK _ (fun i c => ?_); show gX (opSc g i) ≤ _; unfold opSc; rw [p_X_U, p_X_C]; exact Nat.le_succ _
  rw [if_neg h5]
  by_cases h6 : d = 102
  · rw [if_pos h6]; refine hK _ (fun i c => ?_); show gX (opFo g i c true) ≤ _; unfold opFo; rw [p_X_C]; exact Nat.le_succ _
  rw [if_neg h6]
  by_cases h7 : d = 117
  · rw [if_pos h7]; refine hK _ (fun i c => ?_); show gX (opFo g i c false) ≤ _; unfold opFo; rw [p_X_C]; exact Nat.le_succ _
  rw [if_neg h7]
  by_cases h8 : d = 111
  · rw [if_pos h8]; refine hK _ (fun i c => ?_); show gX (opOi g i c) ≤ _; unfold opOi; rw [p_X_O, p_X_C]; exact Nat.le_succ _
  rw [if_neg h8]
  by_cases h9 : d = 109
  · rw [if_pos h9]; refine hK _ (fun i c => ?_); refine hL _ _ (fun j => ?_); show gX (opMv g i c j) ≤ _; unfold opMv; rw [p_X_M, p_X_C]; exact Nat.le_succ _
  rw [if_neg h9]
  by_cases h10 : d = 103
  · rw [if_pos h10]; refine hLL _ (fun i j => ?_); show gX (opHd i j (mgN g i j) g) ≤ _; rw [opHd_X]; exact Nat.le_succ _
  rw [if_neg h10]
  by_cases h11 : d = 97
  · rw [if_pos h11]; show gX (gwO g _) ≤ _; rw [p_X_O]; exact Nat.le_succ _
  rw [if_neg h11]
  show gX (days g _) ≤ _
  rw [days_X]; exact Nat.le_succ _
/-- the reasons -/
theorem jd_r {g : zGd} {d : Nat} {x y : Int32} (h : (jd g d x y).1 = 3) : 1 ≤ (jd g d x y).2.1 ∧ (jd g d x y).2.1 ≤ 10 := by
  have e : ∀ J : zJ, (J.1 ≠ 3 ∨ (1 ≤ J.2.1 ∧ J.2.1 ≤ 10)) → J.1 = 3 → 1 ≤ J.2.1 ∧ J.2.1 ≤ 10 := fun J q z => q.elim (fun n => absurd z n) id
  refine e _ ?_ h
  clear h e
  unfold jd
  split
  · unfold jPv; (repeat' split) <;> first | exact Or.inr ⟨Nat.le_of_ble_eq_true rfl, Nat.le_of_ble_eq_true rfl⟩ | exact Or.inl (fun z => by cases z)
  split
  · unfold jDg; (repeat' split) <;> first | exact Or.inr ⟨Nat.le_of_ble_eq_true rfl, Nat.le_of_ble_eq_true rfl⟩ | exact Or.inl (fun z => by cases z)
  split
  · unfold jSh; (repeat' split) <;> first | exact Or.inr ⟨Nat.le_of_ble_eq_true rfl, Nat.le_of_ble_eq_true rfl⟩ | exact Or.inl (fun z => by cases z)
  split
  · unfold jCm; (repeat' split) <;> first | exact Or.inr ⟨Nat.le_of_ble_eq_true rfl, Nat.le_of_ble_eq_true rfl⟩ | exact Or.inl (fun z => by cases z)
  split
  · unfold jSc; (repeat' split) <;> first | exact Or.inr ⟨Nat.le_of_ble_eq_true rfl, Nat.le_of_ble_eq_true rfl⟩ | exact Or.inl (fun z => by cases z)
  split
  · unfold jFo; (repeat' split) <;> first | exact Or.inr ⟨Nat.le_of_ble_eq_true rfl, Nat.le_of_ble_eq_true rfl⟩ | exact Or.inl (fun z => by cases z)
  split
  · unfold jUn; (repeat' split) <;> first | exact Or.inr ⟨Nat.le_of_ble_eq_true rfl, Nat.le_of_ble_eq_true rfl⟩ | exact Or.inl (fun z => by cases z)
  split
  · unfold jOi; (repeat' split) <;> first | exact Or.inr ⟨Nat.le_of_ble_eq_true rfl, Nat.le_of_ble_eq_true rfl⟩ | exact Or.inl (fun z => by cases z)
  split
  · unfold jMv; (repeat' split) <;> first | exact Or.inr ⟨Nat.le_of_ble_eq_true rfl, Nat.le_of_ble_eq_true rfl⟩ | exact Or.inl (fun z => by cases z)
  split
  · unfold jMg; (repeat' split) <;> first | exact Or.inr ⟨Nat.le_of_ble_eq_true rfl, Nat.le_of_ble_eq_true rfl⟩ | exact Or.inl (fun z => by cases z)
  split
  · unfold jAo; (repeat' split) <;> first | exact Or.inr ⟨Nat.le_of_ble_eq_true rfl, Nat.le_of_ble_eq_true rfl⟩ | exact Or.inl (fun z => by cases z)
  · unfold jDy; (repeat' split) <;> first | exact Or.inr ⟨Nat.le_of_ble_eq_true rfl, Nat.le_of_ble_eq_true rfl⟩ | exact Or.inl (fun z => by cases z)
theorem pfC_X {g : zGd} {cs : List (Nat × Nat × Nat)} : gX (pfC g cs).2.1 ≤ gX g + cs.length := by
  induction cs generalizing g with
  | nil => exact Nat.le_refl _
  | cons c ks ih =>
    by_cases e : (jd g c.1 (nI c.2.1) (nI c.2.2)).1 = 0
    · rw [pfC_t e]
      have h1 := ih (g := (ap g c.1 (nI c.2.1) (nI c.2.2)).1)
      have h2 := ap_X (g := g) (d := c.1) (x := nI c.2.1) (y := nI c.2.2)
      have h3 : (c :: ks).length = ks.length + 1 := rfl
      show gX (pfC (ap g c.1 (nI c.2.1) (nI c.2.2)).1 ks).2.1 ≤ _
      omega
    · rw [pfC_f e]; exact Nat.le_add_right _ _
theorem pfC_R {m : Nat} {g : zGd} {cs : List (Nat × Nat × Nat)} (hD : ∀ c ∈ cs, isD c.1) (q : gR m g) : gR (m + 600 * cs.length) (pfC g cs).2.1 := by
  induction cs generalizing g m with
  | nil => exact gR_mono q (Nat.le_add_right _ _)
  | cons c ks ih =>
    by_cases e : (jd g c.1 (nI c.2.1) (nI c.2.2)).1 = 0
    · rw [pfC_t e]
      have h1 := ih (m := m + 600) (g := (ap g c.1 (nI c.2.1) (nI c.2.2)).1) (fun x hx => hD x (List.mem_cons_of_mem _ hx)) (ap_R (hD c List.mem_cons_self) q e)
      have h3 : (c :: ks).length = ks.length + 1 := rfl
      exact gR_mono h1 (by omega)
    · rw [pfC_f e]; exact gR_mono q (Nat.le_add_right _ _)
theorem pfC_r {g : zGd} {cs : List (Nat × Nat × Nat)} (h : (pfC g cs).2.2.1 = 3) : 1 ≤ (pfC g cs).2.2.2.1 ∧ (pfC g cs).2.2.2.1 ≤ 10 := by
  induction cs generalizing g with
  | nil => cases h
  | cons c ks ih =>
    by_cases e : (jd g c.1 (nI c.2.1) (nI c.2.2)).1 = 0
    · rw [pfC_t e] at h ⊢
      exact ih h
    · rw [pfC_f e] at h ⊢
      exact jd_r h
-- the invariant of the numbers
def gXs (n : Nat) (g : zGd) (us : List zGd) (sn : Option zGd) : Prop := gX g ≤ n ∧ (∀ u ∈ us, gX u ≤ n) ∧ ∀ s, sn = some s → gX s ≤ n
def LI (k : Nat) (g : zGd) (us : List zGd) (sn : Option zGd) (off rs cs : Int32) : Prop := rIv (60000 * k) g us sn ∧ gXs (31 * k) g us sn ∧ (off = -1 ∨ 0 ≤ off) ∧ ((rs = nI 11 ∧ ¬ cs = 0) ∨ (rs ≠ nI 11 ∧ cs = 0))
theorem kp_mem {us : List zGd} {g u : zGd} (h : u ∈ kp us g) : u ∈ us ∨ u = g := by
  unfold kp at h
  rcases List.mem_append.mp h with q | q
  · split at q
    · exact Or.inl q
    · exact Or.inl (List.mem_of_mem_drop q)
  · exact Or.inr (List.mem_singleton.mp q)
theorem LI_mono {k : Nat} {g : zGd} {us : List zGd} {sn : Option zGd} {off rs cs : Int32} (q : LI k g us sn off rs cs) : LI (k + 1) g us sn off rs cs :=
  ⟨⟨gR_mono q.1.1 (by omega), fun u hu => gR_mono (q.1.2.1 u hu) (by omega), fun s hs => gR_mono (q.1.2.2 s hs) (by omega)⟩, ⟨Nat.le_trans q.2.1.1 (by omega), fun u hu => Nat.le_trans (q.2.1.2.1 u hu) (by omega), fun s hs => Nat.le_trans (q.2.1.2.2 s hs) (by omega)⟩, q.2.2⟩
/-- a garden that is near comes in, the one that was is kept -/
theorem LI_kp {k : Nat} {g g' : zGd} {us : List zGd} {sn : Option zGd} {off rs cs : Int32} (q : LI k g us sn off rs cs) (h1 : gR (60000 * (k + 1)) g') (h2 : gX g' ≤ 31 * (k + 1)) : LI (k + 1) g' (kp us g) sn off rs cs := by
  obtain ⟨⟨a1, a2, a3⟩, ⟨b1, b2, b3⟩, c⟩ := LI_mono q
  exact ⟨⟨h1, fun u hu => (kp_mem hu).elim (a2 u) (fun e => e ▸ a1), a3⟩, ⟨h2, fun u hu => (kp_mem hu).elim (b2 u) (fun e => e ▸ b1), b3⟩, c⟩
theorem LI_rj {k : Nat} {g : zGd} {us : List zGd} {sn : Option zGd} {off rs cs : Int32} {c : Nat} (q : LI k g us sn off rs cs) (hc : 1 ≤ c ∧ c ≤ 10) : LI (k + 1) g us sn off (nI c) 0 :=
  ⟨(LI_mono q).1, (LI_mono q).2.1, q.2.2.1, Or.inr ⟨nI_ne (by omega) (by decide) (by omega), rfl⟩⟩
theorem LI_ex {k : Nat} {g : zGd} {us : List zGd} {sn : Option zGd} {off rs cs : Int32} {c : Nat} (q : LI k g us sn off rs cs) (hc : 1 ≤ c ∧ c ≤ 10) : LI (k + 1) g us sn off (nI 11) (nI c) :=
  ⟨(LI_mono q).1, (LI_mono q).2.1, q.2.2.1, Or.inl ⟨rfl, fun z => nI_ne (a := c) (b := 0) (by omega) (by decide) (by omega) z⟩⟩
theorem LI_of {k n : Nat} {g : zGd} {us : List zGd} {sn : Option zGd} {off rs cs : Int32} (q : LI k g us sn off rs cs) (hn : n < 2 ^ 31) : LI (k + 1) g us sn (nI n) rs cs :=
  ⟨(LI_mono q).1, (LI_mono q).2.1, Or.inr (Int32.not_lt.mp (nI_pos hn)), q.2.2.2⟩
