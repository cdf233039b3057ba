/-! ChairMigration: its state, and how it changes -/
/-- the input's cells, and what was put in -/
def zIs9 (h : zH) (a : Nat) : Prop := hK h a = 6 ∧ hR h 160 a = some (a + 1) ∧ hR h 161 a = some (a + 2) ∧ hR h 162 a = some (a + 3) ∧ hR h 163 a = some (a + 4) ∧ (hK h (a + 1) = 102 ∧ hL h (a + 1) = 60) ∧ (hK h (a + 2) = 102 ∧ hL h (a + 2) = 60) ∧ (hK h (a + 3) = 103 ∧ hL h (a + 3) = 60) ∧ (hK h (a + 4) = 103 ∧ hL h (a + 4) = 60)
def zIn (h : zH) (a : Nat) (t : List Nat) : Prop := zIs9 h a ∧ hI h 164 a = nI t.length ∧ t.length ≤ 60 ∧ ∀ (i c : Nat), t[i]? = some c → aI h (a + 1) i = nI c ∧ 32 ≤ c ∧ c ≤ 126
/-- the text that was written; its bytes lie behind the object or from lo on -/
def zOu (h : zH) (a lo : Nat) (o : List Nat) : Prop := hK h a = 2 ∧ hI h 33 a = 0 ∧ hI h 35 a = nI o.length ∧ ∃ v, hR h 32 a = some v ∧ (v = a + 1 ∨ lo ≤ v) ∧ v < hN h ∧ hK h v = 101 ∧ o.length ≤ hL h v ∧ hL h v ≤ 200 ∧ (∀ (i c : Nat), o[i]? = some c → aI h v i = nI c ∧ c < 128) ∧ sb_Fit (aI h v)
theorem zIn_e {h h' : zH} {a : Nat} {t : List Nat} (q : zIn h a t) (e : ∀ c, a ≤ c → c < a + 5 → zEq h h' c) : zIn h' a t := by
  obtain ⟨⟨q1, q2, q3, q4, q5, q6, q7, q8, q9⟩, n1, n2, n3⟩ := q
  have e0 := e a (by omega) (by omega)
  have e1 := e (a + 1) (by omega) (by omega)
  have e2 := e (a + 2) (by omega) (by omega)
  have e3 := e (a + 3) (by omega) (by omega)
  have e4 := e (a + 4) (by omega) (by omega)
  exact ⟨⟨e0.1.trans q1, (e0.2.2.1 _).trans q2, (e0.2.2.1 _).trans q3, (e0.2.2.1 _).trans q4, (e0.2.2.1 _).trans q5, ⟨e1.1.trans q6.1, e1.2.1.trans q6.2⟩, ⟨e2.1.trans q7.1, e2.2.1.trans q7.2⟩, ⟨e3.1.trans q8.1, e3.2.1.trans q8.2⟩, ⟨e4.1.trans q9.1, e4.2.1.trans q9.2⟩⟩, (e0.2.2.2.1 _).trans n1, n2, fun i c hc => ⟨(congrFun e1.2.2.2.2.1 i).trans (n3 i c hc).1, (n3 i c hc).2⟩⟩
theorem zOu_e {h h' : zH} {a lo : Nat} {o : List Nat} (q : zOu h a lo o) (hn : hN h ≤ hN h') (e : ∀ c, (a ≤ c ∧ c < a + 2) ∨ (lo ≤ c ∧ c < hN h) → zEq h h' c) : zOu h' a lo o := by
  obtain ⟨q1, q2, q3, v, q4, q5, q6, q7, q8, q9, q10, q11⟩ := q
  have e0 := e a (Or.inl ⟨by omega, by omega⟩)
  have ev := e v (by rcases q5 with rfl | z; exact Or.inl ⟨by omega, by omega⟩; exact Or.inr ⟨z, q6⟩)
  exact ⟨e0.1.trans q1, (e0.2.2.2.1 _).trans q2, (e0.2.2.2.1 _).trans q3, v, (e0.2.2.1 _).trans q4, q5, by omega, ev.1.trans q7, by rw [ev.2.1]; exact q8, by rw [ev.2.1]; exact q9, ⟨fun i c hc => ⟨(congrFun ev.2.2.2.2.1 i).trans (q10 i c hc).1, (q10 i c hc).2⟩, by rw [ev.2.2.2.2.1]; exact q11⟩⟩
/-- the object's state: garden, undo, snapshot, offset, rejection, input, output -/
def zXa (h : zH) (a lo : Nat) (g : zGd) (us : List zGd) (sn : Option zGd) (off rs dt cs : Int32) (t o : List Nat) : Prop :=
  zXs h a ∧ (zGa h (a + 1) g ∧ zGt h (a + 22) ∧ zGt h (a + 43)) ∧ (zGt h (a + 64) ∧ ∀ s, sn = some s → zGa h (a + 64) s ∧ (gC s).length ≤ 12) ∧ zHi h (a + 85) us ∧ zIs h (a + 255) ∧ hK h (a + 263) = 10 ∧ zIn h (a + 264) t ∧ zOu h (a + 269) lo o ∧ (hI h 393 a = nI (b2 sn.isSome) ∧ hI h 394 a = off ∧ hI h 395 a = rs ∧ hI h 396 a = dt ∧ hI h 397 a = cs) ∧ a + 271 ≤ lo ∧ (gC g).length ≤ 12
/-- only the object's own cells and new ones are other than they were -/
def zXf (h h' : zH) (a lo : Nat) : Prop := hN h ≤ hN h' ∧ ∀ c, (c < a ∨ a + 271 ≤ c) → c < lo → zEq h h' c
theorem zXf.refl (h : zH) (a lo : Nat) : zXf h h a lo := ⟨Nat.le_refl _, fun c _ _ => zEq.refl h c⟩
theorem zXf.trans {h h1 h2 : zH} {a lo : Nat} (p : zXf h h1 a lo) (q : zXf h1 h2 a lo) : zXf h h2 a lo := ⟨Nat.le_trans p.1 q.1, fun c h1 h2 => (p.2 c h1 h2).trans (q.2 c h1 h2)⟩
theorem zXf.q {h h' : zH} {a lo x y : Nat} (f : zFq h h' x y) (h1 : a ≤ x) (h2 : y ≤ a + 271) : zXf h h' a lo := ⟨Nat.le_of_eq f.1.symm, fun c hc _ => f.e (by omega)⟩
theorem zXa_j {h h' : zH} {a lo : Nat} {g : zGd} {us : List zGd} {sn : Option zGd} {off rs dt cs : Int32} {t o : List Nat} (q : zXa h a lo g us sn off rs dt cs t o) (f : zFq h h' (a + 263) (a + 264))  : zXa h' a lo g us sn off rs dt cs t o := by
  obtain ⟨hx, ⟨hg, hf, hb⟩, hs, hH, hI, hJ, hin, hou, hn, hlo, hl9⟩ := id q
  have e : ∀ c, (c < a + 263 ∨ a + 264 ≤ c) → zEq h h' c := fun c hc => f.e hc
  have hn9 : hN h ≤ hN h' := Nat.le_of_eq f.1.symm
  exact ⟨zXs_e hx (e a (by omega)), ⟨zGa_e hg hl9 (fun c h1 h2 => e c (by omega)), zGt_e hf (fun c h1 h2 => e c (by omega)), zGt_e hb (fun c h1 h2 => e c (by omega))⟩, ⟨zGt_e hs.1 (fun c h1 h2 => e c (by omega)), fun s hs9 => ⟨zGa_e (hs.2 s hs9).1 (hs.2 s hs9).2 (fun c h1 h2 => e c (by omega)), (hs.2 s hs9).2⟩⟩, zHi_e hH (fun c h1 h2 => e c (by omega)), zIs_e hI (fun c h1 h2 => e c (by omega)), (congrFun f.2.1 (a + 263)).trans hJ, zIn_e hin (fun c h1 h2 => e c (by omega)), zOu_e hou hn9 (fun c h1 => e c (by omega)), ⟨((e a (by omega)).2.2.2.1 _).trans hn.1, ((e a (by omega)).2.2.2.1 _).trans hn.2.1, ((e a (by omega)).2.2.2.1 _).trans hn.2.2.1, ((e a (by omega)).2.2.2.1 _).trans hn.2.2.2.1, ((e a (by omega)).2.2.2.1 _).trans hn.2.2.2.2⟩, hlo, hl9⟩
theorem zXa_g {h h' : zH} {a lo : Nat} {g : zGd} {us : List zGd} {sn : Option zGd} {off rs dt cs : Int32} {t o : List Nat} (q : zXa h a lo g us sn off rs dt cs t o) (f : zFq h h' (a + 1) (a + 22)) {g' : zGd} (n : zGa h' (a + 1) g') (hl8 : (gC g').length ≤ 12) : zXa h' a lo g' us sn off rs dt cs t o := by
  obtain ⟨hx, ⟨hg, hf, hb⟩, hs, hH, hI, hJ, hin, hou, hn, hlo, hl9⟩ := id q
  have e : ∀ c, (c < a + 1 ∨ a + 22 ≤ c) → zEq h h' c := fun c hc => f.e hc
  have hn9 : hN h ≤ hN h' := Nat.le_of_eq f.1.symm
  exact ⟨zXs_e hx (e a (by omega)), ⟨n, zGt_e hf (fun c h1 h2 => e c (by omega)), zGt_e hb (fun c h1 h2 => e c (by omega))⟩, ⟨zGt_e hs.1 (fun c h1 h2 => e c (by omega)), fun s hs9 => ⟨zGa_e (hs.2 s hs9).1 (hs.2 s hs9).2 (fun c h1 h2 => e c (by omega)), (hs.2 s hs9).2⟩⟩, zHi_e hH (fun c h1 h2 => e c (by omega)), zIs_e hI (fun c h1 h2 => e c (by omega)), (e (a + 263) (by omega)).1.trans hJ, zIn_e hin (fun c h1 h2 => e c (by omega)), zOu_e hou hn9 (fun c h1 => e c (by omega)), ⟨((e a (by omega)).2.2.2.1 _).trans hn.1, ((e a (by omega)).2.2.2.1 _).trans hn.2.1, ((e a (by omega)).2.2.2.1 _).trans hn.2.2.1, ((e a (by omega)).2.2.2.1 _).trans hn.2.2.2.1, ((e a (by omega)).2.2.2.1 _).trans hn.2.2.2.2⟩, hlo, hl8⟩
theorem zXa_f {h h' : zH} {a lo : Nat} {g : zGd} {us : List zGd} {sn : Option zGd} {off rs dt cs : Int32} {t o : List Nat} (q : zXa h a lo g us sn off rs dt cs t o) (f : zFq h h' (a + 22) (a + 43)) (n : zGt h' (a + 22)) : zXa h' a lo g us sn off rs dt cs t o := by
  obtain ⟨hx, ⟨hg, hf, hb⟩, hs, hH, hI, hJ, hin, hou, hn, hlo, hl9⟩ := id q
  have e : ∀ c, (c < a + 22 ∨ a + 43 ≤ c) → zEq h h' c := fun c hc => f.e hc
  have hn9 : hN h ≤ hN h' := Nat.le_of_eq f.1.symm
  exact ⟨zXs_e hx (e a (by omega)), ⟨zGa_e hg hl9 (fun c h1 h2 => e c (by omega)), n, zGt_e hb (fun c h1 h2 => e c (by omega))⟩, ⟨zGt_e hs.1 (fun c h1 h2 => e c (by omega)), fun s hs9 => ⟨zGa_e (hs.2 s hs9).1 (hs.2 s hs9).2 (fun c h1 h2 => e c (by omega)), (hs.2 s hs9).2⟩⟩, zHi_e hH (fun c h1 h2 => e c (by omega)), zIs_e hI (fun c h1 h2 => e c (by omega)), (e (a + 263) (by omega)).1.trans hJ, zIn_e hin (fun c h1 h2 => e c (by omega)), zOu_e hou hn9 (fun c h1 => e c (by omega)), ⟨((e a (by omega)).2.2.2.1 _).trans hn.1, ((e a (by omega)).2.2.2.1 _).trans hn.2.1, ((e a (by omega)).2.2.2.1 _).trans hn.2.2.1, ((e a (by omega)).2.2.2.1 _).trans hn.2.2.2.1, ((e a (by omega)).2.2.2.1 _).trans hn.2.2.2.2⟩, hlo, hl9⟩
theorem zXa_b {h h' : zH} {a lo : Nat} {g : zGd} {us : List zGd} {sn : Option zGd} {off rs dt cs : Int32} {t o : List Nat} (q : zXa h a lo g us sn off rs dt cs t o) (f : zFq h h' (a + 43) (a + 64)) (n : zGt h' (a + 43)) : zXa h' a lo g us sn off rs dt cs t o := by
  obtain ⟨hx, ⟨hg, hf, hb⟩, hs, hH, hI, hJ, hin, hou, hn, hlo, hl9⟩ := id q
  have e : ∀ c, (c < a + 43 ∨ a + 64 ≤ c) → zEq h h' c := fun c hc => f.e hc
  have hn9 : hN h ≤ hN h' := Nat.le_of_eq f.1.symm
  exact ⟨zXs_e hx (e a (by omega)), ⟨zGa_e hg hl9 (fun c h1 h2 => e c (by omega)), zGt_e hf (fun c h1 h2 => e c (by omega)), n⟩, ⟨zGt_e hs.1 (fun c h1 h2 => e c (by omega)), fun s hs9 => ⟨zGa_e (hs.2 s hs9).1 (hs.2 s hs9).2 (fun c h1 h2 => e c (by omega)), (hs.2 s hs9).2⟩⟩, zHi_e hH (fun c h1 h2 => e c (by omega)), zIs_e hI (fun c h1 h2 => e c (by omega)), (e (a + 263) (by omega)).1.trans hJ, zIn_e hin (fun c h1 h2 => e c (by omega)), zOu_e hou hn9 (fun c h1 => e c (by omega)), ⟨((e a (by omega)).2.2.2.1 _).trans hn.1, ((e a (by omega)).2.2.2.1 _).trans hn.2.1, ((e a (by omega)).2.2.2.1 _).trans hn.2.2.1, ((e a (by omega)).2.2.2.1 _).trans hn.2.2.2.1, ((e a (by omega)).2.2.2.1 _).trans hn.2.2.2.2⟩, hlo, hl9⟩
theorem zXa_h {h h' : zH} {a lo : Nat} {g : zGd} {us : List zGd} {sn : Option zGd} {off rs dt cs : Int32} {t o : List Nat} (q : zXa h a lo g us sn off rs dt cs t o) (f : zFq h h' (a + 85) (a + 255)) {us' : List zGd} (n : zHi h' (a + 85) us') : zXa h' a lo g us' sn off rs dt cs t o := by
  obtain ⟨hx, ⟨hg, hf, hb⟩, hs, hH, hI, hJ, hin, hou, hn, hlo, hl9⟩ := id q
  have e : ∀ c, (c < a + 85 ∨ a + 255 ≤ c) → zEq h h' c := fun c hc => f.e hc
  have hn9 : hN h ≤ hN h' := Nat.le_of_eq f.1.symm
  exact ⟨zXs_e hx (e a (by omega)), ⟨zGa_e hg hl9 (fun c h1 h2 => e c (by omega)), zGt_e hf (fun c h1 h2 => e c (by omega)), zGt_e hb (fun c h1 h2 => e c (by omega))⟩, ⟨zGt_e hs.1 (fun c h1 h2 => e c (by omega)), fun s hs9 => ⟨zGa_e (hs.2 s hs9).1 (hs.2 s hs9).2 (fun c h1 h2 => e c (by omega)), (hs.2 s hs9).2⟩⟩, n, zIs_e hI (fun c h1 h2 => e c (by omega)), (e (a + 263) (by omega)).1.trans hJ, zIn_e hin (fun c h1 h2 => e c (by omega)), zOu_e hou hn9 (fun c h1 => e c (by omega)), ⟨((e a (by omega)).2.2.2.1 _).trans hn.1, ((e a (by omega)).2.2.2.1 _).trans hn.2.1, ((e a (by omega)).2.2.2.1 _).trans hn.2.2.1, ((e a (by omega)).2.2.2.1 _).trans hn.2.2.2.1, ((e a (by omega)).2.2.2.1 _).trans hn.2.2.2.2⟩, hlo, hl9⟩
theorem zXa_i {h h' : zH} {a lo : Nat} {g : zGd} {us : List zGd} {sn : Option zGd} {off rs dt cs : Int32} {t o : List Nat} (q : zXa h a lo g us sn off rs dt cs t o) (f : zFq h h' (a + 255) (a + 263)) (n : zIs h' (a + 255)) : zXa h' a lo g us sn off rs dt cs t o := by
  obtain ⟨hx, ⟨hg, hf, hb⟩, hs, hH, hI, hJ, hin, hou, hn, hlo, hl9⟩ := id q
  have e : ∀ c, (c < a + 255 ∨ a + 263 ≤ c) → zEq h h' c := fun c hc => f.e hc
  have hn9 : hN h ≤ hN h' := Nat.le_of_eq f.1.symm
  exact ⟨zXs_e hx (e a (by omega)), ⟨zGa_e hg hl9 (fun c h1 h2 => e c (by omega)), zGt_e hf (fun c h1 h2 => e c (by omega)), zGt_e hb (fun c h1 h2 => e c (by omega))⟩, ⟨zGt_e hs.1 (fun c h1 h2 => e c (by omega)), fun s hs9 => ⟨zGa_e (hs.2 s hs9).1 (hs.2 s hs9).2 (fun c h1 h2 => e c (by omega)), (hs.2 s hs9).2⟩⟩, zHi_e hH (fun c h1 h2 => e c (by omega)), n, (e (a + 263) (by omega)).1.trans hJ, zIn_e hin (fun c h1 h2 => e c (by omega)), zOu_e hou hn9 (fun c h1 => e c (by omega)), ⟨((e a (by omega)).2.2.2.1 _).trans hn.1, ((e a (by omega)).2.2.2.1 _).trans hn.2.1, ((e a (by omega)).2.2.2.1 _).trans hn.2.2.1, ((e a (by omega)).2.2.2.1 _).trans hn.2.2.2.1, ((e a (by omega)).2.2.2.1 _).trans hn.2.2.2.2⟩, hlo, hl9⟩
theorem zXa_in {h h' : zH} {a lo : Nat} {g : zGd} {us : List zGd} {sn : Option zGd} {off rs dt cs : Int32} {t o : List Nat} (q : zXa h a lo g us sn off rs dt cs t o) (f : zFq h h' (a + 264) (a + 269)) {t' : List Nat} (n : zIn h' (a + 264) t') : zXa h' a lo g us sn off rs dt cs t' o := by
  obtain ⟨hx, ⟨hg, hf, hb⟩, hs, hH, hI, hJ, hin, hou, hn, hlo, hl9⟩ := id q
  have e : ∀ c, (c < a + 264 ∨ a + 269 ≤ c) → zEq h h' c := fun c hc => f.e hc
  have hn9 : hN h ≤ hN h' := Nat.le_of_eq f.1.symm
  exact ⟨zXs_e hx (e a (by omega)), ⟨zGa_e hg hl9 (fun c h1 h2 => e c (by omega)), zGt_e hf (fun c h1 h2 => e c (by omega)), zGt_e hb (fun c h1 h2 => e c (by omega))⟩, ⟨zGt_e hs.1 (fun c h1 h2 => e c (by omega)), fun s hs9 => ⟨zGa_e (hs.2 s hs9).1 (hs.2 s hs9).2 (fun c h1 h2 => e c (by omega)), (hs.2 s hs9).2⟩⟩, zHi_e hH (fun c h1 h2 => e c (by omega)), zIs_e hI (fun c h1 h2 => e c (by omega)), (e (a + 263) (by omega)).1.trans hJ, n, zOu_e hou hn9 (fun c h1 => e c (by omega)), ⟨((e a (by omega)).2.2.2.1 _).trans hn.1, ((e a (by omega)).2.2.2.1 _).trans hn.2.1, ((e a (by omega)).2.2.2.1 _).trans hn.2.2.1, ((e a (by omega)).2.2.2.1 _).trans hn.2.2.2.1, ((e a (by omega)).2.2.2.1 _).trans hn.2.2.2.2⟩, hlo, hl9⟩
theorem zXa_0 {h h' : zH} {a lo : Nat} {g : zGd} {us : List zGd} {sn : Option zGd} {off rs dt cs : Int32} {t o : List Nat} {off' rs' dt' cs' : Int32} (q : zXa h a lo g us sn off rs dt cs t o) (f : zFq h h' a (a + 1)) (hr : ∀ f, hR h' f a = hR h f a) (n : hI h' 393 a = nI (b2 sn.isSome) ∧ hI h' 394 a = off' ∧ hI h' 395 a = rs' ∧ hI h' 396 a = dt' ∧ hI h' 397 a = cs') : zXa h' a lo g us sn off' rs' dt' cs' t o := by
  obtain ⟨hx, ⟨hg, hf, hb⟩, hs, hH, hI, hJ, hin, hou, hn, hlo, hl9⟩ := id q
  have e : ∀ c, (c < a ∨ a + 1 ≤ c) → zEq h h' c := fun c hc => f.e hc
  have hn9 : hN h ≤ hN h' := Nat.le_of_eq f.1.symm
  obtain ⟨q1, q2, q3, q4, q5, q6, q7, q8, q9, q10⟩ := hx
  exact ⟨⟨(congrFun f.2.1 a).trans q1, (hr _).trans q2, (hr _).trans q3, (hr _).trans q4, (hr _).trans q5, (hr _).trans q6, (hr _).trans q7, (hr _).trans q8, (hr _).trans q9, (hr _).trans q10⟩, ⟨zGa_e hg hl9 (fun c h1 h2 => e c (by omega)), zGt_e hf (fun c h1 h2 => e c (by omega)), zGt_e hb (fun c h1 h2 => e c (by omega))⟩, ⟨zGt_e hs.1 (fun c h1 h2 => e c (by omega)), fun s hs9 => ⟨zGa_e (hs.2 s hs9).1 (hs.2 s hs9).2 (fun c h1 h2 => e c (by omega)), (hs.2 s hs9).2⟩⟩, zHi_e hH (fun c h1 h2 => e c (by omega)), zIs_e hI (fun c h1 h2 => e c (by omega)), (e (a + 263) (by omega)).1.trans hJ, zIn_e hin (fun c h1 h2 => e c (by omega)), zOu_e hou hn9 (fun c h1 => e c (by omega)), n, hlo, hl9⟩
theorem zXa_s {h h1 : zH} {a lo : Nat} {g : zGd} {us : List zGd} {sn : Option zGd} {off rs dt cs : Int32} {t o : List Nat} {s' : zGd} (q : zXa h a lo g us sn off rs dt cs t o) (f : zFq h h1 (a + 64) (a + 85)) (n : zGa h1 (a + 64) s') (hl8 : (gC s').length ≤ 12) : zXa (sI h1 393 a (nI 1)) a lo g us (some s') off rs dt cs t o := by
  obtain ⟨hx, ⟨hg, hf, hb⟩, hs, hH, hI, hJ, hin, hou, hn, hlo, hl9⟩ := id q
  have e : ∀ c, (c < a ∨ (a + 1 ≤ c ∧ c < a + 64) ∨ a + 85 ≤ c) → zEq h (sI h1 393 a (nI 1)) c := fun c hc => (f.e (by omega)).trans (zEq_sI (by omega))
  have ea := f.e (c := a) (by omega)
  have hn9 : hN h ≤ hN (sI h1 393 a (nI 1)) := Nat.le_of_eq f.1.symm
  obtain ⟨q1, q2, q3, q4, q5, q6, q7, q8, q9, q10⟩ := hx
  have n9 : zGa (sI h1 393 a (nI 1)) (a + 64) s' := zGa_e n hl8 (fun c h1 h2 => zEq_sI (by omega))
  exact ⟨⟨ea.1.trans q1, (ea.2.2.1 _).trans q2, (ea.2.2.1 _).trans q3, (ea.2.2.1 _).trans q4, (ea.2.2.1 _).trans q5, (ea.2.2.1 _).trans q6, (ea.2.2.1 _).trans q7, (ea.2.2.1 _).trans q8, (ea.2.2.1 _).trans q9, (ea.2.2.1 _).trans q10⟩, ⟨zGa_e hg hl9 (fun c h1 h2 => e c (by omega)), zGt_e hf (fun c h1 h2 => e c (by omega)), zGt_e hb (fun c h1 h2 => e c (by omega))⟩, ⟨zGa_t n9, fun s hs9 => by cases hs9; exact ⟨n9, hl8⟩⟩, zHi_e hH (fun c h1 h2 => e c (by omega)), zIs_e hI (fun c h1 h2 => e c (by omega)), (e (a + 263) (by omega)).1.trans hJ, zIn_e hin (fun c h1 h2 => e c (by omega)), zOu_e hou hn9 (fun c h1 => e c (by omega)), ⟨hI_sI, (hI_sI_f (by decide)).trans ((ea.2.2.2.1 _).trans hn.2.1), (hI_sI_f (by decide)).trans ((ea.2.2.2.1 _).trans hn.2.2.1), (hI_sI_f (by decide)).trans ((ea.2.2.2.1 _).trans hn.2.2.2.1), (hI_sI_f (by decide)).trans ((ea.2.2.2.1 _).trans hn.2.2.2.2)⟩, hlo, hl9⟩
def rjH (h : zH) (a : Nat) (r d c : Int32) : zH := sI (sI (sI h 395 a r) 396 a d) 397 a c
theorem rjH_f {h : zH} {a : Nat} {r d c : Int32} : zFq h (rjH h a r d c) a (a + 1) := (((zFq.refl h a (a + 1)).sI (Nat.le_refl _) (Nat.lt_succ_self _)).sI (Nat.le_refl _) (Nat.lt_succ_self _)).sI (Nat.le_refl _) (Nat.lt_succ_self _)
theorem zXa_rj {h : zH} {a lo : Nat} {g : zGd} {us : List zGd} {sn : Option zGd} {off rs dt cs : Int32} {t o : List Nat} {r d c : Int32} (q : zXa h a lo g us sn off rs dt cs t o) : zXa (rjH h a r d c) a lo g us sn off r d c t o :=
  zXa_0 q rjH_f (fun _ => rfl) ⟨(hI_sI_f (by decide)).trans ((hI_sI_f (by decide)).trans ((hI_sI_f (by decide)).trans q.2.2.2.2.2.2.2.2.1.1)), (hI_sI_f (by decide)).trans ((hI_sI_f (by decide)).trans ((hI_sI_f (by decide)).trans q.2.2.2.2.2.2.2.2.1.2.1)), (hI_sI_f (by decide)).trans ((hI_sI_f (by decide)).trans hI_sI), (hI_sI_f (by decide)).trans hI_sI, hI_sI⟩
/-- what a call answers, with the state behind it -/
def sQ9 (h : zH) (A : zAn) (P : zH → Prop) : Option Value → zH → Prop := fun r h' => (∃ v, A = .inr v ∧ r = some v) ∧ P h'
def sX9 (h : zH) (A : zAn) (P : zH → Prop) : String → zH → Prop := fun Ex h' => A = .inl Ex ∧ P h'
theorem sQ_of {h h' : zH} {A : zAn} {P : zH → Prop} {v : Value} (e : A = .inr v) (p : P h') : sQ9 h A P (some v) h' := ⟨⟨v, e, rfl⟩, p⟩
set_option maxHeartbeats 4000000 in
set_option maxRecDepth 100000 in
theorem s_remember {l : Launch} {E : zG} (hzs : zS E) (hst : l.stackTraces = false) (h : zH) (a : Nat) (x y z : Int32) (hk : hK h a = 13) : zMet l E yX9_rememberRejection cX9_rememberRejection 4 none ({ frames := 0, cells := 0, slots := 0, locals := 0 } : Room) 0 0 [.ref a, .int x, .int y, .int z] h (fun r h' => r = none ∧ h' = rjH h a x y z) (fun _ _ => False) := by
  refine zM_start hzs hst (by decide) (Nat.le_of_ble_eq_true rfl) (fun X C G F I => ?_)
  show zV X 0 0 _ 0 [(0, _), (1, _), (2, _), (3, _)] []
  refine zV.aload_n C dX9_rememberRejection_0 rfl rfl ?_
  refine zV.iload_n C dX9_rememberRejection_1 rfl ?_
  refine zV.pI 395 (k := 11) C dX9_rememberRejection_2 zcl_X9 (by decide) rfl lk_X9_304 rfl hk rfl ⟨rfl, rfl⟩ ?_
  refine zV.aload_n C dX9_rememberRejection_5 rfl rfl ?_
  refine zV.iload_n C dX9_rememberRejection_6 rfl ?_
  refine zV.pI 396 (k := 12) C dX9_rememberRejection_7 zcl_X9 (by decide) rfl lk_X9_307 rfl hk rfl ⟨rfl, rfl⟩ ?_
  refine zV.aload_n C dX9_rememberRejection_10 rfl rfl ?_
  refine zV.iload_n C dX9_rememberRejection_11 rfl ?_
  refine zV.pI 397 (k := 13) C dX9_rememberRejection_12 zcl_X9 (by decide) rfl lk_X9_312 rfl hk rfl ⟨rfl, rfl⟩ ?_
  refine zV.vret C F dX9_rememberRejection_15 rfl ?_
  exact ⟨rfl, rfl⟩
def chgA (g : zGd) (d : Nat) (x y : Int32) : zAn := if (jd g d x y).1 = 0 then .inr (.int (ap g d x y).2) else if (jd g d x y).1 = 1 then .inl IOB else if (jd g d x y).1 = 2 then .inl IAE else .inl UOE
def chgP (h : zH) (a lo : Nat) (d : Nat) (x y : Int32) (g : zGd) (us : List zGd) (sn : Option zGd) (off rs dt cs : Int32) (t o : List Nat) (h' : zH) : Prop := zXf h h' a lo ∧ (if (jd g d x y).1 = 0 then zXa h' a lo (ap g d x y).1 (kp us g) sn off rs dt cs t o else if (jd g d x y).1 = 3 then zXa h' a lo g us sn off (nI (jd g d x y).2.1) (jd g d x y).2.2 0 t o else zXa h' a lo g us sn off rs dt cs t o)
theorem jd_3 {g : zGd} {d : Nat} {x y : Int32} (hd : isD d) : (jd g d x y).1 ≤ 3 := by
  rcases hd with rfl | rfl | rfl | rfl | rfl | rfl | rfl | rfl | rfl | rfl | rfl | rfl
  · show (jPv g x y).1 ≤ 3; unfold jPv; (repeat' split) <;> first | decide | exact Nat.le_refl 3
  · show (jDg g x y).1 ≤ 3; unfold jDg; (repeat' split) <;> first | decide | exact Nat.le_refl 3
  · show (jSh x y).1 ≤ 3; unfold jSh; (repeat' split) <;> first | decide | exact Nat.le_refl 3
  · show (jCm g x y).1 ≤ 3; unfold jCm; (repeat' split) <;> first | decide | exact Nat.le_refl 3
  · show (jSc g x).1 ≤ 3; unfold jSc; (repeat' split) <;> first | decide | exact Nat.le_refl 3
  · show (jFo g x).1 ≤ 3; unfold jFo; (repeat' split) <;> first | decide | exact Nat.le_refl 3
  · show (jUn g x).1 ≤ 3; unfold jUn; (repeat' split) <;> first | decide | exact Nat.le_refl 3
  · show (jOi g x).1 ≤ 3; unfold jOi; (repeat' split) <;> first | decide | exact Nat.le_refl 3
  · show (jMv g x y).1 ≤ 3; unfold jMv; (repeat' split) <;> first | decide | exact Nat.le_refl 3
  · show (jMg g x y).1 ≤ 3; unfold jMg; (repeat' split) <;> first | decide | exact Nat.le_refl 3
  · show (jAo g x).1 ≤ 3; unfold jAo; (repeat' split) <;> first | decide | exact Nat.le_refl 3
  · show (jDy x).1 ≤ 3; unfold jDy; (repeat' split) <;> first | decide | exact Nat.le_refl 3
