/-! the garden as a value, and the heap that holds it -/
-- a chair: id, lawn, rust, the day it came, whether it is folded
abbrev zCh : Type := Nat × Nat × Nat × Nat × Bool
def chI (c : zCh) : Nat := c.1
def chL (c : zCh) : Nat := c.2.1
def chR (c : zCh) : Nat := c.2.2.1
def chD (c : zCh) : Nat := c.2.2.2.1
def chF (c : zCh) : Bool := c.2.2.2.2
-- a garden: neighbours, number of paths, shades, chairs in the order of arrival, next id, day, oil, collapsed, scrapped, moves, grazed
abbrev zGd : Type := (Nat → Nat) × Nat × (Nat → Nat) × List zCh × Nat × Nat × Nat × Nat × Nat × Nat × Nat
def gN (g : zGd) : Nat → Nat := g.1
def gP (g : zGd) : Nat := g.2.1
def gS (g : zGd) : Nat → Nat := g.2.2.1
def gC (g : zGd) : List zCh := g.2.2.2.1
def gX (g : zGd) : Nat := g.2.2.2.2.1
def gD (g : zGd) : Nat := g.2.2.2.2.2.1
def gO (g : zGd) : Nat := g.2.2.2.2.2.2.1
def gF (g : zGd) : Nat := g.2.2.2.2.2.2.2.1
def gU (g : zGd) : Nat := g.2.2.2.2.2.2.2.2.1
def gM (g : zGd) : Nat := g.2.2.2.2.2.2.2.2.2.1
def gZ (g : zGd) : Nat := g.2.2.2.2.2.2.2.2.2.2
def gwN (g : zGd) (x : Nat → Nat) (c : Nat) : zGd := (x, c, gS g, gC g, gX g, gD g, gO g, gF g, gU g, gM g, gZ g)
def gwS (g : zGd) (x : Nat → Nat) : zGd := (gN g, gP g, x, gC g, gX g, gD g, gO g, gF g, gU g, gM g, gZ g)
def gwC (g : zGd) (x : List zCh) : zGd := (gN g, gP g, gS g, x, gX g, gD g, gO g, gF g, gU g, gM g, gZ g)
def gwX (g : zGd) (x : Nat) : zGd := (gN g, gP g, gS g, gC g, x, gD g, gO g, gF g, gU g, gM g, gZ g)
def gwD (g : zGd) (x : Nat) : zGd := (gN g, gP g, gS g, gC g, gX g, x, gO g, gF g, gU g, gM g, gZ g)
def gwO (g : zGd) (x : Nat) : zGd := (gN g, gP g, gS g, gC g, gX g, gD g, x, gF g, gU g, gM g, gZ g)
def gwF (g : zGd) (x : Nat) : zGd := (gN g, gP g, gS g, gC g, gX g, gD g, gO g, x, gU g, gM g, gZ g)
def gwU (g : zGd) (x : Nat) : zGd := (gN g, gP g, gS g, gC g, gX g, gD g, gO g, gF g, x, gM g, gZ g)
def gwM (g : zGd) (x : Nat) : zGd := (gN g, gP g, gS g, gC g, gX g, gD g, gO g, gF g, gU g, x, gZ g)
def gwZ (g : zGd) (x : Nat) : zGd := (gN g, gP g, gS g, gC g, gX g, gD g, gO g, gF g, gU g, gM g, x)
def b2 (b : Bool) : Nat := if b = true then 1 else 0
/-- how many chairs stand on the lawn l -/
def hsz (cs : List zCh) (l : Nat) : Nat := cs.countP (fun c => decide (chL c = l))
-- the cell of the k-th chair
def cA (h : zH) (b k : Nat) : Nat := (aR h (b + 8) k).getD 0
def chAt (h : zH) (a : Nat) (c : zCh) : Prop := hI h 128 a = nI (chI c) ∧ hI h 129 a = nI (chL c) ∧ hI h 130 a = nI (chR c) ∧ hI h 131 a = nI (chD c) ∧ hI h 132 a = nI (b2 (chF c))
def zCs (h : zH) (b : Nat) (cs : List zCh) : Prop :=
  (∀ k, k < 12 → aR h (b + 8) k = some (cA h b k) ∧ b + 9 ≤ cA h b k ∧ cA h b k < b + 21) ∧ (∀ i j, i < 12 → j < 12 → cA h b i = cA h b j → i = j) ∧
  (∀ k c, cs[k]? = some c → chAt h (cA h b k) c) ∧ (∀ k, k < 12 → hI h 132 (cA h b k) = nI 0 ∨ hI h 132 (cA h b k) = nI 1)
-- the numbers of a garden
def zNs (h : zH) (b : Nat) (g : zGd) : Prop :=
  hI h 196 b = nI (gC g).length ∧ hI h 197 b = nI (gX g) ∧ hI h 198 b = nI (gD g) ∧ hI h 199 b = nI (gO g) ∧ hI h 200 b = nI (gF g) ∧ hI h 201 b = nI (gU g) ∧ hI h 202 b = nI (gM g) ∧ hI h 203 b = nI (gZ g)
def zGa (h : zH) (b : Nat) (g : zGd) : Prop :=
  zGs h b ∧ zPa h (b + 1) (gN g) ∧ hI h 353 (b + 1) = nI (gP g) ∧ (∀ j, j < 6 → aI h (b + 5) j = nI (gS g j)) ∧ (∀ j, j < 6 → aI h (b + 7) j = nI (hsz (gC g) j)) ∧ zCs h b (gC g) ∧ zNs h b g
def big : Nat := 1000000000
def gW (g : zGd) : Prop :=
  (∀ c ∈ gC g, chI c < gX g ∧ chL c < 6 ∧ chR c ≤ 11 ∧ chD c ≤ gD g) ∧ ((gC g).map chI).Nodup ∧ (gC g).length ≤ 12 ∧ (∀ j, j < 6 → gS g j ≤ 20) ∧ gO g ≤ 20 ∧ gP g ≤ 15 ∧
  gX g ≤ big ∧ gD g ≤ big ∧ gF g ≤ big ∧ gU g ≤ big ∧ gM g ≤ big ∧ gZ g ≤ big
theorem gW_len {g : zGd} (w : gW g) : (gC g).length ≤ 12 := w.2.2.1
theorem gW_c {g : zGd} (w : gW g) {k : Nat} {c : zCh} (h : (gC g)[k]? = some c) : chI c < gX g ∧ chL c < 6 ∧ chR c ≤ 11 ∧ chD c ≤ gD g := w.1 c (List.mem_of_getElem? h)
theorem gW_b {g : zGd} (w : gW g) : gX g ≤ 1000000000 ∧ gD g ≤ 1000000000 ∧ gF g ≤ 1000000000 ∧ gU g ≤ 1000000000 ∧ gM g ≤ 1000000000 ∧ gZ g ≤ 1000000000 := w.2.2.2.2.2.2
theorem gW_cb {g : zGd} (w : gW g) {k : Nat} {c : zCh} (h : (gC g)[k]? = some c) : chI c < 1000000000 ∧ chL c < 6 ∧ chR c ≤ 11 ∧ chD c ≤ 1000000000 :=
  ⟨Nat.lt_of_lt_of_le (gW_c w h).1 (gW_b w).1, (gW_c w h).2.1, (gW_c w h).2.2.1, Nat.le_trans (gW_c w h).2.2.2 (gW_b w).2.1⟩
section ZG
variable {h : zH} {b : Nat} {g : zGd}
theorem zGa_pa (q : zGa h b g) : zPa h (b + 1) (gN g) := q.2.1
theorem zGa_p (q : zGa h b g) : hI h 353 (b + 1) = nI (gP g) := q.2.2.1
theorem zGa_s (q : zGa h b g) : ∀ j, j < 6 → aI h (b + 5) j = nI (gS g j) := q.2.2.2.1
theorem zGa_h (q : zGa h b g) : ∀ j, j < 6 → aI h (b + 7) j = nI (hsz (gC g) j) := q.2.2.2.2.1
theorem zGa_cs (q : zGa h b g) : zCs h b (gC g) := q.2.2.2.2.2.1
theorem zGa_n (q : zGa h b g) : zNs h b g := q.2.2.2.2.2.2
theorem zGa_len (q : zGa h b g) : hI h 196 b = nI (gC g).length := (zGa_n q).1
theorem zGa_a (q : zGa h b g) {k : Nat} (hk : k < 12) : aR h (b + 8) k = some (cA h b k) := ((zGa_cs q).1 k hk).1
theorem zCs_k (s : zGs h b) {cs : List zCh} (q : zCs h b cs) {k : Nat} (hk : k < 12) : hK h (cA h b k) = 5 := by
  obtain ⟨-, h1, h2⟩ := q.1 k hk
  have h3 := s.2.2.2.2.2.2.2.2.2 (cA h b k - (b + 9)) (by omega)
  rw [show b + 9 + (cA h b k - (b + 9)) = cA h b k by omega] at h3
  exact h3
theorem zGa_k (q : zGa h b g) {k : Nat} (hk : k < 12) : hK h (cA h b k) = 5 := zCs_k q.1 (zGa_cs q) hk
theorem zGa_inj (q : zGa h b g) {i j : Nat} (hi : i < 12) (hj : j < 12) (e : cA h b i = cA h b j) : i = j := (zGa_cs q).2.1 i j hi hj e
theorem zGa_c (q : zGa h b g) {k : Nat} {c : zCh} (hc : (gC g)[k]? = some c) : chAt h (cA h b k) c := (zGa_cs q).2.2.1 k c hc
theorem zGa_f (q : zGa h b g) {k : Nat} (hk : k < 12) : hI h 132 (cA h b k) = nI 0 ∨ hI h 132 (cA h b k) = nI 1 := (zGa_cs q).2.2.2 k hk
end ZG
theorem drop_cons {α : Type} {cs : List α} {k : Nat} (h : k < cs.length) : ∃ c, cs[k]? = some c ∧ cs.drop k = c :: cs.drop (k + 1) :=
  ⟨cs[k], List.getElem?_eq_getElem h, List.drop_eq_getElem_cons h⟩
theorem neqn {a b : Nat} (ha : a < 2 ^ 31) (hb : b < 2 ^ 31) : nI a = nI b ↔ a = b := nI_eq ha hb
/-- a cell or none -/
def zfo (h : zH) (b : Nat) (o : Option Nat) : Value := match o with
  | none => .null
  | some k => .ref (cA h b k)
/-- the place of the chair with the id x, from k on -/
def ixF (x : Int32) : List zCh → Nat → Option Nat
  | [], _ => none
  | c :: t, k => if nI (chI c) = x then some k else ixF x t (k + 1)
theorem ixF_some {x : Int32} : ∀ {t : List zCh} {k j : Nat}, ixF x t k = some j → ∃ i c, t[i]? = some c ∧ j = k + i ∧ nI (chI c) = x
  | [], _, _, h => by cases h
  | c :: t, k, j, h => by
    rw [ixF] at h
    split at h
    · cases h
      exact ⟨0, c, rfl, rfl, by assumption⟩
    · obtain ⟨i, d, h1, h2, h3⟩ := ixF_some h
      exact ⟨i + 1, d, h1, by omega, h3⟩
theorem ix_some {x : Int32} {cs : List zCh} {j : Nat} (h : ixF x cs 0 = some j) : ∃ c, cs[j]? = some c ∧ nI (chI c) = x ∧ j < cs.length := by
  obtain ⟨i, c, h1, h2, h3⟩ := ixF_some h
  have e : j = i := by omega
  subst e
  exact ⟨c, h1, h3, (List.getElem?_eq_some_iff.mp h1).1⟩
/-- the chair at the place y of the lawn l, where p stand ahead and k are past -/
def fdH (l : Nat) (y : Int32) : List zCh → Nat → Nat → Option Nat
  | [], _, _ => none
  | c :: t, p, k => if chL c = l then (if nI p = y then some k else fdH l y t (p + 1) (k + 1)) else fdH l y t p (k + 1)
theorem fdH_lt {l : Nat} {y : Int32} : ∀ {t : List zCh} {p k j : Nat}, fdH l y t p k = some j → ∃ i c, t[i]? = some c ∧ j = k + i ∧ chL c = l
  | [], _, _, _, h => by cases h
  | c :: t, p, k, j, h => by
    rw [fdH] at h
    split at h
    · split at h
      · cases h
        exact ⟨0, c, rfl, rfl, by assumption⟩
      · obtain ⟨i, d, h1, h2, h3⟩ := fdH_lt h
        exact ⟨i + 1, d, h1, by omega, h3⟩
    · obtain ⟨i, d, h1, h2, h3⟩ := fdH_lt h
      exact ⟨i + 1, d, h1, by omega, h3⟩
theorem fd_some {l : Nat} {y : Int32} {cs : List zCh} {j : Nat} (h : fdH l y cs 0 0 = some j) : ∃ c, cs[j]? = some c ∧ chL c = l ∧ j < cs.length := by
  obtain ⟨i, c, h1, h2, h3⟩ := fdH_lt h
  have e : j = i := by omega
  subst e
  exact ⟨c, h1, h3, (List.getElem?_eq_some_iff.mp h1).1⟩
def chGr (l : Nat) (c : zCh) : Bool := decide (chL c = l) && !chF c
/-- c rusts more than d, or as much with a smaller id -/
def chE (c d : zCh) : Bool := decide (chR d < chR c) || (decide (chR c = chR d) && decide (chI c < chI d))
def chA (c d : zCh) : Bool := decide (chR d < chR c) || (decide (chR c = chR d) && (decide (chD c < chD d) || (decide (chD c = chD d) && decide (chI c < chI d))))
