/-! THE LAYER: a heap of numbered cells (the world), and V: the machine at a frame over that heap -/
-- the pure heap: how many cells, the kind of each, its length, its int and ref fields by (field, cell), array contents by (cell, place)
abbrev zH : Type := Nat × (Nat → Nat) × (Nat → Nat) × (Nat → Nat → Int32) × (Nat → Nat → Option Nat) × (Nat → Nat → Int32) × (Nat → Nat → Option Nat) × (Nat → Nat → Int64) × (Nat → Nat → UInt64)
def hN (h : zH) : Nat := h.1
def hK (h : zH) : Nat → Nat := h.2.1
def hL (h : zH) : Nat → Nat := h.2.2.1
def hI (h : zH) : Nat → Nat → Int32 := h.2.2.2.1
def hR (h : zH) : Nat → Nat → Option Nat := h.2.2.2.2.1
def aI (h : zH) : Nat → Nat → Int32 := h.2.2.2.2.2.1
def aR (h : zH) : Nat → Nat → Option Nat := h.2.2.2.2.2.2.1
def aJ (h : zH) : Nat → Nat → Int64 := h.2.2.2.2.2.2.2.1
def aD (h : zH) : Nat → Nat → UInt64 := h.2.2.2.2.2.2.2.2
def up2 {α : Type} (f : Nat → Nat → α) (a b : Nat) (v : α) : Nat → Nat → α := fun x y => if x = a ∧ y = b then v else f x y
def sI (h : zH) (f a : Nat) (v : Int32) : zH := (hN h, hK h, hL h, up2 (hI h) f a v, hR h, aI h, aR h, aJ h, aD h)
def sR (h : zH) (f a : Nat) (v : Option Nat) : zH := (hN h, hK h, hL h, hI h, up2 (hR h) f a v, aI h, aR h, aJ h, aD h)
def saI (h : zH) (a i : Nat) (v : Int32) : zH := (hN h, hK h, hL h, hI h, hR h, up2 (aI h) a i v, aR h, aJ h, aD h)
def saR (h : zH) (a i : Nat) (v : Option Nat) : zH := (hN h, hK h, hL h, hI h, hR h, aI h, up2 (aR h) a i v, aJ h, aD h)
def saJ (h : zH) (a i : Nat) (v : Int64) : zH := (hN h, hK h, hL h, hI h, hR h, aI h, aR h, up2 (aJ h) a i v, aD h)
def saD (h : zH) (a i : Nat) (v : UInt64) : zH := (hN h, hK h, hL h, hI h, hR h, aI h, aR h, aJ h, up2 (aD h) a i v)
def clr {α : Type} (f : Nat → Nat → α) (n : Nat) (v : α) : Nat → Nat → α := fun x y => if y = n then v else f x y
def cla {α : Type} (f : Nat → Nat → α) (n : Nat) (v : α) : Nat → Nat → α := fun x y => if x = n then v else f x y
/-- one more cell, of kind k and length z, its fields and places at their defaults -/
def hNew (h : zH) (k z : Nat) : zH := (hN h + 1, va_up (hK h) (hN h) k, va_up (hL h) (hN h) z, clr (hI h) (hN h) 0, clr (hR h) (hN h) none, cla (aI h) (hN h) 0, cla (aR h) (hN h) none, cla (aJ h) (hN h) 0, cla (aD h) (hN h) 0)
-- which fields of a class are references, by its place in vwCl
def zFl : Nat → List Bool := fun k => match k with
  | 0 => [true, false, false, false]
  | 1 => [true, false, false, false]
  | 2 => [true, true, true, true, true, false]
  | 3 => [true, true, true, true, true, false]
  | 4 => [false, false, false, false, false]
  | 5 => [true, true, true, true, false, false, false]
  | 6 => [true, true, true, true, false, false, false, false, false, false, false, false]
  | 7 => [true, false]
  | 8 => [true]
  | 9 => [false, false, false]
  | 10 => [true]
  | 11 => [true, false]
  | 12 => [true, true, true, true, true, true, true, true, true, false, false, false, false, false]
  | _ => []
/-- what is fixed for a whole run: class ids and slots, array classes, the run's start and its arguments -/
abbrev zG : Type := va_G × (Nat → ClassId) × State × Array Value
def zfv (ad : Nat → Nat) (h : zH) (ci a k : Nat) : Value := if (zFl ci).getD k false then va_rf ((hR h (ci * 32 + k) a).map ad) else .int (hI h (ci * 32 + k) a)
def zobj (ad : Nat → Nat) (h : zH) (ci a : Nat) : List Value := (List.range (zFl ci).length).map (zfv ad h ci a)
def zarr (ad : Nat → Nat) (h : zH) (a : Nat) : vp_A := (hL h a, if hK h a ≤ 103 then .inl (aI h a) else if hK h a = 104 then .inr (.inl (aJ h a)) else if hK h a = 105 then .inr (.inr (.inr (.inl (aD h a)))) else .inr (.inr (.inr (.inr (fun i => (aR h a i).map ad)))))
def zcell (E : zG) (ad : Nat → Nat) (h : zH) (a : Nat) : va_E := if hK h a < 100 then .inr (hK h a - 1, zobj ad h (hK h a - 1) a) else .inl (E.2.1 (hK h a), zarr ad h a)
def zcells (E : zG) (ad : Nat → Nat) (h : zH) : va_W := (List.range (hN h)).map (fun a => (ad a, zcell E ad h a))
def zOk (h : zH) : Prop := (∀ a, hN h ≤ a → hK h a = 0) ∧ (∀ f a k, hR h f a = some k → k < hN h) ∧ (∀ a i k, aR h a i = some k → k < hN h)
def zInj (E : zG) (ad : Nat → Nat) (n : Nat) : Prop := (∀ i j, i < n → j < n → ad i = ad j → i = j) ∧ ∀ i, i < n → E.2.2.1.heap.size ≤ ad i
def zWt (E : zG) (ad : Nat → Nat) (h : zH) (H : Heap) : Prop :=
  (∀ q, q < E.2.2.1.heap.size → H[q]? = E.2.2.1.heap[q]?) ∧ E.2.2.1.heap.size ≤ H.size ∧ va_P E.1 vwCl (zcells E ad h) H ∧ zInj E ad (hN h) ∧ zOk h
def zW (E : zG) (ad : Nat → Nat) (h : zH) (U : State) (H : Heap) : Prop := E.2.2.1.WarmedH U.vm ∧ zWt E ad h H
def zA (E : zG) : Nat → Prop := fun q => E.2.2.1.heap.size ≤ q
def zTy : Nat → FieldType := fun k => match k with
  | 101 => .byte
  | 102 => .char
  | 103 => .int
  | 104 => .long
  | 105 => .long
  | 106 => .object "ChairMigration$Chair"
  | 107 => .object "ChairMigration$Garden"
  | _ => .array .int
def zTys (E : zG) : List (ClassId × FieldType) := (List.range 8).map (fun k => (E.2.1 (101 + k), zTy (101 + k)))
/-- what is known of the run's start -/
def zS (E : zG) : Prop := (∀ w ∈ lw_tbl, w.before E.2.2.2 E.2.2.1 = true) ∧ va_K E.1 vwCl (zTys E) E.2.2.1 ∧ (Jvm.Cond.and given_1 narrow_1).before E.2.2.2 E.2.2.1 = true
-- values: a reference is a cell's number; a raw address is written retAddr
def tr (ad : Nat → Nat) : Value → Value := fun v => match v with
  | .ref k => .ref (ad k)
  | .retAddr q => .ref q
  | v => v
def okV (n : Nat) : Value → Prop := fun v => match v with
  | .ref k => k < n
  | _ => True
def zOks (n : Nat) : List Value → Prop
  | [] => True
  | v :: t => okV n v ∧ zOks n t
def zOkl (n : Nat) : List (Nat × Value) → Prop
  | [] => True
  | v :: t => okV n v.2 ∧ zOkl n t
def trl (ad : Nat → Nat) (lo : List (Nat × Value)) : List (Nat × Value) := lo.map (fun q => (q.1, tr ad q.2))
abbrev zX : Type := Program × Launch × Env × Room × State × MethodId × Array Value × List Frame × Method × Code × zG × (Nat → Nat) × Nat × (State → Prop)
def zV (X : zX) (kc ks : Nat) (h : zH) (pc : Nat) (lo : List (Nat × Value)) (st : List Value) : Prop :=
  match X with
  | (p, l, e, R, s, m, args, below, meth, c, E, ad0, n0, Z) =>
    ∀ (ad : Nat → Nat) (H : Heap) (rl : List Loc) (ls : Array Slot), (∀ k, k < n0 → ad k = ad0 k) → n0 ≤ hN h → zW E ad h s H → va_S (zA E) s.heap H rl → zOkl (hN h) lo → zOks (hN h) st → lv_has ls c.maxLocals (trl ad lo) →
      W p l e R s m args below meth c H rl kc ks Z (F0 m pc ls (st.map (tr ad)))
/-- the activation: the code, its class, what is fixed -/
def zC (X : zX) (cc : ByteArray) (own : String) (nL : Nat) : Prop :=
  match X with
  | (p, l, e, R, s, m, args, below, meth, c, E, ad0, n0, Z) =>
    p.tables.exec = Jvm.exec ∧ c.code = cc ∧ c.maxLocals = nL ∧ s.vm.findClass own = some m.cls ∧ meth.locks = false ∧ l.stackTraces = false ∧ zS E ∧ E.2.2.1.WarmedH s.vm ∧ E.2.2.1.heap.size ≤ s.heap.size ∧ (∀ q, q < E.2.2.1.heap.size → s.heap[q]? = E.2.2.1.heap[q]?)
