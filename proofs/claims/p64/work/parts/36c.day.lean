set_option maxHeartbeats 4000000 in
set_option maxRecDepth 100000 in
theorem s_collapse {l : Launch} {E : zG} (hzs : zS E) (hst : l.stackTraces = false) (h : zH) (b : Nat) (g : zGd)  (hg : zGa h b g) (hw : gL g) : zMet l E yX3_collapse cX3_collapse 4 none ({ frames := 1, cells := 0, slots := 0, locals := 22 } : Room) 0 0 [.ref b] h (fun r h' => r = none ∧ zGa h' b (col g) ∧ zFr h h' b) (fun _ _ => False) := by
  refine zM_start hzs hst (by decide) (Nat.le_of_ble_eq_true rfl) (fun X C G F I => ?_)
  show zV X 0 0 _ 0 [(0, _)] []
  refine zV.ic (v := nI 0) C dX3_collapse_0 (by decide) ?_
  refine zV.istore_n (lo' := [(0, _), (1, _)]) C dX3_collapse_1 (by decide) rfl rfl rfl ?_
  refine zV.ic (v := nI 0) C dX3_collapse_2 (by decide) ?_
  refine zV.istore_n (lo' := [(0, _), (1, _), (2, _)]) C dX3_collapse_3 (by decide) rfl rfl rfl ?_
  obtain ⟨E0, hE⟩ : ∃ E : List zCh, E = [] := ⟨_, rfl⟩
  have e1 : E0.length = 0 := by rw [hE]; rfl
  have e2 : ∀ l : List zCh, E0 ++ l = l := fun l => by rw [hE]; rfl
  clear hE
  have k2 := L_collapse hzs hst C G rfl (gC g) E0 E0 h g (zGa_x hg) (by rw [e2, e2]) (by rw [e2]; exact zGa_z hg) hw.2 hw.1 (fun h' B' hx hl' hz hf => by
    rw [e2] at hx hl' hz ⊢
    have hx : zGx h' b (gwF (gwC g ((gC g).filter stay ++ B')) (gF g + ((gC g).length - ((gC g).filter stay).length))) := hx
    have e3 : ((gC g).filter stay).length ≤ (gC g).length := List.length_filter_le _ _
    have hl2 := hw.2
    refine zV.aload_n C dX3_collapse_81 rfl rfl ?_
    refine zV.iload_n C dX3_collapse_82 rfl ?_
    refine zV.pI 196 (k := 4) C dX3_collapse_83 zcl_X3 (by decide) rfl lk_X3_50 rfl (hx.1.1) rfl ⟨rfl, rfl⟩ ?_
    refine zV.vret C F dX3_collapse_86 rfl ?_
    have x2 := zGx_196 (cs := (gC g).filter stay) hx (by omega) (zCs_list (cGx hx) (fun i d hd => by
      show ((gC g).filter stay ++ B')[i]? = some d
      rw [List.getElem?_append_left ((List.getElem?_eq_some_iff.mp hd).1)]
      exact hd))
    exact ⟨rfl, zGa_of x2 hz, hf.sI (by omega) (by omega)⟩)
  rw [e1, Nat.add_zero] at k2
  exact k2
