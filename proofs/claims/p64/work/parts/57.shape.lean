/-! CommandInput: the shape of a command -/
/-- the shape of a command: d one digit, n one or two, else the sign itself -/
def shp : Nat → List Nat
  | 97 => [110]
  | 99 => [100, 100]
  | 100 => [110]
  | 102 => [110]
  | 103 => [100, 62, 100]
  | 104 => [100, 61, 110]
  | 109 => [110, 62, 100]
  | 111 => [110]
  | 112 => [100, 100]
  | 113 => [100, 100]
  | 115 => [110]
  | 117 => [110]
  | _ => []
theorem shp_out {d : Nat} (h : d < 97 ∨ 117 < d) : shp d = [] := by
  unfold shp
  split <;> first | rfl | omega
set_option maxHeartbeats 4000000 in
set_option maxRecDepth 100000 in
theorem s_shapeOf {l : Launch} {E : zG} (hzs : zS E) (hst : l.stackTraces = false) (h : zH) (d : Nat) (hd : d < 128) : zMet l E yX1_shapeOf cX1_shapeOf 1 (some (.object "java/lang/String")) ({ frames := 0, cells := 0, slots := 0, locals := 0 } : Room) 0 0 [.int (nI d)] h (fun r h' => ∃ q q2, r = some (.retAddr q) ∧ h' = h ∧ zSt E q q2 (shp d)) (fun _ _ => False) := by
  refine zM_start hzs hst (by decide) (Nat.le_of_ble_eq_true rfl) (fun X C G F I => ?_)
  show zV X 0 0 _ 0 [(0, _)] []
  rcases (by omega : d = 97 ∨ d = 98 ∨ d = 99 ∨ d = 100 ∨ d = 101 ∨ d = 102 ∨ d = 103 ∨ d = 104 ∨ d = 105 ∨ d = 106 ∨ d = 107 ∨ d = 108 ∨ d = 109 ∨ d = 110 ∨ d = 111 ∨ d = 112 ∨ d = 113 ∨ d = 114 ∨ d = 115 ∨ d = 116 ∨ d = 117 ∨ (d < 97 ∨ 117 < d)) with rfl | rfl | rfl | rfl | rfl | rfl | rfl | rfl | rfl | rfl | rfl | rfl | rfl | rfl | rfl | rfl | rfl | rfl | rfl | rfl | rfl | ho
  · obtain ⟨q, q2, e1, e2⟩ := sc_X1_62 hzs
    refine zV.iload_n C dX1_shapeOf_0 rfl ?_
    refine zV.tIn 112 C dX1_shapeOf_1 (by decide) (by decide) (show _ = some 111 from by rfl) (by decide) ?_
    refine zV.ldcS C G dX1_shapeOf_112 e1 ?_
    refine zV.aret C F dX1_shapeOf_114 (Or.inl ⟨_, rfl⟩) rfl rfl ?_
    exact ⟨q, q2, rfl, rfl, e2⟩
  · obtain ⟨q, q2, e1, e2⟩ := sc_X1_64 hzs
    refine zV.iload_n C dX1_shapeOf_0 rfl ?_
    refine zV.tIn 115 C dX1_shapeOf_1 (by decide) (by decide) (show _ = some 114 from by rfl) (by decide) ?_
    refine zV.ldcS C G dX1_shapeOf_115 e1 ?_
    refine zV.aret C F dX1_shapeOf_117 (Or.inl ⟨_, rfl⟩) rfl rfl ?_
    exact ⟨q, q2, rfl, rfl, e2⟩
  · obtain ⟨q, q2, e1, e2⟩ := sc_X1_54 hzs
    refine zV.iload_n C dX1_shapeOf_0 rfl ?_
    refine zV.tIn 100 C dX1_shapeOf_1 (by decide) (by decide) (show _ = some 99 from by rfl) (by decide) ?_
    refine zV.ldcS C G dX1_shapeOf_100 e1 ?_
    refine zV.aret C F dX1_shapeOf_102 (Or.inl ⟨_, rfl⟩) rfl rfl ?_
    exact ⟨q, q2, rfl, rfl, e2⟩
  · obtain ⟨q, q2, e1, e2⟩ := sc_X1_62 hzs
    refine zV.iload_n C dX1_shapeOf_0 rfl ?_
    refine zV.tIn 112 C dX1_shapeOf_1 (by decide) (by decide) (show _ = some 111 from by rfl) (by decide) ?_
    refine zV.ldcS C G dX1_shapeOf_112 e1 ?_
    refine zV.aret C F dX1_shapeOf_114 (Or.inl ⟨_, rfl⟩) rfl rfl ?_
    exact ⟨q, q2, rfl, rfl, e2⟩
  · obtain ⟨q, q2, e1, e2⟩ := sc_X1_64 hzs
    refine zV.iload_n C dX1_shapeOf_0 rfl ?_
    refine zV.tIn 115 C dX1_shapeOf_1 (by decide) (by decide) (show _ = some 114 from by rfl) (by decide) ?_
    refine zV.ldcS C G dX1_shapeOf_115 e1 ?_
    refine zV.aret C F dX1_shapeOf_117 (Or.inl ⟨_, rfl⟩) rfl rfl ?_
    exact ⟨q, q2, rfl, rfl, e2⟩
  · obtain ⟨q, q2, e1, e2⟩ := sc_X1_62 hzs
    refine zV.iload_n C dX1_shapeOf_0 rfl ?_
    refine zV.tIn 112 C dX1_shapeOf_1 (by decide) (by decide) (show _ = some 111 from by rfl) (by decide) ?_
    refine zV.ldcS C G dX1_shapeOf_112 e1 ?_
    refine zV.aret C F dX1_shapeOf_114 (Or.inl ⟨_, rfl⟩) rfl rfl ?_
    exact ⟨q, q2, rfl, rfl, e2⟩
  · obtain ⟨q, q2, e1, e2⟩ := sc_X1_60 hzs
    refine zV.iload_n C dX1_shapeOf_0 rfl ?_
    refine zV.tIn 109 C dX1_shapeOf_1 (by decide) (by decide) (show _ = some 108 from by rfl) (by decide) ?_
    refine zV.ldcS C G dX1_shapeOf_109 e1 ?_
    refine zV.aret C F dX1_shapeOf_111 (Or.inl ⟨_, rfl⟩) rfl rfl ?_
    exact ⟨q, q2, rfl, rfl, e2⟩
  · obtain ⟨q, q2, e1, e2⟩ := sc_X1_56 hzs
    refine zV.iload_n C dX1_shapeOf_0 rfl ?_
    refine zV.tIn 103 C dX1_shapeOf_1 (by decide) (by decide) (show _ = some 102 from by rfl) (by decide) ?_
    refine zV.ldcS C G dX1_shapeOf_103 e1 ?_
    refine zV.aret C F dX1_shapeOf_105 (Or.inl ⟨_, rfl⟩) rfl rfl ?_
    exact ⟨q, q2, rfl, rfl, e2⟩
  · obtain ⟨q, q2, e1, e2⟩ := sc_X1_64 hzs
    refine zV.iload_n C dX1_shapeOf_0 rfl ?_
    refine zV.tIn 115 C dX1_shapeOf_1 (by decide) (by decide) (show _ = some 114 from by rfl) (by decide) ?_
    refine zV.ldcS C G dX1_shapeOf_115 e1 ?_
    refine zV.aret C F dX1_shapeOf_117 (Or.inl ⟨_, rfl⟩) rfl rfl ?_
    exact ⟨q, q2, rfl, rfl, e2⟩
  · obtain ⟨q, q2, e1, e2⟩ := sc_X1_64 hzs
    refine zV.iload_n C dX1_shapeOf_0 rfl ?_
    refine zV.tIn 115 C dX1_shapeOf_1 (by decide) (by decide) (show _ = some 114 from by rfl) (by decide) ?_
    refine zV.ldcS C G dX1_shapeOf_115 e1 ?_
    refine zV.aret C F dX1_shapeOf_117 (Or.inl ⟨_, rfl⟩) rfl rfl ?_
    exact ⟨q, q2, rfl, rfl, e2⟩
  · obtain ⟨q, q2, e1, e2⟩ := sc_X1_64 hzs
    refine zV.iload_n C dX1_shapeOf_0 rfl ?_
    refine zV.tIn 115 C dX1_shapeOf_1 (by decide) (by decide) (show _ = some 114 from by rfl) (by decide) ?_
    refine zV.ldcS C G dX1_shapeOf_115 e1 ?_
    refine zV.aret C F dX1_shapeOf_117 (Or.inl ⟨_, rfl⟩) rfl rfl ?_
    exact ⟨q, q2, rfl, rfl, e2⟩
  · obtain ⟨q, q2, e1, e2⟩ := sc_X1_64 hzs
    refine zV.iload_n C dX1_shapeOf_0 rfl ?_
    refine zV.tIn 115 C dX1_shapeOf_1 (by decide) (by decide) (show _ = some 114 from by rfl) (by decide) ?_
    refine zV.ldcS C G dX1_shapeOf_115 e1 ?_
    refine zV.aret C F dX1_shapeOf_117 (Or.inl ⟨_, rfl⟩) rfl rfl ?_
    exact ⟨q, q2, rfl, rfl, e2⟩
  · obtain ⟨q, q2, e1, e2⟩ := sc_X1_58 hzs
    refine zV.iload_n C dX1_shapeOf_0 rfl ?_
    refine zV.tIn 106 C dX1_shapeOf_1 (by decide) (by decide) (show _ = some 105 from by rfl) (by decide) ?_
    refine zV.ldcS C G dX1_shapeOf_106 e1 ?_
    refine zV.aret C F dX1_shapeOf_108 (Or.inl ⟨_, rfl⟩) rfl rfl ?_
    exact ⟨q, q2, rfl, rfl, e2⟩
  · obtain ⟨q, q2, e1, e2⟩ := sc_X1_64 hzs
    refine zV.iload_n C dX1_shapeOf_0 rfl ?_
    refine zV.tIn 115 C dX1_shapeOf_1 (by decide) (by decide) (show _ = some 114 from by rfl) (by decide) ?_
    refine zV.ldcS C G dX1_shapeOf_115 e1 ?_
    refine zV.aret C F dX1_shapeOf_117 (Or.inl ⟨_, rfl⟩) rfl rfl ?_
    exact ⟨q, q2, rfl, rfl, e2⟩
  · obtain ⟨q, q2, e1, e2⟩ := sc_X1_62 hzs
    refine zV.iload_n C dX1_shapeOf_0 rfl ?_
    refine zV.tIn 112 C dX1_shapeOf_1 (by decide) (by decide) (show _ = some 111 from by rfl) (by decide) ?_
    refine zV.ldcS C G dX1_shapeOf_112 e1 ?_
    refine zV.aret C F dX1_shapeOf_114 (Or.inl ⟨_, rfl⟩) rfl rfl ?_
    exact ⟨q, q2, rfl, rfl, e2⟩
  · obtain ⟨q, q2, e1, e2⟩ := sc_X1_54 hzs
    refine zV.iload_n C dX1_shapeOf_0 rfl ?_
    refine zV.tIn 100 C dX1_shapeOf_1 (by decide) (by decide) (show _ = some 99 from by rfl) (by decide) ?_
    refine zV.ldcS C G dX1_shapeOf_100 e1 ?_
    refine zV.aret C F dX1_shapeOf_102 (Or.inl ⟨_, rfl⟩) rfl rfl ?_
    exact ⟨q, q2, rfl, rfl, e2⟩
  · obtain ⟨q, q2, e1, e2⟩ := sc_X1_54 hzs
    refine zV.iload_n C dX1_shapeOf_0 rfl ?_
    refine zV.tIn 100 C dX1_shapeOf_1 (by decide) (by decide) (show _ = some 99 from by rfl) (by decide) ?_
    refine zV.ldcS C G dX1_shapeOf_100 e1 ?_
    refine zV.aret C F dX1_shapeOf_102 (Or.inl ⟨_, rfl⟩) rfl rfl ?_
    exact ⟨q, q2, rfl, rfl, e2⟩
  · obtain ⟨q, q2, e1, e2⟩ := sc_X1_64 hzs
    refine zV.iload_n C dX1_shapeOf_0 rfl ?_
    refine zV.tIn 115 C dX1_shapeOf_1 (by decide) (by decide) (show _ = some 114 from by rfl) (by decide) ?_
    refine zV.ldcS C G dX1_shapeOf_115 e1 ?_
    refine zV.aret C F dX1_shapeOf_117 (Or.inl ⟨_, rfl⟩) rfl rfl ?_
    exact ⟨q, q2, rfl, rfl, e2⟩
  · obtain ⟨q, q2, e1, e2⟩ := sc_X1_62 hzs
    refine zV.iload_n C dX1_shapeOf_0 rfl ?_
    refine zV.tIn 112 C dX1_shapeOf_1 (by decide) (by decide) (show _ = some 111 from by rfl) (by decide) ?_
    refine zV.ldcS C G dX1_shapeOf_112 e1 ?_
    refine zV.aret C F dX1_shapeOf_114 (Or.inl ⟨_, rfl⟩) rfl rfl ?_
    exact ⟨q, q2, rfl, rfl, e2⟩
  · obtain ⟨q, q2, e1, e2⟩ := sc_X1_64 hzs
    refine zV.iload_n C dX1_shapeOf_0 rfl ?_
    refine zV.tIn 115 C dX1_shapeOf_1 (by decide) (by decide) (show _ = some 114 from by rfl) (by decide) ?_
    refine zV.ldcS C G dX1_shapeOf_115 e1 ?_
    refine zV.aret C F dX1_shapeOf_117 (Or.inl ⟨_, rfl⟩) rfl rfl ?_
    exact ⟨q, q2, rfl, rfl, e2⟩
  · obtain ⟨q, q2, e1, e2⟩ := sc_X1_62 hzs
    refine zV.iload_n C dX1_shapeOf_0 rfl ?_
    refine zV.tIn 112 C dX1_shapeOf_1 (by decide) (by decide) (show _ = some 111 from by rfl) (by decide) ?_
    refine zV.ldcS C G dX1_shapeOf_112 e1 ?_
    refine zV.aret C F dX1_shapeOf_114 (Or.inl ⟨_, rfl⟩) rfl rfl ?_
    exact ⟨q, q2, rfl, rfl, e2⟩
  · obtain ⟨q, q2, e1, e2⟩ := sc_X1_64 hzs
    refine zV.iload_n C dX1_shapeOf_0 rfl ?_
    refine zV.tOut 115 C dX1_shapeOf_1 (by rw [nI_toInt (by omega)]; omega) (by decide) ?_
    refine zV.ldcS C G dX1_shapeOf_115 e1 ?_
    refine zV.aret C F dX1_shapeOf_117 (Or.inl ⟨_, rfl⟩) rfl rfl ?_
    exact ⟨q, q2, rfl, rfl, by rw [shp_out ho]; exact e2⟩
