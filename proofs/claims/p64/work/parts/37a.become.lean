/-! Garden: days, become, init -/
theorem p_N_N (g : zGd) (x : Nat → Nat) (c : Nat) : gN (gwN g x c) = x := Eq.trans rfl rfl
theorem p_P_N (g : zGd) (x : Nat → Nat) (c : Nat) : gP (gwN g x c) = c := Eq.trans rfl rfl
theorem p_S_N (g : zGd) (x : Nat → Nat) (c : Nat) : gS (gwN g x c) = gS g := Eq.trans rfl rfl
theorem p_C_N (g : zGd) (x : Nat → Nat) (c : Nat) : gC (gwN g x c) = gC g := Eq.trans rfl rfl
theorem p_X_N (g : zGd) (x : Nat → Nat) (c : Nat) : gX (gwN g x c) = gX g := Eq.trans rfl rfl
theorem p_D_N (g : zGd) (x : Nat → Nat) (c : Nat) : gD (gwN g x c) = gD g := Eq.trans rfl rfl
theorem p_O_N (g : zGd) (x : Nat → Nat) (c : Nat) : gO (gwN g x c) = gO g := Eq.trans rfl rfl
theorem p_F_N (g : zGd) (x : Nat → Nat) (c : Nat) : gF (gwN g x c) = gF g := Eq.trans rfl rfl
theorem p_U_N (g : zGd) (x : Nat → Nat) (c : Nat) : gU (gwN g x c) = gU g := Eq.trans rfl rfl
theorem p_M_N (g : zGd) (x : Nat → Nat) (c : Nat) : gM (gwN g x c) = gM g := Eq.trans rfl rfl
theorem p_Z_N (g : zGd) (x : Nat → Nat) (c : Nat) : gZ (gwN g x c) = gZ g := Eq.trans rfl rfl
theorem p_N_S (g : zGd) (x : Nat → Nat) : gN (gwS g x) = gN g := Eq.trans rfl rfl
theorem p_P_S (g : zGd) (x : Nat → Nat) : gP (gwS g x) = gP g := Eq.trans rfl rfl
theorem p_S_S (g : zGd) (x : Nat → Nat) : gS (gwS g x) = x := Eq.trans rfl rfl
theorem p_C_S (g : zGd) (x : Nat → Nat) : gC (gwS g x) = gC g := Eq.trans rfl rfl
theorem p_X_S (g : zGd) (x : Nat → Nat) : gX (gwS g x) = gX g := Eq.trans rfl rfl
theorem p_D_S (g : zGd) (x : Nat → Nat) : gD (gwS g x) = gD g := Eq.trans rfl rfl
theorem p_O_S (g : zGd) (x : Nat → Nat) : gO (gwS g x) = gO g := Eq.trans rfl rfl
theorem p_F_S (g : zGd) (x : Nat → Nat) : gF (gwS g x) = gF g := Eq.trans rfl rfl
theorem p_U_S (g : zGd) (x : Nat → Nat) : gU (gwS g x) = gU g := Eq.trans rfl rfl
theorem p_M_S (g : zGd) (x : Nat → Nat) : gM (gwS g x) = gM g := Eq.trans rfl rfl
theorem p_Z_S (g : zGd) (x : Nat → Nat) : gZ (gwS g x) = gZ g := Eq.trans rfl rfl
theorem p_N_C (g : zGd) (x : List zCh) : gN (gwC g x) = gN g := Eq.trans rfl rfl
theorem p_P_C (g : zGd) (x : List zCh) : gP (gwC g x) = gP g := Eq.trans rfl rfl
theorem p_S_C (g : zGd) (x : List zCh) : gS (gwC g x) = gS g := Eq.trans rfl rfl
theorem p_C_C (g : zGd) (x : List zCh) : gC (gwC g x) = x := Eq.trans rfl rfl
theorem p_X_C (g : zGd) (x : List zCh) : gX (gwC g x) = gX g := Eq.trans rfl rfl
theorem p_D_C (g : zGd) (x : List zCh) : gD (gwC g x) = gD g := Eq.trans rfl rfl
theorem p_O_C (g : zGd) (x : List zCh) : gO (gwC g x) = gO g := Eq.trans rfl rfl
theorem p_F_C (g : zGd) (x : List zCh) : gF (gwC g x) = gF g := Eq.trans rfl rfl
theorem p_U_C (g : zGd) (x : List zCh) : gU (gwC g x) = gU g := Eq.trans rfl rfl
theorem p_M_C (g : zGd) (x : List zCh) : gM (gwC g x) = gM g := Eq.trans rfl rfl
theorem p_Z_C (g : zGd) (x : List zCh) : gZ (gwC g x) = gZ g := Eq.trans rfl rfl
theorem p_N_X (g : zGd) (x : Nat) : gN (gwX g x) = gN g := Eq.trans rfl rfl
theorem p_P_X (g : zGd) (x : Nat) : gP (gwX g x) = gP g := Eq.trans rfl rfl
theorem p_S_X (g : zGd) (x : Nat) : gS (gwX g x) = gS g := Eq.trans rfl rfl
theorem p_C_X (g : zGd) (x : Nat) : gC (gwX g x) = gC g := Eq.trans rfl rfl
theorem p_X_X (g : zGd) (x : Nat) : gX (gwX g x) = x := Eq.trans rfl rfl
theorem p_D_X (g : zGd) (x : Nat) : gD (gwX g x) = gD g := Eq.trans rfl rfl
theorem p_O_X (g : zGd) (x : Nat) : gO (gwX g x) = gO g := Eq.trans rfl rfl
theorem p_F_X (g : zGd) (x : Nat) : gF (gwX g x) = gF g := Eq.trans rfl rfl
theorem p_U_X (g : zGd) (x : Nat) : gU (gwX g x) = gU g := Eq.trans rfl rfl
theorem p_M_X (g : zGd) (x : Nat) : gM (gwX g x) = gM g := Eq.trans rfl rfl
theorem p_Z_X (g : zGd) (x : Nat) : gZ (gwX g x) = gZ g := Eq.trans rfl rfl
theorem p_N_D (g : zGd) (x : Nat) : gN (gwD g x) = gN g := Eq.trans rfl rfl
theorem p_P_D (g : zGd) (x : Nat) : gP (gwD g x) = gP g := Eq.trans rfl rfl
theorem p_S_D (g : zGd) (x : Nat) : gS (gwD g x) = gS g := Eq.trans rfl rfl
theorem p_C_D (g : zGd) (x : Nat) : gC (gwD g x) = gC g := Eq.trans rfl rfl
theorem p_X_D (g : zGd) (x : Nat) : gX (gwD g x) = gX g := Eq.trans rfl rfl
theorem p_D_D (g : zGd) (x : Nat) : gD (gwD g x) = x := Eq.trans rfl rfl
theorem p_O_D (g : zGd) (x : Nat) : gO (gwD g x) = gO g := Eq.trans rfl rfl
theorem p_F_D (g : zGd) (x : Nat) : gF (gwD g x) = gF g := Eq.trans rfl rfl
theorem p_U_D (g : zGd) (x : Nat) : gU (gwD g x) = gU g := Eq.trans rfl rfl
theorem p_M_D (g : zGd) (x : Nat) : gM (gwD g x) = gM g := Eq.trans rfl rfl
theorem p_Z_D (g : zGd) (x : Nat) : gZ (gwD g x) = gZ g := Eq.trans rfl rfl
theorem p_N_O (g : zGd) (x : Nat) : gN (gwO g x) = gN g := Eq.trans rfl rfl
theorem p_P_O (g : zGd) (x : Nat) : gP (gwO g x) = gP g := Eq.trans rfl rfl
theorem p_S_O (g : zGd) (x : Nat) : gS (gwO g x) = gS g := Eq.trans rfl rfl
theorem p_C_O (g : zGd) (x : Nat) : gC (gwO g x) = gC g := Eq.trans rfl rfl
theorem p_X_O (g : zGd) (x : Nat) : gX (gwO g x) = gX g := Eq.trans rfl rfl
theorem p_D_O (g : zGd) (x : Nat) : gD (gwO g x) = gD g := Eq.trans rfl rfl
theorem p_O_O (g : zGd) (x : Nat) : gO (gwO g x) = x := Eq.trans rfl rfl
theorem p_F_O (g : zGd) (x : Nat) : gF (gwO g x) = gF g := Eq.trans rfl rfl
theorem p_U_O (g : zGd) (x : Nat) : gU (gwO g x) = gU g := Eq.trans rfl rfl
theorem p_M_O (g : zGd) (x : Nat) : gM (gwO g x) = gM g := Eq.trans rfl rfl
theorem p_Z_O (g : zGd) (x : Nat) : gZ (gwO g x) = gZ g := Eq.trans rfl rfl
theorem p_N_F (g : zGd) (x : Nat) : gN (gwF g x) = gN g := Eq.trans rfl rfl
theorem p_P_F (g : zGd) (x : Nat) : gP (gwF g x) = gP g := Eq.trans rfl rfl
theorem p_S_F (g : zGd) (x : Nat) : gS (gwF g x) = gS g := Eq.trans rfl rfl
theorem p_C_F (g : zGd) (x : Nat) : gC (gwF g x) = gC g := Eq.trans rfl rfl
theorem p_X_F (g : zGd) (x : Nat) : gX (gwF g x) = gX g := Eq.trans rfl rfl
theorem p_D_F (g : zGd) (x : Nat) : gD (gwF g x) = gD g := Eq.trans rfl rfl
theorem p_O_F (g : zGd) (x : Nat) : gO (gwF g x) = gO g := Eq.trans rfl rfl
theorem p_F_F (g : zGd) (x : Nat) : gF (gwF g x) = x := Eq.trans rfl rfl
theorem p_U_F (g : zGd) (x : Nat) : gU (gwF g x) = gU g := Eq.trans rfl rfl
theorem p_M_F (g : zGd) (x : Nat) : gM (gwF g x) = gM g := Eq.trans rfl rfl
theorem p_Z_F (g : zGd) (x : Nat) : gZ (gwF g x) = gZ g := Eq.trans rfl rfl
theorem p_N_U (g : zGd) (x : Nat) : gN (gwU g x) = gN g := Eq.trans rfl rfl
theorem p_P_U (g : zGd) (x : Nat) : gP (gwU g x) = gP g := Eq.trans rfl rfl
theorem p_S_U (g : zGd) (x : Nat) : gS (gwU g x) = gS g := Eq.trans rfl rfl
theorem p_C_U (g : zGd) (x : Nat) : gC (gwU g x) = gC g := Eq.trans rfl rfl
theorem p_X_U (g : zGd) (x : Nat) : gX (gwU g x) = gX g := Eq.trans rfl rfl
theorem p_D_U (g : zGd) (x : Nat) : gD (gwU g x) = gD g := Eq.trans rfl rfl
theorem p_O_U (g : zGd) (x : Nat) : gO (gwU g x) = gO g := Eq.trans rfl rfl
theorem p_F_U (g : zGd) (x : Nat) : gF (gwU g x) = gF g := Eq.trans rfl rfl
theorem p_U_U (g : zGd) (x : Nat) : gU (gwU g x) = x := Eq.trans rfl rfl
theorem p_M_U (g : zGd) (x : Nat) : gM (gwU g x) = gM g := Eq.trans rfl rfl
theorem p_Z_U (g : zGd) (x : Nat) : gZ (gwU g x) = gZ g := Eq.trans rfl rfl
theorem p_N_M (g : zGd) (x : Nat) : gN (gwM g x) = gN g := Eq.trans rfl rfl
theorem p_P_M (g : zGd) (x : Nat) : gP (gwM g x) = gP g := Eq.trans rfl rfl
theorem p_S_M (g : zGd) (x : Nat) : gS (gwM g x) = gS g := Eq.trans rfl rfl
theorem p_C_M (g : zGd) (x : Nat) : gC (gwM g x) = gC g := Eq.trans rfl rfl
theorem p_X_M (g : zGd) (x : Nat) : gX (gwM g x) = gX g := Eq.trans rfl rfl
theorem p_D_M (g : zGd) (x : Nat) : gD (gwM g x) = gD g := Eq.trans rfl rfl
theorem p_O_M (g : zGd) (x : Nat) : gO (gwM g x) = gO g := Eq.trans rfl rfl
theorem p_F_M (g : zGd) (x : Nat) : gF (gwM g x) = gF g := Eq.trans rfl rfl
theorem p_U_M (g : zGd) (x : Nat) : gU (gwM g x) = gU g := Eq.trans rfl rfl
theorem p_M_M (g : zGd) (x : Nat) : gM (gwM g x) = x := Eq.trans rfl rfl
theorem p_Z_M (g : zGd) (x : Nat) : gZ (gwM g x) = gZ g := Eq.trans rfl rfl
theorem p_N_Z (g : zGd) (x : Nat) : gN (gwZ g x) = gN g := Eq.trans rfl rfl
theorem p_P_Z (g : zGd) (x : Nat) : gP (gwZ g x) = gP g := Eq.trans rfl rfl
theorem p_S_Z (g : zGd) (x : Nat) : gS (gwZ g x) = gS g := Eq.trans rfl rfl
theorem p_C_Z (g : zGd) (x : Nat) : gC (gwZ g x) = gC g := Eq.trans rfl rfl
theorem p_X_Z (g : zGd) (x : Nat) : gX (gwZ g x) = gX g := Eq.trans rfl rfl
theorem p_D_Z (g : zGd) (x : Nat) : gD (gwZ g x) = gD g := Eq.trans rfl rfl
theorem p_O_Z (g : zGd) (x : Nat) : gO (gwZ g x) = gO g := Eq.trans rfl rfl
theorem p_F_Z (g : zGd) (x : Nat) : gF (gwZ g x) = gF g := Eq.trans rfl rfl
theorem p_U_Z (g : zGd) (x : Nat) : gU (gwZ g x) = gU g := Eq.trans rfl rfl
theorem p_M_Z (g : zGd) (x : Nat) : gM (gwZ g x) = gM g := Eq.trans rfl rfl
theorem p_Z_Z (g : zGd) (x : Nat) : gZ (gwZ g x) = x := Eq.trans rfl rfl
theorem gV_bd {m : Nat} {g : zGd} (v : gV m g) : gX g ≤ m ∧ gD g ≤ m ∧ gF g ≤ m ∧ gU g ≤ m ∧ gM g ≤ m ∧ gZ g ≤ m := v
theorem grz_Z {g : zGd} {l s : Nat} : gZ (grz g l s) ≤ gZ g + (gC g).countP (chGr l) ∧ gX (grz g l s) = gX g ∧ gD (grz g l s) = gD g ∧ gF (grz g l s) = gF g ∧ gU (grz g l s) = gU g ∧ gM (grz g l s) = gM g ∧ (gC (grz g l s)).length = (gC g).length ∧ gO (grz g l s) = gO g ∧ gP (grz g l s) = gP g ∧ gN (grz g l s) = gN g ∧ ∀ j, hsz (gC (grz g l s)) j = hsz (gC g) j := by
  obtain ⟨i1, i2, i3, i4, i5, i6⟩ := grC_all (l := l) (wOf_le s) (t := gC g) (s := gS g l)
  exact ⟨Nat.add_le_add_left i5 _, rfl, rfl, rfl, rfl, rfl, i4, rfl, rfl, rfl, fun j => hsz_mapL i2 j⟩
theorem cnt_gr_hsz (cs : List zCh) (l : Nat) : cs.countP (chGr l) ≤ hsz cs l := List.countP_mono_left (fun c _ h => decide_eq_true (chGr_L h))
theorem grs_Z {g : zGd} {s : Nat} (h5 : ∀ j, j < 6 → hsz (gC g) j ≤ 5) : ∀ k, k ≤ 6 → gZ (grs g s k) ≤ gZ g + 5 * k ∧ gX (grs g s k) = gX g ∧ gD (grs g s k) = gD g ∧ gF (grs g s k) = gF g ∧ gU (grs g s k) = gU g ∧ gM (grs g s k) = gM g ∧ (gC (grs g s k)).length = (gC g).length ∧ gO (grs g s k) = gO g ∧ gP (grs g s k) = gP g ∧ gN (grs g s k) = gN g ∧ ∀ j, hsz (gC (grs g s k)) j = hsz (gC g) j
  | 0, _ => ⟨Nat.le_refl _, rfl, rfl, rfl, rfl, rfl, rfl, rfl, rfl, rfl, fun _ => rfl⟩
  | k + 1, hk => by
    obtain ⟨a1, a2, a3, a4, a5, a6, a7, a8, a9, a10, a11⟩ := grs_Z (g := g) (s := s) h5 k (by omega)
    obtain ⟨b1, b2, b3, b4, b5, b6, b7, b8, b9, b10, b11⟩ := grz_Z (g := grs g s k) (l := k) (s := s)
    have c1 := cnt_gr_hsz (gC (grs g s k)) k
    have c2 := h5 k (by omega)
    rw [a11] at c1
    refine ⟨?_, b2.trans a2, b3.trans a3, b4.trans a4, b5.trans a5, b6.trans a6, b7.trans a7, b8.trans a8, b9.trans a9, b10.trans a10, fun j => (b11 j).trans (a11 j)⟩
    show gZ (grz (grs g s k) k s) ≤ _
    omega
/-- what a day keeps of the garden, and how the counters grow -/
def gH (g : zGd) : Prop := ∀ j, j < 6 → hsz (gC g) j ≤ 5
theorem grz_P {g : zGd} {l s : Nat} : gN (grz g l s) = gN g ∧ gP (grz g l s) = gP g ∧ gO (grz g l s) = gO g ∧ gX (grz g l s) = gX g ∧ gU (grz g l s) = gU g ∧ gM (grz g l s) = gM g ∧ gF (grz g l s) = gF g ∧ gD (grz g l s) = gD g := ⟨rfl, rfl, rfl, rfl, rfl, rfl, rfl, rfl⟩
theorem grs_P {g : zGd} {s : Nat} : ∀ k, gN (grs g s k) = gN g ∧ gP (grs g s k) = gP g ∧ gO (grs g s k) = gO g ∧ gX (grs g s k) = gX g ∧ gU (grs g s k) = gU g ∧ gM (grs g s k) = gM g ∧ gF (grs g s k) = gF g ∧ gD (grs g s k) = gD g
  | 0 => ⟨rfl, rfl, rfl, rfl, rfl, rfl, rfl, rfl⟩
  | k + 1 => by
    obtain ⟨a1, a2, a3, a4, a5, a6, a7, a8⟩ := grs_P (g := g) (s := s) k
    obtain ⟨b1, b2, b3, b4, b5, b6, b7, b8⟩ := grz_P (g := grs g s k) (l := k) (s := s)
    rw [grs]
    exact ⟨b1.trans a1, b2.trans a2, b3.trans a3, b4.trans a4, b5.trans a5, b6.trans a6, b7.trans a7, b8.trans a8⟩
theorem cd_P {G : zGd} {v : Nat} : gN (gwD (col G) v) = gN G ∧ gP (gwD (col G) v) = gP G ∧ gO (gwD (col G) v) = gO G ∧ gX (gwD (col G) v) = gX G ∧ gU (gwD (col G) v) = gU G ∧ gM (gwD (col G) v) = gM G ∧ gF (gwD (col G) v) = gF G + ((gC G).length - ((gC G).filter stay).length) ∧ gD (gwD (col G) v) = v ∧ gZ (gwD (col G) v) = gZ G ∧ gS (gwD (col G) v) = gS G ∧ gC (gwD (col G) v) = (gC G).filter stay := ⟨rfl, rfl, rfl, rfl, rfl, rfl, rfl, rfl, rfl, rfl, rfl⟩
theorem day_V {m : Nat} {g : zGd} (v : gV m g) (hl : (gC g).length ≤ 12) (h5 : gH g) : gV (m + 30) (dayO g) := by
  obtain ⟨v1, v2, v3, v4, v5, v6⟩ := v
  obtain ⟨a1, a2, a3, a4, a5, a6, a7, a8, a9, a10, a11⟩ := grs_Z (g := g) (s := gD g / 5 % 4) h5 6 (Nat.le_refl _)
  unfold dayO
  generalize grs g (gD g / 5 % 4) 6 = G at *
  obtain ⟨c1, c2, c3, c4, c5, c6, c7, c8, c9, c10, c11⟩ := cd_P (G := G) (v := gD g + 1)
  refine ⟨?_, ?_, ?_, ?_, ?_, ?_⟩
  · rw [c4]; omega
  · rw [c8]; omega
  · rw [c7]; omega
  · rw [c5]; omega
  · rw [c6]; omega
  · rw [c9]; omega
theorem day_W {g : zGd} (w : gW0 g) (h9 : g9 g) : gW0 (dayO g) ∧ g9 (dayO g) := by
  have k6 := (gK_grs (s := gD g / 5 % 4) w h9 6).1
  have hD := (grs_P (g := g) (s := gD g / 5 % 4) 6).2.2.2.2.2.2.2
  unfold dayO
  generalize grs g (gD g / 5 % 4) 6 = G at *
  obtain ⟨w1, w2, w3, w4, w5, w6⟩ := k6
  have sl : ((gC G).filter stay).Sublist (gC G) := List.filter_sublist
  unfold gW0 g9 col
  simp only [p_N_N, p_P_N, p_S_N, p_C_N, p_X_N, p_D_N, p_O_N, p_F_N, p_U_N, p_M_N, p_Z_N, p_N_S, p_P_S, p_S_S, p_C_S, p_X_S, p_D_S, p_O_S, p_F_S, p_U_S, p_M_S, p_Z_S, p_N_C, p_P_C, p_S_C, p_C_C, p_X_C, p_D_C, p_O_C, p_F_C, p_U_C, p_M_C, p_Z_C, p_N_X, p_P_X, p_S_X, p_C_X, p_X_X, p_D_X, p_O_X, p_F_X, p_U_X, p_M_X, p_Z_X, p_N_D, p_P_D, p_S_D, p_C_D, p_X_D, p_D_D, p_O_D, p_F_D, p_U_D, p_M_D, p_Z_D, p_N_O, p_P_O, p_S_O, p_C_O, p_X_O, p_D_O, p_O_O, p_F_O, p_U_O, p_M_O, p_Z_O, p_N_F, p_P_F, p_S_F, p_C_F, p_X_F, p_D_F, p_O_F, p_F_F, p_U_F, p_M_F, p_Z_F, p_N_U, p_P_U, p_S_U, p_C_U, p_X_U, p_D_U, p_O_U, p_F_U, p_U_U, p_M_U, p_Z_U, p_N_M, p_P_M, p_S_M, p_C_M, p_X_M, p_D_M, p_O_M, p_F_M, p_U_M, p_M_M, p_Z_M, p_N_Z, p_P_Z, p_S_Z, p_C_Z, p_X_Z, p_D_Z, p_O_Z, p_F_Z, p_U_Z, p_M_Z, p_Z_Z]
  refine ⟨⟨fun d hd => ?_, (sl.map chI).nodup w2, Nat.le_trans sl.length_le w3, w4, w5, w6⟩, fun d hd => ?_⟩
  · have q := w1 d (sl.subset hd)
    exact ⟨q.1, q.2.1, q.2.2.1, by omega⟩
  · exact of_decide_eq_true (List.mem_filter.mp hd).2
theorem day_H {g : zGd} (h5 : gH g) : gH (dayO g) := by
  intro j hj
  obtain ⟨a1, a2, a3, a4, a5, a6, a7, a8, a9, a10, a11⟩ := grs_Z (g := g) (s := gD g / 5 % 4) h5 6 (Nat.le_refl _)
  unfold dayO
  generalize grs g (gD g / 5 % 4) 6 = G at *
  have h1 := hsz_filter (gC G) j
  have h2 := h5 j hj
  rw [a11] at h1
  rw [(cd_P (G := G) (v := gD g + 1)).2.2.2.2.2.2.2.2.2.2]
  exact Nat.le_trans h1 h2
/-- what holds between the calls, but for the paths; m bounds the counters -/
def gQ (m : Nat) (g : zGd) : Prop := gW0 g ∧ g9 g ∧ gH g ∧ gV m g
theorem gQ_W {m : Nat} {g : zGd} (q : gQ m g) (hm : m ≤ big) : gW g := gW_of q.1 q.2.2.2 hm
theorem gQ_mono {m n : Nat} {g : zGd} (q : gQ m g) (h : m ≤ n) : gQ n g := ⟨q.1, q.2.1, q.2.2.1, gV_mono q.2.2.2 h⟩
theorem day_Q {m : Nat} {g : zGd} (q : gQ m g) : gQ (m + 30) (dayO g) := ⟨(day_W q.1 q.2.1).1, (day_W q.1 q.2.1).2, day_H q.2.2.1, day_V q.2.2.2 q.1.2.2.1 q.2.2.1⟩
theorem days_Q {m : Nat} {g : zGd} (q : gQ m g) : ∀ n, gQ (m + 30 * n) (days g n)
  | 0 => q
  | n + 1 => by
    have := day_Q (days_Q q n)
    rw [show m + 30 * n + 30 = m + 30 * (n + 1) by omega] at this
    exact this
theorem day_P (g : zGd) : gN (dayO g) = gN g ∧ gP (dayO g) = gP g ∧ gO (dayO g) = gO g ∧ gX (dayO g) = gX g ∧ gU (dayO g) = gU g ∧ gM (dayO g) = gM g ∧ gF g ≤ gF (dayO g) ∧ gD (dayO g) = gD g + 1 := by
  obtain ⟨a1, a2, a3, a4, a5, a6, a7, a8⟩ := grs_P (g := g) (s := gD g / 5 % 4) 6
  unfold dayO
  generalize grs g (gD g / 5 % 4) 6 = G at *
  obtain ⟨c1, c2, c3, c4, c5, c6, c7, c8, c9, c10, c11⟩ := cd_P (G := G) (v := gD g + 1)
  exact ⟨c1.trans a1, c2.trans a2, c3.trans a3, c4.trans a4, c5.trans a5, c6.trans a6, by rw [c7, a7]; exact Nat.le_add_right _ _, c8⟩
theorem days_P (g : zGd) : ∀ n, gN (days g n) = gN g ∧ gP (days g n) = gP g ∧ gO (days g n) = gO g ∧ gX (days g n) = gX g ∧ gU (days g n) = gU g ∧ gM (days g n) = gM g ∧ gF g ≤ gF (days g n)
  | 0 => ⟨rfl, rfl, rfl, rfl, rfl, rfl, Nat.le_refl _⟩
  | n + 1 => by
    obtain ⟨a1, a2, a3, a4, a5, a6, a7⟩ := days_P g n
    obtain ⟨b1, b2, b3, b4, b5, b6, b7, -⟩ := day_P (days g n)
    rw [days]
    exact ⟨b1.trans a1, b2.trans a2, b3.trans a3, b4.trans a4, b5.trans a5, b6.trans a6, Nat.le_trans a7 b7⟩
