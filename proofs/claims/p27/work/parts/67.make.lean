theorem dfX0 {Γ : q_G} : ∀ j, j < 11 → defaultValue (tyX0 j) = vp_V (q_fvs (q_b Γ) [0, 1, 1, 1, 1, 1, 0, 1, 1, 1, 0] (fun _ => 0)) j
  | 0, _ => (n_df (f := 0) rfl).symm
  | 1, _ => (n_df (f := 1) rfl).symm
  | 2, _ => (n_df (f := 1) rfl).symm
  | 3, _ => (n_df (f := 1) rfl).symm
  | 4, _ => (n_df (f := 1) rfl).symm
  | 5, _ => (n_df (f := 1) rfl).symm
  | 6, _ => (n_df (f := 0) rfl).symm
  | 7, _ => (n_df (f := 1) rfl).symm
  | 8, _ => (n_df (f := 1) rfl).symm
  | 9, _ => (n_df (f := 1) rfl).symm
  | 10, _ => (n_df (f := 0) rfl).symm
  | j + 11, h => absurd h (by omega)
theorem dfX1 {Γ : q_G} : ∀ j, j < 2 → defaultValue (tyX1 j) = vp_V (q_fvs (q_b Γ) [0, 1] (fun _ => 0)) j
  | 0, _ => (n_df (f := 0) rfl).symm
  | 1, _ => (n_df (f := 1) rfl).symm
  | j + 2, h => absurd h (by omega)
theorem dfX2 {Γ : q_G} : ∀ j, j < 6 → defaultValue (tyX2 j) = vp_V (q_fvs (q_b Γ) [1, 0, 1, 1, 1, 1] (fun _ => 0)) j
  | 0, _ => (n_df (f := 1) rfl).symm
  | 1, _ => (n_df (f := 0) rfl).symm
  | 2, _ => (n_df (f := 1) rfl).symm
  | 3, _ => (n_df (f := 1) rfl).symm
  | 4, _ => (n_df (f := 1) rfl).symm
  | 5, _ => (n_df (f := 1) rfl).symm
  | j + 6, h => absurd h (by omega)
theorem dfX3 {Γ : q_G} : ∀ j, j < 1 → defaultValue (tyX3 j) = vp_V (q_fvs (q_b Γ) [1] (fun _ => 0)) j
  | 0, _ => (n_df (f := 1) rfl).symm
  | j + 1, h => absurd h (by omega)
theorem dfX4 {Γ : q_G} : ∀ j, j < 3 → defaultValue (tyX4 j) = vp_V (q_fvs (q_b Γ) [0, 1, 1] (fun _ => 0)) j
  | 0, _ => (n_df (f := 0) rfl).symm
  | 1, _ => (n_df (f := 1) rfl).symm
  | 2, _ => (n_df (f := 1) rfl).symm
  | j + 3, h => absurd h (by omega)
theorem dfX5 {Γ : q_G} : ∀ j, j < 5 → defaultValue (tyX5 j) = vp_V (q_fvs (q_b Γ) [1, 0, 0, 1, 0] (fun _ => 0)) j
  | 0, _ => (n_df (f := 1) rfl).symm
  | 1, _ => (n_df (f := 0) rfl).symm
  | 2, _ => (n_df (f := 0) rfl).symm
  | 3, _ => (n_df (f := 1) rfl).symm
  | 4, _ => (n_df (f := 0) rfl).symm
  | j + 5, h => absurd h (by omega)
theorem dfX6 {Γ : q_G} : ∀ j, j < 2 → defaultValue (tyX6 j) = vp_V (q_fvs (q_b Γ) [1, 0] (fun _ => 0)) j
  | 0, _ => (n_df (f := 1) rfl).symm
  | 1, _ => (n_df (f := 0) rfl).symm
  | j + 2, h => absurd h (by omega)
theorem dfX7 {Γ : q_G} : ∀ j, j < 7 → defaultValue (tyX7 j) = vp_V (q_fvs (q_b Γ) [1, 1, 1, 0, 1, 1, 1] (fun _ => 0)) j
  | 0, _ => (n_df (f := 1) rfl).symm
  | 1, _ => (n_df (f := 1) rfl).symm
  | 2, _ => (n_df (f := 1) rfl).symm
  | 3, _ => (n_df (f := 0) rfl).symm
  | 4, _ => (n_df (f := 1) rfl).symm
  | 5, _ => (n_df (f := 1) rfl).symm
  | 6, _ => (n_df (f := 1) rfl).symm
  | j + 7, h => absurd h (by omega)
theorem dfX8 {Γ : q_G} : ∀ j, j < 9 → defaultValue (tyX8 j) = vp_V (q_fvs (q_b Γ) [1, 1, 1, 1, 1, 1, 1, 1, 1] (fun _ => 0)) j
  | 0, _ => (n_df (f := 1) rfl).symm
  | 1, _ => (n_df (f := 1) rfl).symm
  | 2, _ => (n_df (f := 1) rfl).symm
  | 3, _ => (n_df (f := 1) rfl).symm
  | 4, _ => (n_df (f := 1) rfl).symm
  | 5, _ => (n_df (f := 1) rfl).symm
  | 6, _ => (n_df (f := 1) rfl).symm
  | 7, _ => (n_df (f := 1) rfl).symm
  | 8, _ => (n_df (f := 1) rfl).symm
  | j + 9, h => absurd h (by omega)
set_option maxRecDepth 100000 in
set_option maxHeartbeats 4000000 in
theorem c_X4_init {Γ : q_G} {P : List q_K} {S : q_S} {c : Nat} (hP : P.length = c) (hz : S c = fun _ => 0) : q_Sp Γ mX4_init 1 2 60 [q_r Γ c] (P ++ [.inl (4, [0, 1, 1])], S) (fun v9 w9 => v9 = none ∧ ∃ S2, w9 = (P ++ [.inl (4, [0, c + 1 + 2, c + 2 + 2]), .inr (0, 50), .inr (0, 10)], S2) ∧ s_iv S S2 c 3 s_Z) := by
  show q_Go Γ mX4_init 1 2 60 0 [(0, q_r Γ c)] [] (P ++ [.inl (4, [0, 1, 1])], S) (fun v9 w9 => v9 = none ∧ ∃ S2, w9 = (P ++ [.inl (4, [0, c + 1 + 2, c + 2 + 2]), .inr (0, 50), .inr (0, 10)], S2) ∧ s_iv S S2 c 3 s_Z)
  have iv0 : s_iv S S c 1 s_Z := s_iv_0 hz
  refine q_aloadn (pc' := 1) 0 dX4_init_0 rfl rfl ?_
  refine q_obj (pc' := 4) dX4_init_1 rfl wX4_3 w_objI w_objC (Nat.le_of_ble_eq_true rfl) (Nat.le_of_ble_eq_true rfl) ?_
  refine q_aloadn (pc' := 5) 0 dX4_init_4 rfl rfl ?_
  refine q_iconst (pc' := 6) dX4_init_5 rfl ?_
  refine n_putI (i := 0) (k := 0) (pc' := 9) dX4_init_6 rfl fX4_9 (by omega) rfl rfl rfl rfl (by decide) ?_
  have iv1 := s_iv_up0 (a := c) (z := 0) (v := 0) iv0 (by omega) (by omega) (by simp only [q_up, q_nw, s_Z] <;> omega)
  refine q_aloadn (pc' := 10) 0 dX4_init_9 rfl rfl ?_
  refine q_bipush (pc' := 12) dX4_init_10 rfl rfl ?_
  refine n_newa (n := c + 1) (N := 50) (t := 0) (l' := [.inl (4, [0, 1, 1]), .inr (0, 50)]) (bc2 := 1) (bs2 := 10) (pc' := 14) dX4_init_12 rfl (by decide) rfl w_arr_int rfl (by decide) rfl rfl (by rw [hP]; rfl) rfl ?_
  have iv2 := s_iv_nw0 iv1 (m := c + 1) rfl (by funext y; simp only [q_up, q_nw, s_Z] <;> omega)
  refine n_putF (i := 0) (k := 1) (f := c + 1) (l' := [.inl (4, [0, c + 1 + 2, 1]), .inr (0, 50)]) (pc' := 17) dX4_init_14 rfl rfl oX4_15 (by omega) rfl rfl rfl rfl rfl ?_
  have iv3 := s_iv_up0 (a := c) (z := 1) (v := 0) iv2 (by omega) (by omega) (by simp only [q_up, q_nw, s_Z] <;> omega)
  refine q_aloadn (pc' := 18) 0 dX4_init_17 rfl rfl ?_
  refine q_bipush (pc' := 20) dX4_init_18 rfl rfl ?_
  refine n_newa (n := c + 2) (N := 10) (t := 0) (l' := [.inl (4, [0, c + 1 + 2, 1]), .inr (0, 50), .inr (0, 10)]) (bc2 := 0) (bs2 := 0) (pc' := 22) dX4_init_20 rfl (by decide) rfl w_arr_int rfl (by decide) rfl rfl (by rw [hP]; rfl) rfl ?_
  have iv4 := s_iv_nw0 iv3 (m := c + 2) rfl (by funext y; simp only [q_up, q_nw, s_Z] <;> omega)
  refine n_putF (i := 0) (k := 2) (f := c + 2) (l' := [.inl (4, [0, c + 1 + 2, c + 2 + 2]), .inr (0, 50), .inr (0, 10)]) (pc' := 25) dX4_init_22 rfl rfl oX4_19 (by omega) rfl rfl rfl rfl rfl ?_
  have iv5 := s_iv_up0 (a := c) (z := 2) (v := 0) iv4 (by omega) (by omega) (by simp only [q_up, q_nw, s_Z] <;> omega)
  exact q_vret dX4_init_25 rfl ⟨rfl, _, rfl, iv5⟩
