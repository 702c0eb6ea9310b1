set_option maxRecDepth 100000 in
set_option maxHeartbeats 4000000 in
theorem c_X0_init {Γ : q_G} {P : List q_K} {S : q_S} {c : Nat} (hP : P.length = c) (hz : S c = fun _ => 0) : q_Sp Γ mX0_init 2 12 520 [q_r Γ c] (P ++ [.inl (0, [0, 1, 1, 1, 1, 1, 0, 1, 1, 1, 0])], S) (fun v9 w9 => v9 = none ∧ ∃ S2, w9 = (P ++ [.inl (0, [0, c + 1 + 2, c + 2 + 2, c + 3 + 2, c + 4 + 2, c + 5 + 2, 0, c + 6 + 2, c + 7 + 2, c + 10 + 2, 0]), .inr (0, 6), .inr (0, 6), .inr (0, 6), .inr (0, 6), .inr (0, 10), .inr (0, 360), .inl (4, [0, c + 8 + 2, c + 9 + 2]), .inr (0, 50), .inr (0, 10), .inl (4, [0, c + 11 + 2, c + 12 + 2]), .inr (0, 50), .inr (0, 10)], S2) ∧ s_iv S S2 c 13 (q_up s_Z c 6 7)) := by
  show q_Go Γ mX0_init 2 12 520 0 [(0, q_r Γ c)] [] (P ++ [.inl (0, [0, 1, 1, 1, 1, 1, 0, 1, 1, 1, 0])], S) (fun v9 w9 => v9 = none ∧ ∃ S2, w9 = (P ++ [.inl (0, [0, c + 1 + 2, c + 2 + 2, c + 3 + 2, c + 4 + 2, c + 5 + 2, 0, c + 6 + 2, c + 7 + 2, c + 10 + 2, 0]), .inr (0, 6), .inr (0, 6), .inr (0, 6), .inr (0, 6), .inr (0, 10), .inr (0, 360), .inl (4, [0, c + 8 + 2, c + 9 + 2]), .inr (0, 50), .inr (0, 10), .inl (4, [0, c + 11 + 2, c + 12 + 2]), .inr (0, 50), .inr (0, 10)], S2) ∧ s_iv S S2 c 13 (q_up s_Z c 6 7))
  have iv0 : s_iv S S c 1 s_Z := s_iv_0 hz
  refine q_aloadn (pc' := 1) 0 dX0_init_0 rfl rfl ?_
  refine q_obj (pc' := 4) dX0_init_1 rfl wX0_3 w_objI w_objC (Nat.le_of_ble_eq_true rfl) (Nat.le_of_ble_eq_true rfl) ?_
  refine q_aloadn (pc' := 5) 0 dX0_init_4 rfl rfl ?_
  refine q_iconst (pc' := 6) dX0_init_5 rfl ?_
  refine n_putI (i := 0) (k := 0) (pc' := 9) dX0_init_6 rfl fX0_9 (by omega) rfl rfl rfl rfl (by decide) ?_
  have iv1 := s_iv_up0 (a := c) (z := 0) (v := 0) iv0 (by omega) (by omega) (by simp only [q_up, q_nw, s_Z] <;> omega)
  refine q_aloadn (pc' := 10) 0 dX0_init_9 rfl rfl ?_
  refine q_bipush (pc' := 12) dX0_init_10 rfl rfl ?_
  refine n_newa (n := c + 1) (N := 6) (t := 0) (l' := [.inl (0, [0, 1, 1, 1, 1, 1, 0, 1, 1, 1, 0]), .inr (0, 6)]) (bc2 := 11) (bs2 := 514) (pc' := 14) dX0_init_12 rfl (by decide) rfl w_arr_int rfl (by decide) rfl rfl (by rw [hP]; rfl) rfl ?_
  have iv2 := s_iv_nw0 iv1 (m := c + 1) rfl (by funext y; simp only [q_up, q_nw, s_Z] <;> omega)
  refine n_putF (i := 0) (k := 1) (f := c + 1) (l' := [.inl (0, [0, c + 1 + 2, 1, 1, 1, 1, 0, 1, 1, 1, 0]), .inr (0, 6)]) (pc' := 17) dX0_init_14 rfl rfl oX0_15 (by omega) rfl rfl rfl rfl rfl ?_
  have iv3 := s_iv_up0 (a := c) (z := 1) (v := 0) iv2 (by omega) (by omega) (by simp only [q_up, q_nw, s_Z] <;> omega)
  refine q_aloadn (pc' := 18) 0 dX0_init_17 rfl rfl ?_
  refine q_bipush (pc' := 20) dX0_init_18 rfl rfl ?_
  refine n_newa (n := c + 2) (N := 6) (t := 0) (l' := [.inl (0, [0, c + 1 + 2, 1, 1, 1, 1, 0, 1, 1, 1, 0]), .inr (0, 6), .inr (0, 6)]) (bc2 := 10) (bs2 := 508) (pc' := 22) dX0_init_20 rfl (by decide) rfl w_arr_int rfl (by decide) rfl rfl (by rw [hP]; rfl) rfl ?_
  have iv4 := s_iv_nw0 iv3 (m := c + 2) rfl (by funext y; simp only [q_up, q_nw, s_Z] <;> omega)
  refine n_putF (i := 0) (k := 2) (f := c + 2) (l' := [.inl (0, [0, c + 1 + 2, c + 2 + 2, 1, 1, 1, 0, 1, 1, 1, 0]), .inr (0, 6), .inr (0, 6)]) (pc' := 25) dX0_init_22 rfl rfl oX0_19 (by omega) rfl rfl rfl rfl rfl ?_
  have iv5 := s_iv_up0 (a := c) (z := 2) (v := 0) iv4 (by omega) (by omega) (by simp only [q_up, q_nw, s_Z] <;> omega)
  refine q_aloadn (pc' := 26) 0 dX0_init_25 rfl rfl ?_
  refine q_bipush (pc' := 28) dX0_init_26 rfl rfl ?_
  refine n_newa (n := c + 3) (N := 6) (t := 0) (l' := [.inl (0, [0, c + 1 + 2, c + 2 + 2, 1, 1, 1, 0, 1, 1, 1, 0]), .inr (0, 6), .inr (0, 6), .inr (0, 6)]) (bc2 := 9) (bs2 := 502) (pc' := 30) dX0_init_28 rfl (by decide) rfl w_arr_int rfl (by decide) rfl rfl (by rw [hP]; rfl) rfl ?_
  have iv6 := s_iv_nw0 iv5 (m := c + 3) rfl (by funext y; simp only [q_up, q_nw, s_Z] <;> omega)
  refine n_putF (i := 0) (k := 3) (f := c + 3) (l' := [.inl (0, [0, c + 1 + 2, c + 2 + 2, c + 3 + 2, 1, 1, 0, 1, 1, 1, 0]), .inr (0, 6), .inr (0, 6), .inr (0, 6)]) (pc' := 33) dX0_init_30 rfl rfl oX0_22 (by omega) rfl rfl rfl rfl rfl ?_
  have iv7 := s_iv_up0 (a := c) (z := 3) (v := 0) iv6 (by omega) (by omega) (by simp only [q_up, q_nw, s_Z] <;> omega)
  refine q_aloadn (pc' := 34) 0 dX0_init_33 rfl rfl ?_
  refine q_bipush (pc' := 36) dX0_init_34 rfl rfl ?_
  refine n_newa (n := c + 4) (N := 6) (t := 0) (l' := [.inl (0, [0, c + 1 + 2, c + 2 + 2, c + 3 + 2, 1, 1, 0, 1, 1, 1, 0]), .inr (0, 6), .inr (0, 6), .inr (0, 6), .inr (0, 6)]) (bc2 := 8) (bs2 := 496) (pc' := 38) dX0_init_36 rfl (by decide) rfl w_arr_int rfl (by decide) rfl rfl (by rw [hP]; rfl) rfl ?_
  have iv8 := s_iv_nw0 iv7 (m := c + 4) rfl (by funext y; simp only [q_up, q_nw, s_Z] <;> omega)
  refine n_putF (i := 0) (k := 4) (f := c + 4) (l' := [.inl (0, [0, c + 1 + 2, c + 2 + 2, c + 3 + 2, c + 4 + 2, 1, 0, 1, 1, 1, 0]), .inr (0, 6), .inr (0, 6), .inr (0, 6), .inr (0, 6)]) (pc' := 41) dX0_init_38 rfl rfl oX0_25 (by omega) rfl rfl rfl rfl rfl ?_
  have iv9 := s_iv_up0 (a := c) (z := 4) (v := 0) iv8 (by omega) (by omega) (by simp only [q_up, q_nw, s_Z] <;> omega)
  refine q_aloadn (pc' := 42) 0 dX0_init_41 rfl rfl ?_
  refine q_bipush (pc' := 44) dX0_init_42 rfl rfl ?_
  refine n_newa (n := c + 5) (N := 10) (t := 0) (l' := [.inl (0, [0, c + 1 + 2, c + 2 + 2, c + 3 + 2, c + 4 + 2, 1, 0, 1, 1, 1, 0]), .inr (0, 6), .inr (0, 6), .inr (0, 6), .inr (0, 6), .inr (0, 10)]) (bc2 := 7) (bs2 := 486) (pc' := 46) dX0_init_44 rfl (by decide) rfl w_arr_int rfl (by decide) rfl rfl (by rw [hP]; rfl) rfl ?_
  have iv10 := s_iv_nw0 iv9 (m := c + 5) rfl (by funext y; simp only [q_up, q_nw, s_Z] <;> omega)
  refine n_putF (i := 0) (k := 5) (f := c + 5) (l' := [.inl (0, [0, c + 1 + 2, c + 2 + 2, c + 3 + 2, c + 4 + 2, c + 5 + 2, 0, 1, 1, 1, 0]), .inr (0, 6), .inr (0, 6), .inr (0, 6), .inr (0, 6), .inr (0, 10)]) (pc' := 49) dX0_init_46 rfl rfl oX0_28 (by omega) rfl rfl rfl rfl rfl ?_
  have iv11 := s_iv_up0 (a := c) (z := 5) (v := 0) iv10 (by omega) (by omega) (by simp only [q_up, q_nw, s_Z] <;> omega)
  refine q_aloadn (pc' := 50) 0 dX0_init_49 rfl rfl ?_
  refine q_bipush (pc' := 52) dX0_init_50 rfl rfl ?_
  refine n_putI (i := 0) (k := 6) (pc' := 55) dX0_init_52 rfl fX0_31 (by omega) rfl rfl rfl rfl (by decide) ?_
  have iv12 := s_iv_up (a := c) (z := 6) (v := 7) iv11 (by omega) (by omega)
  refine q_aloadn (pc' := 56) 0 dX0_init_55 rfl rfl ?_
  refine q_sipush (pc' := 59) dX0_init_56 rfl rfl ?_
  refine n_newa (n := c + 6) (N := 360) (t := 0) (l' := [.inl (0, [0, c + 1 + 2, c + 2 + 2, c + 3 + 2, c + 4 + 2, c + 5 + 2, 0, 1, 1, 1, 0]), .inr (0, 6), .inr (0, 6), .inr (0, 6), .inr (0, 6), .inr (0, 10), .inr (0, 360)]) (bc2 := 6) (bs2 := 126) (pc' := 61) dX0_init_59 rfl (by decide) rfl w_arr_int rfl (by decide) rfl rfl (by rw [hP]; rfl) rfl ?_
  have iv13 := s_iv_nw0 iv12 (m := c + 6) rfl (by funext y; simp only [q_up, q_nw, s_Z] <;> omega)
  refine n_putF (i := 0) (k := 7) (f := c + 6) (l' := [.inl (0, [0, c + 1 + 2, c + 2 + 2, c + 3 + 2, c + 4 + 2, c + 5 + 2, 0, c + 6 + 2, 1, 1, 0]), .inr (0, 6), .inr (0, 6), .inr (0, 6), .inr (0, 6), .inr (0, 10), .inr (0, 360)]) (pc' := 64) dX0_init_61 rfl rfl oX0_34 (by omega) rfl rfl rfl rfl rfl ?_
  have iv14 := s_iv_up0 (a := c) (z := 7) (v := 0) iv13 (by omega) (by omega) (by simp only [q_up, q_nw, s_Z] <;> omega)
  refine q_aloadn (pc' := 65) 0 dX0_init_64 rfl rfl ?_
  refine n_new (n := c + 7) (l' := [.inl (0, [0, c + 1 + 2, c + 2 + 2, c + 3 + 2, c + 4 + 2, c + 5 + 2, 0, c + 6 + 2, 1, 1, 0]), .inr (0, 6), .inr (0, 6), .inr (0, 6), .inr (0, 6), .inr (0, 10), .inr (0, 360), .inl (4, [0, 1, 1])]) (bc2 := 5) (bs2 := 123) (pc' := 68) [0, 1, 1] tyX4 dX0_init_65 rfl kX4 tyX4_ok wX0_37 w_new_X4 w_ini_X4 dfX4 rfl rfl (by rw [hP]; rfl) rfl ?_
  have iv15 := s_iv_nw0 iv14 (m := c + 7) rfl (by funext y; simp only [q_up, q_nw, s_Z] <;> omega)
  refine q_dup (pc' := 69) dX0_init_68 rfl rfl ?_
  refine q_callC (bc' := 2) (bs' := 60) (bc2 := 3) (bs2 := 63) (pc' := 72) dX0_init_69 rfl lX0_39 iX4_init (show q_Sp Γ mX4_init 1 2 60 _ (P ++ ([.inl (0, [0, c + 1 + 2, c + 2 + 2, c + 3 + 2, c + 4 + 2, c + 5 + 2, 0, c + 6 + 2, 1, 1, 0]), .inr (0, 6), .inr (0, 6), .inr (0, 6), .inr (0, 6), .inr (0, 10), .inr (0, 360)] ++ [.inl (4, [0, 1, 1])]), _) _ from by rw [← List.append_assoc]; exact c_X4_init (P := P ++ [.inl (0, [0, c + 1 + 2, c + 2 + 2, c + 3 + 2, c + 4 + 2, c + 5 + 2, 0, c + 6 + 2, 1, 1, 0]), .inr (0, 6), .inr (0, 6), .inr (0, 6), .inr (0, 6), .inr (0, 10), .inr (0, 360)]) (c := c + 7)  (by rw [List.length_append, hP]; rfl) (s_iv_z iv15 rfl (by funext y; simp only [q_up, q_nw, s_Z] <;> omega) (by omega))) rfl rfl (Nat.le_of_ble_eq_true rfl) (Nat.le_of_ble_eq_true rfl) (Nat.le_of_ble_eq_true rfl) rfl rfl (fun v9 w9 h9 => ?_)
  obtain ⟨rfl, qS7, rfl, qiv7⟩ := h9
  rw [List.append_assoc]
  show q_Go Γ mX0_init 2 3 63 72 [(0, q_r Γ c)] [q_r Γ (c + 7), q_r Γ c] (P ++ [.inl (0, [0, c + 1 + 2, c + 2 + 2, c + 3 + 2, c + 4 + 2, c + 5 + 2, 0, c + 6 + 2, 1, 1, 0]), .inr (0, 6), .inr (0, 6), .inr (0, 6), .inr (0, 6), .inr (0, 10), .inr (0, 360), .inl (4, [0, c + 8 + 2, c + 9 + 2]), .inr (0, 50), .inr (0, 10)], qS7) _
  have iv16 : s_iv S qS7 c 10 (q_up s_Z c 6 7) := s_iv_callV iv15 (c' := c + 7) (k := 10) (W := s_Z) rfl qiv7 (by omega) (by omega) (fun a h => by funext y; simp only [s_mrg, s_ia, q_up, q_nw, s_Z, s_V1] <;> omega) (fun a h h2 => by funext y; simp only [s_mrg, s_ia, q_up, q_nw, s_Z, s_V1] <;> omega)
  refine n_putF (i := 0) (k := 8) (f := c + 7) (l' := [.inl (0, [0, c + 1 + 2, c + 2 + 2, c + 3 + 2, c + 4 + 2, c + 5 + 2, 0, c + 6 + 2, c + 7 + 2, 1, 0]), .inr (0, 6), .inr (0, 6), .inr (0, 6), .inr (0, 6), .inr (0, 10), .inr (0, 360), .inl (4, [0, c + 8 + 2, c + 9 + 2]), .inr (0, 50), .inr (0, 10)]) (pc' := 75) dX0_init_72 rfl rfl oX0_40 (by omega) rfl rfl rfl rfl rfl ?_
  have iv17 := s_iv_up0 (a := c) (z := 8) (v := 0) iv16 (by omega) (by omega) (by simp only [q_up, q_nw, s_Z] <;> omega)
  refine q_aloadn (pc' := 76) 0 dX0_init_75 rfl rfl ?_
  refine n_new (n := c + 10) (l' := [.inl (0, [0, c + 1 + 2, c + 2 + 2, c + 3 + 2, c + 4 + 2, c + 5 + 2, 0, c + 6 + 2, c + 7 + 2, 1, 0]), .inr (0, 6), .inr (0, 6), .inr (0, 6), .inr (0, 6), .inr (0, 10), .inr (0, 360), .inl (4, [0, c + 8 + 2, c + 9 + 2]), .inr (0, 50), .inr (0, 10), .inl (4, [0, 1, 1])]) (bc2 := 2) (bs2 := 60) (pc' := 79) [0, 1, 1] tyX4 dX0_init_76 rfl kX4 tyX4_ok wX0_37 w_new_X4 w_ini_X4 dfX4 rfl rfl (by rw [hP]; rfl) rfl ?_
  have iv18 := s_iv_nw0 iv17 (m := c + 10) rfl (by funext y; simp only [q_up, q_nw, s_Z] <;> omega)
  refine q_dup (pc' := 80) dX0_init_79 rfl rfl ?_
  refine q_callC (bc' := 2) (bs' := 60) (bc2 := 0) (bs2 := 0) (pc' := 83) dX0_init_80 rfl lX0_39 iX4_init (show q_Sp Γ mX4_init 1 2 60 _ (P ++ ([.inl (0, [0, c + 1 + 2, c + 2 + 2, c + 3 + 2, c + 4 + 2, c + 5 + 2, 0, c + 6 + 2, c + 7 + 2, 1, 0]), .inr (0, 6), .inr (0, 6), .inr (0, 6), .inr (0, 6), .inr (0, 10), .inr (0, 360), .inl (4, [0, c + 8 + 2, c + 9 + 2]), .inr (0, 50), .inr (0, 10)] ++ [.inl (4, [0, 1, 1])]), _) _ from by rw [← List.append_assoc]; exact c_X4_init (P := P ++ [.inl (0, [0, c + 1 + 2, c + 2 + 2, c + 3 + 2, c + 4 + 2, c + 5 + 2, 0, c + 6 + 2, c + 7 + 2, 1, 0]), .inr (0, 6), .inr (0, 6), .inr (0, 6), .inr (0, 6), .inr (0, 10), .inr (0, 360), .inl (4, [0, c + 8 + 2, c + 9 + 2]), .inr (0, 50), .inr (0, 10)]) (c := c + 10)  (by rw [List.length_append, hP]; rfl) (s_iv_z iv18 rfl (by funext y; simp only [q_up, q_nw, s_Z] <;> omega) (by omega))) rfl rfl (Nat.le_of_ble_eq_true rfl) (Nat.le_of_ble_eq_true rfl) (Nat.le_of_ble_eq_true rfl) rfl rfl (fun v9 w9 h9 => ?_)
  obtain ⟨rfl, qS9, rfl, qiv9⟩ := h9
  rw [List.append_assoc]
  show q_Go Γ mX0_init 2 0 0 83 [(0, q_r Γ c)] [q_r Γ (c + 10), q_r Γ c] (P ++ [.inl (0, [0, c + 1 + 2, c + 2 + 2, c + 3 + 2, c + 4 + 2, c + 5 + 2, 0, c + 6 + 2, c + 7 + 2, 1, 0]), .inr (0, 6), .inr (0, 6), .inr (0, 6), .inr (0, 6), .inr (0, 10), .inr (0, 360), .inl (4, [0, c + 8 + 2, c + 9 + 2]), .inr (0, 50), .inr (0, 10), .inl (4, [0, c + 11 + 2, c + 12 + 2]), .inr (0, 50), .inr (0, 10)], qS9) _
  have iv19 : s_iv S qS9 c 13 (q_up s_Z c 6 7) := s_iv_callV iv18 (c' := c + 10) (k := 13) (W := s_Z) rfl qiv9 (by omega) (by omega) (fun a h => by funext y; simp only [s_mrg, s_ia, q_up, q_nw, s_Z, s_V1] <;> omega) (fun a h h2 => by funext y; simp only [s_mrg, s_ia, q_up, q_nw, s_Z, s_V1] <;> omega)
  refine n_putF (i := 0) (k := 9) (f := c + 10) (l' := [.inl (0, [0, c + 1 + 2, c + 2 + 2, c + 3 + 2, c + 4 + 2, c + 5 + 2, 0, c + 6 + 2, c + 7 + 2, c + 10 + 2, 0]), .inr (0, 6), .inr (0, 6), .inr (0, 6), .inr (0, 6), .inr (0, 10), .inr (0, 360), .inl (4, [0, c + 8 + 2, c + 9 + 2]), .inr (0, 50), .inr (0, 10), .inl (4, [0, c + 11 + 2, c + 12 + 2]), .inr (0, 50), .inr (0, 10)]) (pc' := 86) dX0_init_83 rfl rfl oX0_44 (by omega) rfl rfl rfl rfl rfl ?_
  have iv20 := s_iv_up0 (a := c) (z := 9) (v := 0) iv19 (by omega) (by omega) (by simp only [q_up, q_nw, s_Z] <;> omega)
  refine q_aloadn (pc' := 87) 0 dX0_init_86 rfl rfl ?_
  refine q_iconst (pc' := 88) dX0_init_87 rfl ?_
  refine n_putI (i := 0) (k := 10) (pc' := 91) dX0_init_88 rfl fX0_47 (by omega) rfl rfl rfl rfl (by decide) ?_
  have iv21 := s_iv_up0 (a := c) (z := 10) (v := 0) iv20 (by omega) (by omega) (by simp only [q_up, q_nw, s_Z] <;> omega)
  exact q_vret dX0_init_91 rfl ⟨rfl, _, rfl, iv21⟩
