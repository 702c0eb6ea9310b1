set_option maxRecDepth 100000 in
set_option maxHeartbeats 4000000 in
theorem c_X2_init {Γ : q_G} {P : List q_K} {S : q_S} {c : Nat} {f : Nat} (hP : P.length = c) (hz : S c = fun _ => 0) : q_Sp Γ mX2_init 1 4 54 [q_r Γ c, q_r Γ f] (P ++ [.inl (2, [1, 0, 1, 1, 1, 1])], S) (fun v9 w9 => v9 = none ∧ ∃ S2, w9 = (P ++ [.inl (2, [f + 2, 0, c + 1 + 2, c + 2 + 2, c + 3 + 2, c + 4 + 2]), .inr (0, 36), .inr (0, 6), .inr (0, 6), .inr (0, 6)], S2) ∧ s_iv S S2 c 5 s_Z) := by
  show q_Go Γ mX2_init 1 4 54 0 [(0, q_r Γ c), (1, q_r Γ f)] [] (P ++ [.inl (2, [1, 0, 1, 1, 1, 1])], S) (fun v9 w9 => v9 = none ∧ ∃ S2, w9 = (P ++ [.inl (2, [f + 2, 0, c + 1 + 2, c + 2 + 2, c + 3 + 2, c + 4 + 2]), .inr (0, 36), .inr (0, 6), .inr (0, 6), .inr (0, 6)], S2) ∧ s_iv S S2 c 5 s_Z)
  have iv0 : s_iv S S c 1 s_Z := s_iv_0 hz
  refine q_aloadn (pc' := 1) 0 dX2_init_0 rfl rfl ?_
  refine q_obj (pc' := 4) dX2_init_1 rfl wX2_3 w_objI w_objC (Nat.le_of_ble_eq_true rfl) (Nat.le_of_ble_eq_true rfl) ?_
  refine q_aloadn (pc' := 5) 0 dX2_init_4 rfl rfl ?_
  refine q_iconst (pc' := 6) dX2_init_5 rfl ?_
  refine n_putI (i := 0) (k := 1) (pc' := 9) dX2_init_6 rfl fX2_9 (by omega) rfl rfl rfl rfl (by decide) ?_
  have iv1 := s_iv_up0 (a := c) (z := 1) (v := 0) iv0 (by omega) (by omega) (by simp only [q_up, q_nw, s_Z] <;> omega)
  refine q_aloadn (pc' := 10) 0 dX2_init_9 rfl rfl ?_
  refine q_bipush (pc' := 12) dX2_init_10 rfl rfl ?_
  refine n_newa (n := c + 1) (N := 36) (t := 0) (l' := [.inl (2, [1, 0, 1, 1, 1, 1]), .inr (0, 36)]) (bc2 := 3) (bs2 := 18) (pc' := 14) dX2_init_12 rfl (by decide) rfl w_arr_int rfl (by decide) rfl rfl (by rw [hP]; rfl) rfl ?_
  have iv2 := s_iv_nw0 iv1 (m := c + 1) rfl (by funext y; simp only [q_up, q_nw, s_Z] <;> omega)
  refine n_putF (i := 0) (k := 2) (f := c + 1) (l' := [.inl (2, [1, 0, c + 1 + 2, 1, 1, 1]), .inr (0, 36)]) (pc' := 17) dX2_init_14 rfl rfl oX2_15 (by omega) rfl rfl rfl rfl rfl ?_
  have iv3 := s_iv_up0 (a := c) (z := 2) (v := 0) iv2 (by omega) (by omega) (by simp only [q_up, q_nw, s_Z] <;> omega)
  refine q_aloadn (pc' := 18) 0 dX2_init_17 rfl rfl ?_
  refine q_bipush (pc' := 20) dX2_init_18 rfl rfl ?_
  refine n_newa (n := c + 2) (N := 6) (t := 0) (l' := [.inl (2, [1, 0, c + 1 + 2, 1, 1, 1]), .inr (0, 36), .inr (0, 6)]) (bc2 := 2) (bs2 := 12) (pc' := 22) dX2_init_20 rfl (by decide) rfl w_arr_int rfl (by decide) rfl rfl (by rw [hP]; rfl) rfl ?_
  have iv4 := s_iv_nw0 iv3 (m := c + 2) rfl (by funext y; simp only [q_up, q_nw, s_Z] <;> omega)
  refine n_putF (i := 0) (k := 3) (f := c + 2) (l' := [.inl (2, [1, 0, c + 1 + 2, c + 2 + 2, 1, 1]), .inr (0, 36), .inr (0, 6)]) (pc' := 25) dX2_init_22 rfl rfl oX2_19 (by omega) rfl rfl rfl rfl rfl ?_
  have iv5 := s_iv_up0 (a := c) (z := 3) (v := 0) iv4 (by omega) (by omega) (by simp only [q_up, q_nw, s_Z] <;> omega)
  refine q_aloadn (pc' := 26) 0 dX2_init_25 rfl rfl ?_
  refine q_bipush (pc' := 28) dX2_init_26 rfl rfl ?_
  refine n_newa (n := c + 3) (N := 6) (t := 0) (l' := [.inl (2, [1, 0, c + 1 + 2, c + 2 + 2, 1, 1]), .inr (0, 36), .inr (0, 6), .inr (0, 6)]) (bc2 := 1) (bs2 := 6) (pc' := 30) dX2_init_28 rfl (by decide) rfl w_arr_int rfl (by decide) rfl rfl (by rw [hP]; rfl) rfl ?_
  have iv6 := s_iv_nw0 iv5 (m := c + 3) rfl (by funext y; simp only [q_up, q_nw, s_Z] <;> omega)
  refine n_putF (i := 0) (k := 4) (f := c + 3) (l' := [.inl (2, [1, 0, c + 1 + 2, c + 2 + 2, c + 3 + 2, 1]), .inr (0, 36), .inr (0, 6), .inr (0, 6)]) (pc' := 33) dX2_init_30 rfl rfl oX2_22 (by omega) rfl rfl rfl rfl rfl ?_
  have iv7 := s_iv_up0 (a := c) (z := 4) (v := 0) iv6 (by omega) (by omega) (by simp only [q_up, q_nw, s_Z] <;> omega)
  refine q_aloadn (pc' := 34) 0 dX2_init_33 rfl rfl ?_
  refine q_bipush (pc' := 36) dX2_init_34 rfl rfl ?_
  refine n_newa (n := c + 4) (N := 6) (t := 0) (l' := [.inl (2, [1, 0, c + 1 + 2, c + 2 + 2, c + 3 + 2, 1]), .inr (0, 36), .inr (0, 6), .inr (0, 6), .inr (0, 6)]) (bc2 := 0) (bs2 := 0) (pc' := 38) dX2_init_36 rfl (by decide) rfl w_arr_int rfl (by decide) rfl rfl (by rw [hP]; rfl) rfl ?_
  have iv8 := s_iv_nw0 iv7 (m := c + 4) rfl (by funext y; simp only [q_up, q_nw, s_Z] <;> omega)
  refine n_putF (i := 0) (k := 5) (f := c + 4) (l' := [.inl (2, [1, 0, c + 1 + 2, c + 2 + 2, c + 3 + 2, c + 4 + 2]), .inr (0, 36), .inr (0, 6), .inr (0, 6), .inr (0, 6)]) (pc' := 41) dX2_init_38 rfl rfl oX2_25 (by omega) rfl rfl rfl rfl rfl ?_
  have iv9 := s_iv_up0 (a := c) (z := 5) (v := 0) iv8 (by omega) (by omega) (by simp only [q_up, q_nw, s_Z] <;> omega)
  refine q_aloadn (pc' := 42) 0 dX2_init_41 rfl rfl ?_
  refine q_aloadn (pc' := 43) 1 dX2_init_42 rfl rfl ?_
  refine n_putF (i := 0) (k := 0) (f := f) (l' := [.inl (2, [f + 2, 0, c + 1 + 2, c + 2 + 2, c + 3 + 2, c + 4 + 2]), .inr (0, 36), .inr (0, 6), .inr (0, 6), .inr (0, 6)]) (pc' := 46) dX2_init_43 rfl rfl oX2_28 (by omega) rfl rfl rfl rfl rfl ?_
  have iv10 := s_iv_up0 (a := c) (z := 0) (v := 0) iv9 (by omega) (by omega) (by simp only [q_up, q_nw, s_Z] <;> omega)
  exact q_vret dX2_init_46 rfl ⟨rfl, _, rfl, iv10⟩
set_option maxRecDepth 100000 in
set_option maxHeartbeats 4000000 in
theorem c_X3_init {Γ : q_G} {P : List q_K} {S : q_S} {c : Nat} {f : Nat} (hP : P.length = c) (hz : S c = fun _ => 0) : q_Sp Γ mX3_init 1 0 0 [q_r Γ c, q_r Γ f] (P ++ [.inl (3, [1])], S) (fun v9 w9 => v9 = none ∧ ∃ S2, w9 = (P ++ [.inl (3, [f + 2])], S2) ∧ s_iv S S2 c 1 s_Z) := by
  show q_Go Γ mX3_init 1 0 0 0 [(0, q_r Γ c), (1, q_r Γ f)] [] (P ++ [.inl (3, [1])], S) (fun v9 w9 => v9 = none ∧ ∃ S2, w9 = (P ++ [.inl (3, [f + 2])], S2) ∧ s_iv S S2 c 1 s_Z)
  have iv0 : s_iv S S c 1 s_Z := s_iv_0 hz
  refine q_aloadn (pc' := 1) 0 dX3_init_0 rfl rfl ?_
  refine q_obj (pc' := 4) dX3_init_1 rfl wX3_3 w_objI w_objC (Nat.le_of_ble_eq_true rfl) (Nat.le_of_ble_eq_true rfl) ?_
  refine q_aloadn (pc' := 5) 0 dX3_init_4 rfl rfl ?_
  refine q_aloadn (pc' := 6) 1 dX3_init_5 rfl rfl ?_
  refine n_putF (i := 0) (k := 0) (f := f) (l' := [.inl (3, [f + 2])]) (pc' := 9) dX3_init_6 rfl rfl oX3_9 (by omega) rfl rfl rfl rfl rfl ?_
  have iv1 := s_iv_up0 (a := c) (z := 0) (v := 0) iv0 (by omega) (by omega) (by simp only [q_up, q_nw, s_Z] <;> omega)
  exact q_vret dX3_init_9 rfl ⟨rfl, _, rfl, iv1⟩
set_option maxRecDepth 100000 in
set_option maxHeartbeats 4000000 in
theorem c_X7_init {Γ : q_G} {P : List q_K} {S : q_S} {c : Nat} {f : Nat} {g : Nat} (hP : P.length = c) (hz : S c = fun _ => 0) : q_Sp Γ mX7_init 1 4 15643 [q_r Γ c, q_r Γ f, q_r Γ g] (P ++ [.inl (7, [1, 1, 1, 0, 1, 1, 1])], S) (fun v9 w9 => v9 = none ∧ ∃ S2, w9 = (P ++ [.inl (7, [f + 2, g + 2, c + 1 + 2, 0, c + 2 + 2, c + 3 + 2, c + 4 + 2]), .inr (0, 15625), .inr (0, 6), .inr (0, 6), .inr (0, 6)], S2) ∧ s_iv S S2 c 5 s_Z) := by
  show q_Go Γ mX7_init 1 4 15643 0 [(0, q_r Γ c), (1, q_r Γ f), (2, q_r Γ g)] [] (P ++ [.inl (7, [1, 1, 1, 0, 1, 1, 1])], S) (fun v9 w9 => v9 = none ∧ ∃ S2, w9 = (P ++ [.inl (7, [f + 2, g + 2, c + 1 + 2, 0, c + 2 + 2, c + 3 + 2, c + 4 + 2]), .inr (0, 15625), .inr (0, 6), .inr (0, 6), .inr (0, 6)], S2) ∧ s_iv S S2 c 5 s_Z)
  have iv0 : s_iv S S c 1 s_Z := s_iv_0 hz
  refine q_aloadn (pc' := 1) 0 dX7_init_0 rfl rfl ?_
  refine q_obj (pc' := 4) dX7_init_1 rfl wX7_3 w_objI w_objC (Nat.le_of_ble_eq_true rfl) (Nat.le_of_ble_eq_true rfl) ?_
  refine q_aloadn (pc' := 5) 0 dX7_init_4 rfl rfl ?_
  refine q_sipush (pc' := 8) dX7_init_5 rfl rfl ?_
  refine n_newa (n := c + 1) (N := 15625) (t := 0) (l' := [.inl (7, [1, 1, 1, 0, 1, 1, 1]), .inr (0, 15625)]) (bc2 := 3) (bs2 := 18) (pc' := 10) dX7_init_8 rfl (by decide) rfl w_arr_int rfl (by decide) rfl rfl (by rw [hP]; rfl) rfl ?_
  have iv1 := s_iv_nw0 iv0 (m := c + 1) rfl (by funext y; simp only [q_up, q_nw, s_Z] <;> omega)
  refine n_putF (i := 0) (k := 2) (f := c + 1) (l' := [.inl (7, [1, 1, c + 1 + 2, 0, 1, 1, 1]), .inr (0, 15625)]) (pc' := 13) dX7_init_10 rfl rfl oX7_9 (by omega) rfl rfl rfl rfl rfl ?_
  have iv2 := s_iv_up0 (a := c) (z := 2) (v := 0) iv1 (by omega) (by omega) (by simp only [q_up, q_nw, s_Z] <;> omega)
  refine q_aloadn (pc' := 14) 0 dX7_init_13 rfl rfl ?_
  refine q_iconst (pc' := 15) dX7_init_14 rfl ?_
  refine n_putI (i := 0) (k := 3) (pc' := 18) dX7_init_15 rfl fX7_15 (by omega) rfl rfl rfl rfl (by decide) ?_
  have iv3 := s_iv_up0 (a := c) (z := 3) (v := 0) iv2 (by omega) (by omega) (by simp only [q_up, q_nw, s_Z] <;> omega)
  refine q_aloadn (pc' := 19) 0 dX7_init_18 rfl rfl ?_
  refine q_bipush (pc' := 21) dX7_init_19 rfl rfl ?_
  refine n_newa (n := c + 2) (N := 6) (t := 0) (l' := [.inl (7, [1, 1, c + 1 + 2, 0, 1, 1, 1]), .inr (0, 15625), .inr (0, 6)]) (bc2 := 2) (bs2 := 12) (pc' := 23) dX7_init_21 rfl (by decide) rfl w_arr_int rfl (by decide) rfl rfl (by rw [hP]; rfl) rfl ?_
  have iv4 := s_iv_nw0 iv3 (m := c + 2) rfl (by funext y; simp only [q_up, q_nw, s_Z] <;> omega)
  refine n_putF (i := 0) (k := 4) (f := c + 2) (l' := [.inl (7, [1, 1, c + 1 + 2, 0, c + 2 + 2, 1, 1]), .inr (0, 15625), .inr (0, 6)]) (pc' := 26) dX7_init_23 rfl rfl oX7_19 (by omega) rfl rfl rfl rfl rfl ?_
  have iv5 := s_iv_up0 (a := c) (z := 4) (v := 0) iv4 (by omega) (by omega) (by simp only [q_up, q_nw, s_Z] <;> omega)
  refine q_aloadn (pc' := 27) 0 dX7_init_26 rfl rfl ?_
  refine q_bipush (pc' := 29) dX7_init_27 rfl rfl ?_
  refine n_newa (n := c + 3) (N := 6) (t := 0) (l' := [.inl (7, [1, 1, c + 1 + 2, 0, c + 2 + 2, 1, 1]), .inr (0, 15625), .inr (0, 6), .inr (0, 6)]) (bc2 := 1) (bs2 := 6) (pc' := 31) dX7_init_29 rfl (by decide) rfl w_arr_int rfl (by decide) rfl rfl (by rw [hP]; rfl) rfl ?_
  have iv6 := s_iv_nw0 iv5 (m := c + 3) rfl (by funext y; simp only [q_up, q_nw, s_Z] <;> omega)
  refine n_putF (i := 0) (k := 5) (f := c + 3) (l' := [.inl (7, [1, 1, c + 1 + 2, 0, c + 2 + 2, c + 3 + 2, 1]), .inr (0, 15625), .inr (0, 6), .inr (0, 6)]) (pc' := 34) dX7_init_31 rfl rfl oX7_22 (by omega) rfl rfl rfl rfl rfl ?_
  have iv7 := s_iv_up0 (a := c) (z := 5) (v := 0) iv6 (by omega) (by omega) (by simp only [q_up, q_nw, s_Z] <;> omega)
  refine q_aloadn (pc' := 35) 0 dX7_init_34 rfl rfl ?_
  refine q_bipush (pc' := 37) dX7_init_35 rfl rfl ?_
  refine n_newa (n := c + 4) (N := 6) (t := 0) (l' := [.inl (7, [1, 1, c + 1 + 2, 0, c + 2 + 2, c + 3 + 2, 1]), .inr (0, 15625), .inr (0, 6), .inr (0, 6), .inr (0, 6)]) (bc2 := 0) (bs2 := 0) (pc' := 39) dX7_init_37 rfl (by decide) rfl w_arr_int rfl (by decide) rfl rfl (by rw [hP]; rfl) rfl ?_
  have iv8 := s_iv_nw0 iv7 (m := c + 4) rfl (by funext y; simp only [q_up, q_nw, s_Z] <;> omega)
  refine n_putF (i := 0) (k := 6) (f := c + 4) (l' := [.inl (7, [1, 1, c + 1 + 2, 0, c + 2 + 2, c + 3 + 2, c + 4 + 2]), .inr (0, 15625), .inr (0, 6), .inr (0, 6), .inr (0, 6)]) (pc' := 42) dX7_init_39 rfl rfl oX7_25 (by omega) rfl rfl rfl rfl rfl ?_
  have iv9 := s_iv_up0 (a := c) (z := 6) (v := 0) iv8 (by omega) (by omega) (by simp only [q_up, q_nw, s_Z] <;> omega)
  refine q_aloadn (pc' := 43) 0 dX7_init_42 rfl rfl ?_
  refine q_aloadn (pc' := 44) 1 dX7_init_43 rfl rfl ?_
  refine n_putF (i := 0) (k := 0) (f := f) (l' := [.inl (7, [f + 2, 1, c + 1 + 2, 0, c + 2 + 2, c + 3 + 2, c + 4 + 2]), .inr (0, 15625), .inr (0, 6), .inr (0, 6), .inr (0, 6)]) (pc' := 47) dX7_init_44 rfl rfl oX7_28 (by omega) rfl rfl rfl rfl rfl ?_
  have iv10 := s_iv_up0 (a := c) (z := 0) (v := 0) iv9 (by omega) (by omega) (by simp only [q_up, q_nw, s_Z] <;> omega)
  refine q_aloadn (pc' := 48) 0 dX7_init_47 rfl rfl ?_
  refine q_aloadn (pc' := 49) 2 dX7_init_48 rfl rfl ?_
  refine n_putF (i := 0) (k := 1) (f := g) (l' := [.inl (7, [f + 2, g + 2, c + 1 + 2, 0, c + 2 + 2, c + 3 + 2, c + 4 + 2]), .inr (0, 15625), .inr (0, 6), .inr (0, 6), .inr (0, 6)]) (pc' := 52) dX7_init_49 rfl rfl oX7_32 (by omega) rfl rfl rfl rfl rfl ?_
  have iv11 := s_iv_up0 (a := c) (z := 1) (v := 0) iv10 (by omega) (by omega) (by simp only [q_up, q_nw, s_Z] <;> omega)
  exact q_vret dX7_init_52 rfl ⟨rfl, _, rfl, iv11⟩
set_option maxRecDepth 100000 in
set_option maxHeartbeats 4000000 in
theorem c_X6_init {Γ : q_G} {P : List q_K} {S : q_S} {c : Nat} (hP : P.length = c) (hz : S c = fun _ => 0) : q_Sp Γ mX6_init 1 1 80 [q_r Γ c] (P ++ [.inl (6, [1, 0])], S) (fun v9 w9 => v9 = none ∧ ∃ S2, w9 = (P ++ [.inl (6, [c + 1 + 2, 0]), .inr (2, 80)], S2) ∧ s_iv S S2 c 2 s_Z) := by
  show q_Go Γ mX6_init 1 1 80 0 [(0, q_r Γ c)] [] (P ++ [.inl (6, [1, 0])], S) (fun v9 w9 => v9 = none ∧ ∃ S2, w9 = (P ++ [.inl (6, [c + 1 + 2, 0]), .inr (2, 80)], S2) ∧ s_iv S S2 c 2 s_Z)
  have iv0 : s_iv S S c 1 s_Z := s_iv_0 hz
  refine q_aloadn (pc' := 1) 0 dX6_init_0 rfl rfl ?_
  refine q_obj (pc' := 4) dX6_init_1 rfl wX6_3 w_objI w_objC (Nat.le_of_ble_eq_true rfl) (Nat.le_of_ble_eq_true rfl) ?_
  refine q_aloadn (pc' := 5) 0 dX6_init_4 rfl rfl ?_
  refine q_bipush (pc' := 7) dX6_init_5 rfl rfl ?_
  refine n_newa (n := c + 1) (N := 80) (t := 2) (l' := [.inl (6, [1, 0]), .inr (2, 80)]) (bc2 := 0) (bs2 := 0) (pc' := 9) dX6_init_7 rfl (by decide) rfl w_arr_char rfl (by decide) rfl rfl (by rw [hP]; rfl) rfl ?_
  have iv1 := s_iv_nw0 iv0 (m := c + 1) rfl (by funext y; simp only [q_up, q_nw, s_Z] <;> omega)
  refine n_putF (i := 0) (k := 0) (f := c + 1) (l' := [.inl (6, [c + 1 + 2, 0]), .inr (2, 80)]) (pc' := 12) dX6_init_9 rfl rfl oX6_9 (by omega) rfl rfl rfl rfl rfl ?_
  have iv2 := s_iv_up0 (a := c) (z := 0) (v := 0) iv1 (by omega) (by omega) (by simp only [q_up, q_nw, s_Z] <;> omega)
  refine q_aloadn (pc' := 13) 0 dX6_init_12 rfl rfl ?_
  refine q_iconst (pc' := 14) dX6_init_13 rfl ?_
  refine n_putI (i := 0) (k := 1) (pc' := 17) dX6_init_14 rfl fX6_15 (by omega) rfl rfl rfl rfl (by decide) ?_
  have iv3 := s_iv_up0 (a := c) (z := 1) (v := 0) iv2 (by omega) (by omega) (by simp only [q_up, q_nw, s_Z] <;> omega)
  exact q_vret dX6_init_17 rfl ⟨rfl, _, rfl, iv3⟩
set_option maxRecDepth 100000 in
set_option maxHeartbeats 4000000 in
theorem c_X5_init {Γ : q_G} {P : List q_K} {S : q_S} {c : Nat} {f : Nat} (hP : P.length = c) (hz : S c = fun _ => 0) : q_Sp Γ mX5_init 1 1 5 [q_r Γ c, q_r Γ f] (P ++ [.inl (5, [1, 0, 0, 1, 0])], S) (fun v9 w9 => v9 = none ∧ ∃ S2, w9 = (P ++ [.inl (5, [f + 2, 0, 0, c + 1 + 2, 0]), .inr (0, 5)], S2) ∧ s_iv S S2 c 2 (q_up s_Z c 2 109)) := by
  show q_Go Γ mX5_init 1 1 5 0 [(0, q_r Γ c), (1, q_r Γ f)] [] (P ++ [.inl (5, [1, 0, 0, 1, 0])], S) (fun v9 w9 => v9 = none ∧ ∃ S2, w9 = (P ++ [.inl (5, [f + 2, 0, 0, c + 1 + 2, 0]), .inr (0, 5)], S2) ∧ s_iv S S2 c 2 (q_up s_Z c 2 109))
  have iv0 : s_iv S S c 1 s_Z := s_iv_0 hz
  refine q_aloadn (pc' := 1) 0 dX5_init_0 rfl rfl ?_
  refine q_obj (pc' := 4) dX5_init_1 rfl wX5_3 w_objI w_objC (Nat.le_of_ble_eq_true rfl) (Nat.le_of_ble_eq_true rfl) ?_
  refine q_aloadn (pc' := 5) 0 dX5_init_4 rfl rfl ?_
  refine q_iconst (pc' := 6) dX5_init_5 rfl ?_
  refine n_putI (i := 0) (k := 1) (pc' := 9) dX5_init_6 rfl fX5_9 (by omega) rfl rfl rfl rfl (by decide) ?_
  have iv1 := s_iv_up0 (a := c) (z := 1) (v := 0) iv0 (by omega) (by omega) (by simp only [q_up, q_nw, s_Z] <;> omega)
  refine q_aloadn (pc' := 10) 0 dX5_init_9 rfl rfl ?_
  refine q_bipush (pc' := 12) dX5_init_10 rfl rfl ?_
  refine n_putI (i := 0) (k := 2) (pc' := 15) dX5_init_12 rfl fX5_15 (by omega) rfl rfl rfl rfl (by decide) ?_
  have iv2 := s_iv_up (a := c) (z := 2) (v := 109) iv1 (by omega) (by omega)
  refine q_aloadn (pc' := 16) 0 dX5_init_15 rfl rfl ?_
  refine q_iconst (pc' := 17) dX5_init_16 rfl ?_
  refine n_newa (n := c + 1) (N := 5) (t := 0) (l' := [.inl (5, [1, 0, 0, 1, 0]), .inr (0, 5)]) (bc2 := 0) (bs2 := 0) (pc' := 19) dX5_init_17 rfl (by decide) rfl w_arr_int rfl (by decide) rfl rfl (by rw [hP]; rfl) rfl ?_
  have iv3 := s_iv_nw0 iv2 (m := c + 1) rfl (by funext y; simp only [q_up, q_nw, s_Z] <;> omega)
  refine n_putF (i := 0) (k := 3) (f := c + 1) (l' := [.inl (5, [1, 0, 0, c + 1 + 2, 0]), .inr (0, 5)]) (pc' := 22) dX5_init_19 rfl rfl oX5_19 (by omega) rfl rfl rfl rfl rfl ?_
  have iv4 := s_iv_up0 (a := c) (z := 3) (v := 0) iv3 (by omega) (by omega) (by simp only [q_up, q_nw, s_Z] <;> omega)
  refine q_aloadn (pc' := 23) 0 dX5_init_22 rfl rfl ?_
  refine q_iconst (pc' := 24) dX5_init_23 rfl ?_
  refine n_putI (i := 0) (k := 4) (pc' := 27) dX5_init_24 rfl fX5_23 (by omega) rfl rfl rfl rfl (by decide) ?_
  have iv5 := s_iv_up0 (a := c) (z := 4) (v := 0) iv4 (by omega) (by omega) (by simp only [q_up, q_nw, s_Z] <;> omega)
  refine q_aloadn (pc' := 28) 0 dX5_init_27 rfl rfl ?_
  refine q_aloadn (pc' := 29) 1 dX5_init_28 rfl rfl ?_
  refine n_putF (i := 0) (k := 0) (f := f) (l' := [.inl (5, [f + 2, 0, 0, c + 1 + 2, 0]), .inr (0, 5)]) (pc' := 32) dX5_init_29 rfl rfl oX5_26 (by omega) rfl rfl rfl rfl rfl ?_
  have iv6 := s_iv_up0 (a := c) (z := 0) (v := 0) iv5 (by omega) (by omega) (by simp only [q_up, q_nw, s_Z] <;> omega)
  exact q_vret dX5_init_32 rfl ⟨rfl, _, rfl, iv6⟩
