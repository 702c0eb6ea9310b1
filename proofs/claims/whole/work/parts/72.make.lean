set_option maxRecDepth 100000 in
set_option maxHeartbeats 4000000 in
theorem c_X9_init {Γ : q_G} {P : List q_K} {S : q_S} {c : Nat} (hP : P.length = c) (hz : S c = fun _ => 0) : q_Sp Γ mX9_init 1 8 6589 [q_r Γ c] (P ++ [.inl (9, [1, 1, 0, 1, 1, 1, 0, 1, 1, 1, 0, 0, 0, 0, 0, 0, 0])], S) (fun v9 w9 => v9 = none ∧ ∃ S2, w9 = (P ++ [.inl (9, [c + 1 + 2, c + 2 + 2, 0, c + 3 + 2, c + 4 + 2, c + 5 + 2, 0, c + 6 + 2, c + 7 + 2, c + 8 + 2, 0, 0, 0, 0, 0, 0, 0]), .inr (0, 489), .inr (0, 2934), .inr (0, 978), .inr (0, 2), .inr (0, 80), .inr (0, 300), .inr (0, 1800), .inr (0, 6)], S2) ∧ s_iv S S2 c 9 (q_up s_Z (c + 1) 1 7)) := by
  show q_Go Γ mX9_init 1 8 6589 0 [(0, q_r Γ c)] [] (P ++ [.inl (9, [1, 1, 0, 1, 1, 1, 0, 1, 1, 1, 0, 0, 0, 0, 0, 0, 0])], S) (fun v9 w9 => v9 = none ∧ ∃ S2, w9 = (P ++ [.inl (9, [c + 1 + 2, c + 2 + 2, 0, c + 3 + 2, c + 4 + 2, c + 5 + 2, 0, c + 6 + 2, c + 7 + 2, c + 8 + 2, 0, 0, 0, 0, 0, 0, 0]), .inr (0, 489), .inr (0, 2934), .inr (0, 978), .inr (0, 2), .inr (0, 80), .inr (0, 300), .inr (0, 1800), .inr (0, 6)], S2) ∧ s_iv S S2 c 9 (q_up s_Z (c + 1) 1 7))
  have iv0 : s_iv S S c 1 s_Z := s_iv_0 hz
  refine q_aloadn (pc' := 1) 0 dX9_init_0 rfl rfl ?_
  refine q_obj (pc' := 4) dX9_init_1 rfl wX9_1 w_objI w_objC (Nat.le_of_ble_eq_true rfl) (Nat.le_of_ble_eq_true rfl) ?_
  refine q_aloadn (pc' := 5) 0 dX9_init_4 rfl rfl ?_
  refine q_sipush (pc' := 8) dX9_init_5 rfl rfl ?_
  refine n_newa (n := c + 1) (N := 489) (t := 0) (l' := [.inl (9, [1, 1, 0, 1, 1, 1, 0, 1, 1, 1, 0, 0, 0, 0, 0, 0, 0]), .inr (0, 489)]) (bc2 := 7) (bs2 := 6100) (pc' := 10) dX9_init_8 rfl (by decide) rfl w_arr_int rfl (by decide) rfl rfl (by rw [hP]; rfl) rfl ?_
  have iv1 := s_iv_nw0 iv0 (m := c + 1) rfl (by funext y; simp only [q_up, q_nw, s_Z] <;> omega)
  refine n_putF (i := 0) (k := 0) (f := c + 1) (l' := [.inl (9, [c + 1 + 2, 1, 0, 1, 1, 1, 0, 1, 1, 1, 0, 0, 0, 0, 0, 0, 0]), .inr (0, 489)]) (pc' := 13) dX9_init_10 rfl rfl oX9_7 (by omega) rfl rfl rfl rfl rfl ?_
  have iv2 := s_iv_up0 (a := c) (z := 0) (v := 0) iv1 (by omega) (by omega) (by simp only [q_up, q_nw, s_Z] <;> omega)
  refine q_aloadn (pc' := 14) 0 dX9_init_13 rfl rfl ?_
  refine q_sipush (pc' := 17) dX9_init_14 rfl rfl ?_
  refine n_newa (n := c + 2) (N := 2934) (t := 0) (l' := [.inl (9, [c + 1 + 2, 1, 0, 1, 1, 1, 0, 1, 1, 1, 0, 0, 0, 0, 0, 0, 0]), .inr (0, 489), .inr (0, 2934)]) (bc2 := 6) (bs2 := 3166) (pc' := 19) dX9_init_17 rfl (by decide) rfl w_arr_int rfl (by decide) rfl rfl (by rw [hP]; rfl) rfl ?_
  have iv3 := s_iv_nw0 iv2 (m := c + 2) rfl (by funext y; simp only [q_up, q_nw, s_Z] <;> omega)
  refine n_putF (i := 0) (k := 1) (f := c + 2) (l' := [.inl (9, [c + 1 + 2, c + 2 + 2, 0, 1, 1, 1, 0, 1, 1, 1, 0, 0, 0, 0, 0, 0, 0]), .inr (0, 489), .inr (0, 2934)]) (pc' := 22) dX9_init_19 rfl rfl oX9_13 (by omega) rfl rfl rfl rfl rfl ?_
  have iv4 := s_iv_up0 (a := c) (z := 1) (v := 0) iv3 (by omega) (by omega) (by simp only [q_up, q_nw, s_Z] <;> omega)
  refine q_aloadn (pc' := 23) 0 dX9_init_22 rfl rfl ?_
  refine q_sipush (pc' := 26) dX9_init_23 rfl rfl ?_
  refine n_newa (n := c + 3) (N := 978) (t := 0) (l' := [.inl (9, [c + 1 + 2, c + 2 + 2, 0, 1, 1, 1, 0, 1, 1, 1, 0, 0, 0, 0, 0, 0, 0]), .inr (0, 489), .inr (0, 2934), .inr (0, 978)]) (bc2 := 5) (bs2 := 2188) (pc' := 28) dX9_init_26 rfl (by decide) rfl w_arr_int rfl (by decide) rfl rfl (by rw [hP]; rfl) rfl ?_
  have iv5 := s_iv_nw0 iv4 (m := c + 3) rfl (by funext y; simp only [q_up, q_nw, s_Z] <;> omega)
  refine n_putF (i := 0) (k := 3) (f := c + 3) (l' := [.inl (9, [c + 1 + 2, c + 2 + 2, 0, c + 3 + 2, 1, 1, 0, 1, 1, 1, 0, 0, 0, 0, 0, 0, 0]), .inr (0, 489), .inr (0, 2934), .inr (0, 978)]) (pc' := 31) dX9_init_28 rfl rfl oX9_16 (by omega) rfl rfl rfl rfl rfl ?_
  have iv6 := s_iv_up0 (a := c) (z := 3) (v := 0) iv5 (by omega) (by omega) (by simp only [q_up, q_nw, s_Z] <;> omega)
  refine q_aloadn (pc' := 32) 0 dX9_init_31 rfl rfl ?_
  refine q_iconst (pc' := 33) dX9_init_32 rfl ?_
  refine n_newa (n := c + 4) (N := 2) (t := 0) (l' := [.inl (9, [c + 1 + 2, c + 2 + 2, 0, c + 3 + 2, 1, 1, 0, 1, 1, 1, 0, 0, 0, 0, 0, 0, 0]), .inr (0, 489), .inr (0, 2934), .inr (0, 978), .inr (0, 2)]) (bc2 := 4) (bs2 := 2186) (pc' := 35) dX9_init_33 rfl (by decide) rfl w_arr_int rfl (by decide) rfl rfl (by rw [hP]; rfl) rfl ?_
  have iv7 := s_iv_nw0 iv6 (m := c + 4) rfl (by funext y; simp only [q_up, q_nw, s_Z] <;> omega)
  refine n_putF (i := 0) (k := 4) (f := c + 4) (l' := [.inl (9, [c + 1 + 2, c + 2 + 2, 0, c + 3 + 2, c + 4 + 2, 1, 0, 1, 1, 1, 0, 0, 0, 0, 0, 0, 0]), .inr (0, 489), .inr (0, 2934), .inr (0, 978), .inr (0, 2)]) (pc' := 38) dX9_init_35 rfl rfl oX9_19 (by omega) rfl rfl rfl rfl rfl ?_
  have iv8 := s_iv_up0 (a := c) (z := 4) (v := 0) iv7 (by omega) (by omega) (by simp only [q_up, q_nw, s_Z] <;> omega)
  refine q_aloadn (pc' := 39) 0 dX9_init_38 rfl rfl ?_
  refine q_bipush (pc' := 41) dX9_init_39 rfl rfl ?_
  refine n_newa (n := c + 5) (N := 80) (t := 0) (l' := [.inl (9, [c + 1 + 2, c + 2 + 2, 0, c + 3 + 2, c + 4 + 2, 1, 0, 1, 1, 1, 0, 0, 0, 0, 0, 0, 0]), .inr (0, 489), .inr (0, 2934), .inr (0, 978), .inr (0, 2), .inr (0, 80)]) (bc2 := 3) (bs2 := 2106) (pc' := 43) dX9_init_41 rfl (by decide) rfl w_arr_int rfl (by decide) rfl rfl (by rw [hP]; rfl) rfl ?_
  have iv9 := s_iv_nw0 iv8 (m := c + 5) rfl (by funext y; simp only [q_up, q_nw, s_Z] <;> omega)
  refine n_putF (i := 0) (k := 5) (f := c + 5) (l' := [.inl (9, [c + 1 + 2, c + 2 + 2, 0, c + 3 + 2, c + 4 + 2, c + 5 + 2, 0, 1, 1, 1, 0, 0, 0, 0, 0, 0, 0]), .inr (0, 489), .inr (0, 2934), .inr (0, 978), .inr (0, 2), .inr (0, 80)]) (pc' := 46) dX9_init_43 rfl rfl oX9_22 (by omega) rfl rfl rfl rfl rfl ?_
  have iv10 := s_iv_up0 (a := c) (z := 5) (v := 0) iv9 (by omega) (by omega) (by simp only [q_up, q_nw, s_Z] <;> omega)
  refine q_aloadn (pc' := 47) 0 dX9_init_46 rfl rfl ?_
  refine q_sipush (pc' := 50) dX9_init_47 rfl rfl ?_
  refine n_newa (n := c + 6) (N := 300) (t := 0) (l' := [.inl (9, [c + 1 + 2, c + 2 + 2, 0, c + 3 + 2, c + 4 + 2, c + 5 + 2, 0, 1, 1, 1, 0, 0, 0, 0, 0, 0, 0]), .inr (0, 489), .inr (0, 2934), .inr (0, 978), .inr (0, 2), .inr (0, 80), .inr (0, 300)]) (bc2 := 2) (bs2 := 1806) (pc' := 52) dX9_init_50 rfl (by decide) rfl w_arr_int rfl (by decide) rfl rfl (by rw [hP]; rfl) rfl ?_
  have iv11 := s_iv_nw0 iv10 (m := c + 6) rfl (by funext y; simp only [q_up, q_nw, s_Z] <;> omega)
  refine n_putF (i := 0) (k := 7) (f := c + 6) (l' := [.inl (9, [c + 1 + 2, c + 2 + 2, 0, c + 3 + 2, c + 4 + 2, c + 5 + 2, 0, c + 6 + 2, 1, 1, 0, 0, 0, 0, 0, 0, 0]), .inr (0, 489), .inr (0, 2934), .inr (0, 978), .inr (0, 2), .inr (0, 80), .inr (0, 300)]) (pc' := 55) dX9_init_52 rfl rfl oX9_25 (by omega) rfl rfl rfl rfl rfl ?_
  have iv12 := s_iv_up0 (a := c) (z := 7) (v := 0) iv11 (by omega) (by omega) (by simp only [q_up, q_nw, s_Z] <;> omega)
  refine q_aloadn (pc' := 56) 0 dX9_init_55 rfl rfl ?_
  refine q_sipush (pc' := 59) dX9_init_56 rfl rfl ?_
  refine n_newa (n := c + 7) (N := 1800) (t := 0) (l' := [.inl (9, [c + 1 + 2, c + 2 + 2, 0, c + 3 + 2, c + 4 + 2, c + 5 + 2, 0, c + 6 + 2, 1, 1, 0, 0, 0, 0, 0, 0, 0]), .inr (0, 489), .inr (0, 2934), .inr (0, 978), .inr (0, 2), .inr (0, 80), .inr (0, 300), .inr (0, 1800)]) (bc2 := 1) (bs2 := 6) (pc' := 61) dX9_init_59 rfl (by decide) rfl w_arr_int rfl (by decide) rfl rfl (by rw [hP]; rfl) rfl ?_
  have iv13 := s_iv_nw0 iv12 (m := c + 7) rfl (by funext y; simp only [q_up, q_nw, s_Z] <;> omega)
  refine n_putF (i := 0) (k := 8) (f := c + 7) (l' := [.inl (9, [c + 1 + 2, c + 2 + 2, 0, c + 3 + 2, c + 4 + 2, c + 5 + 2, 0, c + 6 + 2, c + 7 + 2, 1, 0, 0, 0, 0, 0, 0, 0]), .inr (0, 489), .inr (0, 2934), .inr (0, 978), .inr (0, 2), .inr (0, 80), .inr (0, 300), .inr (0, 1800)]) (pc' := 64) dX9_init_61 rfl rfl oX9_28 (by omega) rfl rfl rfl rfl rfl ?_
  have iv14 := s_iv_up0 (a := c) (z := 8) (v := 0) iv13 (by omega) (by omega) (by simp only [q_up, q_nw, s_Z] <;> omega)
  refine q_aloadn (pc' := 65) 0 dX9_init_64 rfl rfl ?_
  refine q_bipush (pc' := 67) dX9_init_65 rfl rfl ?_
  refine n_newa (n := c + 8) (N := 6) (t := 0) (l' := [.inl (9, [c + 1 + 2, c + 2 + 2, 0, c + 3 + 2, c + 4 + 2, c + 5 + 2, 0, c + 6 + 2, c + 7 + 2, 1, 0, 0, 0, 0, 0, 0, 0]), .inr (0, 489), .inr (0, 2934), .inr (0, 978), .inr (0, 2), .inr (0, 80), .inr (0, 300), .inr (0, 1800), .inr (0, 6)]) (bc2 := 0) (bs2 := 0) (pc' := 69) dX9_init_67 rfl (by decide) rfl w_arr_int rfl (by decide) rfl rfl (by rw [hP]; rfl) rfl ?_
  have iv15 := s_iv_nw0 iv14 (m := c + 8) rfl (by funext y; simp only [q_up, q_nw, s_Z] <;> omega)
  refine n_putF (i := 0) (k := 9) (f := c + 8) (l' := [.inl (9, [c + 1 + 2, c + 2 + 2, 0, c + 3 + 2, c + 4 + 2, c + 5 + 2, 0, c + 6 + 2, c + 7 + 2, c + 8 + 2, 0, 0, 0, 0, 0, 0, 0]), .inr (0, 489), .inr (0, 2934), .inr (0, 978), .inr (0, 2), .inr (0, 80), .inr (0, 300), .inr (0, 1800), .inr (0, 6)]) (pc' := 72) dX9_init_69 rfl rfl oX9_31 (by omega) rfl rfl rfl rfl rfl ?_
  have iv16 := s_iv_up0 (a := c) (z := 9) (v := 0) iv15 (by omega) (by omega) (by simp only [q_up, q_nw, s_Z] <;> omega)
  refine q_aloadn (pc' := 73) 0 dX9_init_72 rfl rfl ?_
  refine n_getR (i := 0) (k := 0) (f := c + 1) (pc' := 76) dX9_init_73 rfl fX9_7 (by omega) rfl rfl ?_
  refine q_iconst (pc' := 77) dX9_init_76 rfl ?_
  refine q_bipush (pc' := 79) dX9_init_77 rfl rfl ?_
  refine n_iast (i := 1) (pc' := 80) dX9_init_79 rfl (by omega) rfl (by decide) (by decide) (by decide) (by decide) ?_
  have iv17 := s_iv_up (a := c + 1) (z := 1) (v := 7) iv16 (by omega) (by omega)
  exact q_vret dX9_init_80 rfl ⟨rfl, _, rfl, iv17⟩
