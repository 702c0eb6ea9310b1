set_option maxRecDepth 20000 in
set_option maxHeartbeats 4000000 in
theorem c_X8_tilt {Γ : q_G} {S A : q_S} {r u : Int} (J : s_Jc S A) (hr : q_rg r) (hu : q_rg u) : q_Sp Γ mX8_tilt 4 0 0 [q_r Γ 0, q_i r, q_i u] (KC, S) (fun v9 w9 => v9 = some (q_i (s_tiltV (A 151) r u)) ∧ ∃ S2, w9 = (KC, S2) ∧ s_Jc S2 (s_tiltS A r u) ∧ s_offM S S2) := by
  show q_Go Γ mX8_tilt 4 0 0 0 [(0, q_r Γ 0), (1, q_i r), (2, q_i u)] [] (KC, S) (fun v9 w9 => v9 = some (q_i (s_tiltV (A 151) r u)) ∧ ∃ S2, w9 = (KC, S2) ∧ s_Jc S2 (s_tiltS A r u) ∧ s_offM S S2)
  have ok := J.F.2.1
  have pz := J.F.2.2
  have rw0 := s_rows_b ok
  have c3 := ok.2.2.1
  have c4 := ok.2.2.2.1
  have FF := J.F.1
  refine q_aloadn (pc' := 1) 0 dX8_tilt_0 rfl rfl ?_
  refine p_getR (pc' := 4) (f := 29) dX8_tilt_1 rfl fX8_60 kc0 rfl ?_
  refine q_aloadn (pc' := 5) 0 dX8_tilt_4 rfl rfl ?_
  refine p_getR (pc' := 8) (f := 1) dX8_tilt_5 rfl fX8_10 kc0 rfl ?_
  refine q_callVV (pc' := 11) dX8_tilt_8 rfl lX8_72 iX1_mark kc29 rfl (c_X1_mark (by rw [J.n]; exact J.nb.1) (by rw [J.n]; exact J.nb.2) J.hs) rfl rfl (Nat.le_of_ble_eq_true rfl) (Nat.le_of_ble_eq_true rfl) (Nat.le_of_ble_eq_true rfl) ?_
  have FM := s_mk_F J
  refine q_aloadn (pc' := 12) 0 dX8_tilt_11 rfl rfl ?_
  refine p_getR (pc' := 15) (f := 29) dX8_tilt_12 rfl fX8_60 kc0 rfl ?_
  refine q_aloadn (pc' := 16) 0 dX8_tilt_15 rfl rfl ?_
  refine p_getR (pc' := 19) (f := 1) dX8_tilt_16 rfl fX8_10 kc0 rfl ?_
  refine q_iloadn (pc' := 20) 1 dX8_tilt_19 rfl rfl ?_
  refine q_iloadn (pc' := 21) 2 dX8_tilt_20 rfl rfl ?_
  refine q_callVQ (pc' := 24) dX8_tilt_21 rfl lX8_83 iX0_changeTilt kc1 rfl (c_X0_changeTilt FM ok hr hu) rfl rfl (Nat.le_of_ble_eq_true rfl) (Nat.le_of_ble_eq_true rfl) (Nat.le_of_ble_eq_true rfl) (fun vq wq hq => ?_)
  obtain ⟨rfl, qS21, rfl, qF21, qo21⟩ := hq
  have qx21 := s_offX_F qo21
  have mn21 := s_mk_n J qx21
  show q_Go Γ mX8_tilt 4 0 0 24 [(0, q_r Γ 0), (1, q_i r), (2, q_i u)] [q_i (s_tiltV (A 151) r u), q_r Γ 29] (KC, qS21) (fun v9 w9 => v9 = some (q_i (s_tiltV (A 151) r u)) ∧ ∃ S2, w9 = (KC, S2) ∧ s_Jc S2 (s_tiltS A r u) ∧ s_offM S S2)
  have rv : q_rg (s_tiltV (A 151) r u) := (s_rg_tilt ok r u)
  refine q_callVI (pc' := 27) dX8_tilt_24 rfl lX8_79 iX1_keep kc29 rfl (c_X1_keep mn21.2.1.1 mn21.2.1.2 mn21.2.2 (by first | assumption | omega)) rfl rfl (Nat.le_of_ble_eq_true rfl) (Nat.le_of_ble_eq_true rfl) (Nat.le_of_ble_eq_true rfl) ?_
  exact (fun hj => q_iret dX8_tilt_27 rfl rfl ⟨rfl, _, rfl, by rw [← s_a_tilt ok]; exact hj.1, hj.2⟩) (s_J_op J qF21 qx21 (s_k_tilt ok pz r u))
set_option maxRecDepth 20000 in
set_option maxHeartbeats 4000000 in
theorem c_X8_wind {Γ : q_G} {S A : q_S} {h u : Int} (J : s_Jc S A) (hh : q_rg h) (hu : q_rg u) : q_Sp Γ mX8_wind 4 0 0 [q_r Γ 0, q_i h, q_i u] (KC, S) (fun v9 w9 => v9 = some (q_i (s_windV (A 151) h u)) ∧ ∃ S2, w9 = (KC, S2) ∧ s_Jc S2 (s_windS A h u) ∧ s_offM S S2) := by
  show q_Go Γ mX8_wind 4 0 0 0 [(0, q_r Γ 0), (1, q_i h), (2, q_i u)] [] (KC, S) (fun v9 w9 => v9 = some (q_i (s_windV (A 151) h u)) ∧ ∃ S2, w9 = (KC, S2) ∧ s_Jc S2 (s_windS A h u) ∧ s_offM S S2)
  have ok := J.F.2.1
  have pz := J.F.2.2
  have rw0 := s_rows_b ok
  have c3 := ok.2.2.1
  have c4 := ok.2.2.2.1
  have FF := J.F.1
  refine q_aloadn (pc' := 1) 0 dX8_wind_0 rfl rfl ?_
  refine p_getR (pc' := 4) (f := 29) dX8_wind_1 rfl fX8_60 kc0 rfl ?_
  refine q_aloadn (pc' := 5) 0 dX8_wind_4 rfl rfl ?_
  refine p_getR (pc' := 8) (f := 1) dX8_wind_5 rfl fX8_10 kc0 rfl ?_
  refine q_callVV (pc' := 11) dX8_wind_8 rfl lX8_72 iX1_mark kc29 rfl (c_X1_mark (by rw [J.n]; exact J.nb.1) (by rw [J.n]; exact J.nb.2) J.hs) rfl rfl (Nat.le_of_ble_eq_true rfl) (Nat.le_of_ble_eq_true rfl) (Nat.le_of_ble_eq_true rfl) ?_
  have FM := s_mk_F J
  refine q_aloadn (pc' := 12) 0 dX8_wind_11 rfl rfl ?_
  refine p_getR (pc' := 15) (f := 29) dX8_wind_12 rfl fX8_60 kc0 rfl ?_
  refine q_aloadn (pc' := 16) 0 dX8_wind_15 rfl rfl ?_
  refine p_getR (pc' := 19) (f := 1) dX8_wind_16 rfl fX8_10 kc0 rfl ?_
  refine q_iloadn (pc' := 20) 1 dX8_wind_19 rfl rfl ?_
  refine q_iloadn (pc' := 21) 2 dX8_wind_20 rfl rfl ?_
  refine q_callVQ (pc' := 24) dX8_wind_21 rfl lX8_87 iX0_changeWind kc1 rfl (c_X0_changeWind FM ok hh hu) rfl rfl (Nat.le_of_ble_eq_true rfl) (Nat.le_of_ble_eq_true rfl) (Nat.le_of_ble_eq_true rfl) (fun vq wq hq => ?_)
  obtain ⟨rfl, qS21, rfl, qF21, qo21⟩ := hq
  have qx21 := s_offX_F qo21
  have mn21 := s_mk_n J qx21
  show q_Go Γ mX8_wind 4 0 0 24 [(0, q_r Γ 0), (1, q_i h), (2, q_i u)] [q_i (s_windV (A 151) h u), q_r Γ 29] (KC, qS21) (fun v9 w9 => v9 = some (q_i (s_windV (A 151) h u)) ∧ ∃ S2, w9 = (KC, S2) ∧ s_Jc S2 (s_windS A h u) ∧ s_offM S S2)
  have rv : q_rg (s_windV (A 151) h u) := (s_rg_wind ok h u)
  refine q_callVI (pc' := 27) dX8_wind_24 rfl lX8_79 iX1_keep kc29 rfl (c_X1_keep mn21.2.1.1 mn21.2.1.2 mn21.2.2 (by first | assumption | omega)) rfl rfl (Nat.le_of_ble_eq_true rfl) (Nat.le_of_ble_eq_true rfl) (Nat.le_of_ble_eq_true rfl) ?_
  exact (fun hj => q_iret dX8_wind_27 rfl rfl ⟨rfl, _, rfl, by rw [← s_a_wind ok]; exact hj.1, hj.2⟩) (s_J_op J qF21 qx21 (s_k_wind ok pz h u))
set_option maxRecDepth 20000 in
set_option maxHeartbeats 4000000 in
theorem c_X8_grant {Γ : q_G} {S A : q_S} {a b h u : Int} (J : s_Jc S A) (ha : q_rg a) (hb : q_rg b) (hh : q_rg h) (hu : q_rg u) : q_Sp Γ mX8_grant 4 0 0 [q_r Γ 0, q_i a, q_i b, q_i h, q_i u] (KC, S) (fun v9 w9 => v9 = some (q_i (s_grantV (A 151) a b h u)) ∧ ∃ S2, w9 = (KC, S2) ∧ s_Jc S2 (s_grantS A a b h u) ∧ s_offM S S2) := by
  show q_Go Γ mX8_grant 4 0 0 0 [(0, q_r Γ 0), (1, q_i a), (2, q_i b), (3, q_i h), (4, q_i u)] [] (KC, S) (fun v9 w9 => v9 = some (q_i (s_grantV (A 151) a b h u)) ∧ ∃ S2, w9 = (KC, S2) ∧ s_Jc S2 (s_grantS A a b h u) ∧ s_offM S S2)
  have ok := J.F.2.1
  have pz := J.F.2.2
  have rw0 := s_rows_b ok
  have c3 := ok.2.2.1
  have c4 := ok.2.2.2.1
  have FF := J.F.1
  refine q_aloadn (pc' := 1) 0 dX8_grant_0 rfl rfl ?_
  refine p_getR (pc' := 4) (f := 29) dX8_grant_1 rfl fX8_60 kc0 rfl ?_
  refine q_aloadn (pc' := 5) 0 dX8_grant_4 rfl rfl ?_
  refine p_getR (pc' := 8) (f := 1) dX8_grant_5 rfl fX8_10 kc0 rfl ?_
  refine q_callVV (pc' := 11) dX8_grant_8 rfl lX8_72 iX1_mark kc29 rfl (c_X1_mark (by rw [J.n]; exact J.nb.1) (by rw [J.n]; exact J.nb.2) J.hs) rfl rfl (Nat.le_of_ble_eq_true rfl) (Nat.le_of_ble_eq_true rfl) (Nat.le_of_ble_eq_true rfl) ?_
  have FM := s_mk_F J
  refine q_aloadn (pc' := 12) 0 dX8_grant_11 rfl rfl ?_
  refine p_getR (pc' := 15) (f := 29) dX8_grant_12 rfl fX8_60 kc0 rfl ?_
  refine q_aloadn (pc' := 16) 0 dX8_grant_15 rfl rfl ?_
  refine p_getR (pc' := 19) (f := 1) dX8_grant_16 rfl fX8_10 kc0 rfl ?_
  refine q_iloadn (pc' := 20) 1 dX8_grant_19 rfl rfl ?_
  refine q_iloadn (pc' := 21) 2 dX8_grant_20 rfl rfl ?_
  refine q_iloadn (pc' := 22) 3 dX8_grant_21 rfl rfl ?_
  refine q_iload (pc' := 24) 4 dX8_grant_22 rfl rfl ?_
  refine q_callVQ (pc' := 27) dX8_grant_24 rfl lX8_93 iX0_changeRight kc1 rfl (c_X0_changeRight FM ok ha hb hh hu) rfl rfl (Nat.le_of_ble_eq_true rfl) (Nat.le_of_ble_eq_true rfl) (Nat.le_of_ble_eq_true rfl) (fun vq wq hq => ?_)
  obtain ⟨rfl, qS24, rfl, qF24, qo24⟩ := hq
  have qx24 := s_offX_F qo24
  have mn24 := s_mk_n J qx24
  show q_Go Γ mX8_grant 4 0 0 27 [(0, q_r Γ 0), (1, q_i a), (2, q_i b), (3, q_i h), (4, q_i u)] [q_i (s_grantV (A 151) a b h u), q_r Γ 29] (KC, qS24) (fun v9 w9 => v9 = some (q_i (s_grantV (A 151) a b h u)) ∧ ∃ S2, w9 = (KC, S2) ∧ s_Jc S2 (s_grantS A a b h u) ∧ s_offM S S2)
  have rv : q_rg (s_grantV (A 151) a b h u) := (s_rg_grant ok a b h u)
  refine q_callVI (pc' := 30) dX8_grant_27 rfl lX8_79 iX1_keep kc29 rfl (c_X1_keep mn24.2.1.1 mn24.2.1.2 mn24.2.2 (by first | assumption | omega)) rfl rfl (Nat.le_of_ble_eq_true rfl) (Nat.le_of_ble_eq_true rfl) (Nat.le_of_ble_eq_true rfl) ?_
  exact (fun hj => q_iret dX8_grant_30 rfl rfl ⟨rfl, _, rfl, by rw [← s_a_grant ok]; exact hj.1, hj.2⟩) (s_J_op J qF24 qx24 (s_k_grant ok pz a b h u))
set_option maxRecDepth 20000 in
set_option maxHeartbeats 4000000 in
theorem c_X8_row {Γ : q_G} {S A : q_S} {p l u : Int} (J : s_Jc S A) (hp : q_rg p) (hl : q_rg l) (hu : q_rg u) : q_Sp Γ mX8_row 4 0 0 [q_r Γ 0, q_i p, q_i l, q_i u] (KC, S) (fun v9 w9 => v9 = some (q_i (s_rowV (A 151) p l u)) ∧ ∃ S2, w9 = (KC, S2) ∧ s_Jc S2 (s_rowS A p l u) ∧ s_offM S S2) := by
  show q_Go Γ mX8_row 4 0 0 0 [(0, q_r Γ 0), (1, q_i p), (2, q_i l), (3, q_i u)] [] (KC, S) (fun v9 w9 => v9 = some (q_i (s_rowV (A 151) p l u)) ∧ ∃ S2, w9 = (KC, S2) ∧ s_Jc S2 (s_rowS A p l u) ∧ s_offM S S2)
  have ok := J.F.2.1
  have pz := J.F.2.2
  have rw0 := s_rows_b ok
  have c3 := ok.2.2.1
  have c4 := ok.2.2.2.1
  have FF := J.F.1
  refine q_aloadn (pc' := 1) 0 dX8_row_0 rfl rfl ?_
  refine p_getR (pc' := 4) (f := 29) dX8_row_1 rfl fX8_60 kc0 rfl ?_
  refine q_aloadn (pc' := 5) 0 dX8_row_4 rfl rfl ?_
  refine p_getR (pc' := 8) (f := 1) dX8_row_5 rfl fX8_10 kc0 rfl ?_
  refine q_callVV (pc' := 11) dX8_row_8 rfl lX8_72 iX1_mark kc29 rfl (c_X1_mark (by rw [J.n]; exact J.nb.1) (by rw [J.n]; exact J.nb.2) J.hs) rfl rfl (Nat.le_of_ble_eq_true rfl) (Nat.le_of_ble_eq_true rfl) (Nat.le_of_ble_eq_true rfl) ?_
  have FM := s_mk_F J
  refine q_aloadn (pc' := 12) 0 dX8_row_11 rfl rfl ?_
  refine p_getR (pc' := 15) (f := 29) dX8_row_12 rfl fX8_60 kc0 rfl ?_
  refine q_aloadn (pc' := 16) 0 dX8_row_15 rfl rfl ?_
  refine p_getR (pc' := 19) (f := 1) dX8_row_16 rfl fX8_10 kc0 rfl ?_
  refine q_iloadn (pc' := 20) 1 dX8_row_19 rfl rfl ?_
  refine q_iloadn (pc' := 21) 2 dX8_row_20 rfl rfl ?_
  refine q_iloadn (pc' := 22) 3 dX8_row_21 rfl rfl ?_
  refine q_callVQ (pc' := 25) dX8_row_22 rfl lX8_75 iX0_build kc1 rfl (c_X0_build FM ok pz.1 hp hl hu) rfl rfl (Nat.le_of_ble_eq_true rfl) (Nat.le_of_ble_eq_true rfl) (Nat.le_of_ble_eq_true rfl) (fun vq wq hq => ?_)
  obtain ⟨rfl, qS22, rfl, qF22, qo22⟩ := hq
  have qx22 := s_offX_F qo22
  have mn22 := s_mk_n J qx22
  show q_Go Γ mX8_row 4 0 0 25 [(0, q_r Γ 0), (1, q_i p), (2, q_i l), (3, q_i u)] [q_i (s_rowV (A 151) p l u), q_r Γ 29] (KC, qS22) (fun v9 w9 => v9 = some (q_i (s_rowV (A 151) p l u)) ∧ ∃ S2, w9 = (KC, S2) ∧ s_Jc S2 (s_rowS A p l u) ∧ s_offM S S2)
  have rv : q_rg (s_rowV (A 151) p l u) := (s_rg_row ok p l u)
  refine q_callVI (pc' := 28) dX8_row_25 rfl lX8_79 iX1_keep kc29 rfl (c_X1_keep mn22.2.1.1 mn22.2.1.2 mn22.2.2 (by first | assumption | omega)) rfl rfl (Nat.le_of_ble_eq_true rfl) (Nat.le_of_ble_eq_true rfl) (Nat.le_of_ble_eq_true rfl) ?_
  exact (fun hj => q_iret dX8_row_28 rfl rfl ⟨rfl, _, rfl, by rw [← s_a_row ok]; exact hj.1, hj.2⟩) (s_J_op J qF22 qx22 (s_k_row ok pz p l u))
set_option maxRecDepth 20000 in
set_option maxHeartbeats 4000000 in
theorem c_X8_ask {Γ : q_G} {S A : q_S} {a h u p : Int} (J : s_Jc S A) (ha : q_rg a) (hh : q_rg h) (hu : q_rg u) (hp : q_rg p) : q_Sp Γ mX8_ask 4 0 0 [q_r Γ 0, q_i a, q_i h, q_i u, q_i p] (KC, S) (fun v9 w9 => v9 = some (q_i (s_askV (A 151) a h u p)) ∧ ∃ S2, w9 = (KC, S2) ∧ s_Jc S2 (s_askS A a h u p) ∧ s_offM S S2) := by
  show q_Go Γ mX8_ask 4 0 0 0 [(0, q_r Γ 0), (1, q_i a), (2, q_i h), (3, q_i u), (4, q_i p)] [] (KC, S) (fun v9 w9 => v9 = some (q_i (s_askV (A 151) a h u p)) ∧ ∃ S2, w9 = (KC, S2) ∧ s_Jc S2 (s_askS A a h u p) ∧ s_offM S S2)
  have ok := J.F.2.1
  have pz := J.F.2.2
  have rw0 := s_rows_b ok
  have c3 := ok.2.2.1
  have c4 := ok.2.2.2.1
  have FF := J.F.1
  refine q_aloadn (pc' := 1) 0 dX8_ask_0 rfl rfl ?_
  refine p_getR (pc' := 4) (f := 29) dX8_ask_1 rfl fX8_60 kc0 rfl ?_
  refine q_aloadn (pc' := 5) 0 dX8_ask_4 rfl rfl ?_
  refine p_getR (pc' := 8) (f := 1) dX8_ask_5 rfl fX8_10 kc0 rfl ?_
  refine q_callVV (pc' := 11) dX8_ask_8 rfl lX8_72 iX1_mark kc29 rfl (c_X1_mark (by rw [J.n]; exact J.nb.1) (by rw [J.n]; exact J.nb.2) J.hs) rfl rfl (Nat.le_of_ble_eq_true rfl) (Nat.le_of_ble_eq_true rfl) (Nat.le_of_ble_eq_true rfl) ?_
  have FM := s_mk_F J
  refine q_aloadn (pc' := 12) 0 dX8_ask_11 rfl rfl ?_
  refine p_getR (pc' := 15) (f := 29) dX8_ask_12 rfl fX8_60 kc0 rfl ?_
  refine q_aloadn (pc' := 16) 0 dX8_ask_15 rfl rfl ?_
  refine p_getR (pc' := 19) (f := 19) dX8_ask_16 rfl fX8_28 kc0 rfl ?_
  refine q_iloadn (pc' := 20) 1 dX8_ask_19 rfl rfl ?_
  refine q_iloadn (pc' := 21) 2 dX8_ask_20 rfl rfl ?_
  refine q_iloadn (pc' := 22) 3 dX8_ask_21 rfl rfl ?_
  refine q_iload (pc' := 24) 4 dX8_ask_22 rfl rfl ?_
  refine q_callVQ (pc' := 27) dX8_ask_24 rfl lX8_97 iX3_addAsk kc19 rfl (c_X3_addAsk FM ok ha hh hu hp) rfl rfl (Nat.le_of_ble_eq_true rfl) (Nat.le_of_ble_eq_true rfl) (Nat.le_of_ble_eq_true rfl) (fun vq wq hq => ?_)
  obtain ⟨rfl, qS24, rfl, qF24, qo24⟩ := hq
  have qx24 := s_offX_F qo24
  have mn24 := s_mk_n J qx24
  show q_Go Γ mX8_ask 4 0 0 27 [(0, q_r Γ 0), (1, q_i a), (2, q_i h), (3, q_i u), (4, q_i p)] [q_i (s_askV (A 151) a h u p), q_r Γ 29] (KC, qS24) (fun v9 w9 => v9 = some (q_i (s_askV (A 151) a h u p)) ∧ ∃ S2, w9 = (KC, S2) ∧ s_Jc S2 (s_askS A a h u p) ∧ s_offM S S2)
  have rv : q_rg (s_askV (A 151) a h u p) := (s_rg_ask ok a h u p)
  refine q_callVI (pc' := 30) dX8_ask_27 rfl lX8_79 iX1_keep kc29 rfl (c_X1_keep mn24.2.1.1 mn24.2.1.2 mn24.2.2 (by first | assumption | omega)) rfl rfl (Nat.le_of_ble_eq_true rfl) (Nat.le_of_ble_eq_true rfl) (Nat.le_of_ble_eq_true rfl) ?_
  exact (fun hj => q_iret dX8_ask_30 rfl rfl ⟨rfl, _, rfl, by rw [← s_a_ask ok]; exact hj.1, hj.2⟩) (s_J_op J qF24 qx24 (s_k_ask ok pz a h u p))
set_option maxRecDepth 20000 in
set_option maxHeartbeats 4000000 in
theorem c_X8_bid {Γ : q_G} {S A : q_S} {b a h u p : Int} (J : s_Jc S A) (hb : q_rg b) (ha : q_rg a) (hh : q_rg h) (hu : q_rg u) (hp : q_rg p) : q_Sp Γ mX8_bid 4 0 0 [q_r Γ 0, q_i b, q_i a, q_i h, q_i u, q_i p] (KC, S) (fun v9 w9 => v9 = some (q_i (s_bidV (A 151) b a h u p)) ∧ ∃ S2, w9 = (KC, S2) ∧ s_Jc S2 (s_bidS A b a h u p) ∧ s_offM S S2) := by
  show q_Go Γ mX8_bid 4 0 0 0 [(0, q_r Γ 0), (1, q_i b), (2, q_i a), (3, q_i h), (4, q_i u), (5, q_i p)] [] (KC, S) (fun v9 w9 => v9 = some (q_i (s_bidV (A 151) b a h u p)) ∧ ∃ S2, w9 = (KC, S2) ∧ s_Jc S2 (s_bidS A b a h u p) ∧ s_offM S S2)
  have ok := J.F.2.1
  have pz := J.F.2.2
  have rw0 := s_rows_b ok
  have c3 := ok.2.2.1
  have c4 := ok.2.2.2.1
  have FF := J.F.1
  refine q_aloadn (pc' := 1) 0 dX8_bid_0 rfl rfl ?_
  refine p_getR (pc' := 4) (f := 29) dX8_bid_1 rfl fX8_60 kc0 rfl ?_
  refine q_aloadn (pc' := 5) 0 dX8_bid_4 rfl rfl ?_
  refine p_getR (pc' := 8) (f := 1) dX8_bid_5 rfl fX8_10 kc0 rfl ?_
  refine q_callVV (pc' := 11) dX8_bid_8 rfl lX8_72 iX1_mark kc29 rfl (c_X1_mark (by rw [J.n]; exact J.nb.1) (by rw [J.n]; exact J.nb.2) J.hs) rfl rfl (Nat.le_of_ble_eq_true rfl) (Nat.le_of_ble_eq_true rfl) (Nat.le_of_ble_eq_true rfl) ?_
  have FM := s_mk_F J
  refine q_aloadn (pc' := 12) 0 dX8_bid_11 rfl rfl ?_
  refine p_getR (pc' := 15) (f := 29) dX8_bid_12 rfl fX8_60 kc0 rfl ?_
  refine q_aloadn (pc' := 16) 0 dX8_bid_15 rfl rfl ?_
  refine p_getR (pc' := 19) (f := 19) dX8_bid_16 rfl fX8_28 kc0 rfl ?_
  refine q_iloadn (pc' := 20) 1 dX8_bid_19 rfl rfl ?_
  refine q_iloadn (pc' := 21) 2 dX8_bid_20 rfl rfl ?_
  refine q_iloadn (pc' := 22) 3 dX8_bid_21 rfl rfl ?_
  refine q_iload (pc' := 24) 4 dX8_bid_22 rfl rfl ?_
  refine q_iload (pc' := 26) 5 dX8_bid_24 rfl rfl ?_
  refine q_callVQ (pc' := 29) dX8_bid_26 rfl lX8_100 iX3_addBid kc19 rfl (c_X3_addBid FM ok hb ha hh hu hp) rfl rfl (Nat.le_of_ble_eq_true rfl) (Nat.le_of_ble_eq_true rfl) (Nat.le_of_ble_eq_true rfl) (fun vq wq hq => ?_)
  obtain ⟨rfl, qS26, rfl, qF26, qo26⟩ := hq
  have qx26 := s_offX_F qo26
  have mn26 := s_mk_n J qx26
  show q_Go Γ mX8_bid 4 0 0 29 [(0, q_r Γ 0), (1, q_i b), (2, q_i a), (3, q_i h), (4, q_i u), (5, q_i p)] [q_i (s_bidV (A 151) b a h u p), q_r Γ 29] (KC, qS26) (fun v9 w9 => v9 = some (q_i (s_bidV (A 151) b a h u p)) ∧ ∃ S2, w9 = (KC, S2) ∧ s_Jc S2 (s_bidS A b a h u p) ∧ s_offM S S2)
  have rv : q_rg (s_bidV (A 151) b a h u p) := (s_rg_bid ok b a h u p)
  refine q_callVI (pc' := 32) dX8_bid_29 rfl lX8_79 iX1_keep kc29 rfl (c_X1_keep mn26.2.1.1 mn26.2.1.2 mn26.2.2 (by first | assumption | omega)) rfl rfl (Nat.le_of_ble_eq_true rfl) (Nat.le_of_ble_eq_true rfl) (Nat.le_of_ble_eq_true rfl) ?_
  exact (fun hj => q_iret dX8_bid_32 rfl rfl ⟨rfl, _, rfl, by rw [← s_a_bid ok]; exact hj.1, hj.2⟩) (s_J_op J qF26 qx26 (s_k_bid ok pz b a h u p))
set_option maxRecDepth 20000 in
set_option maxHeartbeats 4000000 in
theorem c_X8_match {Γ : q_G} {S A : q_S}  (J : s_Jc S A) : q_Sp Γ mX8_match 4 0 0 [q_r Γ 0] (KC, S) (fun v9 w9 => v9 = some (q_i (s_matV (A 151))) ∧ ∃ S2, w9 = (KC, S2) ∧ s_Jc S2 (q_w1 (s_rec A) (s_matP (A 151))) ∧ s_offM S S2) := by
  show q_Go Γ mX8_match 4 0 0 0 [(0, q_r Γ 0)] [] (KC, S) (fun v9 w9 => v9 = some (q_i (s_matV (A 151))) ∧ ∃ S2, w9 = (KC, S2) ∧ s_Jc S2 (q_w1 (s_rec A) (s_matP (A 151))) ∧ s_offM S S2)
  have ok := J.F.2.1
  have pz := J.F.2.2
  have rw0 := s_rows_b ok
  have c3 := ok.2.2.1
  have c4 := ok.2.2.2.1
  have FF := J.F.1
  refine q_aloadn (pc' := 1) 0 dX8_match_0 rfl rfl ?_
  refine p_getR (pc' := 4) (f := 29) dX8_match_1 rfl fX8_60 kc0 rfl ?_
  refine q_aloadn (pc' := 5) 0 dX8_match_4 rfl rfl ?_
  refine p_getR (pc' := 8) (f := 1) dX8_match_5 rfl fX8_10 kc0 rfl ?_
  refine q_callVV (pc' := 11) dX8_match_8 rfl lX8_72 iX1_mark kc29 rfl (c_X1_mark (by rw [J.n]; exact J.nb.1) (by rw [J.n]; exact J.nb.2) J.hs) rfl rfl (Nat.le_of_ble_eq_true rfl) (Nat.le_of_ble_eq_true rfl) (Nat.le_of_ble_eq_true rfl) ?_
  have FM := s_mk_F J
  refine q_aloadn (pc' := 12) 0 dX8_match_11 rfl rfl ?_
  refine p_getR (pc' := 15) (f := 29) dX8_match_12 rfl fX8_60 kc0 rfl ?_
  refine q_aloadn (pc' := 16) 0 dX8_match_15 rfl rfl ?_
  refine p_getR (pc' := 19) (f := 19) dX8_match_16 rfl fX8_28 kc0 rfl ?_
  refine q_callVQ (pc' := 22) dX8_match_19 rfl lX8_117 iX3_tradeAll kc19 rfl (c_X3_tradeAll FM ok) rfl rfl (Nat.le_of_ble_eq_true rfl) (Nat.le_of_ble_eq_true rfl) (Nat.le_of_ble_eq_true rfl) (fun vq wq hq => ?_)
  obtain ⟨rfl, qS19, rfl, qF19, qo19⟩ := hq
  have qx19 := s_offX_F qo19
  have mn19 := s_mk_n J qx19
  show q_Go Γ mX8_match 4 0 0 22 [(0, q_r Γ 0)] [q_i (s_matV (A 151)), q_r Γ 29] (KC, qS19) (fun v9 w9 => v9 = some (q_i (s_matV (A 151))) ∧ ∃ S2, w9 = (KC, S2) ∧ s_Jc S2 (q_w1 (s_rec A) (s_matP (A 151))) ∧ s_offM S S2)
  have rv : q_rg (s_matV (A 151)) := (s_rg_mat ok pz)
  refine q_callVI (pc' := 25) dX8_match_22 rfl lX8_79 iX1_keep kc29 rfl (c_X1_keep mn19.2.1.1 mn19.2.1.2 mn19.2.2 (by first | assumption | omega)) rfl rfl (Nat.le_of_ble_eq_true rfl) (Nat.le_of_ble_eq_true rfl) (Nat.le_of_ble_eq_true rfl) ?_
  exact (fun hj => q_iret dX8_match_25 rfl rfl ⟨rfl, _, rfl, by rw [← s_a_mat ok pz]; exact hj.1, hj.2⟩) (s_J_op J qF19 qx19 (s_k_mat ok pz))
