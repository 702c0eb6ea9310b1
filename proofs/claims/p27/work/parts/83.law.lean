set_option maxRecDepth 20000 in
set_option maxHeartbeats 4000000 in
theorem c_L_would {Γ : q_G} {S A : q_S} {r b h u : Int} (J : s_Jc S A) (h4 : A 151 0 = 4) (r0 : 0 ≤ r) (r1 : r < 4) (b0 : 0 ≤ b) (b1 : b < 4) (rb : ¬ b = r) (h0 : 0 ≤ h) (h1 : h < 10) (u0 : 0 ≤ u) (u1 : u ≤ 999) : q_Sp Γ mL_would 12 0 0 [q_r Γ 0, q_i r, q_i b, q_i h, q_i u] (KC, S) (fun v9 w9 => v9 = some (q_i 1) ∧ ∃ S2 A2, w9 = (KC, S2) ∧ s_Jc S2 A2 ∧ A2 151 = A 151 ∧ s_offM S S2) := by
  show q_Go Γ mL_would 12 0 0 0 [(0, q_r Γ 0), (1, q_i r), (2, q_i b), (3, q_i h), (4, q_i u)] [] (KC, S) (fun v9 w9 => v9 = some (q_i 1) ∧ ∃ S2 A2, w9 = (KC, S2) ∧ s_Jc S2 A2 ∧ A2 151 = A 151 ∧ s_offM S S2)
  have ok : s_ok (A 151) := J.F.2.1
  obtain ⟨psi, hpsi⟩ : ∃ psi : Int → Int, psi = s_set (A 151) (39 + 10 * (6 * r + b) + h) u := ⟨_, rfl⟩
  have qt0 : s_offM S S := fun _ _ => rfl
  have wg : s_wGrant (A 151) r b h u = 0 := by unfold s_wGrant; omega
  have wo := w_wo3 wg
  have wgr := w_gr ok wg
  have okp : s_ok psi := by rw [hpsi]; exact s_ok_rt ok r0 (by omega) b0 (by omega) h0 h1 u0 u1
  have h4p : psi 0 = 4 := by rw [hpsi, s_set_ne (by omega)]; exact h4
  rw [← hpsi] at wo wgr
  have wof := w_of h4 r0 r1
  have wofb := w_of h4 b0 b1
  have wofp := w_of h4p r0 r1
  have wofq := w_of h4p b0 b1
  have yr := s_yo_b ok r0 (show r < 6 by omega)
  have yb := s_yo_b ok b0 (show b < 6 by omega)
  have al := s_all_b ok
  have yr2 := s_yo_b okp r0 (show r < 6 by omega)
  have yb2 := s_yo_b okp b0 (show b < 6 by omega)
  have al2 := s_all_b okp
  have rt := s_rt_b ok r0 (show r < 6 by omega) b0 (show b < 6 by omega) h0 h1
  have wbt := w_best1 ok h4 r0 r1
  have wbs := w_bests ok h4 r0 r1
  have wrg := w_rg_best ok h4 r0 r1
  have wu := w_undoV (ψ := psi) J.nb
  have pr := s_pt_b ok r0 (show r < 6 by omega)
  refine q_aloadn (pc' := 1) 0 dL_would_0 rfl rfl ?_
  refine q_iloadn (pc' := 2) 1 dL_would_1 rfl rfl ?_
  refine q_iconst (pc' := 3) dL_would_2 rfl ?_
  refine q_callVQ (pc' := 6) dL_would_3 rfl lL_24 iX8_ofRow kc0 rfl (c_X8_ofRow (A := A) J (by first | assumption | omega) (by decide)) rfl rfl (Nat.le_of_ble_eq_true rfl) (Nat.le_of_ble_eq_true rfl) (Nat.le_of_ble_eq_true rfl) (fun vq wq hq => ?_)
  obtain ⟨rfl, qS3, rfl, qJ3, qo3⟩ := hq
  have qt3 : s_offM S qS3 := s_offM_t (by assumption) qo3
  show q_Go Γ mL_would 12 0 0 6 [(0, q_r Γ 0), (1, q_i r), (2, q_i b), (3, q_i h), (4, q_i u)] [q_i (s_ofRow (A 151) r 4)] (KC, qS3) (fun v9 w9 => v9 = some (q_i 1) ∧ ∃ S2 A2, w9 = (KC, S2) ∧ s_Jc S2 A2 ∧ A2 151 = A 151 ∧ s_offM S S2)
  refine p_eq (y := s_yo (A 151) r) (wof.2.2.2.2) ?_
  refine q_istore (pc' := 8) (L' := [(5, q_i (s_yo (A 151) r)), (0, q_r Γ 0), (1, q_i r), (2, q_i b), (3, q_i h), (4, q_i u)]) dL_would_6 rfl (by decide) rfl ?_
  refine q_aloadn (pc' := 9) 1 dL_would_8 rfl rfl ?_
  refine q_iloadn (pc' := 10) 3 dL_would_9 rfl rfl ?_
  refine q_iconst (pc' := 11) dL_would_10 rfl ?_
  refine q_callVQ (pc' := 14) dL_would_11 rfl lL_24 iX8_ofRow kc0 rfl (c_X8_ofRow (A := A) qJ3 (by first | assumption | omega) (by decide)) rfl rfl (Nat.le_of_ble_eq_true rfl) (Nat.le_of_ble_eq_true rfl) (Nat.le_of_ble_eq_true rfl) (fun vq wq hq => ?_)
  obtain ⟨rfl, qS11, rfl, qJ11, qo11⟩ := hq
  have qt11 : s_offM S qS11 := s_offM_t (by assumption) qo11
  show q_Go Γ mL_would 12 0 0 14 [(5, q_i (s_yo (A 151) r)), (0, q_r Γ 0), (1, q_i r), (2, q_i b), (3, q_i h), (4, q_i u)] [q_i (s_ofRow (A 151) b 4)] (KC, qS11) (fun v9 w9 => v9 = some (q_i 1) ∧ ∃ S2 A2, w9 = (KC, S2) ∧ s_Jc S2 A2 ∧ A2 151 = A 151 ∧ s_offM S S2)
  refine p_eq (y := s_yo (A 151) b) (wofb.2.2.2.2) ?_
  refine q_istore (pc' := 16) (L' := [(6, q_i (s_yo (A 151) b)), (5, q_i (s_yo (A 151) r)), (0, q_r Γ 0), (1, q_i r), (2, q_i b), (3, q_i h), (4, q_i u)]) dL_would_14 rfl (by decide) rfl ?_
  refine q_aloadn (pc' := 17) 2 dL_would_16 rfl rfl ?_
  refine q_iconst (pc' := 18) dL_would_17 rfl ?_
  refine q_callVQ (pc' := 21) dL_would_18 rfl lL_49 iX8_count kc0 rfl (c_X8_count (A := A) qJ11 (by decide)) rfl rfl (Nat.le_of_ble_eq_true rfl) (Nat.le_of_ble_eq_true rfl) (Nat.le_of_ble_eq_true rfl) (fun vq wq hq => ?_)
  obtain ⟨rfl, qS18, rfl, qJ18, qo18⟩ := hq
  have qt18 : s_offM S qS18 := s_offM_t (by assumption) qo18
  show q_Go Γ mL_would 12 0 0 21 [(6, q_i (s_yo (A 151) b)), (5, q_i (s_yo (A 151) r)), (0, q_r Γ 0), (1, q_i r), (2, q_i b), (3, q_i h), (4, q_i u)] [q_i (s_count (A 151) (A 150 6) (A 150 2) 3)] (KC, qS18) (fun v9 w9 => v9 = some (q_i 1) ∧ ∃ S2 A2, w9 = (KC, S2) ∧ s_Jc S2 A2 ∧ A2 151 = A 151 ∧ s_offM S S2)
  refine p_eq (y := s_all (A 151)) ((w_cn _ _).2.2.2.1) ?_
  refine q_istore (pc' := 23) (L' := [(7, q_i (s_all (A 151))), (6, q_i (s_yo (A 151) b)), (5, q_i (s_yo (A 151) r)), (0, q_r Γ 0), (1, q_i r), (2, q_i b), (3, q_i h), (4, q_i u)]) dL_would_21 rfl (by decide) rfl ?_
  refine q_aloadn (pc' := 24) 3 dL_would_23 rfl rfl ?_
  refine q_iloadn (pc' := 25) 4 dL_would_24 rfl rfl ?_
  refine q_iloadn (pc' := 26) 5 dL_would_25 rfl rfl ?_
  refine q_iloadn (pc' := 27) 6 dL_would_26 rfl rfl ?_
  refine q_iload (pc' := 29) 7 dL_would_27 rfl rfl ?_
  refine q_iconst (pc' := 30) dL_would_29 rfl ?_
  refine q_callVQ (pc' := 33) dL_would_30 rfl lL_52 iX8_worth kc0 rfl (c_X8_worth (A := A) qJ18 (by first | assumption | omega) (by first | assumption | omega) (by first | assumption | omega) (by first | assumption | omega) (by decide)) rfl rfl (Nat.le_of_ble_eq_true rfl) (Nat.le_of_ble_eq_true rfl) (Nat.le_of_ble_eq_true rfl) (fun vq wq hq => ?_)
  obtain ⟨rfl, qS30, rfl, qJ30, qo30⟩ := hq
  have qt30 : s_offM S qS30 := s_offM_t (by assumption) qo30
  show q_Go Γ mL_would 12 0 0 33 [(7, q_i (s_all (A 151))), (6, q_i (s_yo (A 151) b)), (5, q_i (s_yo (A 151) r)), (0, q_r Γ 0), (1, q_i r), (2, q_i b), (3, q_i h), (4, q_i u)] [q_i (s_worth (A 151) r b h u 0)] (KC, qS30) (fun v9 w9 => v9 = some (q_i 1) ∧ ∃ S2 A2, w9 = (KC, S2) ∧ s_Jc S2 A2 ∧ A2 151 = A 151 ∧ s_offM S S2)
  refine p_eq (y := 1000000 + (s_yo psi r - s_yo (A 151) r)) (wo.1) ?_
  refine q_ldc (pc' := 35) dL_would_33 rfl wL_56 ?_
  refine q_isub (pc' := 36) dL_would_35 rfl ?_
  refine q_istore (pc' := 38) (L' := [(8, q_i ((1000000 + (s_yo psi r - s_yo (A 151) r)) - 1000000)), (7, q_i (s_all (A 151))), (6, q_i (s_yo (A 151) b)), (5, q_i (s_yo (A 151) r)), (0, q_r Γ 0), (1, q_i r), (2, q_i b), (3, q_i h), (4, q_i u)]) dL_would_36 rfl (by decide) rfl ?_
  refine q_aloadn (pc' := 39) 4 dL_would_38 rfl rfl ?_
  refine q_iloadn (pc' := 40) 5 dL_would_39 rfl rfl ?_
  refine q_iloadn (pc' := 41) 6 dL_would_40 rfl rfl ?_
  refine q_iloadn (pc' := 42) 7 dL_would_41 rfl rfl ?_
  refine q_iload (pc' := 44) 8 dL_would_42 rfl rfl ?_
  refine q_iconst (pc' := 45) dL_would_44 rfl ?_
  refine q_callVQ (pc' := 48) dL_would_45 rfl lL_52 iX8_worth kc0 rfl (c_X8_worth (A := A) qJ30 (by first | assumption | omega) (by first | assumption | omega) (by first | assumption | omega) (by first | assumption | omega) (by decide)) rfl rfl (Nat.le_of_ble_eq_true rfl) (Nat.le_of_ble_eq_true rfl) (Nat.le_of_ble_eq_true rfl) (fun vq wq hq => ?_)
  obtain ⟨rfl, qS45, rfl, qJ45, qo45⟩ := hq
  have qt45 : s_offM S qS45 := s_offM_t (by assumption) qo45
  show q_Go Γ mL_would 12 0 0 48 [(8, q_i ((1000000 + (s_yo psi r - s_yo (A 151) r)) - 1000000)), (7, q_i (s_all (A 151))), (6, q_i (s_yo (A 151) b)), (5, q_i (s_yo (A 151) r)), (0, q_r Γ 0), (1, q_i r), (2, q_i b), (3, q_i h), (4, q_i u)] [q_i (s_worth (A 151) r b h u 1)] (KC, qS45) (fun v9 w9 => v9 = some (q_i 1) ∧ ∃ S2 A2, w9 = (KC, S2) ∧ s_Jc S2 A2 ∧ A2 151 = A 151 ∧ s_offM S S2)
  refine p_eq (y := 1000000 + (s_yo (A 151) b - s_yo psi b)) (wo.2.1) ?_
  refine q_ldc (pc' := 50) dL_would_48 rfl wL_56 ?_
  refine q_isub (pc' := 51) dL_would_50 rfl ?_
  refine q_istore (pc' := 53) (L' := [(9, q_i ((1000000 + (s_yo (A 151) b - s_yo psi b)) - 1000000)), (8, q_i ((1000000 + (s_yo psi r - s_yo (A 151) r)) - 1000000)), (7, q_i (s_all (A 151))), (6, q_i (s_yo (A 151) b)), (5, q_i (s_yo (A 151) r)), (0, q_r Γ 0), (1, q_i r), (2, q_i b), (3, q_i h), (4, q_i u)]) dL_would_51 rfl (by decide) rfl ?_
  refine q_aloadn (pc' := 54) 5 dL_would_53 rfl rfl ?_
  refine q_iloadn (pc' := 55) 6 dL_would_54 rfl rfl ?_
  refine q_iloadn (pc' := 56) 7 dL_would_55 rfl rfl ?_
  refine q_iloadn (pc' := 57) 8 dL_would_56 rfl rfl ?_
  refine q_iload (pc' := 59) 9 dL_would_57 rfl rfl ?_
  refine q_iconst (pc' := 60) dL_would_59 rfl ?_
  refine q_callVQ (pc' := 63) dL_would_60 rfl lL_52 iX8_worth kc0 rfl (c_X8_worth (A := A) qJ45 (by first | assumption | omega) (by first | assumption | omega) (by first | assumption | omega) (by first | assumption | omega) (by decide)) rfl rfl (Nat.le_of_ble_eq_true rfl) (Nat.le_of_ble_eq_true rfl) (Nat.le_of_ble_eq_true rfl) (fun vq wq hq => ?_)
  obtain ⟨rfl, qS60, rfl, qJ60, qo60⟩ := hq
  have qt60 : s_offM S qS60 := s_offM_t (by assumption) qo60
  show q_Go Γ mL_would 12 0 0 63 [(9, q_i ((1000000 + (s_yo (A 151) b - s_yo psi b)) - 1000000)), (8, q_i ((1000000 + (s_yo psi r - s_yo (A 151) r)) - 1000000)), (7, q_i (s_all (A 151))), (6, q_i (s_yo (A 151) b)), (5, q_i (s_yo (A 151) r)), (0, q_r Γ 0), (1, q_i r), (2, q_i b), (3, q_i h), (4, q_i u)] [q_i (s_worth (A 151) r b h u 2)] (KC, qS60) (fun v9 w9 => v9 = some (q_i 1) ∧ ∃ S2 A2, w9 = (KC, S2) ∧ s_Jc S2 A2 ∧ A2 151 = A 151 ∧ s_offM S S2)
  refine p_eq (y := 1000000 + (s_all psi - s_all (A 151))) (wo.2.2) ?_
  refine q_ldc (pc' := 65) dL_would_63 rfl wL_56 ?_
  refine q_isub (pc' := 66) dL_would_65 rfl ?_
  refine q_istore (pc' := 68) (L' := [(10, q_i ((1000000 + (s_all psi - s_all (A 151))) - 1000000)), (9, q_i ((1000000 + (s_yo (A 151) b - s_yo psi b)) - 1000000)), (8, q_i ((1000000 + (s_yo psi r - s_yo (A 151) r)) - 1000000)), (7, q_i (s_all (A 151))), (6, q_i (s_yo (A 151) b)), (5, q_i (s_yo (A 151) r)), (0, q_r Γ 0), (1, q_i r), (2, q_i b), (3, q_i h), (4, q_i u)]) dL_would_66 rfl (by decide) rfl ?_
  refine q_aloadn (pc' := 69) 6 dL_would_68 rfl rfl ?_
  refine q_iloadn (pc' := 70) 7 dL_would_69 rfl rfl ?_
  refine q_iloadn (pc' := 71) 8 dL_would_70 rfl rfl ?_
  refine q_iloadn (pc' := 72) 9 dL_would_71 rfl rfl ?_
  refine q_iload (pc' := 74) 10 dL_would_72 rfl rfl ?_
  refine q_callVQ (pc' := 77) dL_would_74 rfl lL_57 iX8_grant kc0 rfl (c_X8_grant (A := A) qJ60 (by first | assumption | omega) (by first | assumption | omega) (by first | assumption | omega) (by first | assumption | omega)) rfl rfl (Nat.le_of_ble_eq_true rfl) (Nat.le_of_ble_eq_true rfl) (Nat.le_of_ble_eq_true rfl) (fun vq wq hq => ?_)
  obtain ⟨rfl, qS74, rfl, qJ74, qo74⟩ := hq
  have qt74 : s_offM S qS74 := s_offM_t (by assumption) qo74
  rw [wgr.2] at qJ74
  show q_Go Γ mL_would 12 0 0 77 [(10, q_i ((1000000 + (s_all psi - s_all (A 151))) - 1000000)), (9, q_i ((1000000 + (s_yo (A 151) b - s_yo psi b)) - 1000000)), (8, q_i ((1000000 + (s_yo psi r - s_yo (A 151) r)) - 1000000)), (7, q_i (s_all (A 151))), (6, q_i (s_yo (A 151) b)), (5, q_i (s_yo (A 151) r)), (0, q_r Γ 0), (1, q_i r), (2, q_i b), (3, q_i h), (4, q_i u)] [q_i (s_grantV (A 151) r b h u)] (KC, qS74) (fun v9 w9 => v9 = some (q_i 1) ∧ ∃ S2 A2, w9 = (KC, S2) ∧ s_Jc S2 A2 ∧ A2 151 = A 151 ∧ s_offM S S2)
  refine p_eq (y := s_rt (A 151) r b h) (wgr.1) ?_
  refine q_if_lt (tgt := 128) (pc' := 80) dL_would_77 rfl rfl (by first | assumption | omega) (fun qc_77 => ?_) (fun qc_77 => ?_)
  · exfalso; omega
  · refine q_aloadn (pc' := 81) 6 dL_would_80 rfl rfl ?_
    refine q_iloadn (pc' := 82) 7 dL_would_81 rfl rfl ?_
    refine q_iconst (pc' := 83) dL_would_82 rfl ?_
    refine q_callVQ (pc' := 86) dL_would_83 rfl lL_24 iX8_ofRow kc0 rfl (c_X8_ofRow (A := (q_w1 (s_rec A) psi)) qJ74 (by first | assumption | omega) (by decide)) rfl rfl (Nat.le_of_ble_eq_true rfl) (Nat.le_of_ble_eq_true rfl) (Nat.le_of_ble_eq_true rfl) (fun vq wq hq => ?_)
    obtain ⟨rfl, qS83, rfl, qJ83, qo83⟩ := hq
    have qt83 : s_offM S qS83 := s_offM_t (by assumption) qo83
    show q_Go Γ mL_would 12 0 0 86 [(10, q_i ((1000000 + (s_all psi - s_all (A 151))) - 1000000)), (9, q_i ((1000000 + (s_yo (A 151) b - s_yo psi b)) - 1000000)), (8, q_i ((1000000 + (s_yo psi r - s_yo (A 151) r)) - 1000000)), (7, q_i (s_all (A 151))), (6, q_i (s_yo (A 151) b)), (5, q_i (s_yo (A 151) r)), (0, q_r Γ 0), (1, q_i r), (2, q_i b), (3, q_i h), (4, q_i u)] [q_i (s_ofRow ((q_w1 (s_rec A) psi) 151) r 4)] (KC, qS83) (fun v9 w9 => v9 = some (q_i 1) ∧ ∃ S2 A2, w9 = (KC, S2) ∧ s_Jc S2 A2 ∧ A2 151 = A 151 ∧ s_offM S S2)
    refine p_eq (y := s_yo psi r) (by rw [q_w1_s]; exact wofp.2.2.2.2) ?_
    refine q_iload (pc' := 88) 5 dL_would_86 rfl rfl ?_
    refine q_iload (pc' := 90) 2 dL_would_88 rfl rfl ?_
    refine q_iadd (pc' := 91) dL_would_90 rfl ?_
    refine p_eq (y := s_yo psi r) (by omega) ?_
    refine w_icmp_ne (tgt := 128) (pc' := 94) dL_would_91 rfl rfl ?_
    refine q_aloadn (pc' := 95) 6 dL_would_94 rfl rfl ?_
    refine q_iloadn (pc' := 96) 8 dL_would_95 rfl rfl ?_
    refine q_iconst (pc' := 97) dL_would_96 rfl ?_
    refine q_callVQ (pc' := 100) dL_would_97 rfl lL_24 iX8_ofRow kc0 rfl (c_X8_ofRow (A := (q_w1 (s_rec A) psi)) qJ83 (by first | assumption | omega) (by decide)) rfl rfl (Nat.le_of_ble_eq_true rfl) (Nat.le_of_ble_eq_true rfl) (Nat.le_of_ble_eq_true rfl) (fun vq wq hq => ?_)
    obtain ⟨rfl, qS97, rfl, qJ97, qo97⟩ := hq
    have qt97 : s_offM S qS97 := s_offM_t (by assumption) qo97
    show q_Go Γ mL_would 12 0 0 100 [(10, q_i ((1000000 + (s_all psi - s_all (A 151))) - 1000000)), (9, q_i ((1000000 + (s_yo (A 151) b - s_yo psi b)) - 1000000)), (8, q_i ((1000000 + (s_yo psi r - s_yo (A 151) r)) - 1000000)), (7, q_i (s_all (A 151))), (6, q_i (s_yo (A 151) b)), (5, q_i (s_yo (A 151) r)), (0, q_r Γ 0), (1, q_i r), (2, q_i b), (3, q_i h), (4, q_i u)] [q_i (s_ofRow ((q_w1 (s_rec A) psi) 151) b 4)] (KC, qS97) (fun v9 w9 => v9 = some (q_i 1) ∧ ∃ S2 A2, w9 = (KC, S2) ∧ s_Jc S2 A2 ∧ A2 151 = A 151 ∧ s_offM S S2)
    refine p_eq (y := s_yo psi b) (by rw [q_w1_s]; exact wofq.2.2.2.2) ?_
    refine q_iload (pc' := 102) 4 dL_would_100 rfl rfl ?_
    refine q_iload (pc' := 104) 1 dL_would_102 rfl rfl ?_
    refine q_isub (pc' := 105) dL_would_104 rfl ?_
    refine p_eq (y := s_yo psi b) (by omega) ?_
    refine w_icmp_ne (tgt := 128) (pc' := 108) dL_would_105 rfl rfl ?_
    refine q_aloadn (pc' := 109) 6 dL_would_108 rfl rfl ?_
    refine q_iconst (pc' := 110) dL_would_109 rfl ?_
    refine q_callVQ (pc' := 113) dL_would_110 rfl lL_49 iX8_count kc0 rfl (c_X8_count (A := (q_w1 (s_rec A) psi)) qJ97 (by decide)) rfl rfl (Nat.le_of_ble_eq_true rfl) (Nat.le_of_ble_eq_true rfl) (Nat.le_of_ble_eq_true rfl) (fun vq wq hq => ?_)
    obtain ⟨rfl, qS110, rfl, qJ110, qo110⟩ := hq
    have qt110 : s_offM S qS110 := s_offM_t (by assumption) qo110
    show q_Go Γ mL_would 12 0 0 113 [(10, q_i ((1000000 + (s_all psi - s_all (A 151))) - 1000000)), (9, q_i ((1000000 + (s_yo (A 151) b - s_yo psi b)) - 1000000)), (8, q_i ((1000000 + (s_yo psi r - s_yo (A 151) r)) - 1000000)), (7, q_i (s_all (A 151))), (6, q_i (s_yo (A 151) b)), (5, q_i (s_yo (A 151) r)), (0, q_r Γ 0), (1, q_i r), (2, q_i b), (3, q_i h), (4, q_i u)] [q_i (s_count ((q_w1 (s_rec A) psi) 151) ((q_w1 (s_rec A) psi) 150 6) ((q_w1 (s_rec A) psi) 150 2) 3)] (KC, qS110) (fun v9 w9 => v9 = some (q_i 1) ∧ ∃ S2 A2, w9 = (KC, S2) ∧ s_Jc S2 A2 ∧ A2 151 = A 151 ∧ s_offM S S2)
    refine p_eq (y := s_all psi) ((w_cn _ _).2.2.2.1.trans (by rw [q_w1_s])) ?_
    refine q_iload (pc' := 115) 3 dL_would_113 rfl rfl ?_
    refine q_iload (pc' := 117) 0 dL_would_115 rfl rfl ?_
    refine q_iadd (pc' := 118) dL_would_117 rfl ?_
    refine p_eq (y := s_all psi) (by omega) ?_
    refine w_icmp_ne (tgt := 128) (pc' := 121) dL_would_118 rfl rfl ?_
    refine q_aloadn (pc' := 122) 6 dL_would_121 rfl rfl ?_
    refine q_callVQ (pc' := 125) dL_would_122 rfl lL_60 iX8_undo kc0 rfl (c_X8_undo (A := (q_w1 (s_rec A) psi)) qJ110 ) rfl rfl (Nat.le_of_ble_eq_true rfl) (Nat.le_of_ble_eq_true rfl) (Nat.le_of_ble_eq_true rfl) (fun vq wq hq => ?_)
    obtain ⟨rfl, qS122, rfl, qJ122, qo122⟩ := hq
    have qt122 : s_offM S qS122 := s_offM_t (by assumption) qo122
    obtain ⟨A2, qK, eA⟩ := w_undo J.nb qJ122
    show q_Go Γ mL_would 12 0 0 125 [(10, q_i ((1000000 + (s_all psi - s_all (A 151))) - 1000000)), (9, q_i ((1000000 + (s_yo (A 151) b - s_yo psi b)) - 1000000)), (8, q_i ((1000000 + (s_yo psi r - s_yo (A 151) r)) - 1000000)), (7, q_i (s_all (A 151))), (6, q_i (s_yo (A 151) b)), (5, q_i (s_yo (A 151) r)), (0, q_r Γ 0), (1, q_i r), (2, q_i b), (3, q_i h), (4, q_i u)] [q_i (s_undoV (q_w1 (s_rec A) psi))] (KC, qS122) (fun v9 w9 => v9 = some (q_i 1) ∧ ∃ S2 A2, w9 = (KC, S2) ∧ s_Jc S2 A2 ∧ A2 151 = A 151 ∧ s_offM S S2)
    refine q_if_ge (tgt := 130) (pc' := 128) dL_would_125 rfl rfl (by first | assumption | omega) (fun qc_125 => ?_) (fun qc_125 => ?_)
    · refine q_aloadn (pc' := 131) 6 dL_would_130 rfl rfl ?_
      refine q_iloadn (pc' := 132) 7 dL_would_131 rfl rfl ?_
      refine q_iconst (pc' := 133) dL_would_132 rfl ?_
      refine q_callVQ (pc' := 136) dL_would_133 rfl lL_64 iX8_bestTilt kc0 rfl (c_X8_bestTilt (A := A2) qK (by first | assumption | omega) (by decide)) rfl rfl (Nat.le_of_ble_eq_true rfl) (Nat.le_of_ble_eq_true rfl) (Nat.le_of_ble_eq_true rfl) (fun vq wq hq => ?_)
      obtain ⟨rfl, qS133, rfl, qJ133, qo133⟩ := hq
      have qt133 : s_offM S qS133 := s_offM_t (by assumption) qo133
      show q_Go Γ mL_would 12 0 0 136 [(10, q_i ((1000000 + (s_all psi - s_all (A 151))) - 1000000)), (9, q_i ((1000000 + (s_yo (A 151) b - s_yo psi b)) - 1000000)), (8, q_i ((1000000 + (s_yo psi r - s_yo (A 151) r)) - 1000000)), (7, q_i (s_all (A 151))), (6, q_i (s_yo (A 151) b)), (5, q_i (s_yo (A 151) r)), (0, q_r Γ 0), (1, q_i r), (2, q_i b), (3, q_i h), (4, q_i u)] [q_i (s_best1 (A2 151) r 0)] (KC, qS133) (fun v9 w9 => v9 = some (q_i 1) ∧ ∃ S2 A2, w9 = (KC, S2) ∧ s_Jc S2 A2 ∧ A2 151 = A 151 ∧ s_offM S S2)
      refine p_eq (y := s_best1 (A 151) r 0) (by rw [eA]) ?_
      refine q_istore (pc' := 138) (L' := [(11, q_i (s_best1 (A 151) r 0)), (10, q_i ((1000000 + (s_all psi - s_all (A 151))) - 1000000)), (9, q_i ((1000000 + (s_yo (A 151) b - s_yo psi b)) - 1000000)), (8, q_i ((1000000 + (s_yo psi r - s_yo (A 151) r)) - 1000000)), (7, q_i (s_all (A 151))), (6, q_i (s_yo (A 151) b)), (5, q_i (s_yo (A 151) r)), (0, q_r Γ 0), (1, q_i r), (2, q_i b), (3, q_i h), (4, q_i u)]) dL_would_136 rfl (by decide) rfl ?_
      refine q_aloadn (pc' := 139) 7 dL_would_138 rfl rfl ?_
      refine q_iloadn (pc' := 140) 8 dL_would_139 rfl rfl ?_
      refine q_iconst (pc' := 141) dL_would_140 rfl ?_
      refine q_callVQ (pc' := 144) dL_would_141 rfl lL_64 iX8_bestTilt kc0 rfl (c_X8_bestTilt (A := A2) qJ133 (by first | assumption | omega) (by decide)) rfl rfl (Nat.le_of_ble_eq_true rfl) (Nat.le_of_ble_eq_true rfl) (Nat.le_of_ble_eq_true rfl) (fun vq wq hq => ?_)
      obtain ⟨rfl, qS141, rfl, qJ141, qo141⟩ := hq
      have qt141 : s_offM S qS141 := s_offM_t (by assumption) qo141
      show q_Go Γ mL_would 12 0 0 144 [(11, q_i (s_best1 (A 151) r 0)), (10, q_i ((1000000 + (s_all psi - s_all (A 151))) - 1000000)), (9, q_i ((1000000 + (s_yo (A 151) b - s_yo psi b)) - 1000000)), (8, q_i ((1000000 + (s_yo psi r - s_yo (A 151) r)) - 1000000)), (7, q_i (s_all (A 151))), (6, q_i (s_yo (A 151) b)), (5, q_i (s_yo (A 151) r)), (0, q_r Γ 0), (1, q_i r), (2, q_i b), (3, q_i h), (4, q_i u)] [q_i (s_best1 (A2 151) r 1)] (KC, qS141) (fun v9 w9 => v9 = some (q_i 1) ∧ ∃ S2 A2, w9 = (KC, S2) ∧ s_Jc S2 A2 ∧ A2 151 = A 151 ∧ s_offM S S2)
      refine p_eq (y := s_best1 (A 151) r 1) (by rw [eA]) ?_
      refine q_istore (pc' := 146) (L' := [(12, q_i (s_best1 (A 151) r 1)), (11, q_i (s_best1 (A 151) r 0)), (10, q_i ((1000000 + (s_all psi - s_all (A 151))) - 1000000)), (9, q_i ((1000000 + (s_yo (A 151) b - s_yo psi b)) - 1000000)), (8, q_i ((1000000 + (s_yo psi r - s_yo (A 151) r)) - 1000000)), (7, q_i (s_all (A 151))), (6, q_i (s_yo (A 151) b)), (5, q_i (s_yo (A 151) r)), (0, q_r Γ 0), (1, q_i r), (2, q_i b), (3, q_i h), (4, q_i u)]) dL_would_144 rfl (by decide) rfl ?_
      refine q_iconst (pc' := 147) dL_would_146 rfl ?_
      refine q_istore (pc' := 149) (L' := [(13, q_i 0), (12, q_i (s_best1 (A 151) r 1)), (11, q_i (s_best1 (A 151) r 0)), (10, q_i ((1000000 + (s_all psi - s_all (A 151))) - 1000000)), (9, q_i ((1000000 + (s_yo (A 151) b - s_yo psi b)) - 1000000)), (8, q_i ((1000000 + (s_yo psi r - s_yo (A 151) r)) - 1000000)), (7, q_i (s_all (A 151))), (6, q_i (s_yo (A 151) b)), (5, q_i (s_yo (A 151) r)), (0, q_r Γ 0), (1, q_i r), (2, q_i b), (3, q_i h), (4, q_i u)]) dL_would_147 rfl (by decide) rfl ?_
      have qlp_149 : ∀ (qn_149 : Nat) (S2 A3 : q_S) (t : Int), (0 ≤ t) → (t ≤ 5) → (s_Jc S2 A3) → (A3 151 = A 151) → (s_offM S S2) → ((5 - t).toNat) = qn_149 → q_Go Γ mL_would 12 0 0 149 [(0, q_r Γ 0), (1, q_i r), (7, q_i (s_all (A 151))), (11, q_i (s_best1 (A 151) r 0)), (12, q_i (s_best1 (A 151) r 1)), (13, q_i t)] [] (KC, S2) (fun v9 w9 => v9 = some (q_i 1) ∧ ∃ S2 A2, w9 = (KC, S2) ∧ s_Jc S2 A2 ∧ A2 151 = A 151 ∧ s_offM S S2) := by
        intro qn_149
        induction qn_149 using Nat.strongRecOn with
        | ind qn_149 qih_149 =>
          intro S2 A3 t qa_149_0 qa_149_1 qa_149_2 qa_149_3 qa_149_4 qhn_149
          subst qhn_149
          refine q_iload (pc' := 151) 5 dL_would_149 rfl rfl ?_
          refine q_iconst (pc' := 152) dL_would_151 rfl ?_
          refine q_icmp_ge (tgt := 224) (pc' := 155) dL_would_152 rfl rfl (by first | assumption | omega) (by decide) (fun qc_152 => ?_) (fun qc_152 => ?_)
          · refine q_aloadn (pc' := 225) 0 dL_would_224 rfl rfl ?_
            refine q_bipush (pc' := 227) dL_would_225 rfl rfl ?_
            refine q_callVQ (pc' := 230) dL_would_227 rfl lL_70 iX8_bestTilts kc0 rfl (c_X8_bestTilts (A := A3) qa_149_2 (by decide)) rfl rfl (Nat.le_of_ble_eq_true rfl) (Nat.le_of_ble_eq_true rfl) (Nat.le_of_ble_eq_true rfl) (fun vq wq hq => ?_)
            obtain ⟨rfl, qS227, rfl, qJ227, qo227⟩ := hq
            have qt227 : s_offM S qS227 := s_offM_t (by assumption) qo227
            show q_Go Γ mL_would 12 0 0 230 [(0, q_r Γ 0), (1, q_i r), (7, q_i (s_all (A 151))), (11, q_i (s_best1 (A 151) r 0)), (12, q_i (s_best1 (A 151) r 1)), (13, q_i t)] [q_i (s_best (A3 151) 9)] (KC, qS227) (fun v9 w9 => v9 = some (q_i 1) ∧ ∃ S2 A2, w9 = (KC, S2) ∧ s_Jc S2 A2 ∧ A2 151 = A 151 ∧ s_offM S S2)
            refine p_eq (y := s_best (A 151) 9) (by rw [qa_149_3]) ?_
            refine q_iload (pc' := 232) 4 dL_would_230 rfl rfl ?_
            refine q_icmp_lt (tgt := 249) (pc' := 235) dL_would_232 rfl rfl (by first | assumption | omega) (by first | assumption | omega) (fun qc_232 => ?_) (fun qc_232 => ?_)
            · exfalso; omega
            · refine q_aloadn (pc' := 236) 0 dL_would_235 rfl rfl ?_
              refine q_iconst (pc' := 237) dL_would_236 rfl ?_
              refine q_callVQ (pc' := 240) dL_would_237 rfl lL_49 iX8_count kc0 rfl (c_X8_count (A := A3) qJ227 (by decide)) rfl rfl (Nat.le_of_ble_eq_true rfl) (Nat.le_of_ble_eq_true rfl) (Nat.le_of_ble_eq_true rfl) (fun vq wq hq => ?_)
              obtain ⟨rfl, qS237, rfl, qJ237, qo237⟩ := hq
              have qt237 : s_offM S qS237 := s_offM_t (by assumption) qo237
              show q_Go Γ mL_would 12 0 0 240 [(0, q_r Γ 0), (1, q_i r), (7, q_i (s_all (A 151))), (11, q_i (s_best1 (A 151) r 0)), (12, q_i (s_best1 (A 151) r 1)), (13, q_i t)] [q_i (s_count (A3 151) (A3 150 6) (A3 150 2) 3)] (KC, qS237) (fun v9 w9 => v9 = some (q_i 1) ∧ ∃ S2 A2, w9 = (KC, S2) ∧ s_Jc S2 A2 ∧ A2 151 = A 151 ∧ s_offM S S2)
              refine p_eq (y := s_all (A 151)) ((w_cn _ _).2.2.2.1.trans (by rw [qa_149_3])) ?_
              refine q_iload (pc' := 242) 2 dL_would_240 rfl rfl ?_
              refine w_icmp_ne (tgt := 249) (pc' := 245) dL_would_242 rfl rfl ?_
              refine q_iconst (pc' := 246) dL_would_245 rfl ?_
              refine q_goto (pc' := 250) dL_would_246 rfl ?_
              exact q_iret dL_would_250 rfl rfl ⟨rfl, _, _, rfl, qJ237, qa_149_3, qt237⟩
          · have ok3 : s_ok (A3 151) := by rw [qa_149_3]; exact ok
            have wti := w_ti (A := A3) ok3 (r := r) (u := t) (by rw [qa_149_3]; unfold s_wTilt; omega)
            have wu3 := w_undoV (ψ := s_set (A3 151) (15 + 4 * r + 2) t) qa_149_2.nb
            have wtt := wbt.2 t (by omega) (by omega)
            have alt := s_all_b (s_ok_tilt ok r0 (show r < 6 by omega) (show 0 ≤ t by omega) (show t ≤ 4 by omega))
            refine q_aloadn (pc' := 156) 0 dL_would_155 rfl rfl ?_
            refine q_iloadn (pc' := 157) 1 dL_would_156 rfl rfl ?_
            refine q_iload (pc' := 159) 5 dL_would_157 rfl rfl ?_
            refine q_callVQ (pc' := 162) dL_would_159 rfl lL_67 iX8_tilt kc0 rfl (c_X8_tilt (A := A3) qa_149_2 (by first | assumption | omega) (by first | assumption | omega)) rfl rfl (Nat.le_of_ble_eq_true rfl) (Nat.le_of_ble_eq_true rfl) (Nat.le_of_ble_eq_true rfl) (fun vq wq hq => ?_)
            obtain ⟨rfl, qS159, rfl, qJ159, qo159⟩ := hq
            have qt159 : s_offM S qS159 := s_offM_t (by assumption) qo159
            rw [wti.2] at qJ159
            show q_Go Γ mL_would 12 0 0 162 [(0, q_r Γ 0), (1, q_i r), (7, q_i (s_all (A 151))), (11, q_i (s_best1 (A 151) r 0)), (12, q_i (s_best1 (A 151) r 1)), (13, q_i t)] [q_i (s_tiltV (A3 151) r t)] (KC, qS159) (fun v9 w9 => v9 = some (q_i 1) ∧ ∃ S2 A2, w9 = (KC, S2) ∧ s_Jc S2 A2 ∧ A2 151 = A 151 ∧ s_offM S S2)
            refine p_eq (y := s_pt (A 151) r 2) (by rw [wti.1, qa_149_3]) ?_
            refine q_if_ge (tgt := 167) (pc' := 165) dL_would_162 rfl rfl (by first | assumption | omega) (fun qc_162 => ?_) (fun qc_162 => ?_)
            · refine q_aloadn (pc' := 168) 0 dL_would_167 rfl rfl ?_
              refine q_iconst (pc' := 169) dL_would_168 rfl ?_
              refine q_callVQ (pc' := 172) dL_would_169 rfl lL_49 iX8_count kc0 rfl (c_X8_count (A := (q_w1 (s_rec A3) (s_set (A3 151) (15 + 4 * r + 2) t))) qJ159 (by decide)) rfl rfl (Nat.le_of_ble_eq_true rfl) (Nat.le_of_ble_eq_true rfl) (Nat.le_of_ble_eq_true rfl) (fun vq wq hq => ?_)
              obtain ⟨rfl, qS169, rfl, qJ169, qo169⟩ := hq
              have qt169 : s_offM S qS169 := s_offM_t (by assumption) qo169
              show q_Go Γ mL_would 12 0 0 172 [(0, q_r Γ 0), (1, q_i r), (7, q_i (s_all (A 151))), (11, q_i (s_best1 (A 151) r 0)), (12, q_i (s_best1 (A 151) r 1)), (13, q_i t)] [q_i (s_count ((q_w1 (s_rec A3) (s_set (A3 151) (15 + 4 * r + 2) t)) 151) ((q_w1 (s_rec A3) (s_set (A3 151) (15 + 4 * r + 2) t)) 150 6) ((q_w1 (s_rec A3) (s_set (A3 151) (15 + 4 * r + 2) t)) 150 2) 3)] (KC, qS169) (fun v9 w9 => v9 = some (q_i 1) ∧ ∃ S2 A2, w9 = (KC, S2) ∧ s_Jc S2 A2 ∧ A2 151 = A 151 ∧ s_offM S S2)
              refine p_eq (y := s_all (s_set (A 151) (15 + 4 * r + 2) t)) ((w_cn _ _).2.2.2.1.trans (by rw [q_w1_s, qa_149_3])) ?_
              refine q_istore (pc' := 174) (L' := [(14, q_i (s_all (s_set (A 151) (15 + 4 * r + 2) t))), (0, q_r Γ 0), (1, q_i r), (7, q_i (s_all (A 151))), (11, q_i (s_best1 (A 151) r 0)), (12, q_i (s_best1 (A 151) r 1)), (13, q_i t)]) dL_would_172 rfl (by decide) rfl ?_
              refine q_aloadn (pc' := 175) 1 dL_would_174 rfl rfl ?_
              refine q_callVQ (pc' := 178) dL_would_175 rfl lL_60 iX8_undo kc0 rfl (c_X8_undo (A := (q_w1 (s_rec A3) (s_set (A3 151) (15 + 4 * r + 2) t))) qJ169 ) rfl rfl (Nat.le_of_ble_eq_true rfl) (Nat.le_of_ble_eq_true rfl) (Nat.le_of_ble_eq_true rfl) (fun vq wq hq => ?_)
              obtain ⟨rfl, qS175, rfl, qJ175, qo175⟩ := hq
              have qt175 : s_offM S qS175 := s_offM_t (by assumption) qo175
              obtain ⟨A4, qK2, eA2⟩ := w_undo qa_149_2.nb qJ175
              show q_Go Γ mL_would 12 0 0 178 [(14, q_i (s_all (s_set (A 151) (15 + 4 * r + 2) t))), (0, q_r Γ 0), (1, q_i r), (7, q_i (s_all (A 151))), (11, q_i (s_best1 (A 151) r 0)), (12, q_i (s_best1 (A 151) r 1)), (13, q_i t)] [q_i (s_undoV (q_w1 (s_rec A3) (s_set (A3 151) (15 + 4 * r + 2) t)))] (KC, qS175) (fun v9 w9 => v9 = some (q_i 1) ∧ ∃ S2 A2, w9 = (KC, S2) ∧ s_Jc S2 A2 ∧ A2 151 = A 151 ∧ s_offM S S2)
              refine q_if_lt (tgt := 216) (pc' := 181) dL_would_178 rfl rfl (by first | assumption | omega) (fun qc_178 => ?_) (fun qc_178 => ?_)
              · exfalso; omega
              · refine q_iload (pc' := 183) 0 dL_would_181 rfl rfl ?_
                refine q_iload (pc' := 185) 5 dL_would_183 rfl rfl ?_
                refine q_icmp_gt (tgt := 216) (pc' := 188) dL_would_185 rfl rfl (by first | assumption | omega) (by first | assumption | omega) (fun qc_185 => ?_) (fun qc_185 => ?_)
                · exfalso; omega
                · refine q_iload (pc' := 190) 6 dL_would_188 rfl rfl ?_
                  refine q_iload (pc' := 192) 4 dL_would_190 rfl rfl ?_
                  refine q_icmp_ge (tgt := 202) (pc' := 195) dL_would_192 rfl rfl (by first | assumption | omega) (by first | assumption | omega) (fun qc_192 => ?_) (fun qc_192 => ?_)
                  · refine q_iload (pc' := 204) 6 dL_would_202 rfl rfl ?_
                    refine q_iload (pc' := 206) 4 dL_would_204 rfl rfl ?_
                    refine q_icmp_ne (tgt := 218) (pc' := 209) dL_would_206 rfl rfl (by first | assumption | omega) (by first | assumption | omega) (fun qc_206 => ?_) (fun qc_206 => ?_)
                    · refine q_iinc (pc' := 221) 6 (L' := [(13, q_i (t + 1)), (14, q_i (s_all (s_set (A 151) (15 + 4 * r + 2) t))), (0, q_r Γ 0), (1, q_i r), (7, q_i (s_all (A 151))), (11, q_i (s_best1 (A 151) r 0)), (12, q_i (s_best1 (A 151) r 1))]) dL_would_218 rfl rfl (by decide) rfl ?_
                      refine q_goto (pc' := 149) dL_would_221 rfl ?_
                      refine p_sub [2, 3, 4, 5, 6, 0] rfl ?_
                      exact qih_149 _ (by omega) _ A4 _ (by first | assumption | omega) (by first | assumption | omega) (by exact qK2) (by exact eA2.trans qa_149_3) (by exact qt175) rfl
                    · refine q_iload (pc' := 211) 0 dL_would_209 rfl rfl ?_
                      refine q_iload (pc' := 213) 5 dL_would_211 rfl rfl ?_
                      refine q_icmp_eq (tgt := 218) (pc' := 216) dL_would_213 rfl rfl (by first | assumption | omega) (by first | assumption | omega) (fun qc_213 => ?_) (fun qc_213 => ?_)
                      · refine q_iinc (pc' := 221) 6 (L' := [(13, q_i (t + 1)), (14, q_i (s_all (s_set (A 151) (15 + 4 * r + 2) t))), (0, q_r Γ 0), (1, q_i r), (7, q_i (s_all (A 151))), (11, q_i (s_best1 (A 151) r 0)), (12, q_i (s_best1 (A 151) r 1))]) dL_would_218 rfl rfl (by decide) rfl ?_
                        refine q_goto (pc' := 149) dL_would_221 rfl ?_
                        refine p_sub [2, 3, 4, 5, 6, 0] rfl ?_
                        exact qih_149 _ (by omega) _ A4 _ (by first | assumption | omega) (by first | assumption | omega) (by exact qK2) (by exact eA2.trans qa_149_3) (by exact qt175) rfl
                      · exfalso; omega
                  · refine q_iload (pc' := 197) 0 dL_would_195 rfl rfl ?_
                    refine q_iload (pc' := 199) 5 dL_would_197 rfl rfl ?_
                    refine q_icmp_eq (tgt := 216) (pc' := 202) dL_would_199 rfl rfl (by first | assumption | omega) (by first | assumption | omega) (fun qc_199 => ?_) (fun qc_199 => ?_)
                    · exfalso; omega
                    · refine q_iload (pc' := 204) 6 dL_would_202 rfl rfl ?_
                      refine q_iload (pc' := 206) 4 dL_would_204 rfl rfl ?_
                      refine q_icmp_ne (tgt := 218) (pc' := 209) dL_would_206 rfl rfl (by first | assumption | omega) (by first | assumption | omega) (fun qc_206_1 => ?_) (fun qc_206_1 => ?_)
                      · refine q_iinc (pc' := 221) 6 (L' := [(13, q_i (t + 1)), (14, q_i (s_all (s_set (A 151) (15 + 4 * r + 2) t))), (0, q_r Γ 0), (1, q_i r), (7, q_i (s_all (A 151))), (11, q_i (s_best1 (A 151) r 0)), (12, q_i (s_best1 (A 151) r 1))]) dL_would_218 rfl rfl (by decide) rfl ?_
                        refine q_goto (pc' := 149) dL_would_221 rfl ?_
                        refine p_sub [2, 3, 4, 5, 6, 0] rfl ?_
                        exact qih_149 _ (by omega) _ A4 _ (by first | assumption | omega) (by first | assumption | omega) (by exact qK2) (by exact eA2.trans qa_149_3) (by exact qt175) rfl
                      · refine q_iload (pc' := 211) 0 dL_would_209 rfl rfl ?_
                        refine q_iload (pc' := 213) 5 dL_would_211 rfl rfl ?_
                        refine q_icmp_eq (tgt := 218) (pc' := 216) dL_would_213 rfl rfl (by first | assumption | omega) (by first | assumption | omega) (fun qc_213_1 => ?_) (fun qc_213_1 => ?_)
                        · refine q_iinc (pc' := 221) 6 (L' := [(13, q_i (t + 1)), (14, q_i (s_all (s_set (A 151) (15 + 4 * r + 2) t))), (0, q_r Γ 0), (1, q_i r), (7, q_i (s_all (A 151))), (11, q_i (s_best1 (A 151) r 0)), (12, q_i (s_best1 (A 151) r 1))]) dL_would_218 rfl rfl (by decide) rfl ?_
                          refine q_goto (pc' := 149) dL_would_221 rfl ?_
                          refine p_sub [2, 3, 4, 5, 6, 0] rfl ?_
                          exact qih_149 _ (by omega) _ A4 _ (by first | assumption | omega) (by first | assumption | omega) (by exact qK2) (by exact eA2.trans qa_149_3) (by exact qt175) rfl
                        · exfalso; omega
            · exfalso; omega
      refine p_sub [9, 10, 6, 2, 1, 0] rfl ?_
      exact qlp_149 _ _ A2 _ (by first | assumption | omega) (by first | assumption | omega) (by exact qJ141) (by exact eA) (by exact qt141) rfl
    · exfalso; omega
