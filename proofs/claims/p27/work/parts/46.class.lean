set_option maxRecDepth 20000 in
set_option maxHeartbeats 4000000 in
theorem c_X4_copyFrom {Γ : q_G} {S : q_S} {c b : Nat} (hO : s_cO c) (hP : s_cO b) : q_Sp Γ mX4_copyFrom 1 0 0 [q_r Γ c, q_r Γ b] (KC, S) (q_ev none (KC, s_cO2 S c b)) := by
  show q_Go Γ mX4_copyFrom 1 0 0 0 [(0, q_r Γ c), (1, q_r Γ b)] [] (KC, S) (q_ev none (KC, s_cO2 S c b))
  have kO := hO.1
  have kV := hO.2.1
  have kT := hO.2.2
  have lO := hP.1
  have lV := hP.2.1
  refine q_aloadn (pc' := 1) 0 dX4_copyFrom_0 rfl rfl ?_
  refine q_aloadn (pc' := 2) 1 dX4_copyFrom_1 rfl rfl ?_
  refine p_getJ (pc' := 5) (kz := 0) dX4_copyFrom_2 rfl fX4_9 lO rfl rfl (fun qy_2 eqy_2 rqy_2 => ?_)
  rw [eqy_2]
  refine p_putJ (pc' := 8) (kz := 0) dX4_copyFrom_5 rfl fX4_9 kO rfl rfl (rfl) (rfl) (by first | assumption | exact s_cO8 | exact s_cO11 | omega) ?_
  refine q_aloadn (pc' := 9) 1 dX4_copyFrom_8 rfl rfl ?_
  refine p_getR (pc' := 12) (f := b + 1) dX4_copyFrom_9 rfl fX4_15 lO rfl ?_
  refine q_iconst (pc' := 13) dX4_copyFrom_12 rfl ?_
  refine q_aloadn (pc' := 14) 0 dX4_copyFrom_13 rfl rfl ?_
  refine p_getR (pc' := 17) (f := c + 1) dX4_copyFrom_14 rfl fX4_15 kO rfl ?_
  refine q_iconst (pc' := 18) dX4_copyFrom_17 rfl ?_
  refine q_bipush (pc' := 20) dX4_copyFrom_18 rfl rfl ?_
  refine p_copy (pc' := 23) dX4_copyFrom_20 rfl wX4_22 (Nat.le_of_ble_eq_true rfl) (Nat.le_of_ble_eq_true rfl) lV kV (by first | assumption | exact s_cO8 | exact s_cO11 | omega) (by first | assumption | exact s_cO8 | exact s_cO11 | omega) (by first | assumption | exact s_cO8 | exact s_cO11 | omega) (by first | assumption | exact s_cO8 | exact s_cO11 | omega) (by first | assumption | exact s_cO8 | exact s_cO11 | omega) (by decide) (by decide) ?_
  refine p_vret dX4_copyFrom_23 rfl ?_
  · rfl
set_option maxRecDepth 20000 in
set_option maxHeartbeats 4000000 in
theorem c_X0_copyFrom {Γ : q_G} {S : q_S} {f g : Nat} (hbf : s_bF f) (hbg : s_bF g) (hd : f + 12 < g ∨ g + 12 < f) : q_Sp Γ mX0_copyFrom 2 0 0 [q_r Γ f, q_r Γ g] (KC, S) (q_ev none (KC, s_cpF S f g)) := by
  show q_Go Γ mX0_copyFrom 2 0 0 0 [(0, q_r Γ f), (1, q_r Γ g)] [] (KC, S) (q_ev none (KC, s_cpF S f g))
  obtain ⟨ka0, ka1, ka2, ka3, ka4, ka5, ka6, ka7, ka10⟩ := hbf
  obtain ⟨kb0, kb1, kb2, kb3, kb4, kb5, kb6, kb7, kb10⟩ := hbg
  refine q_aloadn (pc' := 1) 0 dX0_copyFrom_0 rfl rfl ?_
  refine q_aloadn (pc' := 2) 1 dX0_copyFrom_1 rfl rfl ?_
  refine p_getJ (pc' := 5) (kz := 0) dX0_copyFrom_2 rfl fX0_9 kb0 rfl rfl (fun qy_2 eqy_2 rqy_2 => ?_)
  rw [eqy_2]
  refine p_putJ (pc' := 8) (kz := 0) dX0_copyFrom_5 rfl fX0_9 ka0 rfl rfl (rfl) (rfl) (by first | assumption | omega | decide) ?_
  refine q_aloadn (pc' := 9) 1 dX0_copyFrom_8 rfl rfl ?_
  refine p_getR (pc' := 12) (f := g + 1) dX0_copyFrom_9 rfl fX0_15 kb0 rfl ?_
  refine q_iconst (pc' := 13) dX0_copyFrom_12 rfl ?_
  refine q_aloadn (pc' := 14) 0 dX0_copyFrom_13 rfl rfl ?_
  refine p_getR (pc' := 17) (f := f + 1) dX0_copyFrom_14 rfl fX0_15 ka0 rfl ?_
  refine q_iconst (pc' := 18) dX0_copyFrom_17 rfl ?_
  refine q_bipush (pc' := 20) dX0_copyFrom_18 rfl rfl ?_
  refine p_copy (pc' := 23) dX0_copyFrom_20 rfl wX0_50 (Nat.le_of_ble_eq_true rfl) (Nat.le_of_ble_eq_true rfl) kb1 ka1 (by first | assumption | omega | decide) (by first | assumption | omega | decide) (by first | assumption | omega | decide) (by first | assumption | omega | decide) (by first | assumption | omega | decide) (by decide) (by decide) ?_
  refine q_aloadn (pc' := 24) 1 dX0_copyFrom_23 rfl rfl ?_
  refine p_getR (pc' := 27) (f := g + 2) dX0_copyFrom_24 rfl fX0_19 kb0 rfl ?_
  refine q_iconst (pc' := 28) dX0_copyFrom_27 rfl ?_
  refine q_aloadn (pc' := 29) 0 dX0_copyFrom_28 rfl rfl ?_
  refine p_getR (pc' := 32) (f := f + 2) dX0_copyFrom_29 rfl fX0_19 ka0 rfl ?_
  refine q_iconst (pc' := 33) dX0_copyFrom_32 rfl ?_
  refine q_bipush (pc' := 35) dX0_copyFrom_33 rfl rfl ?_
  refine p_copy (pc' := 38) dX0_copyFrom_35 rfl wX0_50 (Nat.le_of_ble_eq_true rfl) (Nat.le_of_ble_eq_true rfl) kb2 ka2 (by first | assumption | omega | decide) (by first | assumption | omega | decide) (by first | assumption | omega | decide) (by first | assumption | omega | decide) (by first | assumption | omega | decide) (by decide) (by decide) ?_
  refine q_aloadn (pc' := 39) 1 dX0_copyFrom_38 rfl rfl ?_
  refine p_getR (pc' := 42) (f := g + 3) dX0_copyFrom_39 rfl fX0_22 kb0 rfl ?_
  refine q_iconst (pc' := 43) dX0_copyFrom_42 rfl ?_
  refine q_aloadn (pc' := 44) 0 dX0_copyFrom_43 rfl rfl ?_
  refine p_getR (pc' := 47) (f := f + 3) dX0_copyFrom_44 rfl fX0_22 ka0 rfl ?_
  refine q_iconst (pc' := 48) dX0_copyFrom_47 rfl ?_
  refine q_bipush (pc' := 50) dX0_copyFrom_48 rfl rfl ?_
  refine p_copy (pc' := 53) dX0_copyFrom_50 rfl wX0_50 (Nat.le_of_ble_eq_true rfl) (Nat.le_of_ble_eq_true rfl) kb3 ka3 (by first | assumption | omega | decide) (by first | assumption | omega | decide) (by first | assumption | omega | decide) (by first | assumption | omega | decide) (by first | assumption | omega | decide) (by decide) (by decide) ?_
  refine q_aloadn (pc' := 54) 1 dX0_copyFrom_53 rfl rfl ?_
  refine p_getR (pc' := 57) (f := g + 4) dX0_copyFrom_54 rfl fX0_25 kb0 rfl ?_
  refine q_iconst (pc' := 58) dX0_copyFrom_57 rfl ?_
  refine q_aloadn (pc' := 59) 0 dX0_copyFrom_58 rfl rfl ?_
  refine p_getR (pc' := 62) (f := f + 4) dX0_copyFrom_59 rfl fX0_25 ka0 rfl ?_
  refine q_iconst (pc' := 63) dX0_copyFrom_62 rfl ?_
  refine q_bipush (pc' := 65) dX0_copyFrom_63 rfl rfl ?_
  refine p_copy (pc' := 68) dX0_copyFrom_65 rfl wX0_50 (Nat.le_of_ble_eq_true rfl) (Nat.le_of_ble_eq_true rfl) kb4 ka4 (by first | assumption | omega | decide) (by first | assumption | omega | decide) (by first | assumption | omega | decide) (by first | assumption | omega | decide) (by first | assumption | omega | decide) (by decide) (by decide) ?_
  refine q_aloadn (pc' := 69) 1 dX0_copyFrom_68 rfl rfl ?_
  refine p_getR (pc' := 72) (f := g + 5) dX0_copyFrom_69 rfl fX0_28 kb0 rfl ?_
  refine q_iconst (pc' := 73) dX0_copyFrom_72 rfl ?_
  refine q_aloadn (pc' := 74) 0 dX0_copyFrom_73 rfl rfl ?_
  refine p_getR (pc' := 77) (f := f + 5) dX0_copyFrom_74 rfl fX0_28 ka0 rfl ?_
  refine q_iconst (pc' := 78) dX0_copyFrom_77 rfl ?_
  refine q_bipush (pc' := 80) dX0_copyFrom_78 rfl rfl ?_
  refine p_copy (pc' := 83) dX0_copyFrom_80 rfl wX0_50 (Nat.le_of_ble_eq_true rfl) (Nat.le_of_ble_eq_true rfl) kb5 ka5 (by first | assumption | omega | decide) (by first | assumption | omega | decide) (by first | assumption | omega | decide) (by first | assumption | omega | decide) (by first | assumption | omega | decide) (by decide) (by decide) ?_
  refine q_aloadn (pc' := 84) 0 dX0_copyFrom_83 rfl rfl ?_
  refine q_aloadn (pc' := 85) 1 dX0_copyFrom_84 rfl rfl ?_
  refine p_getJ (pc' := 88) (kz := 6) dX0_copyFrom_85 rfl fX0_31 kb0 rfl rfl (fun qy_85 eqy_85 rqy_85 => ?_)
  have e85 : qy_85 = S g 6 := by rw [eqy_85, q_cp_ne (by omega), q_cp_ne (by omega), q_cp_ne (by omega), q_cp_ne (by omega), q_cp_ne (by omega), q_up_ne (by omega)]
  rw [e85]
  refine p_putJ (pc' := 91) (kz := 6) dX0_copyFrom_88 rfl fX0_31 ka0 rfl rfl (rfl) (rfl) (by first | assumption | omega | decide) ?_
  refine q_aloadn (pc' := 92) 1 dX0_copyFrom_91 rfl rfl ?_
  refine p_getR (pc' := 95) (f := g + 6) dX0_copyFrom_92 rfl fX0_34 kb0 rfl ?_
  refine q_iconst (pc' := 96) dX0_copyFrom_95 rfl ?_
  refine q_aloadn (pc' := 97) 0 dX0_copyFrom_96 rfl rfl ?_
  refine p_getR (pc' := 100) (f := f + 6) dX0_copyFrom_97 rfl fX0_34 ka0 rfl ?_
  refine q_iconst (pc' := 101) dX0_copyFrom_100 rfl ?_
  refine q_sipush (pc' := 104) dX0_copyFrom_101 rfl rfl ?_
  refine p_copy (pc' := 107) dX0_copyFrom_104 rfl wX0_50 (Nat.le_of_ble_eq_true rfl) (Nat.le_of_ble_eq_true rfl) kb6 ka6 (by first | assumption | omega | decide) (by first | assumption | omega | decide) (by first | assumption | omega | decide) (by first | assumption | omega | decide) (by first | assumption | omega | decide) (by decide) (by decide) ?_
  refine q_aloadn (pc' := 108) 0 dX0_copyFrom_107 rfl rfl ?_
  refine p_getR (pc' := 111) (f := f + 7) dX0_copyFrom_108 rfl fX0_40 ka0 rfl ?_
  refine q_aloadn (pc' := 112) 1 dX0_copyFrom_111 rfl rfl ?_
  refine p_getR (pc' := 115) (f := g + 7) dX0_copyFrom_112 rfl fX0_40 kb0 rfl ?_
  refine q_callVV (pc' := 118) dX0_copyFrom_115 rfl lX0_56 iX4_copyFrom ka7.1 rfl (c_X4_copyFrom (by first | assumption | omega | decide) (by first | assumption | omega | decide)) rfl rfl (Nat.le_of_ble_eq_true rfl) (Nat.le_of_ble_eq_true rfl) (Nat.le_of_ble_eq_true rfl) ?_
  refine q_aloadn (pc' := 119) 0 dX0_copyFrom_118 rfl rfl ?_
  refine p_getR (pc' := 122) (f := f + 10) dX0_copyFrom_119 rfl fX0_44 ka0 rfl ?_
  refine q_aloadn (pc' := 123) 1 dX0_copyFrom_122 rfl rfl ?_
  refine p_getR (pc' := 126) (f := g + 10) dX0_copyFrom_123 rfl fX0_44 kb0 rfl ?_
  refine q_callVV (pc' := 129) dX0_copyFrom_126 rfl lX0_56 iX4_copyFrom ka10.1 rfl (c_X4_copyFrom (by first | assumption | omega | decide) (by first | assumption | omega | decide)) rfl rfl (Nat.le_of_ble_eq_true rfl) (Nat.le_of_ble_eq_true rfl) (Nat.le_of_ble_eq_true rfl) ?_
  refine q_aloadn (pc' := 130) 0 dX0_copyFrom_129 rfl rfl ?_
  refine q_aloadn (pc' := 131) 1 dX0_copyFrom_130 rfl rfl ?_
  refine p_getJ (pc' := 134) (kz := 10) dX0_copyFrom_131 rfl fX0_47 kb0 rfl rfl (fun qy_131 eqy_131 rqy_131 => ?_)
  have e131 : qy_131 = S g 10 := by rw [eqy_131, s_cO2_ne (by omega) (by omega), s_cO2_ne (by omega) (by omega), q_cp_ne (by omega), q_up_ne (by omega), q_cp_ne (by omega), q_cp_ne (by omega), q_cp_ne (by omega), q_cp_ne (by omega), q_cp_ne (by omega), q_up_ne (by omega)]
  rw [e131]
  refine p_putJ (pc' := 137) (kz := 10) dX0_copyFrom_134 rfl fX0_47 ka0 rfl rfl (rfl) (rfl) (by first | assumption | omega | decide) ?_
  refine p_vret dX0_copyFrom_137 rfl ?_
  · rfl
set_option maxRecDepth 20000 in
set_option maxHeartbeats 4000000 in
theorem c_X1_mark {Γ : q_G} {S : q_S} (n0 : 0 ≤ S 29 0) (n1 : S 29 0 ≤ 6) (HS : s_hs S) : q_Sp Γ mX1_mark 3 0 0 [q_r Γ 29, q_r Γ 1] (KC, S) (q_ev none (KC, s_cpF S (S 30 (S 29 0)).toNat 1)) := by
  show q_Go Γ mX1_mark 3 0 0 0 [(0, q_r Γ 29), (1, q_r Γ 1)] [] (KC, S) (q_ev none (KC, s_cpF S (S 30 (S 29 0)).toNat 1))
  have qh := s_hs_f HS n0 (show S 29 0 < 7 by omega)
  have qi := s_hF_i qh.2
  have qb := s_hF_b qh.2
  refine q_aloadn (pc' := 1) 0 dX1_mark_0 rfl rfl ?_
  refine p_getR (pc' := 4) (f := 30) dX1_mark_1 rfl fX1_17 kc29 rfl ?_
  refine q_aloadn (pc' := 5) 0 dX1_mark_4 rfl rfl ?_
  refine p_getJ (pc' := 8) (kz := 0) dX1_mark_5 rfl fX1_9 kc29 rfl rfl (fun qy_5 eqy_5 rqy_5 => ?_)
  rw [eqy_5]
  refine p_aald (pc' := 9) ((S 30 (S 29 0)).toNat) dX1_mark_8 rfl kc30 (by first | assumption | omega) (by first | assumption | omega) (by decide) (qh.1) ?_
  refine q_aloadn (pc' := 10) 1 dX1_mark_9 rfl rfl ?_
  refine q_callVV (pc' := 13) dX1_mark_10 rfl lX1_22 iX0_copyFrom qb.1 rfl (c_X0_copyFrom qb s_bF_1 (by omega)) rfl rfl (Nat.le_of_ble_eq_true rfl) (Nat.le_of_ble_eq_true rfl) (Nat.le_of_ble_eq_true rfl) ?_
  refine p_vret dX1_mark_13 rfl ?_
  · rfl
set_option maxRecDepth 20000 in
set_option maxHeartbeats 4000000 in
theorem c_X1_dropOldest {Γ : q_G} {S : q_S} (HS : s_hs S) : q_Sp Γ mX1_dropOldest 0 0 0 [q_r Γ 29] (KC, S) (q_ev none (KC, s_drO S)) := by
  show q_Go Γ mX1_dropOldest 0 0 0 0 [(0, q_r Γ 29)] [] (KC, S) (q_ev none (KC, s_drO S))
  have q0 := s_hs_f HS (show (0 : Int) ≤ 0 by decide) (by decide)
  have qb0 := (s_hF_b q0.2).1
  have qi0 := s_hF_i q0.2
  refine q_aloadn (pc' := 1) 0 dX1_dropOldest_0 rfl rfl ?_
  refine p_getR (pc' := 4) (f := 30) dX1_dropOldest_1 rfl fX1_17 kc29 rfl ?_
  refine q_iconst (pc' := 5) dX1_dropOldest_4 rfl ?_
  refine p_aald (pc' := 6) ((S 30 0).toNat) dX1_dropOldest_5 rfl kc30 (by first | assumption | omega) (by first | assumption | omega) (by decide) (q0.1) ?_
  refine q_astoren (pc' := 7) (L' := [(1, q_r Γ ((S 30 0).toNat)), (0, q_r Γ 29)]) dX1_dropOldest_6 rfl rfl (by decide) rfl ?_
  refine p_eqS s_drN_0 ?_
  refine q_iconst (pc' := 8) dX1_dropOldest_7 rfl ?_
  refine q_istoren (pc' := 9) (L' := [(2, q_i 0), (1, q_r Γ ((S 30 0).toNat)), (0, q_r Γ 29)]) dX1_dropOldest_8 rfl rfl (by decide) rfl ?_
  have qlp_9 : ∀ (qn_9 : Nat) (k : Int), (0 ≤ k) → (k ≤ 6) → ((6 - k).toNat) = qn_9 → q_Go Γ mX1_dropOldest 0 0 0 9 [(0, q_r Γ 29), (1, q_r Γ (S 30 0).toNat), (2, q_i k)] [] (KC, (s_drN S k)) (q_ev none (KC, s_drO S)) := by
    intro qn_9
    induction qn_9 using Nat.strongRecOn with
    | ind qn_9 qih_9 =>
      intro k qa_9_0 qa_9_1 qhn_9
      subst qhn_9
      refine q_iloadn (pc' := 10) 2 dX1_dropOldest_9 rfl rfl ?_
      refine q_bipush (pc' := 12) dX1_dropOldest_10 rfl rfl ?_
      refine q_icmp_ge (tgt := 35) (pc' := 15) dX1_dropOldest_12 rfl rfl (by first | assumption | omega) (by decide) (fun qc_12 => ?_) (fun qc_12 => ?_)
      · refine q_aloadn (pc' := 36) 0 dX1_dropOldest_35 rfl rfl ?_
        refine p_getR (pc' := 39) (f := 30) dX1_dropOldest_36 rfl fX1_17 kc29 rfl ?_
        refine q_bipush (pc' := 41) dX1_dropOldest_39 rfl rfl ?_
        refine q_aloadn (pc' := 42) 1 dX1_dropOldest_41 rfl rfl ?_
        refine p_aast (pc' := 43) dX1_dropOldest_42 rfl kc30 (by first | assumption | omega) (by first | assumption | omega) (by decide) qb0 (by first | assumption | omega) ?_
        rw [show k = 6 by omega, s_drN_6 q0.1.symm]
        refine p_vret dX1_dropOldest_43 rfl ?_
        · rfl
      · have qk := s_hs_f HS (show 0 ≤ k + 1 by omega) (show k + 1 < 7 by omega)
        have qbk := (s_hF_b qk.2).1
        have qik := s_hF_i qk.2
        refine q_aloadn (pc' := 16) 0 dX1_dropOldest_15 rfl rfl ?_
        refine p_getR (pc' := 19) (f := 30) dX1_dropOldest_16 rfl fX1_17 kc29 rfl ?_
        refine q_iloadn (pc' := 20) 2 dX1_dropOldest_19 rfl rfl ?_
        refine q_aloadn (pc' := 21) 0 dX1_dropOldest_20 rfl rfl ?_
        refine p_getR (pc' := 24) (f := 30) dX1_dropOldest_21 rfl fX1_17 kc29 rfl ?_
        refine q_iloadn (pc' := 25) 2 dX1_dropOldest_24 rfl rfl ?_
        refine q_iconst (pc' := 26) dX1_dropOldest_25 rfl ?_
        refine q_iadd (pc' := 27) dX1_dropOldest_26 rfl ?_
        refine p_aald (pc' := 28) ((S 30 (k + 1)).toNat) dX1_dropOldest_27 rfl kc30 (by first | assumption | omega) (by first | assumption | omega) (by decide) (by rw [s_drN_hi (by omega)]; exact qk.1) ?_
        refine p_aast (pc' := 29) dX1_dropOldest_28 rfl kc30 (by first | assumption | omega) (by first | assumption | omega) (by decide) qbk (by first | assumption | omega) ?_
        rw [s_drN_s (v := ((S 30 (k + 1)).toNat : Int)) (by omega) qk.1.symm]
        refine q_iinc (pc' := 32) 2 (L' := [(2, q_i (k + 1)), (0, q_r Γ 29), (1, q_r Γ ((S 30 0).toNat))]) dX1_dropOldest_29 rfl rfl (by decide) rfl ?_
        refine q_goto (pc' := 9) dX1_dropOldest_32 rfl ?_
        refine p_sub [1, 2, 0] rfl ?_
        exact qih_9 _ (by omega) (k + 1) (by first | assumption | omega) (by first | assumption | omega) rfl
  refine p_sub [2, 1, 0] rfl ?_
  exact qlp_9 _ 0 (by first | assumption | omega) (by first | assumption | omega) rfl
set_option maxRecDepth 20000 in
set_option maxHeartbeats 4000000 in
theorem c_X1_keep {Γ : q_G} {S : q_S} {v : Int} (n0 : 0 ≤ S 29 0) (n1 : S 29 0 ≤ 6) (HS : s_hs S) (hv : q_rg v) : q_Sp Γ mX1_keep 1 0 0 [q_r Γ 29, q_i v] (KC, S) (q_ev (some (q_i v)) (KC, s_kpS S v)) := by
  show q_Go Γ mX1_keep 1 0 0 0 [(0, q_r Γ 29), (1, q_i v)] [] (KC, S) (q_ev (some (q_i v)) (KC, s_kpS S v))
  refine q_iloadn (pc' := 1) 1 dX1_keep_0 rfl rfl ?_
  refine q_if_lt (tgt := 26) (pc' := 4) dX1_keep_1 rfl rfl (by first | assumption | omega) (fun qc_1 => ?_) (fun qc_1 => ?_)
  · refine q_iloadn (pc' := 27) 1 dX1_keep_26 rfl rfl ?_
    refine q_if_lt (tgt := 34) (pc' := 30) dX1_keep_27 rfl rfl (by first | assumption | omega) (fun qc_27 => ?_) (fun qc_27 => ?_)
    · refine q_iloadn (pc' := 35) 1 dX1_keep_34 rfl rfl ?_
      refine p_iret dX1_keep_35 rfl ?_ ?_
      · rfl
      · unfold s_kpS; first | (rw [if_pos (by omega)]; done) | (rw [if_neg (by omega), if_pos (by omega)]; done) | (rw [if_neg (by omega), if_neg (by omega)]; done)
    · refine q_aloadn (pc' := 31) 0 dX1_keep_30 rfl rfl ?_
      refine q_callVV (pc' := 34) dX1_keep_31 rfl lX1_26 iX1_dropOldest kc29 rfl (c_X1_dropOldest (by first | assumption | omega)) rfl rfl (Nat.le_of_ble_eq_true rfl) (Nat.le_of_ble_eq_true rfl) (Nat.le_of_ble_eq_true rfl) ?_
      refine q_iloadn (pc' := 35) 1 dX1_keep_34 rfl rfl ?_
      refine p_iret dX1_keep_35 rfl ?_ ?_
      · rfl
      · unfold s_kpS; first | (rw [if_pos (by omega)]; done) | (rw [if_neg (by omega), if_pos (by omega)]; done) | (rw [if_neg (by omega), if_neg (by omega)]; done)
  · refine q_aloadn (pc' := 5) 0 dX1_keep_4 rfl rfl ?_
    refine p_getJ (pc' := 8) (kz := 0) dX1_keep_5 rfl fX1_9 kc29 rfl rfl (fun qy_5 eqy_5 rqy_5 => ?_)
    refine q_bipush (pc' := 10) dX1_keep_8 rfl rfl ?_
    refine q_icmp_ge (tgt := 26) (pc' := 13) dX1_keep_10 rfl rfl (by first | assumption | omega) (by decide) (fun qc_10 => ?_) (fun qc_10 => ?_)
    · refine q_iloadn (pc' := 27) 1 dX1_keep_26 rfl rfl ?_
      refine q_if_lt (tgt := 34) (pc' := 30) dX1_keep_27 rfl rfl (by first | assumption | omega) (fun qc_27_1 => ?_) (fun qc_27_1 => ?_)
      · refine q_iloadn (pc' := 35) 1 dX1_keep_34 rfl rfl ?_
        refine p_iret dX1_keep_35 rfl ?_ ?_
        · rfl
        · unfold s_kpS; first | (rw [if_pos (by omega)]; done) | (rw [if_neg (by omega), if_pos (by omega)]; done) | (rw [if_neg (by omega), if_neg (by omega)]; done)
      · refine q_aloadn (pc' := 31) 0 dX1_keep_30 rfl rfl ?_
        refine q_callVV (pc' := 34) dX1_keep_31 rfl lX1_26 iX1_dropOldest kc29 rfl (c_X1_dropOldest (by first | assumption | omega)) rfl rfl (Nat.le_of_ble_eq_true rfl) (Nat.le_of_ble_eq_true rfl) (Nat.le_of_ble_eq_true rfl) ?_
        refine q_iloadn (pc' := 35) 1 dX1_keep_34 rfl rfl ?_
        refine p_iret dX1_keep_35 rfl ?_ ?_
        · rfl
        · unfold s_kpS; first | (rw [if_pos (by omega)]; done) | (rw [if_neg (by omega), if_pos (by omega)]; done) | (rw [if_neg (by omega), if_neg (by omega)]; done)
    · refine q_aloadn (pc' := 14) 0 dX1_keep_13 rfl rfl ?_
      refine q_dup (pc' := 15) dX1_keep_14 rfl rfl ?_
      refine p_getJ (pc' := 18) (kz := 0) dX1_keep_15 rfl fX1_9 kc29 rfl rfl (fun qy_15 eqy_15 rqy_15 => ?_)
      rw [eqy_15]
      refine q_iconst (pc' := 19) dX1_keep_18 rfl ?_
      refine q_iadd (pc' := 20) dX1_keep_19 rfl ?_
      refine p_putJ (pc' := 23) (kz := 0) dX1_keep_20 rfl fX1_9 kc29 rfl rfl (rfl) (rfl) (by first | assumption | omega) ?_
      refine q_goto (pc' := 34) dX1_keep_23 rfl ?_
      refine q_iloadn (pc' := 35) 1 dX1_keep_34 rfl rfl ?_
      refine p_iret dX1_keep_35 rfl ?_ ?_
      · rfl
      · unfold s_kpS; first | (rw [if_pos (by omega)]; done) | (rw [if_neg (by omega), if_pos (by omega)]; done) | (rw [if_neg (by omega), if_neg (by omega)]; done)
set_option maxRecDepth 20000 in
set_option maxHeartbeats 4000000 in
theorem c_X1_goBack {Γ : q_G} {S : q_S} (n0 : 0 ≤ S 29 0) (n1 : S 29 0 ≤ 6) (HS : s_hs S) : q_Sp Γ mX1_goBack 3 0 0 [q_r Γ 29, q_r Γ 1] (KC, S) (q_ev (some (q_i (if S 29 0 = 0 then -5 else S 29 0 - 1))) (KC, if S 29 0 = 0 then S else s_cpF (q_up S 29 0 (S 29 0 - 1)) 1 (S 30 (S 29 0 - 1)).toNat)) := by
  show q_Go Γ mX1_goBack 3 0 0 0 [(0, q_r Γ 29), (1, q_r Γ 1)] [] (KC, S) (q_ev (some (q_i (if S 29 0 = 0 then -5 else S 29 0 - 1))) (KC, if S 29 0 = 0 then S else s_cpF (q_up S 29 0 (S 29 0 - 1)) 1 (S 30 (S 29 0 - 1)).toNat))
  refine q_aloadn (pc' := 1) 0 dX1_goBack_0 rfl rfl ?_
  refine p_getJ (pc' := 4) (kz := 0) dX1_goBack_1 rfl fX1_9 kc29 rfl rfl (fun qy_1 eqy_1 rqy_1 => ?_)
  refine q_if_ne (tgt := 10) (pc' := 7) dX1_goBack_4 rfl rfl (by first | assumption | omega) (fun qc_4 => ?_) (fun qc_4 => ?_)
  · have qh := s_hs_f HS (show 0 ≤ S 29 0 - 1 by omega) (show S 29 0 - 1 < 7 by omega)
    have qi := s_hF_i qh.2
    have qb := s_hF_b qh.2
    refine q_aloadn (pc' := 11) 0 dX1_goBack_10 rfl rfl ?_
    refine q_dup (pc' := 12) dX1_goBack_11 rfl rfl ?_
    refine p_getJ (pc' := 15) (kz := 0) dX1_goBack_12 rfl fX1_9 kc29 rfl rfl (fun qy_12 eqy_12 rqy_12 => ?_)
    refine q_iconst (pc' := 16) dX1_goBack_15 rfl ?_
    rw [eqy_12]
    refine q_isub (pc' := 17) dX1_goBack_16 rfl ?_
    refine p_putJ (pc' := 20) (kz := 0) dX1_goBack_17 rfl fX1_9 kc29 rfl rfl (rfl) (rfl) (by first | assumption | omega) ?_
    refine q_aloadn (pc' := 21) 1 dX1_goBack_20 rfl rfl ?_
    refine q_aloadn (pc' := 22) 0 dX1_goBack_21 rfl rfl ?_
    refine p_getR (pc' := 25) (f := 30) dX1_goBack_22 rfl fX1_17 kc29 rfl ?_
    refine q_aloadn (pc' := 26) 0 dX1_goBack_25 rfl rfl ?_
    refine p_getJ (pc' := 29) (kz := 0) dX1_goBack_26 rfl fX1_9 kc29 rfl rfl (fun qy_26 eqy_26 rqy_26 => ?_)
    have e26 : qy_26 = S 29 0 - 1 := by rw [eqy_26, q_up_eq]
    rw [e26]
    refine p_aald (pc' := 30) ((S 30 (S 29 0 - 1)).toNat) dX1_goBack_29 rfl kc30 (by first | assumption | omega) (by first | assumption | omega) (by decide) (by rw [q_up_ne (by decide)]; exact qh.1) ?_
    refine q_callVV (pc' := 33) dX1_goBack_30 rfl lX1_22 iX0_copyFrom kc1 rfl (c_X0_copyFrom s_bF_1 qb (by omega)) rfl rfl (Nat.le_of_ble_eq_true rfl) (Nat.le_of_ble_eq_true rfl) (Nat.le_of_ble_eq_true rfl) ?_
    refine q_aloadn (pc' := 34) 0 dX1_goBack_33 rfl rfl ?_
    refine p_getJ (pc' := 37) (kz := 0) dX1_goBack_34 rfl fX1_9 kc29 rfl rfl (fun qy_34 eqy_34 rqy_34 => ?_)
    refine p_iret dX1_goBack_37 rfl ?_ ?_
    · rw [if_neg (by omega), eqy_34, s_cpF_o (by omega), q_up_eq]
    · rw [if_neg (by omega)]
  · refine q_bipush (pc' := 9) dX1_goBack_7 rfl rfl ?_
    refine p_iret dX1_goBack_9 rfl ?_ ?_
    · rw [if_pos (by omega)]
    · rw [if_pos (by omega)]
