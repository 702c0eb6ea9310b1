set_option maxRecDepth 20000 in
set_option maxHeartbeats 4000000 in
theorem c_X9_character {Γ : q_G} {S : q_S} {P : Int → Int} {z : Int} (pd : s_pd S P) (z0 : 0 ≤ z) (z1 : z ≤ 81) : q_Sp Γ mX9_character 0 0 0 [q_r Γ 150, q_i z] (KC, S) (q_ev (some (q_i (P z))) (KC, S)) := by
  show q_Go Γ mX9_character 0 0 0 0 [(0, q_r Γ 150), (1, q_i z)] [] (KC, S) (q_ev (some (q_i (P z))) (KC, S))
  have pl := pd.1
  refine q_iloadn (pc' := 1) 1 dX9_character_0 rfl rfl ?_
  refine q_aloadn (pc' := 2) 0 dX9_character_1 rfl rfl ?_
  refine p_getJ (pc' := 5) (kz := 6) dX9_character_2 rfl fX9_183 kc150 rfl rfl (fun qy_2 eqy_2 rqy_2 => ?_)
  refine q_icmp_ge (tgt := 17) (pc' := 8) dX9_character_5 rfl rfl (by first | assumption | omega) (by first | assumption | omega) (fun qc_5 => ?_) (fun qc_5 => ?_)
  · refine q_iconst (pc' := 18) dX9_character_17 rfl ?_
    first | rw [e13] | rw [show (-1 : Int) = P z from (pd.2.2.1 z (by omega)).symm]
    refine p_iret dX9_character_18 rfl ?_ ?_
    · rfl
    · rfl
  · refine q_aloadn (pc' := 9) 0 dX9_character_8 rfl rfl ?_
    refine p_getR (pc' := 12) (f := 155) dX9_character_9 rfl fX9_22 kc150 rfl ?_
    refine q_iloadn (pc' := 13) 1 dX9_character_12 rfl rfl ?_
    refine p_iald (pc' := 14) dX9_character_13 rfl kc155 (by first | assumption | omega) (by first | assumption | omega) (by decide) (fun qy_13 eqy_13 rqy_13 => ?_)
    have e13 : qy_13 = P z := by rw [eqy_13]; exact pd.2.1 z (by omega) (by omega)
    refine q_goto (pc' := 18) dX9_character_14 rfl ?_
    first | rw [e13] | rw [show (-1 : Int) = P z from (pd.2.2.1 z (by omega)).symm]
    refine p_iret dX9_character_18 rfl ?_ ?_
    · rfl
    · rfl
set_option maxRecDepth 20000 in
set_option maxHeartbeats 4000000 in
theorem c_X9_takeDigit {Γ : q_G} {S : q_S} {P : Int → Int} {z u : Int} (pd : s_pd S P) (ha : S 150 10 = z) (z0 : 0 ≤ z) (z1 : z ≤ 80) (u0 : 0 ≤ u) (u1 : u ≤ 9) : q_Sp Γ mX9_takeDigit 1 0 0 [q_r Γ 150, q_i u] (KC, S) (fun v w => (v = some (q_i (-1)) ∧ w = (KC, S) ∧ ¬ s_isd P u z) ∨ (v = some (q_i (P z - 48)) ∧ w = (KC, q_up S 150 10 (z + 1)) ∧ s_isd P u z ∧ z < 80 ∧ 0 ≤ P z - 48 ∧ P z - 48 ≤ 9)) := by
  show q_Go Γ mX9_takeDigit 1 0 0 0 [(0, q_r Γ 150), (1, q_i u)] [] (KC, S) (fun v w => (v = some (q_i (-1)) ∧ w = (KC, S) ∧ ¬ s_isd P u z) ∨ (v = some (q_i (P z - 48)) ∧ w = (KC, q_up S 150 10 (z + 1)) ∧ s_isd P u z ∧ z < 80 ∧ 0 ≤ P z - 48 ∧ P z - 48 ≤ 9))
  have pb := pd.2.2.2 z
  have pl := pd.1
  refine q_aloadn (pc' := 1) 0 dX9_takeDigit_0 rfl rfl ?_
  refine q_aloadn (pc' := 2) 0 dX9_takeDigit_1 rfl rfl ?_
  refine p_getJ (pc' := 5) (kz := 10) dX9_takeDigit_2 rfl fX9_201 kc150 rfl rfl (fun qy_2 eqy_2 rqy_2 => ?_)
  have vqy_2 : qy_2 = z := eqy_2.trans (by first | assumption | (simp [q_up]; done) | (simp [q_up]; assumption))
  rw [vqy_2]
  refine q_callVI (pc' := 8) dX9_takeDigit_5 rfl lX9_204 iX9_character kc150 rfl (c_X9_character (P := P) (by first | assumption | (repeat (refine s_pd_u (by decide) ?_); assumption)) (by omega) (by omega)) rfl rfl (Nat.le_of_ble_eq_true rfl) (Nat.le_of_ble_eq_true rfl) (Nat.le_of_ble_eq_true rfl) ?_
  refine q_bipush (pc' := 10) dX9_takeDigit_8 rfl rfl ?_
  refine q_isub (pc' := 11) dX9_takeDigit_10 rfl ?_
  refine q_istoren (pc' := 12) (L' := [(2, q_i ((P (z)) - 48)), (0, q_r Γ 150), (1, q_i u)]) dX9_takeDigit_11 rfl rfl (by decide) rfl ?_
  refine q_iloadn (pc' := 13) 0 dX9_takeDigit_12 rfl rfl ?_
  refine q_iconst (pc' := 14) dX9_takeDigit_13 rfl ?_
  refine q_iloadn (pc' := 15) 2 dX9_takeDigit_14 rfl rfl ?_
  refine q_callSI (pc' := 18) dX9_takeDigit_15 rfl lX9_42 iX9_within (c_X9_within (by first | assumption | omega) (by first | assumption | omega) (by first | assumption | omega)) rfl rfl (Nat.le_of_ble_eq_true rfl) (Nat.le_of_ble_eq_true rfl) (Nat.le_of_ble_eq_true rfl) ?_
  refine q_if_ne_B (tgt := 23) (pc' := 21) dX9_takeDigit_18 rfl rfl (fun qc_18 => ?_) (fun qc_18 => ?_)
  · refine q_aloadn (pc' := 24) 1 dX9_takeDigit_23 rfl rfl ?_
    refine q_dup (pc' := 25) dX9_takeDigit_24 rfl rfl ?_
    refine p_getJ (pc' := 28) (kz := 10) dX9_takeDigit_25 rfl fX9_201 kc150 rfl rfl (fun qy_25 eqy_25 rqy_25 => ?_)
    have vqy_25 : qy_25 = z := eqy_25.trans (by first | assumption | (simp [q_up]; done) | (simp [q_up]; assumption))
    rw [vqy_25]
    refine q_iconst (pc' := 29) dX9_takeDigit_28 rfl ?_
    refine q_iadd (pc' := 30) dX9_takeDigit_29 rfl ?_
    refine p_putJ (pc' := 33) (kz := 10) dX9_takeDigit_30 rfl fX9_201 kc150 rfl rfl (rfl) (rfl) (by first | assumption | omega) ?_
    refine q_iloadn (pc' := 34) 0 dX9_takeDigit_33 rfl rfl ?_
    first | exact q_iret dX9_takeDigit_34 rfl rfl (Or.inl ⟨rfl, rfl, fun q => by unfold s_isd at q; omega⟩) | exact q_iret dX9_takeDigit_34 rfl rfl (Or.inr ⟨rfl, rfl, by unfold s_isd; omega, by have := s_pd_lt pd (z := z) (by omega); omega, by omega, by omega⟩)
  · refine q_iconst (pc' := 22) dX9_takeDigit_21 rfl ?_
    first | exact q_iret dX9_takeDigit_22 rfl rfl (Or.inl ⟨rfl, rfl, fun q => by unfold s_isd at q; omega⟩) | exact q_iret dX9_takeDigit_22 rfl rfl (Or.inr ⟨rfl, rfl, by unfold s_isd; omega, by have := s_pd_lt pd (z := z) (by omega); omega, by omega, by omega⟩)
set_option maxRecDepth 20000 in
set_option maxHeartbeats 4000000 in
theorem c_X9_takes {Γ : q_G} {S : q_S} {P : Int → Int} {z u : Int} (pd : s_pd S P) (ha : S 150 10 = z) (z0 : 0 ≤ z) (z1 : z ≤ 80) (u0 : 0 ≤ u) (u1 : u ≤ 126) : q_Sp Γ mX9_takes 1 0 0 [q_r Γ 150, q_i u] (KC, S) (fun v w => (v = some (q_i 0) ∧ w = (KC, S) ∧ P z ≠ u) ∨ (v = some (q_i 1) ∧ w = (KC, q_up S 150 10 (z + 1)) ∧ P z = u ∧ z < 80)) := by
  show q_Go Γ mX9_takes 1 0 0 0 [(0, q_r Γ 150), (1, q_i u)] [] (KC, S) (fun v w => (v = some (q_i 0) ∧ w = (KC, S) ∧ P z ≠ u) ∨ (v = some (q_i 1) ∧ w = (KC, q_up S 150 10 (z + 1)) ∧ P z = u ∧ z < 80))
  have pb := pd.2.2.2 z
  have pl := pd.1
  refine q_aloadn (pc' := 1) 0 dX9_takes_0 rfl rfl ?_
  refine q_aloadn (pc' := 2) 0 dX9_takes_1 rfl rfl ?_
  refine p_getJ (pc' := 5) (kz := 10) dX9_takes_2 rfl fX9_201 kc150 rfl rfl (fun qy_2 eqy_2 rqy_2 => ?_)
  have vqy_2 : qy_2 = z := eqy_2.trans (by first | assumption | (simp [q_up]; done) | (simp [q_up]; assumption))
  rw [vqy_2]
  refine q_callVI (pc' := 8) dX9_takes_5 rfl lX9_204 iX9_character kc150 rfl (c_X9_character (P := P) (by first | assumption | (repeat (refine s_pd_u (by decide) ?_); assumption)) (by omega) (by omega)) rfl rfl (Nat.le_of_ble_eq_true rfl) (Nat.le_of_ble_eq_true rfl) (Nat.le_of_ble_eq_true rfl) ?_
  refine q_iloadn (pc' := 9) 1 dX9_takes_8 rfl rfl ?_
  refine q_icmp_ne (tgt := 16) (pc' := 12) dX9_takes_9 rfl rfl (by first | assumption | omega) (by first | assumption | omega) (fun qc_9 => ?_) (fun qc_9 => ?_)
  · refine q_iconst (pc' := 17) dX9_takes_16 rfl ?_
    refine q_istoren (pc' := 18) (L' := [(2, q_i 0), (0, q_r Γ 150), (1, q_i u)]) dX9_takes_17 rfl rfl (by decide) rfl ?_
    refine q_aloadn (pc' := 19) 1 dX9_takes_18 rfl rfl ?_
    refine q_dup (pc' := 20) dX9_takes_19 rfl rfl ?_
    refine p_getJ (pc' := 23) (kz := 10) dX9_takes_20 rfl fX9_201 kc150 rfl rfl (fun qy_20 eqy_20 rqy_20 => ?_)
    have vqy_20 : qy_20 = z := eqy_20.trans (by first | assumption | (simp [q_up]; done) | (simp [q_up]; assumption))
    rw [vqy_20]
    refine q_iloadn (pc' := 24) 0 dX9_takes_23 rfl rfl ?_
    refine q_if_eq (tgt := 31) (pc' := 27) dX9_takes_24 rfl rfl (by decide) (fun qc_24 => ?_) (fun qc_24 => absurd qc_24 (by decide))
    refine q_iconst (pc' := 32) dX9_takes_31 rfl ?_
    refine q_iadd (pc' := 33) dX9_takes_32 rfl ?_
    refine p_putJ (pc' := 36) (kz := 10) dX9_takes_33 rfl fX9_201 kc150 rfl rfl (rfl) (rfl) (by first | assumption | omega) ?_
    refine q_iloadn (pc' := 37) 0 dX9_takes_36 rfl rfl ?_
    first | exact q_iret dX9_takes_37 rfl rfl (Or.inl ⟨rfl, congrArg (Prod.mk KC) (by rw [show z + 0 = S 150 10 by omega]; exact q_up_self), by omega⟩) | exact q_iret dX9_takes_37 rfl rfl (Or.inr ⟨rfl, rfl, by omega, by have := s_pd_lt pd (z := z) (by omega); omega⟩)
  · refine q_iconst (pc' := 13) dX9_takes_12 rfl ?_
    refine q_goto (pc' := 17) dX9_takes_13 rfl ?_
    refine q_istoren (pc' := 18) (L' := [(2, q_i 1), (0, q_r Γ 150), (1, q_i u)]) dX9_takes_17 rfl rfl (by decide) rfl ?_
    refine q_aloadn (pc' := 19) 1 dX9_takes_18 rfl rfl ?_
    refine q_dup (pc' := 20) dX9_takes_19 rfl rfl ?_
    refine p_getJ (pc' := 23) (kz := 10) dX9_takes_20 rfl fX9_201 kc150 rfl rfl (fun qy_20_1 eqy_20_1 rqy_20_1 => ?_)
    have vqy_20_1 : qy_20_1 = z := eqy_20_1.trans (by first | assumption | (simp [q_up]; done) | (simp [q_up]; assumption))
    rw [vqy_20_1]
    refine q_iloadn (pc' := 24) 0 dX9_takes_23 rfl rfl ?_
    refine q_if_eq (tgt := 31) (pc' := 27) dX9_takes_24 rfl rfl (by decide) (fun qc_24_1 => absurd qc_24_1 (by decide)) (fun qc_24_1 => ?_)
    refine q_iconst (pc' := 28) dX9_takes_27 rfl ?_
    refine q_goto (pc' := 32) dX9_takes_28 rfl ?_
    refine q_iadd (pc' := 33) dX9_takes_32 rfl ?_
    refine p_putJ (pc' := 36) (kz := 10) dX9_takes_33 rfl fX9_201 kc150 rfl rfl (rfl) (rfl) (by first | assumption | omega) ?_
    refine q_iloadn (pc' := 37) 0 dX9_takes_36 rfl rfl ?_
    first | exact q_iret dX9_takes_37 rfl rfl (Or.inl ⟨rfl, congrArg (Prod.mk KC) (by rw [show z + 0 = S 150 10 by omega]; exact q_up_self), by omega⟩) | exact q_iret dX9_takes_37 rfl rfl (Or.inr ⟨rfl, rfl, by omega, by have := s_pd_lt pd (z := z) (by omega); omega⟩)
set_option maxRecDepth 20000 in
set_option maxHeartbeats 4000000 in
theorem c_X9_takeNumber {Γ : q_G} {S : q_S} {P : Int → Int} {z : Int} (pd : s_pd S P) (ha : S 150 10 = z) (z0 : 0 ≤ z) (z1 : z ≤ 80) : q_Sp Γ mX9_takeNumber 2 0 0 [q_r Γ 150] (KC, S) (fun v w => (v = some (q_i (-1)) ∧ w = (KC, S) ∧ ¬ s_isd P 9 z) ∨ (v = some (q_i (s_num P z).1) ∧ w = (KC, q_up S 150 10 (s_num P z).2) ∧ s_isd P 9 z ∧ (z < (s_num P z).2 ∧ (s_num P z).2 ≤ 80) ∧ 0 ≤ (s_num P z).1 ∧ (s_num P z).1 ≤ 999)) := by
  show q_Go Γ mX9_takeNumber 2 0 0 0 [(0, q_r Γ 150)] [] (KC, S) (fun v w => (v = some (q_i (-1)) ∧ w = (KC, S) ∧ ¬ s_isd P 9 z) ∨ (v = some (q_i (s_num P z).1) ∧ w = (KC, q_up S 150 10 (s_num P z).2) ∧ s_isd P 9 z ∧ (z < (s_num P z).2 ∧ (s_num P z).2 ≤ 80) ∧ 0 ≤ (s_num P z).1 ∧ (s_num P z).1 ≤ 999))
  have pl := pd.1
  refine q_aloadn (pc' := 1) 0 dX9_takeNumber_0 rfl rfl ?_
  refine q_bipush (pc' := 3) dX9_takeNumber_1 rfl rfl ?_
  refine q_callVQ (pc' := 6) dX9_takeNumber_3 rfl lX9_207 iX9_takeDigit kc150 rfl (c_X9_takeDigit (z := z) (by first | assumption | (repeat (refine s_pd_u (by decide) ?_); assumption)) (by first | assumption | (simp [q_up]; done) | (simp [q_up]; assumption)) (by first | assumption | omega) (by first | assumption | omega) (by first | assumption | omega) (by first | assumption | omega)) rfl rfl (Nat.le_of_ble_eq_true rfl) (Nat.le_of_ble_eq_true rfl) (Nat.le_of_ble_eq_true rfl) (fun vq wq hq => ?_)
  rcases hq with ⟨rfl, rfl, qd3⟩ | ⟨rfl, rfl, qd3, qz3, qn3, qm3⟩
  · show q_Go Γ mX9_takeNumber 2 0 0 6 [(0, q_r Γ 150)] [q_i (-1)] (KC, S) (fun v w => (v = some (q_i (-1)) ∧ w = (KC, S) ∧ ¬ s_isd P 9 z) ∨ (v = some (q_i (s_num P z).1) ∧ w = (KC, q_up S 150 10 (s_num P z).2) ∧ s_isd P 9 z ∧ (z < (s_num P z).2 ∧ (s_num P z).2 ≤ 80) ∧ 0 ≤ (s_num P z).1 ∧ (s_num P z).1 ≤ 999))
    unfold s_isd at qd3
    refine q_istoren (pc' := 7) (L' := [(1, q_i (-1)), (0, q_r Γ 150)]) dX9_takeNumber_6 rfl rfl (by decide) rfl ?_
    refine q_iloadn (pc' := 8) 0 dX9_takeNumber_7 rfl rfl ?_
    refine q_if_le (tgt := 50) (pc' := 11) dX9_takeNumber_8 rfl rfl (by decide) (fun qc_8 => ?_) (fun qc_8 => absurd qc_8 (by decide))
    refine q_iloadn (pc' := 51) 0 dX9_takeNumber_50 rfl rfl ?_
    first | exact q_iret dX9_takeNumber_51 rfl rfl (Or.inl ⟨rfl, rfl, fun q => by unfold s_isd at q; omega⟩) | exact (fun en => q_iret dX9_takeNumber_51 rfl rfl (Or.inr (by rw [en]; exact ⟨rfl, congrArg (Prod.mk KC) qnone_, qnone_, qnone_, qnone_.1, qnone_.2⟩))) (s_nmL_e qnone_ (by omega))
  · show q_Go Γ mX9_takeNumber 2 0 0 6 [(0, q_r Γ 150)] [q_i (P (z) - 48)] (KC, q_up S 150 10 (z + 1)) (fun v w => (v = some (q_i (-1)) ∧ w = (KC, S) ∧ ¬ s_isd P 9 z) ∨ (v = some (q_i (s_num P z).1) ∧ w = (KC, q_up S 150 10 (s_num P z).2) ∧ s_isd P 9 z ∧ (z < (s_num P z).2 ∧ (s_num P z).2 ≤ 80) ∧ 0 ≤ (s_num P z).1 ∧ (s_num P z).1 ≤ 999))
    unfold s_isd at qd3
    refine q_istoren (pc' := 7) (L' := [(1, q_i (P (z) - 48)), (0, q_r Γ 150)]) dX9_takeNumber_6 rfl rfl (by decide) rfl ?_
    have qlp_7 : ∀ (qn_7 : Nat) (S2 : q_S) (n : Nat) (v a : Int), (0 ≤ v ∧ v ≤ 999) → (S2 150 10 = a) → (z < a ∧ a ≤ 80) → (s_nmL P n (v, a) = s_num P z) → ((n = 2 ∧ v ≤ 9) ∨ (n = 1 ∧ 10 ≤ v ∧ v ≤ 99) ∨ (n = 0 ∧ 100 ≤ v)) → (s_pd S2 P) → (S2 = q_up S 150 10 a) → (s_isd P 9 z) → (n) = qn_7 → q_Go Γ mX9_takeNumber 2 0 0 7 [(0, q_r Γ 150), (1, q_i v)] [] (KC, S2) (fun v w => (v = some (q_i (-1)) ∧ w = (KC, S) ∧ ¬ s_isd P 9 z) ∨ (v = some (q_i (s_num P z).1) ∧ w = (KC, q_up S 150 10 (s_num P z).2) ∧ s_isd P 9 z ∧ (z < (s_num P z).2 ∧ (s_num P z).2 ≤ 80) ∧ 0 ≤ (s_num P z).1 ∧ (s_num P z).1 ≤ 999)) := by
      intro qn_7
      induction qn_7 using Nat.strongRecOn with
      | ind qn_7 qih_7 =>
        intro S2 n v a qa_7_0 qa_7_1 qa_7_2 qa_7_3 qa_7_4 qa_7_5 qa_7_6 qa_7_7 qhn_7
        subst qhn_7
        have pba := pd.2.2.2 a
        refine q_iloadn (pc' := 8) 1 dX9_takeNumber_7 rfl rfl ?_
        refine q_if_le (tgt := 50) (pc' := 11) dX9_takeNumber_8 rfl rfl (by first | assumption | omega) (fun qc_8_1 => ?_) (fun qc_8_1 => ?_)
        · refine q_iloadn (pc' := 51) 1 dX9_takeNumber_50 rfl rfl ?_
          first | exact q_iret dX9_takeNumber_51 rfl rfl (Or.inl ⟨rfl, rfl, fun q => by unfold s_isd at q; omega⟩) | exact (fun en => q_iret dX9_takeNumber_51 rfl rfl (Or.inr (by rw [en]; exact ⟨rfl, congrArg (Prod.mk KC) qa_7_6, qa_7_7, qa_7_2, qa_7_0.1, qa_7_0.2⟩))) (s_nmL_e qa_7_3 (by omega))
        · refine q_iloadn (pc' := 12) 1 dX9_takeNumber_11 rfl rfl ?_
          refine q_bipush (pc' := 14) dX9_takeNumber_12 rfl rfl ?_
          refine q_icmp_ge (tgt := 50) (pc' := 17) dX9_takeNumber_14 rfl rfl (by first | assumption | omega) (by decide) (fun qc_14 => ?_) (fun qc_14 => ?_)
          · refine q_iloadn (pc' := 51) 1 dX9_takeNumber_50 rfl rfl ?_
            first | exact q_iret dX9_takeNumber_51 rfl rfl (Or.inl ⟨rfl, rfl, fun q => by unfold s_isd at q; omega⟩) | exact (fun en => q_iret dX9_takeNumber_51 rfl rfl (Or.inr (by rw [en]; exact ⟨rfl, congrArg (Prod.mk KC) qa_7_6, qa_7_7, qa_7_2, qa_7_0.1, qa_7_0.2⟩))) (s_nmL_e qa_7_3 (by omega))
          · refine q_aloadn (pc' := 18) 0 dX9_takeNumber_17 rfl rfl ?_
            refine q_aloadn (pc' := 19) 0 dX9_takeNumber_18 rfl rfl ?_
            refine p_getJ (pc' := 22) (kz := 10) dX9_takeNumber_19 rfl fX9_201 kc150 rfl rfl (fun qy_19 eqy_19 rqy_19 => ?_)
            have vqy_19 : qy_19 = a := eqy_19.trans (by first | assumption | (simp [q_up]; done) | (simp [q_up]; assumption))
            rw [vqy_19]
            refine q_callVI (pc' := 25) dX9_takeNumber_22 rfl lX9_204 iX9_character kc150 rfl (c_X9_character (P := P) (by first | assumption | (repeat (refine s_pd_u (by decide) ?_); assumption)) (by omega) (by omega)) rfl rfl (Nat.le_of_ble_eq_true rfl) (Nat.le_of_ble_eq_true rfl) (Nat.le_of_ble_eq_true rfl) ?_
            refine q_bipush (pc' := 27) dX9_takeNumber_25 rfl rfl ?_
            refine q_bipush (pc' := 29) dX9_takeNumber_27 rfl rfl ?_
            refine q_callSI (pc' := 32) dX9_takeNumber_29 rfl lX9_42 iX9_within (c_X9_within (by first | assumption | omega) (by first | assumption | omega) (by first | assumption | omega)) rfl rfl (Nat.le_of_ble_eq_true rfl) (Nat.le_of_ble_eq_true rfl) (Nat.le_of_ble_eq_true rfl) ?_
            refine q_if_eq_B (tgt := 50) (pc' := 35) dX9_takeNumber_32 rfl rfl (fun qc_32 => ?_) (fun qc_32 => ?_)
            · refine q_iloadn (pc' := 51) 1 dX9_takeNumber_50 rfl rfl ?_
              first | exact q_iret dX9_takeNumber_51 rfl rfl (Or.inl ⟨rfl, rfl, fun q => by unfold s_isd at q; omega⟩) | exact (fun en => q_iret dX9_takeNumber_51 rfl rfl (Or.inr (by rw [en]; exact ⟨rfl, congrArg (Prod.mk KC) qa_7_6, qa_7_7, qa_7_2, qa_7_0.1, qa_7_0.2⟩))) (s_nmL_e qa_7_3 (by omega))
            · obtain ⟨n2, en⟩ : ∃ n2 : Nat, n = n2 + 1 := ⟨n - 1, by omega⟩
              refine q_bipush (pc' := 37) dX9_takeNumber_35 rfl rfl ?_
              refine q_iloadn (pc' := 38) 1 dX9_takeNumber_37 rfl rfl ?_
              refine q_imul (pc' := 39) dX9_takeNumber_38 rfl ?_
              refine q_aloadn (pc' := 40) 0 dX9_takeNumber_39 rfl rfl ?_
              refine q_bipush (pc' := 42) dX9_takeNumber_40 rfl rfl ?_
              refine q_callVQ (pc' := 45) dX9_takeNumber_42 rfl lX9_207 iX9_takeDigit kc150 rfl (c_X9_takeDigit (z := a) (by first | assumption | (repeat (refine s_pd_u (by decide) ?_); assumption)) (by first | assumption | (simp [q_up]; done) | (simp [q_up]; assumption)) (by first | assumption | omega) (by first | assumption | omega) (by first | assumption | omega) (by first | assumption | omega)) rfl rfl (Nat.le_of_ble_eq_true rfl) (Nat.le_of_ble_eq_true rfl) (Nat.le_of_ble_eq_true rfl) (fun vq wq hq => ?_)
              rcases hq with ⟨rfl, rfl, qd42⟩ | ⟨rfl, rfl, qd42, qz42, qn42, qm42⟩
              · exact absurd (show s_isd P 9 a by unfold s_isd; omega) qd42
              · show q_Go Γ mX9_takeNumber 2 0 0 45 [(0, q_r Γ 150), (1, q_i v)] [q_i (P (a) - 48), q_i (10 * v)] (KC, q_up S2 150 10 (a + 1)) (fun v w => (v = some (q_i (-1)) ∧ w = (KC, S) ∧ ¬ s_isd P 9 z) ∨ (v = some (q_i (s_num P z).1) ∧ w = (KC, q_up S 150 10 (s_num P z).2) ∧ s_isd P 9 z ∧ (z < (s_num P z).2 ∧ (s_num P z).2 ≤ 80) ∧ 0 ≤ (s_num P z).1 ∧ (s_num P z).1 ≤ 999))
                unfold s_isd at qd42
                refine q_iadd (pc' := 46) dX9_takeNumber_45 rfl ?_
                refine q_istoren (pc' := 47) (L' := [(1, q_i ((10 * v) + (P (a) - 48))), (0, q_r Γ 150)]) dX9_takeNumber_46 rfl rfl (by decide) rfl ?_
                refine q_goto (pc' := 7) dX9_takeNumber_47 rfl ?_
                refine p_sub [1, 0] rfl ?_
                exact qih_7 _ (by omega) _ n2 _ (a + 1) (by first | assumption | omega) (by exact q_up_eq) (by omega) (by exact s_nmL_c qa_7_3 en (by omega) (by omega) (by omega)) (by omega) (by exact s_pd_u (by decide) qa_7_5) (by rw [qa_7_6, q_up_up]) (by assumption) rfl
    refine p_sub [1, 0] rfl ?_
    exact qlp_7 _ _ 2 _ (z + 1) (by first | assumption | omega) (by exact q_up_eq) (by omega) (by rfl) (by omega) (by exact s_pd_u (by decide) pd) (by rfl) (by unfold s_isd; omega) rfl
set_option maxRecDepth 20000 in
set_option maxHeartbeats 4000000 in
theorem c_X9_takesDeal {Γ : q_G} {S : q_S} {P : Int → Int} {z : Int} (pd : s_pd S P) (ha : S 150 10 = z) (z0 : 0 ≤ z) (z1 : z ≤ 80) : q_Sp Γ mX9_takesDeal 3 0 0 [q_r Γ 150] (KC, S) (fun v w => (v = some (q_i 0) ∧ ∃ S2, w = (KC, S2) ∧ s_offP S S2 ∧ S2 150 10 = s_tmAt P z ∧ ¬ s_tmOk P z ∧ 0 ≤ s_tmAt P z ∧ s_tmAt P z ≤ 80) ∨ (v = some (q_i 1) ∧ ∃ S2, w = (KC, S2) ∧ s_offP S S2 ∧ S2 150 10 = s_tmAt P z ∧ s_tmOk P z ∧ (z < s_tmAt P z ∧ s_tmAt P z ≤ 80) ∧ S2 150 11 = S 150 11 ∧ S2 150 12 = S 150 12 ∧ S2 150 13 = S 150 13 ∧ S2 150 14 = P (z + 1) - 48 ∧ S2 150 15 = (s_num P (z + 1 + 1 + 1)).1 ∧ S2 150 16 = (s_num P ((s_num P (z + 1 + 1 + 1)).2 + 1)).1)) := by
  show q_Go Γ mX9_takesDeal 3 0 0 0 [(0, q_r Γ 150)] [] (KC, S) (fun v w => (v = some (q_i 0) ∧ ∃ S2, w = (KC, S2) ∧ s_offP S S2 ∧ S2 150 10 = s_tmAt P z ∧ ¬ s_tmOk P z ∧ 0 ≤ s_tmAt P z ∧ s_tmAt P z ≤ 80) ∨ (v = some (q_i 1) ∧ ∃ S2, w = (KC, S2) ∧ s_offP S S2 ∧ S2 150 10 = s_tmAt P z ∧ s_tmOk P z ∧ (z < s_tmAt P z ∧ s_tmAt P z ≤ 80) ∧ S2 150 11 = S 150 11 ∧ S2 150 12 = S 150 12 ∧ S2 150 13 = S 150 13 ∧ S2 150 14 = P (z + 1) - 48 ∧ S2 150 15 = (s_num P (z + 1 + 1 + 1)).1 ∧ S2 150 16 = (s_num P ((s_num P (z + 1 + 1 + 1)).2 + 1)).1))
  have pl := pd.1
  refine q_aloadn (pc' := 1) 0 dX9_takesDeal_0 rfl rfl ?_
  refine q_bipush (pc' := 3) dX9_takesDeal_1 rfl rfl ?_
  refine q_callVQ (pc' := 6) dX9_takesDeal_3 rfl lX9_210 iX9_takes kc150 rfl (c_X9_takes (z := z) (by first | assumption | (repeat (refine s_pd_u (by decide) ?_); assumption)) (by first | assumption | (simp [q_up]; done) | (simp [q_up]; assumption)) (by first | assumption | omega) (by first | assumption | omega) (by first | assumption | omega) (by first | assumption | omega)) rfl rfl (Nat.le_of_ble_eq_true rfl) (Nat.le_of_ble_eq_true rfl) (Nat.le_of_ble_eq_true rfl) (fun vq wq hq => ?_)
  rcases hq with ⟨rfl, rfl, qd3⟩ | ⟨rfl, rfl, qd3, qz3⟩
  · show q_Go Γ mX9_takesDeal 3 0 0 6 [(0, q_r Γ 150)] [q_i 0] (KC, S) (fun v w => (v = some (q_i 0) ∧ ∃ S2, w = (KC, S2) ∧ s_offP S S2 ∧ S2 150 10 = s_tmAt P z ∧ ¬ s_tmOk P z ∧ 0 ≤ s_tmAt P z ∧ s_tmAt P z ≤ 80) ∨ (v = some (q_i 1) ∧ ∃ S2, w = (KC, S2) ∧ s_offP S S2 ∧ S2 150 10 = s_tmAt P z ∧ s_tmOk P z ∧ (z < s_tmAt P z ∧ s_tmAt P z ≤ 80) ∧ S2 150 11 = S 150 11 ∧ S2 150 12 = S 150 12 ∧ S2 150 13 = S 150 13 ∧ S2 150 14 = P (z + 1) - 48 ∧ S2 150 15 = (s_num P (z + 1 + 1 + 1)).1 ∧ S2 150 16 = (s_num P ((s_num P (z + 1 + 1 + 1)).2 + 1)).1))
    refine q_istoren (pc' := 7) (L' := [(1, q_i 0), (0, q_r Γ 150)]) dX9_takesDeal_6 rfl rfl (by decide) rfl ?_
    refine q_aloadn (pc' := 8) 1 dX9_takesDeal_7 rfl rfl ?_
    refine q_iloadn (pc' := 9) 0 dX9_takesDeal_8 rfl rfl ?_
    refine q_if_eq (tgt := 21) (pc' := 12) dX9_takesDeal_9 rfl rfl (by decide) (fun qc_9 => ?_) (fun qc_9 => absurd qc_9 (by decide))
    refine q_iconst (pc' := 22) dX9_takesDeal_21 rfl ?_
    refine p_putJ (pc' := 25) (kz := 14) dX9_takesDeal_22 rfl fX9_213 kc150 rfl rfl (rfl) (rfl) (by first | assumption | omega) ?_
    refine q_iloadn (pc' := 26) 0 dX9_takesDeal_25 rfl rfl ?_
    refine q_if_eq (tgt := 49) (pc' := 29) dX9_takesDeal_26 rfl rfl (by decide) (fun qc_26 => ?_) (fun qc_26 => absurd qc_26 (by decide))
    refine q_iconst (pc' := 50) dX9_takesDeal_49 rfl ?_
    refine q_istoren (pc' := 51) (L' := [(1, q_i 0), (0, q_r Γ 150)]) dX9_takesDeal_50 rfl rfl (by decide) rfl ?_
    refine q_aloadn (pc' := 52) 1 dX9_takesDeal_51 rfl rfl ?_
    refine q_iloadn (pc' := 53) 0 dX9_takesDeal_52 rfl rfl ?_
    refine q_if_eq (tgt := 63) (pc' := 56) dX9_takesDeal_53 rfl rfl (by decide) (fun qc_53 => ?_) (fun qc_53 => absurd qc_53 (by decide))
    refine q_iconst (pc' := 64) dX9_takesDeal_63 rfl ?_
    refine p_putJ (pc' := 67) (kz := 15) dX9_takesDeal_64 rfl fX9_219 kc150 rfl rfl (rfl) (rfl) (by first | assumption | omega) ?_
    refine q_iloadn (pc' := 68) 0 dX9_takesDeal_67 rfl rfl ?_
    refine q_if_eq (tgt := 91) (pc' := 71) dX9_takesDeal_68 rfl rfl (by decide) (fun qc_68 => ?_) (fun qc_68 => absurd qc_68 (by decide))
    refine q_iconst (pc' := 92) dX9_takesDeal_91 rfl ?_
    refine q_istoren (pc' := 93) (L' := [(1, q_i 0), (0, q_r Γ 150)]) dX9_takesDeal_92 rfl rfl (by decide) rfl ?_
    refine q_aloadn (pc' := 94) 1 dX9_takesDeal_93 rfl rfl ?_
    refine q_iloadn (pc' := 95) 0 dX9_takesDeal_94 rfl rfl ?_
    refine q_if_eq (tgt := 105) (pc' := 98) dX9_takesDeal_95 rfl rfl (by decide) (fun qc_95 => ?_) (fun qc_95 => absurd qc_95 (by decide))
    refine q_iconst (pc' := 106) dX9_takesDeal_105 rfl ?_
    refine p_putJ (pc' := 109) (kz := 16) dX9_takesDeal_106 rfl fX9_222 kc150 rfl rfl (rfl) (rfl) (by first | assumption | omega) ?_
    refine q_iloadn (pc' := 110) 0 dX9_takesDeal_109 rfl rfl ?_
    refine q_if_eq (tgt := 124) (pc' := 113) dX9_takesDeal_110 rfl rfl (by decide) (fun qc_110 => ?_) (fun qc_110 => absurd qc_110 (by decide))
    refine q_iconst (pc' := 125) dX9_takesDeal_124 rfl ?_
    first | exact q_iret dX9_takesDeal_125 rfl rfl (Or.inl ⟨rfl, _, rfl, (by (repeat (refine s_offP_u ?_ (by decide) (by decide))); exact s_offP_r), (by (repeat (first | rw [q_up_eq] | rw [q_up_nz (by decide)])); unfold s_tmAt; repeat' split <;> omega), fun q => by unfold s_tmOk at q; omega, by unfold s_tmAt; repeat' split <;> omega, by unfold s_tmAt; repeat' split <;> omega⟩) | exact q_iret dX9_takesDeal_125 rfl rfl (Or.inr ⟨rfl, _, rfl, (by (repeat (refine s_offP_u ?_ (by decide) (by decide))); exact s_offP_r), (by (repeat (first | rw [q_up_eq] | rw [q_up_nz (by decide)])); unfold s_tmAt; repeat' split <;> omega), by unfold s_tmOk; omega, ⟨by unfold s_tmAt; repeat' split <;> omega, by unfold s_tmAt; repeat' split <;> omega⟩, (by (repeat (first | rw [q_up_eq] | rw [q_up_nz (by decide)])); first | done | rfl | assumption), (by (repeat (first | rw [q_up_eq] | rw [q_up_nz (by decide)])); first | done | rfl | assumption), (by (repeat (first | rw [q_up_eq] | rw [q_up_nz (by decide)])); first | done | rfl | assumption), (by (repeat (first | rw [q_up_eq] | rw [q_up_nz (by decide)])); first | done | rfl | assumption), (by (repeat (first | rw [q_up_eq] | rw [q_up_nz (by decide)])); first | done | rfl | assumption), (by (repeat (first | rw [q_up_eq] | rw [q_up_nz (by decide)])); first | done | rfl | assumption)⟩)
  · show q_Go Γ mX9_takesDeal 3 0 0 6 [(0, q_r Γ 150)] [q_i 1] (KC, q_up S 150 10 (z + 1)) (fun v w => (v = some (q_i 0) ∧ ∃ S2, w = (KC, S2) ∧ s_offP S S2 ∧ S2 150 10 = s_tmAt P z ∧ ¬ s_tmOk P z ∧ 0 ≤ s_tmAt P z ∧ s_tmAt P z ≤ 80) ∨ (v = some (q_i 1) ∧ ∃ S2, w = (KC, S2) ∧ s_offP S S2 ∧ S2 150 10 = s_tmAt P z ∧ s_tmOk P z ∧ (z < s_tmAt P z ∧ s_tmAt P z ≤ 80) ∧ S2 150 11 = S 150 11 ∧ S2 150 12 = S 150 12 ∧ S2 150 13 = S 150 13 ∧ S2 150 14 = P (z + 1) - 48 ∧ S2 150 15 = (s_num P (z + 1 + 1 + 1)).1 ∧ S2 150 16 = (s_num P ((s_num P (z + 1 + 1 + 1)).2 + 1)).1))
    refine q_istoren (pc' := 7) (L' := [(1, q_i 1), (0, q_r Γ 150)]) dX9_takesDeal_6 rfl rfl (by decide) rfl ?_
    refine q_aloadn (pc' := 8) 1 dX9_takesDeal_7 rfl rfl ?_
    refine q_iloadn (pc' := 9) 0 dX9_takesDeal_8 rfl rfl ?_
    refine q_if_eq (tgt := 21) (pc' := 12) dX9_takesDeal_9 rfl rfl (by decide) (fun qc_9_1 => absurd qc_9_1 (by decide)) (fun qc_9_1 => ?_)
    refine q_aloadn (pc' := 13) 1 dX9_takesDeal_12 rfl rfl ?_
    refine q_bipush (pc' := 15) dX9_takesDeal_13 rfl rfl ?_
    refine q_callVQ (pc' := 18) dX9_takesDeal_15 rfl lX9_207 iX9_takeDigit kc150 rfl (c_X9_takeDigit (z := z + 1) (by first | assumption | (repeat (refine s_pd_u (by decide) ?_); assumption)) (by first | assumption | (simp [q_up]; done) | (simp [q_up]; assumption)) (by first | assumption | omega) (by first | assumption | omega) (by first | assumption | omega) (by first | assumption | omega)) rfl rfl (Nat.le_of_ble_eq_true rfl) (Nat.le_of_ble_eq_true rfl) (Nat.le_of_ble_eq_true rfl) (fun vq wq hq => ?_)
    rcases hq with ⟨rfl, rfl, qd15⟩ | ⟨rfl, rfl, qd15, qz15, qn15, qm15⟩
    · show q_Go Γ mX9_takesDeal 3 0 0 18 [(1, q_i 1), (0, q_r Γ 150)] [q_i (-1), q_r Γ 150] (KC, (q_up S 150 10 (z + 1))) (fun v w => (v = some (q_i 0) ∧ ∃ S2, w = (KC, S2) ∧ s_offP S S2 ∧ S2 150 10 = s_tmAt P z ∧ ¬ s_tmOk P z ∧ 0 ≤ s_tmAt P z ∧ s_tmAt P z ≤ 80) ∨ (v = some (q_i 1) ∧ ∃ S2, w = (KC, S2) ∧ s_offP S S2 ∧ S2 150 10 = s_tmAt P z ∧ s_tmOk P z ∧ (z < s_tmAt P z ∧ s_tmAt P z ≤ 80) ∧ S2 150 11 = S 150 11 ∧ S2 150 12 = S 150 12 ∧ S2 150 13 = S 150 13 ∧ S2 150 14 = P (z + 1) - 48 ∧ S2 150 15 = (s_num P (z + 1 + 1 + 1)).1 ∧ S2 150 16 = (s_num P ((s_num P (z + 1 + 1 + 1)).2 + 1)).1))
      unfold s_isd at qd15
      refine q_goto (pc' := 22) dX9_takesDeal_18 rfl ?_
      refine p_putJ (pc' := 25) (kz := 14) dX9_takesDeal_22 rfl fX9_213 kc150 rfl rfl (rfl) (rfl) (by first | assumption | omega) ?_
      refine q_iloadn (pc' := 26) 0 dX9_takesDeal_25 rfl rfl ?_
      refine q_if_eq (tgt := 49) (pc' := 29) dX9_takesDeal_26 rfl rfl (by decide) (fun qc_26_1 => absurd qc_26_1 (by decide)) (fun qc_26_1 => ?_)
      refine q_aloadn (pc' := 30) 1 dX9_takesDeal_29 rfl rfl ?_
      refine p_getJ (pc' := 33) (kz := 14) dX9_takesDeal_30 rfl fX9_213 kc150 rfl rfl (fun qy_30 eqy_30 rqy_30 => ?_)
      have vqy_30 : qy_30 = -1 := eqy_30.trans (by first | assumption | (simp [q_up]; done) | (simp [q_up]; assumption))
      rw [vqy_30]
      refine q_if_lt (tgt := 49) (pc' := 36) dX9_takesDeal_33 rfl rfl (by decide) (fun qc_33 => ?_) (fun qc_33 => absurd qc_33 (by decide))
      refine q_iconst (pc' := 50) dX9_takesDeal_49 rfl ?_
      refine q_istoren (pc' := 51) (L' := [(1, q_i 0), (0, q_r Γ 150)]) dX9_takesDeal_50 rfl rfl (by decide) rfl ?_
      refine q_aloadn (pc' := 52) 1 dX9_takesDeal_51 rfl rfl ?_
      refine q_iloadn (pc' := 53) 0 dX9_takesDeal_52 rfl rfl ?_
      refine q_if_eq (tgt := 63) (pc' := 56) dX9_takesDeal_53 rfl rfl (by decide) (fun qc_53_1 => ?_) (fun qc_53_1 => absurd qc_53_1 (by decide))
      refine q_iconst (pc' := 64) dX9_takesDeal_63 rfl ?_
      refine p_putJ (pc' := 67) (kz := 15) dX9_takesDeal_64 rfl fX9_219 kc150 rfl rfl (rfl) (rfl) (by first | assumption | omega) ?_
      refine q_iloadn (pc' := 68) 0 dX9_takesDeal_67 rfl rfl ?_
      refine q_if_eq (tgt := 91) (pc' := 71) dX9_takesDeal_68 rfl rfl (by decide) (fun qc_68_1 => ?_) (fun qc_68_1 => absurd qc_68_1 (by decide))
      refine q_iconst (pc' := 92) dX9_takesDeal_91 rfl ?_
      refine q_istoren (pc' := 93) (L' := [(1, q_i 0), (0, q_r Γ 150)]) dX9_takesDeal_92 rfl rfl (by decide) rfl ?_
      refine q_aloadn (pc' := 94) 1 dX9_takesDeal_93 rfl rfl ?_
      refine q_iloadn (pc' := 95) 0 dX9_takesDeal_94 rfl rfl ?_
      refine q_if_eq (tgt := 105) (pc' := 98) dX9_takesDeal_95 rfl rfl (by decide) (fun qc_95_1 => ?_) (fun qc_95_1 => absurd qc_95_1 (by decide))
      refine q_iconst (pc' := 106) dX9_takesDeal_105 rfl ?_
      refine p_putJ (pc' := 109) (kz := 16) dX9_takesDeal_106 rfl fX9_222 kc150 rfl rfl (rfl) (rfl) (by first | assumption | omega) ?_
      refine q_iloadn (pc' := 110) 0 dX9_takesDeal_109 rfl rfl ?_
      refine q_if_eq (tgt := 124) (pc' := 113) dX9_takesDeal_110 rfl rfl (by decide) (fun qc_110_1 => ?_) (fun qc_110_1 => absurd qc_110_1 (by decide))
      refine q_iconst (pc' := 125) dX9_takesDeal_124 rfl ?_
      first | exact q_iret dX9_takesDeal_125 rfl rfl (Or.inl ⟨rfl, _, rfl, (by (repeat (refine s_offP_u ?_ (by decide) (by decide))); exact s_offP_r), (by (repeat (first | rw [q_up_eq] | rw [q_up_nz (by decide)])); unfold s_tmAt; repeat' split <;> omega), fun q => by unfold s_tmOk at q; omega, by unfold s_tmAt; repeat' split <;> omega, by unfold s_tmAt; repeat' split <;> omega⟩) | exact q_iret dX9_takesDeal_125 rfl rfl (Or.inr ⟨rfl, _, rfl, (by (repeat (refine s_offP_u ?_ (by decide) (by decide))); exact s_offP_r), (by (repeat (first | rw [q_up_eq] | rw [q_up_nz (by decide)])); unfold s_tmAt; repeat' split <;> omega), by unfold s_tmOk; omega, ⟨by unfold s_tmAt; repeat' split <;> omega, by unfold s_tmAt; repeat' split <;> omega⟩, (by (repeat (first | rw [q_up_eq] | rw [q_up_nz (by decide)])); first | done | rfl | assumption), (by (repeat (first | rw [q_up_eq] | rw [q_up_nz (by decide)])); first | done | rfl | assumption), (by (repeat (first | rw [q_up_eq] | rw [q_up_nz (by decide)])); first | done | rfl | assumption), (by (repeat (first | rw [q_up_eq] | rw [q_up_nz (by decide)])); first | done | rfl | assumption), (by (repeat (first | rw [q_up_eq] | rw [q_up_nz (by decide)])); first | done | rfl | assumption), (by (repeat (first | rw [q_up_eq] | rw [q_up_nz (by decide)])); first | done | rfl | assumption)⟩)
    · show q_Go Γ mX9_takesDeal 3 0 0 18 [(1, q_i 1), (0, q_r Γ 150)] [q_i (P ((z + 1)) - 48), q_r Γ 150] (KC, q_up (q_up S 150 10 (z + 1)) 150 10 ((z + 1) + 1)) (fun v w => (v = some (q_i 0) ∧ ∃ S2, w = (KC, S2) ∧ s_offP S S2 ∧ S2 150 10 = s_tmAt P z ∧ ¬ s_tmOk P z ∧ 0 ≤ s_tmAt P z ∧ s_tmAt P z ≤ 80) ∨ (v = some (q_i 1) ∧ ∃ S2, w = (KC, S2) ∧ s_offP S S2 ∧ S2 150 10 = s_tmAt P z ∧ s_tmOk P z ∧ (z < s_tmAt P z ∧ s_tmAt P z ≤ 80) ∧ S2 150 11 = S 150 11 ∧ S2 150 12 = S 150 12 ∧ S2 150 13 = S 150 13 ∧ S2 150 14 = P (z + 1) - 48 ∧ S2 150 15 = (s_num P (z + 1 + 1 + 1)).1 ∧ S2 150 16 = (s_num P ((s_num P (z + 1 + 1 + 1)).2 + 1)).1))
      unfold s_isd at qd15
      refine q_goto (pc' := 22) dX9_takesDeal_18 rfl ?_
      refine p_putJ (pc' := 25) (kz := 14) dX9_takesDeal_22 rfl fX9_213 kc150 rfl rfl (rfl) (rfl) (by first | assumption | omega) ?_
      refine q_iloadn (pc' := 26) 0 dX9_takesDeal_25 rfl rfl ?_
      refine q_if_eq (tgt := 49) (pc' := 29) dX9_takesDeal_26 rfl rfl (by decide) (fun qc_26_2 => absurd qc_26_2 (by decide)) (fun qc_26_2 => ?_)
      refine q_aloadn (pc' := 30) 1 dX9_takesDeal_29 rfl rfl ?_
      refine p_getJ (pc' := 33) (kz := 14) dX9_takesDeal_30 rfl fX9_213 kc150 rfl rfl (fun qy_30_1 eqy_30_1 rqy_30_1 => ?_)
      have vqy_30_1 : qy_30_1 = P ((z + 1)) - 48 := eqy_30_1.trans (by first | assumption | (simp [q_up]; done) | (simp [q_up]; assumption))
      rw [vqy_30_1]
      refine q_if_lt (tgt := 49) (pc' := 36) dX9_takesDeal_33 rfl rfl (by first | assumption | omega) (fun qc_33_1 => absurd qc_33_1 (by omega)) (fun qc_33_1 => ?_)
      refine q_aloadn (pc' := 37) 1 dX9_takesDeal_36 rfl rfl ?_
      refine q_bipush (pc' := 39) dX9_takesDeal_37 rfl rfl ?_
      refine q_callVQ (pc' := 42) dX9_takesDeal_39 rfl lX9_210 iX9_takes kc150 rfl (c_X9_takes (z := (z + 1) + 1) (by first | assumption | (repeat (refine s_pd_u (by decide) ?_); assumption)) (by first | assumption | (simp [q_up]; done) | (simp [q_up]; assumption)) (by first | assumption | omega) (by first | assumption | omega) (by first | assumption | omega) (by first | assumption | omega)) rfl rfl (Nat.le_of_ble_eq_true rfl) (Nat.le_of_ble_eq_true rfl) (Nat.le_of_ble_eq_true rfl) (fun vq wq hq => ?_)
      rcases hq with ⟨rfl, rfl, qd39⟩ | ⟨rfl, rfl, qd39, qz39⟩
      · show q_Go Γ mX9_takesDeal 3 0 0 42 [(1, q_i 1), (0, q_r Γ 150)] [q_i 0] (KC, (q_up (q_up (q_up S 150 10 (z + 1)) 150 10 ((z + 1) + 1)) 150 14 (P ((z + 1)) - 48))) (fun v w => (v = some (q_i 0) ∧ ∃ S2, w = (KC, S2) ∧ s_offP S S2 ∧ S2 150 10 = s_tmAt P z ∧ ¬ s_tmOk P z ∧ 0 ≤ s_tmAt P z ∧ s_tmAt P z ≤ 80) ∨ (v = some (q_i 1) ∧ ∃ S2, w = (KC, S2) ∧ s_offP S S2 ∧ S2 150 10 = s_tmAt P z ∧ s_tmOk P z ∧ (z < s_tmAt P z ∧ s_tmAt P z ≤ 80) ∧ S2 150 11 = S 150 11 ∧ S2 150 12 = S 150 12 ∧ S2 150 13 = S 150 13 ∧ S2 150 14 = P (z + 1) - 48 ∧ S2 150 15 = (s_num P (z + 1 + 1 + 1)).1 ∧ S2 150 16 = (s_num P ((s_num P (z + 1 + 1 + 1)).2 + 1)).1))
        refine q_if_eq (tgt := 49) (pc' := 45) dX9_takesDeal_42 rfl rfl (by decide) (fun qc_42 => ?_) (fun qc_42 => absurd qc_42 (by decide))
        refine q_iconst (pc' := 50) dX9_takesDeal_49 rfl ?_
        refine q_istoren (pc' := 51) (L' := [(1, q_i 0), (0, q_r Γ 150)]) dX9_takesDeal_50 rfl rfl (by decide) rfl ?_
        refine q_aloadn (pc' := 52) 1 dX9_takesDeal_51 rfl rfl ?_
        refine q_iloadn (pc' := 53) 0 dX9_takesDeal_52 rfl rfl ?_
        refine q_if_eq (tgt := 63) (pc' := 56) dX9_takesDeal_53 rfl rfl (by decide) (fun qc_53_2 => ?_) (fun qc_53_2 => absurd qc_53_2 (by decide))
        refine q_iconst (pc' := 64) dX9_takesDeal_63 rfl ?_
        refine p_putJ (pc' := 67) (kz := 15) dX9_takesDeal_64 rfl fX9_219 kc150 rfl rfl (rfl) (rfl) (by first | assumption | omega) ?_
        refine q_iloadn (pc' := 68) 0 dX9_takesDeal_67 rfl rfl ?_
        refine q_if_eq (tgt := 91) (pc' := 71) dX9_takesDeal_68 rfl rfl (by decide) (fun qc_68_2 => ?_) (fun qc_68_2 => absurd qc_68_2 (by decide))
        refine q_iconst (pc' := 92) dX9_takesDeal_91 rfl ?_
        refine q_istoren (pc' := 93) (L' := [(1, q_i 0), (0, q_r Γ 150)]) dX9_takesDeal_92 rfl rfl (by decide) rfl ?_
        refine q_aloadn (pc' := 94) 1 dX9_takesDeal_93 rfl rfl ?_
        refine q_iloadn (pc' := 95) 0 dX9_takesDeal_94 rfl rfl ?_
        refine q_if_eq (tgt := 105) (pc' := 98) dX9_takesDeal_95 rfl rfl (by decide) (fun qc_95_2 => ?_) (fun qc_95_2 => absurd qc_95_2 (by decide))
        refine q_iconst (pc' := 106) dX9_takesDeal_105 rfl ?_
        refine p_putJ (pc' := 109) (kz := 16) dX9_takesDeal_106 rfl fX9_222 kc150 rfl rfl (rfl) (rfl) (by first | assumption | omega) ?_
        refine q_iloadn (pc' := 110) 0 dX9_takesDeal_109 rfl rfl ?_
        refine q_if_eq (tgt := 124) (pc' := 113) dX9_takesDeal_110 rfl rfl (by decide) (fun qc_110_2 => ?_) (fun qc_110_2 => absurd qc_110_2 (by decide))
        refine q_iconst (pc' := 125) dX9_takesDeal_124 rfl ?_
        first | exact q_iret dX9_takesDeal_125 rfl rfl (Or.inl ⟨rfl, _, rfl, (by (repeat (refine s_offP_u ?_ (by decide) (by decide))); exact s_offP_r), (by (repeat (first | rw [q_up_eq] | rw [q_up_nz (by decide)])); unfold s_tmAt; repeat' split <;> omega), fun q => by unfold s_tmOk at q; omega, by unfold s_tmAt; repeat' split <;> omega, by unfold s_tmAt; repeat' split <;> omega⟩) | exact q_iret dX9_takesDeal_125 rfl rfl (Or.inr ⟨rfl, _, rfl, (by (repeat (refine s_offP_u ?_ (by decide) (by decide))); exact s_offP_r), (by (repeat (first | rw [q_up_eq] | rw [q_up_nz (by decide)])); unfold s_tmAt; repeat' split <;> omega), by unfold s_tmOk; omega, ⟨by unfold s_tmAt; repeat' split <;> omega, by unfold s_tmAt; repeat' split <;> omega⟩, (by (repeat (first | rw [q_up_eq] | rw [q_up_nz (by decide)])); first | done | rfl | assumption), (by (repeat (first | rw [q_up_eq] | rw [q_up_nz (by decide)])); first | done | rfl | assumption), (by (repeat (first | rw [q_up_eq] | rw [q_up_nz (by decide)])); first | done | rfl | assumption), (by (repeat (first | rw [q_up_eq] | rw [q_up_nz (by decide)])); first | done | rfl | assumption), (by (repeat (first | rw [q_up_eq] | rw [q_up_nz (by decide)])); first | done | rfl | assumption), (by (repeat (first | rw [q_up_eq] | rw [q_up_nz (by decide)])); first | done | rfl | assumption)⟩)
      · show q_Go Γ mX9_takesDeal 3 0 0 42 [(1, q_i 1), (0, q_r Γ 150)] [q_i 1] (KC, q_up (q_up (q_up (q_up S 150 10 (z + 1)) 150 10 ((z + 1) + 1)) 150 14 (P ((z + 1)) - 48)) 150 10 (((z + 1) + 1) + 1)) (fun v w => (v = some (q_i 0) ∧ ∃ S2, w = (KC, S2) ∧ s_offP S S2 ∧ S2 150 10 = s_tmAt P z ∧ ¬ s_tmOk P z ∧ 0 ≤ s_tmAt P z ∧ s_tmAt P z ≤ 80) ∨ (v = some (q_i 1) ∧ ∃ S2, w = (KC, S2) ∧ s_offP S S2 ∧ S2 150 10 = s_tmAt P z ∧ s_tmOk P z ∧ (z < s_tmAt P z ∧ s_tmAt P z ≤ 80) ∧ S2 150 11 = S 150 11 ∧ S2 150 12 = S 150 12 ∧ S2 150 13 = S 150 13 ∧ S2 150 14 = P (z + 1) - 48 ∧ S2 150 15 = (s_num P (z + 1 + 1 + 1)).1 ∧ S2 150 16 = (s_num P ((s_num P (z + 1 + 1 + 1)).2 + 1)).1))
        refine q_if_eq (tgt := 49) (pc' := 45) dX9_takesDeal_42 rfl rfl (by decide) (fun qc_42_1 => absurd qc_42_1 (by decide)) (fun qc_42_1 => ?_)
        refine q_iconst (pc' := 46) dX9_takesDeal_45 rfl ?_
        refine q_goto (pc' := 50) dX9_takesDeal_46 rfl ?_
        refine q_istoren (pc' := 51) (L' := [(1, q_i 1), (0, q_r Γ 150)]) dX9_takesDeal_50 rfl rfl (by decide) rfl ?_
        refine q_aloadn (pc' := 52) 1 dX9_takesDeal_51 rfl rfl ?_
        refine q_iloadn (pc' := 53) 0 dX9_takesDeal_52 rfl rfl ?_
        refine q_if_eq (tgt := 63) (pc' := 56) dX9_takesDeal_53 rfl rfl (by decide) (fun qc_53_3 => absurd qc_53_3 (by decide)) (fun qc_53_3 => ?_)
        refine q_aloadn (pc' := 57) 1 dX9_takesDeal_56 rfl rfl ?_
        refine q_callVQ (pc' := 60) dX9_takesDeal_57 rfl lX9_216 iX9_takeNumber kc150 rfl (c_X9_takeNumber (z := ((z + 1) + 1) + 1) (by first | assumption | (repeat (refine s_pd_u (by decide) ?_); assumption)) (by first | assumption | (simp [q_up]; done) | (simp [q_up]; assumption)) (by first | assumption | omega) (by first | assumption | omega)) rfl rfl (Nat.le_of_ble_eq_true rfl) (Nat.le_of_ble_eq_true rfl) (Nat.le_of_ble_eq_true rfl) (fun vq wq hq => ?_)
        rcases hq with ⟨rfl, rfl, qd57⟩ | ⟨rfl, rfl, qd57, qz57, qn57, qm57⟩
        · show q_Go Γ mX9_takesDeal 3 0 0 60 [(1, q_i 1), (0, q_r Γ 150)] [q_i (-1), q_r Γ 150] (KC, (q_up (q_up (q_up (q_up S 150 10 (z + 1)) 150 10 ((z + 1) + 1)) 150 14 (P ((z + 1)) - 48)) 150 10 (((z + 1) + 1) + 1))) (fun v w => (v = some (q_i 0) ∧ ∃ S2, w = (KC, S2) ∧ s_offP S S2 ∧ S2 150 10 = s_tmAt P z ∧ ¬ s_tmOk P z ∧ 0 ≤ s_tmAt P z ∧ s_tmAt P z ≤ 80) ∨ (v = some (q_i 1) ∧ ∃ S2, w = (KC, S2) ∧ s_offP S S2 ∧ S2 150 10 = s_tmAt P z ∧ s_tmOk P z ∧ (z < s_tmAt P z ∧ s_tmAt P z ≤ 80) ∧ S2 150 11 = S 150 11 ∧ S2 150 12 = S 150 12 ∧ S2 150 13 = S 150 13 ∧ S2 150 14 = P (z + 1) - 48 ∧ S2 150 15 = (s_num P (z + 1 + 1 + 1)).1 ∧ S2 150 16 = (s_num P ((s_num P (z + 1 + 1 + 1)).2 + 1)).1))
          unfold s_isd at qd57
          refine q_goto (pc' := 64) dX9_takesDeal_60 rfl ?_
          refine p_putJ (pc' := 67) (kz := 15) dX9_takesDeal_64 rfl fX9_219 kc150 rfl rfl (rfl) (rfl) (by first | assumption | omega) ?_
          refine q_iloadn (pc' := 68) 0 dX9_takesDeal_67 rfl rfl ?_
          refine q_if_eq (tgt := 91) (pc' := 71) dX9_takesDeal_68 rfl rfl (by decide) (fun qc_68_3 => absurd qc_68_3 (by decide)) (fun qc_68_3 => ?_)
          refine q_aloadn (pc' := 72) 1 dX9_takesDeal_71 rfl rfl ?_
          refine p_getJ (pc' := 75) (kz := 15) dX9_takesDeal_72 rfl fX9_219 kc150 rfl rfl (fun qy_72 eqy_72 rqy_72 => ?_)
          have vqy_72 : qy_72 = -1 := eqy_72.trans (by first | assumption | (simp [q_up]; done) | (simp [q_up]; assumption))
          rw [vqy_72]
          refine q_if_lt (tgt := 91) (pc' := 78) dX9_takesDeal_75 rfl rfl (by decide) (fun qc_75 => ?_) (fun qc_75 => absurd qc_75 (by decide))
          refine q_iconst (pc' := 92) dX9_takesDeal_91 rfl ?_
          refine q_istoren (pc' := 93) (L' := [(1, q_i 0), (0, q_r Γ 150)]) dX9_takesDeal_92 rfl rfl (by decide) rfl ?_
          refine q_aloadn (pc' := 94) 1 dX9_takesDeal_93 rfl rfl ?_
          refine q_iloadn (pc' := 95) 0 dX9_takesDeal_94 rfl rfl ?_
          refine q_if_eq (tgt := 105) (pc' := 98) dX9_takesDeal_95 rfl rfl (by decide) (fun qc_95_3 => ?_) (fun qc_95_3 => absurd qc_95_3 (by decide))
          refine q_iconst (pc' := 106) dX9_takesDeal_105 rfl ?_
          refine p_putJ (pc' := 109) (kz := 16) dX9_takesDeal_106 rfl fX9_222 kc150 rfl rfl (rfl) (rfl) (by first | assumption | omega) ?_
          refine q_iloadn (pc' := 110) 0 dX9_takesDeal_109 rfl rfl ?_
          refine q_if_eq (tgt := 124) (pc' := 113) dX9_takesDeal_110 rfl rfl (by decide) (fun qc_110_3 => ?_) (fun qc_110_3 => absurd qc_110_3 (by decide))
          refine q_iconst (pc' := 125) dX9_takesDeal_124 rfl ?_
          first | exact q_iret dX9_takesDeal_125 rfl rfl (Or.inl ⟨rfl, _, rfl, (by (repeat (refine s_offP_u ?_ (by decide) (by decide))); exact s_offP_r), (by (repeat (first | rw [q_up_eq] | rw [q_up_nz (by decide)])); unfold s_tmAt; repeat' split <;> omega), fun q => by unfold s_tmOk at q; omega, by unfold s_tmAt; repeat' split <;> omega, by unfold s_tmAt; repeat' split <;> omega⟩) | exact q_iret dX9_takesDeal_125 rfl rfl (Or.inr ⟨rfl, _, rfl, (by (repeat (refine s_offP_u ?_ (by decide) (by decide))); exact s_offP_r), (by (repeat (first | rw [q_up_eq] | rw [q_up_nz (by decide)])); unfold s_tmAt; repeat' split <;> omega), by unfold s_tmOk; omega, ⟨by unfold s_tmAt; repeat' split <;> omega, by unfold s_tmAt; repeat' split <;> omega⟩, (by (repeat (first | rw [q_up_eq] | rw [q_up_nz (by decide)])); first | done | rfl | assumption), (by (repeat (first | rw [q_up_eq] | rw [q_up_nz (by decide)])); first | done | rfl | assumption), (by (repeat (first | rw [q_up_eq] | rw [q_up_nz (by decide)])); first | done | rfl | assumption), (by (repeat (first | rw [q_up_eq] | rw [q_up_nz (by decide)])); first | done | rfl | assumption), (by (repeat (first | rw [q_up_eq] | rw [q_up_nz (by decide)])); first | done | rfl | assumption), (by (repeat (first | rw [q_up_eq] | rw [q_up_nz (by decide)])); first | done | rfl | assumption)⟩)
        · show q_Go Γ mX9_takesDeal 3 0 0 60 [(1, q_i 1), (0, q_r Γ 150)] [q_i ((s_num P (((z + 1) + 1) + 1)).1), q_r Γ 150] (KC, q_up (q_up (q_up (q_up (q_up S 150 10 (z + 1)) 150 10 ((z + 1) + 1)) 150 14 (P ((z + 1)) - 48)) 150 10 (((z + 1) + 1) + 1)) 150 10 (s_num P (((z + 1) + 1) + 1)).2) (fun v w => (v = some (q_i 0) ∧ ∃ S2, w = (KC, S2) ∧ s_offP S S2 ∧ S2 150 10 = s_tmAt P z ∧ ¬ s_tmOk P z ∧ 0 ≤ s_tmAt P z ∧ s_tmAt P z ≤ 80) ∨ (v = some (q_i 1) ∧ ∃ S2, w = (KC, S2) ∧ s_offP S S2 ∧ S2 150 10 = s_tmAt P z ∧ s_tmOk P z ∧ (z < s_tmAt P z ∧ s_tmAt P z ≤ 80) ∧ S2 150 11 = S 150 11 ∧ S2 150 12 = S 150 12 ∧ S2 150 13 = S 150 13 ∧ S2 150 14 = P (z + 1) - 48 ∧ S2 150 15 = (s_num P (z + 1 + 1 + 1)).1 ∧ S2 150 16 = (s_num P ((s_num P (z + 1 + 1 + 1)).2 + 1)).1))
          unfold s_isd at qd57
          refine q_goto (pc' := 64) dX9_takesDeal_60 rfl ?_
          refine p_putJ (pc' := 67) (kz := 15) dX9_takesDeal_64 rfl fX9_219 kc150 rfl rfl (rfl) (rfl) (by first | assumption | omega) ?_
          refine q_iloadn (pc' := 68) 0 dX9_takesDeal_67 rfl rfl ?_
          refine q_if_eq (tgt := 91) (pc' := 71) dX9_takesDeal_68 rfl rfl (by decide) (fun qc_68_4 => absurd qc_68_4 (by decide)) (fun qc_68_4 => ?_)
          refine q_aloadn (pc' := 72) 1 dX9_takesDeal_71 rfl rfl ?_
          refine p_getJ (pc' := 75) (kz := 15) dX9_takesDeal_72 rfl fX9_219 kc150 rfl rfl (fun qy_72_1 eqy_72_1 rqy_72_1 => ?_)
          have vqy_72_1 : qy_72_1 = (s_num P (((z + 1) + 1) + 1)).1 := eqy_72_1.trans (by first | assumption | (simp [q_up]; done) | (simp [q_up]; assumption))
          rw [vqy_72_1]
          refine q_if_lt (tgt := 91) (pc' := 78) dX9_takesDeal_75 rfl rfl (by first | assumption | omega) (fun qc_75_1 => absurd qc_75_1 (by omega)) (fun qc_75_1 => ?_)
          refine q_aloadn (pc' := 79) 1 dX9_takesDeal_78 rfl rfl ?_
          refine q_bipush (pc' := 81) dX9_takesDeal_79 rfl rfl ?_
          refine q_callVQ (pc' := 84) dX9_takesDeal_81 rfl lX9_210 iX9_takes kc150 rfl (c_X9_takes (z := (s_num P (((z + 1) + 1) + 1)).2) (by first | assumption | (repeat (refine s_pd_u (by decide) ?_); assumption)) (by first | assumption | (simp [q_up]; done) | (simp [q_up]; assumption)) (by first | assumption | omega) (by first | assumption | omega) (by first | assumption | omega) (by first | assumption | omega)) rfl rfl (Nat.le_of_ble_eq_true rfl) (Nat.le_of_ble_eq_true rfl) (Nat.le_of_ble_eq_true rfl) (fun vq wq hq => ?_)
          rcases hq with ⟨rfl, rfl, qd81⟩ | ⟨rfl, rfl, qd81, qz81⟩
          · show q_Go Γ mX9_takesDeal 3 0 0 84 [(1, q_i 1), (0, q_r Γ 150)] [q_i 0] (KC, (q_up (q_up (q_up (q_up (q_up (q_up S 150 10 (z + 1)) 150 10 ((z + 1) + 1)) 150 14 (P ((z + 1)) - 48)) 150 10 (((z + 1) + 1) + 1)) 150 10 (s_num P (((z + 1) + 1) + 1)).2) 150 15 ((s_num P (((z + 1) + 1) + 1)).1))) (fun v w => (v = some (q_i 0) ∧ ∃ S2, w = (KC, S2) ∧ s_offP S S2 ∧ S2 150 10 = s_tmAt P z ∧ ¬ s_tmOk P z ∧ 0 ≤ s_tmAt P z ∧ s_tmAt P z ≤ 80) ∨ (v = some (q_i 1) ∧ ∃ S2, w = (KC, S2) ∧ s_offP S S2 ∧ S2 150 10 = s_tmAt P z ∧ s_tmOk P z ∧ (z < s_tmAt P z ∧ s_tmAt P z ≤ 80) ∧ S2 150 11 = S 150 11 ∧ S2 150 12 = S 150 12 ∧ S2 150 13 = S 150 13 ∧ S2 150 14 = P (z + 1) - 48 ∧ S2 150 15 = (s_num P (z + 1 + 1 + 1)).1 ∧ S2 150 16 = (s_num P ((s_num P (z + 1 + 1 + 1)).2 + 1)).1))
            refine q_if_eq (tgt := 91) (pc' := 87) dX9_takesDeal_84 rfl rfl (by decide) (fun qc_84 => ?_) (fun qc_84 => absurd qc_84 (by decide))
            refine q_iconst (pc' := 92) dX9_takesDeal_91 rfl ?_
            refine q_istoren (pc' := 93) (L' := [(1, q_i 0), (0, q_r Γ 150)]) dX9_takesDeal_92 rfl rfl (by decide) rfl ?_
            refine q_aloadn (pc' := 94) 1 dX9_takesDeal_93 rfl rfl ?_
            refine q_iloadn (pc' := 95) 0 dX9_takesDeal_94 rfl rfl ?_
            refine q_if_eq (tgt := 105) (pc' := 98) dX9_takesDeal_95 rfl rfl (by decide) (fun qc_95_4 => ?_) (fun qc_95_4 => absurd qc_95_4 (by decide))
            refine q_iconst (pc' := 106) dX9_takesDeal_105 rfl ?_
            refine p_putJ (pc' := 109) (kz := 16) dX9_takesDeal_106 rfl fX9_222 kc150 rfl rfl (rfl) (rfl) (by first | assumption | omega) ?_
            refine q_iloadn (pc' := 110) 0 dX9_takesDeal_109 rfl rfl ?_
            refine q_if_eq (tgt := 124) (pc' := 113) dX9_takesDeal_110 rfl rfl (by decide) (fun qc_110_4 => ?_) (fun qc_110_4 => absurd qc_110_4 (by decide))
            refine q_iconst (pc' := 125) dX9_takesDeal_124 rfl ?_
            first | exact q_iret dX9_takesDeal_125 rfl rfl (Or.inl ⟨rfl, _, rfl, (by (repeat (refine s_offP_u ?_ (by decide) (by decide))); exact s_offP_r), (by (repeat (first | rw [q_up_eq] | rw [q_up_nz (by decide)])); unfold s_tmAt; repeat' split <;> omega), fun q => by unfold s_tmOk at q; omega, by unfold s_tmAt; repeat' split <;> omega, by unfold s_tmAt; repeat' split <;> omega⟩) | exact q_iret dX9_takesDeal_125 rfl rfl (Or.inr ⟨rfl, _, rfl, (by (repeat (refine s_offP_u ?_ (by decide) (by decide))); exact s_offP_r), (by (repeat (first | rw [q_up_eq] | rw [q_up_nz (by decide)])); unfold s_tmAt; repeat' split <;> omega), by unfold s_tmOk; omega, ⟨by unfold s_tmAt; repeat' split <;> omega, by unfold s_tmAt; repeat' split <;> omega⟩, (by (repeat (first | rw [q_up_eq] | rw [q_up_nz (by decide)])); first | done | rfl | assumption), (by (repeat (first | rw [q_up_eq] | rw [q_up_nz (by decide)])); first | done | rfl | assumption), (by (repeat (first | rw [q_up_eq] | rw [q_up_nz (by decide)])); first | done | rfl | assumption), (by (repeat (first | rw [q_up_eq] | rw [q_up_nz (by decide)])); first | done | rfl | assumption), (by (repeat (first | rw [q_up_eq] | rw [q_up_nz (by decide)])); first | done | rfl | assumption), (by (repeat (first | rw [q_up_eq] | rw [q_up_nz (by decide)])); first | done | rfl | assumption)⟩)
          · show q_Go Γ mX9_takesDeal 3 0 0 84 [(1, q_i 1), (0, q_r Γ 150)] [q_i 1] (KC, q_up (q_up (q_up (q_up (q_up (q_up (q_up S 150 10 (z + 1)) 150 10 ((z + 1) + 1)) 150 14 (P ((z + 1)) - 48)) 150 10 (((z + 1) + 1) + 1)) 150 10 (s_num P (((z + 1) + 1) + 1)).2) 150 15 ((s_num P (((z + 1) + 1) + 1)).1)) 150 10 (((s_num P (((z + 1) + 1) + 1)).2) + 1)) (fun v w => (v = some (q_i 0) ∧ ∃ S2, w = (KC, S2) ∧ s_offP S S2 ∧ S2 150 10 = s_tmAt P z ∧ ¬ s_tmOk P z ∧ 0 ≤ s_tmAt P z ∧ s_tmAt P z ≤ 80) ∨ (v = some (q_i 1) ∧ ∃ S2, w = (KC, S2) ∧ s_offP S S2 ∧ S2 150 10 = s_tmAt P z ∧ s_tmOk P z ∧ (z < s_tmAt P z ∧ s_tmAt P z ≤ 80) ∧ S2 150 11 = S 150 11 ∧ S2 150 12 = S 150 12 ∧ S2 150 13 = S 150 13 ∧ S2 150 14 = P (z + 1) - 48 ∧ S2 150 15 = (s_num P (z + 1 + 1 + 1)).1 ∧ S2 150 16 = (s_num P ((s_num P (z + 1 + 1 + 1)).2 + 1)).1))
            refine q_if_eq (tgt := 91) (pc' := 87) dX9_takesDeal_84 rfl rfl (by decide) (fun qc_84_1 => absurd qc_84_1 (by decide)) (fun qc_84_1 => ?_)
            refine q_iconst (pc' := 88) dX9_takesDeal_87 rfl ?_
            refine q_goto (pc' := 92) dX9_takesDeal_88 rfl ?_
            refine q_istoren (pc' := 93) (L' := [(1, q_i 1), (0, q_r Γ 150)]) dX9_takesDeal_92 rfl rfl (by decide) rfl ?_
            refine q_aloadn (pc' := 94) 1 dX9_takesDeal_93 rfl rfl ?_
            refine q_iloadn (pc' := 95) 0 dX9_takesDeal_94 rfl rfl ?_
            refine q_if_eq (tgt := 105) (pc' := 98) dX9_takesDeal_95 rfl rfl (by decide) (fun qc_95_5 => absurd qc_95_5 (by decide)) (fun qc_95_5 => ?_)
            refine q_aloadn (pc' := 99) 1 dX9_takesDeal_98 rfl rfl ?_
            refine q_callVQ (pc' := 102) dX9_takesDeal_99 rfl lX9_216 iX9_takeNumber kc150 rfl (c_X9_takeNumber (z := ((s_num P (((z + 1) + 1) + 1)).2) + 1) (by first | assumption | (repeat (refine s_pd_u (by decide) ?_); assumption)) (by first | assumption | (simp [q_up]; done) | (simp [q_up]; assumption)) (by first | assumption | omega) (by first | assumption | omega)) rfl rfl (Nat.le_of_ble_eq_true rfl) (Nat.le_of_ble_eq_true rfl) (Nat.le_of_ble_eq_true rfl) (fun vq wq hq => ?_)
            rcases hq with ⟨rfl, rfl, qd99⟩ | ⟨rfl, rfl, qd99, qz99, qn99, qm99⟩
            · show q_Go Γ mX9_takesDeal 3 0 0 102 [(1, q_i 1), (0, q_r Γ 150)] [q_i (-1), q_r Γ 150] (KC, (q_up (q_up (q_up (q_up (q_up (q_up (q_up S 150 10 (z + 1)) 150 10 ((z + 1) + 1)) 150 14 (P ((z + 1)) - 48)) 150 10 (((z + 1) + 1) + 1)) 150 10 (s_num P (((z + 1) + 1) + 1)).2) 150 15 ((s_num P (((z + 1) + 1) + 1)).1)) 150 10 (((s_num P (((z + 1) + 1) + 1)).2) + 1))) (fun v w => (v = some (q_i 0) ∧ ∃ S2, w = (KC, S2) ∧ s_offP S S2 ∧ S2 150 10 = s_tmAt P z ∧ ¬ s_tmOk P z ∧ 0 ≤ s_tmAt P z ∧ s_tmAt P z ≤ 80) ∨ (v = some (q_i 1) ∧ ∃ S2, w = (KC, S2) ∧ s_offP S S2 ∧ S2 150 10 = s_tmAt P z ∧ s_tmOk P z ∧ (z < s_tmAt P z ∧ s_tmAt P z ≤ 80) ∧ S2 150 11 = S 150 11 ∧ S2 150 12 = S 150 12 ∧ S2 150 13 = S 150 13 ∧ S2 150 14 = P (z + 1) - 48 ∧ S2 150 15 = (s_num P (z + 1 + 1 + 1)).1 ∧ S2 150 16 = (s_num P ((s_num P (z + 1 + 1 + 1)).2 + 1)).1))
              unfold s_isd at qd99
              refine q_goto (pc' := 106) dX9_takesDeal_102 rfl ?_
              refine p_putJ (pc' := 109) (kz := 16) dX9_takesDeal_106 rfl fX9_222 kc150 rfl rfl (rfl) (rfl) (by first | assumption | omega) ?_
              refine q_iloadn (pc' := 110) 0 dX9_takesDeal_109 rfl rfl ?_
              refine q_if_eq (tgt := 124) (pc' := 113) dX9_takesDeal_110 rfl rfl (by decide) (fun qc_110_5 => absurd qc_110_5 (by decide)) (fun qc_110_5 => ?_)
              refine q_aloadn (pc' := 114) 1 dX9_takesDeal_113 rfl rfl ?_
              refine p_getJ (pc' := 117) (kz := 16) dX9_takesDeal_114 rfl fX9_222 kc150 rfl rfl (fun qy_114 eqy_114 rqy_114 => ?_)
              have vqy_114 : qy_114 = -1 := eqy_114.trans (by first | assumption | (simp [q_up]; done) | (simp [q_up]; assumption))
              rw [vqy_114]
              refine q_if_lt (tgt := 124) (pc' := 120) dX9_takesDeal_117 rfl rfl (by decide) (fun qc_117 => ?_) (fun qc_117 => absurd qc_117 (by decide))
              refine q_iconst (pc' := 125) dX9_takesDeal_124 rfl ?_
              first | exact q_iret dX9_takesDeal_125 rfl rfl (Or.inl ⟨rfl, _, rfl, (by (repeat (refine s_offP_u ?_ (by decide) (by decide))); exact s_offP_r), (by (repeat (first | rw [q_up_eq] | rw [q_up_nz (by decide)])); unfold s_tmAt; repeat' split <;> omega), fun q => by unfold s_tmOk at q; omega, by unfold s_tmAt; repeat' split <;> omega, by unfold s_tmAt; repeat' split <;> omega⟩) | exact q_iret dX9_takesDeal_125 rfl rfl (Or.inr ⟨rfl, _, rfl, (by (repeat (refine s_offP_u ?_ (by decide) (by decide))); exact s_offP_r), (by (repeat (first | rw [q_up_eq] | rw [q_up_nz (by decide)])); unfold s_tmAt; repeat' split <;> omega), by unfold s_tmOk; omega, ⟨by unfold s_tmAt; repeat' split <;> omega, by unfold s_tmAt; repeat' split <;> omega⟩, (by (repeat (first | rw [q_up_eq] | rw [q_up_nz (by decide)])); first | done | rfl | assumption), (by (repeat (first | rw [q_up_eq] | rw [q_up_nz (by decide)])); first | done | rfl | assumption), (by (repeat (first | rw [q_up_eq] | rw [q_up_nz (by decide)])); first | done | rfl | assumption), (by (repeat (first | rw [q_up_eq] | rw [q_up_nz (by decide)])); first | done | rfl | assumption), (by (repeat (first | rw [q_up_eq] | rw [q_up_nz (by decide)])); first | done | rfl | assumption), (by (repeat (first | rw [q_up_eq] | rw [q_up_nz (by decide)])); first | done | rfl | assumption)⟩)
            · show q_Go Γ mX9_takesDeal 3 0 0 102 [(1, q_i 1), (0, q_r Γ 150)] [q_i ((s_num P (((s_num P (((z + 1) + 1) + 1)).2) + 1)).1), q_r Γ 150] (KC, q_up (q_up (q_up (q_up (q_up (q_up (q_up (q_up S 150 10 (z + 1)) 150 10 ((z + 1) + 1)) 150 14 (P ((z + 1)) - 48)) 150 10 (((z + 1) + 1) + 1)) 150 10 (s_num P (((z + 1) + 1) + 1)).2) 150 15 ((s_num P (((z + 1) + 1) + 1)).1)) 150 10 (((s_num P (((z + 1) + 1) + 1)).2) + 1)) 150 10 (s_num P (((s_num P (((z + 1) + 1) + 1)).2) + 1)).2) (fun v w => (v = some (q_i 0) ∧ ∃ S2, w = (KC, S2) ∧ s_offP S S2 ∧ S2 150 10 = s_tmAt P z ∧ ¬ s_tmOk P z ∧ 0 ≤ s_tmAt P z ∧ s_tmAt P z ≤ 80) ∨ (v = some (q_i 1) ∧ ∃ S2, w = (KC, S2) ∧ s_offP S S2 ∧ S2 150 10 = s_tmAt P z ∧ s_tmOk P z ∧ (z < s_tmAt P z ∧ s_tmAt P z ≤ 80) ∧ S2 150 11 = S 150 11 ∧ S2 150 12 = S 150 12 ∧ S2 150 13 = S 150 13 ∧ S2 150 14 = P (z + 1) - 48 ∧ S2 150 15 = (s_num P (z + 1 + 1 + 1)).1 ∧ S2 150 16 = (s_num P ((s_num P (z + 1 + 1 + 1)).2 + 1)).1))
              unfold s_isd at qd99
              refine q_goto (pc' := 106) dX9_takesDeal_102 rfl ?_
              refine p_putJ (pc' := 109) (kz := 16) dX9_takesDeal_106 rfl fX9_222 kc150 rfl rfl (rfl) (rfl) (by first | assumption | omega) ?_
              refine q_iloadn (pc' := 110) 0 dX9_takesDeal_109 rfl rfl ?_
              refine q_if_eq (tgt := 124) (pc' := 113) dX9_takesDeal_110 rfl rfl (by decide) (fun qc_110_6 => absurd qc_110_6 (by decide)) (fun qc_110_6 => ?_)
              refine q_aloadn (pc' := 114) 1 dX9_takesDeal_113 rfl rfl ?_
              refine p_getJ (pc' := 117) (kz := 16) dX9_takesDeal_114 rfl fX9_222 kc150 rfl rfl (fun qy_114_1 eqy_114_1 rqy_114_1 => ?_)
              have vqy_114_1 : qy_114_1 = (s_num P (((s_num P (((z + 1) + 1) + 1)).2) + 1)).1 := eqy_114_1.trans (by first | assumption | (simp [q_up]; done) | (simp [q_up]; assumption))
              rw [vqy_114_1]
              refine q_if_lt (tgt := 124) (pc' := 120) dX9_takesDeal_117 rfl rfl (by first | assumption | omega) (fun qc_117_1 => absurd qc_117_1 (by omega)) (fun qc_117_1 => ?_)
              refine q_iconst (pc' := 121) dX9_takesDeal_120 rfl ?_
              refine q_goto (pc' := 125) dX9_takesDeal_121 rfl ?_
              first | exact q_iret dX9_takesDeal_125 rfl rfl (Or.inl ⟨rfl, _, rfl, (by (repeat (refine s_offP_u ?_ (by decide) (by decide))); exact s_offP_r), (by (repeat (first | rw [q_up_eq] | rw [q_up_nz (by decide)])); unfold s_tmAt; repeat' split <;> omega), fun q => by unfold s_tmOk at q; omega, by unfold s_tmAt; repeat' split <;> omega, by unfold s_tmAt; repeat' split <;> omega⟩) | exact q_iret dX9_takesDeal_125 rfl rfl (Or.inr ⟨rfl, _, rfl, (by (repeat (refine s_offP_u ?_ (by decide) (by decide))); exact s_offP_r), (by (repeat (first | rw [q_up_eq] | rw [q_up_nz (by decide)])); unfold s_tmAt; repeat' split <;> omega), by unfold s_tmOk; omega, ⟨by unfold s_tmAt; repeat' split <;> omega, by unfold s_tmAt; repeat' split <;> omega⟩, (by (repeat (first | rw [q_up_eq] | rw [q_up_nz (by decide)])); first | done | rfl | assumption), (by (repeat (first | rw [q_up_eq] | rw [q_up_nz (by decide)])); first | done | rfl | assumption), (by (repeat (first | rw [q_up_eq] | rw [q_up_nz (by decide)])); first | done | rfl | assumption), (by (repeat (first | rw [q_up_eq] | rw [q_up_nz (by decide)])); first | done | rfl | assumption), (by (repeat (first | rw [q_up_eq] | rw [q_up_nz (by decide)])); first | done | rfl | assumption), (by (repeat (first | rw [q_up_eq] | rw [q_up_nz (by decide)])); first | done | rfl | assumption)⟩)
