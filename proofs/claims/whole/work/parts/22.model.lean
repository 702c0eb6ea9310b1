set_option maxRecDepth 20000 in
set_option maxHeartbeats 4000000 in
theorem c_X9_character {Γ : q_G} {S : q_S} {P : Int → Int} {z : Int} (pd : s_pd S P) (z0 : 0 ≤ z) (z1 : z ≤ 81) : q_Sp Γ mX9_character 0 0 0 [q_r Γ 150, q_i z] (KC, S) (q_ev (some (q_i (P z))) (KC, S)) := by
  show q_Go Γ mX9_character 0 0 0 0 [(0, q_r Γ 150), (1, q_i z)] [] (KC, S) (q_ev (some (q_i (P z))) (KC, S))
  have pl := pd.1
  refine q_iloadn (pc' := 1) 1 dX9_character_0 rfl rfl ?_
  refine q_aloadn (pc' := 2) 0 dX9_character_1 rfl rfl ?_
  refine p_getJ (pc' := 5) (kz := 6) dX9_character_2 rfl fX9_183 kc150 rfl rfl (fun qy_2 eqy_2 rqy_2 => ?_)
  refine q_icmp_ge (tgt := 17) (pc' := 8) dX9_character_5 rfl rfl (by first | assumption | omega) (by first | assumption | omega) (fun qc_5 => ?_) (fun qc_5 => ?_)
  · refine q_iconst (pc' := 18) dX9_character_17 rfl ?_
    first | rw [e13] | rw [show (-1 : Int) = P z from (pd.2.2.1 z (by omega)).symm]
    refine p_iret dX9_character_18 rfl ?_ ?_
    · rfl
    · rfl
  · refine q_aloadn (pc' := 9) 0 dX9_character_8 rfl rfl ?_
    refine p_getR (pc' := 12) (f := 155) dX9_character_9 rfl fX9_22 kc150 rfl ?_
    refine q_iloadn (pc' := 13) 1 dX9_character_12 rfl rfl ?_
    refine p_iald (pc' := 14) dX9_character_13 rfl kc155 (by first | assumption | omega) (by first | assumption | omega) (by decide) (fun qy_13 eqy_13 rqy_13 => ?_)
    have e13 : qy_13 = P z := by rw [eqy_13]; exact pd.2.1 z (by omega) (by omega)
    refine q_goto (pc' := 18) dX9_character_14 rfl ?_
    first | rw [e13] | rw [show (-1 : Int) = P z from (pd.2.2.1 z (by omega)).symm]
    refine p_iret dX9_character_18 rfl ?_ ?_
    · rfl
    · rfl
set_option maxRecDepth 20000 in
set_option maxHeartbeats 4000000 in
theorem c_X9_takeDigit {Γ : q_G} {S : q_S} {P : Int → Int} {z u : Int} (pd : s_pd S P) (ha : S 150 10 = z) (z0 : 0 ≤ z) (z1 : z ≤ 80) (u0 : 0 ≤ u) (u1 : u ≤ 9) : q_Sp Γ mX9_takeDigit 1 0 0 [q_r Γ 150, q_i u] (KC, S) (fun v w => (v = some (q_i (-1)) ∧ w = (KC, S) ∧ ¬ s_isd P u z) ∨ (v = some (q_i (P z - 48)) ∧ w = (KC, q_up S 150 10 (z + 1)) ∧ s_isd P u z ∧ z < 80 ∧ 0 ≤ P z - 48 ∧ P z - 48 ≤ 9)) := by
  show q_Go Γ mX9_takeDigit 1 0 0 0 [(0, q_r Γ 150), (1, q_i u)] [] (KC, S) (fun v w => (v = some (q_i (-1)) ∧ w = (KC, S) ∧ ¬ s_isd P u z) ∨ (v = some (q_i (P z - 48)) ∧ w = (KC, q_up S 150 10 (z + 1)) ∧ s_isd P u z ∧ z < 80 ∧ 0 ≤ P z - 48 ∧ P z - 48 ≤ 9))
  have pb := pd.2.2.2 z
  have pl := pd.1
  refine q_aloadn (pc' := 1) 0 dX9_takeDigit_0 rfl rfl ?_
  refine q_aloadn (pc' := 2) 0 dX9_takeDigit_1 rfl rfl ?_
  refine p_getJ (pc' := 5) (kz := 10) dX9_takeDigit_2 rfl fX9_201 kc150 rfl rfl (fun qy_2 eqy_2 rqy_2 => ?_)
  have vqy_2 : qy_2 = z := eqy_2.trans (by first | assumption | (simp [q_up]; done) | (simp [q_up]; assumption))
  rw [vqy_2]
  refine q_callVI (pc' := 8) dX9_takeDigit_5 rfl lX9_204 iX9_character kc150 rfl (c_X9_character (P := P) (by first | assumption | (repeat (refine s_pd_u (by decide) ?_); assumption)) (by omega) (by omega)) rfl rfl (Nat.le_of_ble_eq_true rfl) (Nat.le_of_ble_eq_true rfl) (Nat.le_of_ble_eq_true rfl) ?_
  refine q_bipush (pc' := 10) dX9_takeDigit_8 rfl rfl ?_
  refine q_isub (pc' := 11) dX9_takeDigit_10 rfl ?_
  refine q_istoren (pc' := 12) (L' := [(2, q_i ((P (z)) - 48)), (0, q_r Γ 150), (1, q_i u)]) dX9_takeDigit_11 rfl rfl (by decide) rfl ?_
  refine q_iloadn (pc' := 13) 0 dX9_takeDigit_12 rfl rfl ?_
  refine q_iconst (pc' := 14) dX9_takeDigit_13 rfl ?_
  refine q_iloadn (pc' := 15) 2 dX9_takeDigit_14 rfl rfl ?_
  refine q_callSI (pc' := 18) dX9_takeDigit_15 rfl lX9_42 iX9_within (c_X9_within (by first | assumption | omega) (by first | assumption | omega) (by first | assumption | omega)) rfl rfl (Nat.le_of_ble_eq_true rfl) (Nat.le_of_ble_eq_true rfl) (Nat.le_of_ble_eq_true rfl) ?_
  refine q_if_ne_B (tgt := 23) (pc' := 21) dX9_takeDigit_18 rfl rfl (fun qc_18 => ?_) (fun qc_18 => ?_)
  · refine q_aloadn (pc' := 24) 1 dX9_takeDigit_23 rfl rfl ?_
    refine q_dup (pc' := 25) dX9_takeDigit_24 rfl rfl ?_
    refine p_getJ (pc' := 28) (kz := 10) dX9_takeDigit_25 rfl fX9_201 kc150 rfl rfl (fun qy_25 eqy_25 rqy_25 => ?_)
    have vqy_25 : qy_25 = z := eqy_25.trans (by first | assumption | (simp [q_up]; done) | (simp [q_up]; assumption))
    rw [vqy_25]
    refine q_iconst (pc' := 29) dX9_takeDigit_28 rfl ?_
    refine q_iadd (pc' := 30) dX9_takeDigit_29 rfl ?_
    refine p_putJ (pc' := 33) (kz := 10) dX9_takeDigit_30 rfl fX9_201 kc150 rfl rfl (rfl) (rfl) (by first | assumption | omega) ?_
    refine q_iloadn (pc' := 34) 0 dX9_takeDigit_33 rfl rfl ?_
    first | exact q_iret dX9_takeDigit_34 rfl rfl (Or.inl ⟨rfl, rfl, fun q => by unfold s_isd at q; omega⟩) | exact q_iret dX9_takeDigit_34 rfl rfl (Or.inr ⟨rfl, rfl, by unfold s_isd; omega, by have := s_pd_lt pd (z := z) (by omega); omega, by omega, by omega⟩)
  · refine q_iconst (pc' := 22) dX9_takeDigit_21 rfl ?_
    first | exact q_iret dX9_takeDigit_22 rfl rfl (Or.inl ⟨rfl, rfl, fun q => by unfold s_isd at q; omega⟩) | exact q_iret dX9_takeDigit_22 rfl rfl (Or.inr ⟨rfl, rfl, by unfold s_isd; omega, by have := s_pd_lt pd (z := z) (by omega); omega, by omega, by omega⟩)
set_option maxRecDepth 20000 in
set_option maxHeartbeats 4000000 in
theorem c_X9_takes {Γ : q_G} {S : q_S} {P : Int → Int} {z u : Int} (pd : s_pd S P) (ha : S 150 10 = z) (z0 : 0 ≤ z) (z1 : z ≤ 80) (u0 : 0 ≤ u) (u1 : u ≤ 126) : q_Sp Γ mX9_takes 1 0 0 [q_r Γ 150, q_i u] (KC, S) (fun v w => (v = some (q_i 0) ∧ w = (KC, S) ∧ P z ≠ u) ∨ (v = some (q_i 1) ∧ w = (KC, q_up S 150 10 (z + 1)) ∧ P z = u ∧ z < 80)) := by
  show q_Go Γ mX9_takes 1 0 0 0 [(0, q_r Γ 150), (1, q_i u)] [] (KC, S) (fun v w => (v = some (q_i 0) ∧ w = (KC, S) ∧ P z ≠ u) ∨ (v = some (q_i 1) ∧ w = (KC, q_up S 150 10 (z + 1)) ∧ P z = u ∧ z < 80))
  have pb := pd.2.2.2 z
  have pl := pd.1
  refine q_aloadn (pc' := 1) 0 dX9_takes_0 rfl rfl ?_
  refine q_aloadn (pc' := 2) 0 dX9_takes_1 rfl rfl ?_
  refine p_getJ (pc' := 5) (kz := 10) dX9_takes_2 rfl fX9_201 kc150 rfl rfl (fun qy_2 eqy_2 rqy_2 => ?_)
  have vqy_2 : qy_2 = z := eqy_2.trans (by first | assumption | (simp [q_up]; done) | (simp [q_up]; assumption))
  rw [vqy_2]
  refine q_callVI (pc' := 8) dX9_takes_5 rfl lX9_204 iX9_character kc150 rfl (c_X9_character (P := P) (by first | assumption | (repeat (refine s_pd_u (by decide) ?_); assumption)) (by omega) (by omega)) rfl rfl (Nat.le_of_ble_eq_true rfl) (Nat.le_of_ble_eq_true rfl) (Nat.le_of_ble_eq_true rfl) ?_
  refine q_iloadn (pc' := 9) 1 dX9_takes_8 rfl rfl ?_
  refine q_icmp_ne (tgt := 16) (pc' := 12) dX9_takes_9 rfl rfl (by first | assumption | omega) (by first | assumption | omega) (fun qc_9 => ?_) (fun qc_9 => ?_)
  · refine q_iconst (pc' := 17) dX9_takes_16 rfl ?_
    refine q_istoren (pc' := 18) (L' := [(2, q_i 0), (0, q_r Γ 150), (1, q_i u)]) dX9_takes_17 rfl rfl (by decide) rfl ?_
    refine q_aloadn (pc' := 19) 1 dX9_takes_18 rfl rfl ?_
    refine q_dup (pc' := 20) dX9_takes_19 rfl rfl ?_
    refine p_getJ (pc' := 23) (kz := 10) dX9_takes_20 rfl fX9_201 kc150 rfl rfl (fun qy_20 eqy_20 rqy_20 => ?_)
    have vqy_20 : qy_20 = z := eqy_20.trans (by first | assumption | (simp [q_up]; done) | (simp [q_up]; assumption))
    rw [vqy_20]
    refine q_iloadn (pc' := 24) 0 dX9_takes_23 rfl rfl ?_
    refine q_if_eq (tgt := 31) (pc' := 27) dX9_takes_24 rfl rfl (by decide) (fun qc_24 => ?_) (fun qc_24 => absurd qc_24 (by decide))
    refine q_iconst (pc' := 32) dX9_takes_31 rfl ?_
    refine q_iadd (pc' := 33) dX9_takes_32 rfl ?_
    refine p_putJ (pc' := 36) (kz := 10) dX9_takes_33 rfl fX9_201 kc150 rfl rfl (rfl) (rfl) (by first | assumption | omega) ?_
    refine q_iloadn (pc' := 37) 0 dX9_takes_36 rfl rfl ?_
    first | exact q_iret dX9_takes_37 rfl rfl (Or.inl ⟨rfl, congrArg (Prod.mk KC) (by rw [show z + 0 = S 150 10 by omega]; exact q_up_self), by omega⟩) | exact q_iret dX9_takes_37 rfl rfl (Or.inr ⟨rfl, rfl, by omega, by have := s_pd_lt pd (z := z) (by omega); omega⟩)
  · refine q_iconst (pc' := 13) dX9_takes_12 rfl ?_
    refine q_goto (pc' := 17) dX9_takes_13 rfl ?_
    refine q_istoren (pc' := 18) (L' := [(2, q_i 1), (0, q_r Γ 150), (1, q_i u)]) dX9_takes_17 rfl rfl (by decide) rfl ?_
    refine q_aloadn (pc' := 19) 1 dX9_takes_18 rfl rfl ?_
    refine q_dup (pc' := 20) dX9_takes_19 rfl rfl ?_
    refine p_getJ (pc' := 23) (kz := 10) dX9_takes_20 rfl fX9_201 kc150 rfl rfl (fun qy_20_1 eqy_20_1 rqy_20_1 => ?_)
    have vqy_20_1 : qy_20_1 = z := eqy_20_1.trans (by first | assumption | (simp [q_up]; done) | (simp [q_up]; assumption))
    rw [vqy_20_1]
    refine q_iloadn (pc' := 24) 0 dX9_takes_23 rfl rfl ?_
    refine q_if_eq (tgt := 31) (pc' := 27) dX9_takes_24 rfl rfl (by decide) (fun qc_24_1 => absurd qc_24_1 (by decide)) (fun qc_24_1 => ?_)
    refine q_iconst (pc' := 28) dX9_takes_27 rfl ?_
    refine q_goto (pc' := 32) dX9_takes_28 rfl ?_
    refine q_iadd (pc' := 33) dX9_takes_32 rfl ?_
    refine p_putJ (pc' := 36) (kz := 10) dX9_takes_33 rfl fX9_201 kc150 rfl rfl (rfl) (rfl) (by first | assumption | omega) ?_
    refine q_iloadn (pc' := 37) 0 dX9_takes_36 rfl rfl ?_
    first | exact q_iret dX9_takes_37 rfl rfl (Or.inl ⟨rfl, congrArg (Prod.mk KC) (by rw [show z + 0 = S 150 10 by omega]; exact q_up_self), by omega⟩) | exact q_iret dX9_takes_37 rfl rfl (Or.inr ⟨rfl, rfl, by omega, by have := s_pd_lt pd (z := z) (by omega); omega⟩)
