set_option maxRecDepth 20000 in
set_option maxHeartbeats 4000000 in
theorem c_X5_digitHere {Γ : q_G} {S : q_S} {P : Int → Int} {z : Int}  (pd : s_pdC S P) (ha : S 27 1 = z) (z0 : 0 ≤ z) (z1 : z ≤ 80) : q_Sp Γ mX5_digitHere 0 0 0 [q_r Γ 27] (KC, S) (q_ev (some (q_i (s_dh P z))) (KC, S)) := by
  show q_Go Γ mX5_digitHere 0 0 0 0 [(0, q_r Γ 27)] [] (KC, S) (q_ev (some (q_i (s_dh P z))) (KC, S))
  have pb := pd.2.2.2 z
  have pl := pd.1
  have pin := pd.2.1 z z0
  have pou := pd.2.2.1 z
  have qdh : s_dh P z = if 48 ≤ P z ∧ P z ≤ 57 then P z - 48 else -6 := rfl
  refine q_aloadn (pc' := 1) 0 dX5_digitHere_0 rfl rfl ?_
  refine p_getJ (pc' := 4) (kz := 1) dX5_digitHere_1 rfl fX5_9 kc27 rfl rfl (fun qy_1 eqy_1 rqy_1 => ?_)
  have vqy_1 : qy_1 = z := eqy_1.trans (by first | assumption | (simp [q_up]; done) | (simp [q_up]; assumption))
  rw [vqy_1]
  refine q_aloadn (pc' := 5) 0 dX5_digitHere_4 rfl rfl ?_
  refine p_getR (pc' := 8) (f := 25) dX5_digitHere_5 rfl fX5_26 kc27 rfl ?_
  refine p_getJ (pc' := 11) (kz := 1) dX5_digitHere_8 rfl fX5_37 kc25 rfl rfl (fun qy_8 eqy_8 rqy_8 => ?_)
  refine q_icmp_ge (tgt := 48) (pc' := 14) dX5_digitHere_11 rfl rfl (by first | assumption | omega) (by first | assumption | omega) (fun qc_11 => ?_) (fun qc_11 => ?_)
  · refine q_bipush (pc' := 50) dX5_digitHere_48 rfl rfl ?_
    refine p_iret dX5_digitHere_50 rfl ?_ ?_
    · omega
    · rfl
  · refine q_aloadn (pc' := 15) 0 dX5_digitHere_14 rfl rfl ?_
    refine p_getR (pc' := 18) (f := 25) dX5_digitHere_15 rfl fX5_26 kc27 rfl ?_
    refine p_getR (pc' := 21) (f := 26) dX5_digitHere_18 rfl fX5_48 kc25 rfl ?_
    refine q_aloadn (pc' := 22) 0 dX5_digitHere_21 rfl rfl ?_
    refine p_getJ (pc' := 25) (kz := 1) dX5_digitHere_22 rfl fX5_9 kc27 rfl rfl (fun qy_22 eqy_22 rqy_22 => ?_)
    have vqy_22 : qy_22 = z := eqy_22.trans (by first | assumption | (simp [q_up]; done) | (simp [q_up]; assumption))
    rw [vqy_22]
    refine p_cald (pc' := 26) dX5_digitHere_25 rfl kc26 (by first | assumption | omega) (by first | assumption | omega) (by decide) (fun qy_25 eqy_25 rqy_25 => ?_)
    refine q_bipush (pc' := 28) dX5_digitHere_26 rfl rfl ?_
    refine q_icmp_lt (tgt := 48) (pc' := 31) dX5_digitHere_28 rfl rfl (by first | assumption | omega) (by decide) (fun qc_28 => ?_) (fun qc_28 => ?_)
    · refine q_bipush (pc' := 50) dX5_digitHere_48 rfl rfl ?_
      refine p_iret dX5_digitHere_50 rfl ?_ ?_
      · omega
      · rfl
    · refine q_aloadn (pc' := 32) 0 dX5_digitHere_31 rfl rfl ?_
      refine p_getR (pc' := 35) (f := 25) dX5_digitHere_32 rfl fX5_26 kc27 rfl ?_
      refine p_getR (pc' := 38) (f := 26) dX5_digitHere_35 rfl fX5_48 kc25 rfl ?_
      refine q_aloadn (pc' := 39) 0 dX5_digitHere_38 rfl rfl ?_
      refine p_getJ (pc' := 42) (kz := 1) dX5_digitHere_39 rfl fX5_9 kc27 rfl rfl (fun qy_39 eqy_39 rqy_39 => ?_)
      have vqy_39 : qy_39 = z := eqy_39.trans (by first | assumption | (simp [q_up]; done) | (simp [q_up]; assumption))
      rw [vqy_39]
      refine p_cald (pc' := 43) dX5_digitHere_42 rfl kc26 (by first | assumption | omega) (by first | assumption | omega) (by decide) (fun qy_42 eqy_42 rqy_42 => ?_)
      refine q_bipush (pc' := 45) dX5_digitHere_43 rfl rfl ?_
      refine q_icmp_le (tgt := 51) (pc' := 48) dX5_digitHere_45 rfl rfl (by first | assumption | omega) (by decide) (fun qc_45 => ?_) (fun qc_45 => ?_)
      · refine q_aloadn (pc' := 52) 0 dX5_digitHere_51 rfl rfl ?_
        refine p_getR (pc' := 55) (f := 25) dX5_digitHere_52 rfl fX5_26 kc27 rfl ?_
        refine p_getR (pc' := 58) (f := 26) dX5_digitHere_55 rfl fX5_48 kc25 rfl ?_
        refine q_aloadn (pc' := 59) 0 dX5_digitHere_58 rfl rfl ?_
        refine p_getJ (pc' := 62) (kz := 1) dX5_digitHere_59 rfl fX5_9 kc27 rfl rfl (fun qy_59 eqy_59 rqy_59 => ?_)
        have vqy_59 : qy_59 = z := eqy_59.trans (by first | assumption | (simp [q_up]; done) | (simp [q_up]; assumption))
        rw [vqy_59]
        refine p_cald (pc' := 63) dX5_digitHere_62 rfl kc26 (by first | assumption | omega) (by first | assumption | omega) (by decide) (fun qy_62 eqy_62 rqy_62 => ?_)
        refine q_bipush (pc' := 65) dX5_digitHere_63 rfl rfl ?_
        refine q_isub (pc' := 66) dX5_digitHere_65 rfl ?_
        refine p_iret dX5_digitHere_66 rfl ?_ ?_
        · omega
        · rfl
      · refine q_bipush (pc' := 50) dX5_digitHere_48 rfl rfl ?_
        refine p_iret dX5_digitHere_50 rfl ?_ ?_
        · omega
        · rfl
set_option maxRecDepth 20000 in
set_option maxHeartbeats 4000000 in
theorem c_X5_start {Γ : q_G} {S : q_S}  : q_Sp Γ mX5_start 0 0 0 [q_r Γ 27] (KC, S) (q_ev none (KC, q_up S 27 1 0)) := by
  show q_Go Γ mX5_start 0 0 0 0 [(0, q_r Γ 27)] [] (KC, S) (q_ev none (KC, q_up S 27 1 0))
  refine q_aloadn (pc' := 1) 0 dX5_start_0 rfl rfl ?_
  refine q_iconst (pc' := 2) dX5_start_1 rfl ?_
  refine p_putJ (pc' := 5) (kz := 1) dX5_start_2 rfl fX5_9 kc27 rfl rfl (rfl) (rfl) (by first | assumption | omega) ?_
  refine p_vret dX5_start_5 rfl ?_
  · rfl
set_option maxRecDepth 20000 in
set_option maxHeartbeats 4000000 in
theorem c_X5_keepNumber {Γ : q_G} {S : q_S} {n u : Int} (hn : S 27 4 = n) (n0 : 0 ≤ n) (n1 : n < 5) (hu : q_rg u) : q_Sp Γ mX5_keepNumber 0 0 0 [q_r Γ 27, q_i u] (KC, S) (q_ev none (KC, q_up (q_up S 28 n u) 27 4 (n + 1))) := by
  show q_Go Γ mX5_keepNumber 0 0 0 0 [(0, q_r Γ 27), (1, q_i u)] [] (KC, S) (q_ev none (KC, q_up (q_up S 28 n u) 27 4 (n + 1)))
  refine q_aloadn (pc' := 1) 0 dX5_keepNumber_0 rfl rfl ?_
  refine p_getJ (pc' := 4) (kz := 4) dX5_keepNumber_1 rfl fX5_23 kc27 rfl rfl (fun qy_1 eqy_1 rqy_1 => ?_)
  have vqy_1 : qy_1 = n := eqy_1.trans (by first | assumption | (simp [q_up]; done) | (simp [q_up]; assumption))
  rw [vqy_1]
  refine q_iconst (pc' := 5) dX5_keepNumber_4 rfl ?_
  refine q_icmp_ge (tgt := 28) (pc' := 8) dX5_keepNumber_5 rfl rfl (by first | assumption | omega) (by decide) (fun qc_5 => ?_) (fun qc_5 => ?_)
  · refine p_vret dX5_keepNumber_28 rfl ?_
    · first | rfl | (exfalso; omega)
  · refine q_aloadn (pc' := 9) 0 dX5_keepNumber_8 rfl rfl ?_
    refine p_getR (pc' := 12) (f := 28) dX5_keepNumber_9 rfl fX5_19 kc27 rfl ?_
    refine q_aloadn (pc' := 13) 0 dX5_keepNumber_12 rfl rfl ?_
    refine p_getJ (pc' := 16) (kz := 4) dX5_keepNumber_13 rfl fX5_23 kc27 rfl rfl (fun qy_13 eqy_13 rqy_13 => ?_)
    have vqy_13 : qy_13 = n := eqy_13.trans (by first | assumption | (simp [q_up]; done) | (simp [q_up]; assumption))
    rw [vqy_13]
    refine q_iloadn (pc' := 17) 1 dX5_keepNumber_16 rfl rfl ?_
    refine p_iast (pc' := 18) dX5_keepNumber_17 rfl kc28 (by first | assumption | omega) (by first | assumption | omega) (by decide) (by first | assumption | omega) ?_
    refine q_aloadn (pc' := 19) 0 dX5_keepNumber_18 rfl rfl ?_
    refine q_dup (pc' := 20) dX5_keepNumber_19 rfl rfl ?_
    refine p_getJ (pc' := 23) (kz := 4) dX5_keepNumber_20 rfl fX5_23 kc27 rfl rfl (fun qy_20 eqy_20 rqy_20 => ?_)
    have vqy_20 : qy_20 = n := eqy_20.trans (by first | assumption | (simp [q_up]; done) | (simp [q_up]; assumption))
    rw [vqy_20]
    refine q_iconst (pc' := 24) dX5_keepNumber_23 rfl ?_
    refine q_iadd (pc' := 25) dX5_keepNumber_24 rfl ?_
    refine p_putJ (pc' := 28) (kz := 4) dX5_keepNumber_25 rfl fX5_23 kc27 rfl rfl (rfl) (rfl) (by first | assumption | omega) ?_
    refine p_vret dX5_keepNumber_28 rfl ?_
    · first | rfl | (exfalso; omega)
set_option maxRecDepth 20000 in
set_option maxHeartbeats 4000000 in
theorem c_X5_readDigit {Γ : q_G} {S : q_S} {P : Int → Int} {z n u : Int} (pd : s_pdC S P) (ha : S 27 1 = z) (z0 : 0 ≤ z) (z1 : z ≤ 80) (hn : S 27 4 = n) (n0 : 0 ≤ n) (n1 : n < 5) (u0 : 0 ≤ u) (u1 : u ≤ 9) : q_Sp Γ mX5_readDigit 1 0 0 [q_r Γ 27, q_i u] (KC, S) (fun v w => (v = some (q_i 0) ∧ w = (KC, S) ∧ ¬ s_isd P u z) ∨ (v = some (q_i 1) ∧ w = (KC, q_up (q_up (q_up S 27 1 (z + 1)) 28 n (P z - 48)) 27 4 (n + 1)) ∧ s_isd P u z ∧ z < 80 ∧ 0 ≤ P z - 48 ∧ P z - 48 ≤ 9)) := by
  show q_Go Γ mX5_readDigit 1 0 0 0 [(0, q_r Γ 27), (1, q_i u)] [] (KC, S) (fun v w => (v = some (q_i 0) ∧ w = (KC, S) ∧ ¬ s_isd P u z) ∨ (v = some (q_i 1) ∧ w = (KC, q_up (q_up (q_up S 27 1 (z + 1)) 28 n (P z - 48)) 27 4 (n + 1)) ∧ s_isd P u z ∧ z < 80 ∧ 0 ≤ P z - 48 ∧ P z - 48 ≤ 9))
  have pb := pd.2.2.2 z
  have pl := pd.1
  have pin := pd.2.1 z z0
  have pou := pd.2.2.1 z
  have qdh : s_dh P z = if 48 ≤ P z ∧ P z ≤ 57 then P z - 48 else -6 := rfl
  have plt := fun q => s_pdC_lt pd (z := z) q
  refine q_aloadn (pc' := 1) 0 dX5_readDigit_0 rfl rfl ?_
  refine q_callVI (pc' := 4) dX5_readDigit_1 rfl lX5_68 iX5_digitHere kc27 rfl (c_X5_digitHere (P := P) (z := z) (by first | assumption | (repeat (refine s_pdC_u (by decide) (by decide) ?_); assumption)) (by first | assumption | (simp [q_up]; done) | (simp [q_up]; assumption)) (by first | assumption | omega) (by first | assumption | omega)) rfl rfl (Nat.le_of_ble_eq_true rfl) (Nat.le_of_ble_eq_true rfl) (Nat.le_of_ble_eq_true rfl) ?_
  refine q_istoren (pc' := 5) (L' := [(2, q_i (s_dh P z)), (0, q_r Γ 27), (1, q_i u)]) dX5_readDigit_4 rfl rfl (by decide) rfl ?_
  refine q_iloadn (pc' := 6) 0 dX5_readDigit_5 rfl rfl ?_
  refine q_if_lt (tgt := 14) (pc' := 9) dX5_readDigit_6 rfl rfl (by first | assumption | omega) (fun qc_6 => ?_) (fun qc_6 => ?_)
  · refine q_iconst (pc' := 15) dX5_readDigit_14 rfl ?_
    first | exact q_iret dX5_readDigit_15 rfl rfl (Or.inl ⟨rfl, rfl, fun q => by unfold s_isd at q; omega⟩) | exact q_iret dX5_readDigit_15 rfl rfl (Or.inr ⟨rfl, by rw [show s_dh P z = P z - 48 by omega], by unfold s_isd; omega, by have := plt (by omega); omega, by omega, by omega⟩)
  · refine q_iloadn (pc' := 10) 0 dX5_readDigit_9 rfl rfl ?_
    refine q_iloadn (pc' := 11) 2 dX5_readDigit_10 rfl rfl ?_
    refine q_icmp_le (tgt := 16) (pc' := 14) dX5_readDigit_11 rfl rfl (by first | assumption | omega) (by first | assumption | omega) (fun qc_11 => ?_) (fun qc_11 => ?_)
    · refine q_aloadn (pc' := 17) 1 dX5_readDigit_16 rfl rfl ?_
      refine q_dup (pc' := 18) dX5_readDigit_17 rfl rfl ?_
      refine p_getJ (pc' := 21) (kz := 1) dX5_readDigit_18 rfl fX5_9 kc27 rfl rfl (fun qy_18 eqy_18 rqy_18 => ?_)
      have vqy_18 : qy_18 = z := eqy_18.trans (by first | assumption | (simp [q_up]; done) | (simp [q_up]; assumption))
      rw [vqy_18]
      refine q_iconst (pc' := 22) dX5_readDigit_21 rfl ?_
      refine q_iadd (pc' := 23) dX5_readDigit_22 rfl ?_
      refine p_putJ (pc' := 26) (kz := 1) dX5_readDigit_23 rfl fX5_9 kc27 rfl rfl (rfl) (rfl) (by first | assumption | omega) ?_
      refine q_aloadn (pc' := 27) 1 dX5_readDigit_26 rfl rfl ?_
      refine q_iloadn (pc' := 28) 0 dX5_readDigit_27 rfl rfl ?_
      refine q_callVV (pc' := 31) dX5_readDigit_28 rfl lX5_72 iX5_keepNumber kc27 rfl (c_X5_keepNumber (n := n) (by first | assumption | (simp [q_up]; done) | (simp [q_up]; assumption)) (by first | assumption | omega) (by first | assumption | omega) (by first | assumption | omega)) rfl rfl (Nat.le_of_ble_eq_true rfl) (Nat.le_of_ble_eq_true rfl) (Nat.le_of_ble_eq_true rfl) ?_
      refine q_iconst (pc' := 32) dX5_readDigit_31 rfl ?_
      first | exact q_iret dX5_readDigit_32 rfl rfl (Or.inl ⟨rfl, rfl, fun q => by unfold s_isd at q; omega⟩) | exact q_iret dX5_readDigit_32 rfl rfl (Or.inr ⟨rfl, by rw [show s_dh P z = P z - 48 by omega], by unfold s_isd; omega, by have := plt (by omega); omega, by omega, by omega⟩)
    · refine q_iconst (pc' := 15) dX5_readDigit_14 rfl ?_
      first | exact q_iret dX5_readDigit_15 rfl rfl (Or.inl ⟨rfl, rfl, fun q => by unfold s_isd at q; omega⟩) | exact q_iret dX5_readDigit_15 rfl rfl (Or.inr ⟨rfl, by rw [show s_dh P z = P z - 48 by omega], by unfold s_isd; omega, by have := plt (by omega); omega, by omega, by omega⟩)
set_option maxRecDepth 20000 in
set_option maxHeartbeats 4000000 in
theorem c_X5_readSign {Γ : q_G} {S : q_S} {P : Int → Int} {z : Int} {u : Int} (pd : s_pdC S P) (ha : S 27 1 = z) (z0 : 0 ≤ z) (z1 : z ≤ 80) (u0 : 0 ≤ u) (u1 : u ≤ 126) : q_Sp Γ mX5_readSign 0 0 0 [q_r Γ 27, q_i u] (KC, S) (fun v w => (v = some (q_i 0) ∧ w = (KC, S) ∧ P z ≠ u) ∨ (v = some (q_i 1) ∧ w = (KC, q_up S 27 1 (z + 1)) ∧ P z = u ∧ z < 80)) := by
  show q_Go Γ mX5_readSign 0 0 0 0 [(0, q_r Γ 27), (1, q_i u)] [] (KC, S) (fun v w => (v = some (q_i 0) ∧ w = (KC, S) ∧ P z ≠ u) ∨ (v = some (q_i 1) ∧ w = (KC, q_up S 27 1 (z + 1)) ∧ P z = u ∧ z < 80))
  have pb := pd.2.2.2 z
  have pl := pd.1
  have pin := pd.2.1 z z0
  have pou := pd.2.2.1 z
  refine q_aloadn (pc' := 1) 0 dX5_readSign_0 rfl rfl ?_
  refine p_getJ (pc' := 4) (kz := 1) dX5_readSign_1 rfl fX5_9 kc27 rfl rfl (fun qy_1 eqy_1 rqy_1 => ?_)
  have vqy_1 : qy_1 = z := eqy_1.trans (by first | assumption | (simp [q_up]; done) | (simp [q_up]; assumption))
  rw [vqy_1]
  refine q_aloadn (pc' := 5) 0 dX5_readSign_4 rfl rfl ?_
  refine p_getR (pc' := 8) (f := 25) dX5_readSign_5 rfl fX5_26 kc27 rfl ?_
  refine p_getJ (pc' := 11) (kz := 1) dX5_readSign_8 rfl fX5_37 kc25 rfl rfl (fun qy_8 eqy_8 rqy_8 => ?_)
  refine q_icmp_ge (tgt := 30) (pc' := 14) dX5_readSign_11 rfl rfl (by first | assumption | omega) (by first | assumption | omega) (fun qc_11 => ?_) (fun qc_11 => ?_)
  · refine q_iconst (pc' := 31) dX5_readSign_30 rfl ?_
    first | exact q_iret dX5_readSign_31 rfl rfl (Or.inl ⟨rfl, rfl, by omega⟩) | exact q_iret dX5_readSign_31 rfl rfl (Or.inr ⟨rfl, rfl, by omega, by omega⟩)
  · refine q_aloadn (pc' := 15) 0 dX5_readSign_14 rfl rfl ?_
    refine p_getR (pc' := 18) (f := 25) dX5_readSign_15 rfl fX5_26 kc27 rfl ?_
    refine p_getR (pc' := 21) (f := 26) dX5_readSign_18 rfl fX5_48 kc25 rfl ?_
    refine q_aloadn (pc' := 22) 0 dX5_readSign_21 rfl rfl ?_
    refine p_getJ (pc' := 25) (kz := 1) dX5_readSign_22 rfl fX5_9 kc27 rfl rfl (fun qy_22 eqy_22 rqy_22 => ?_)
    have vqy_22 : qy_22 = z := eqy_22.trans (by first | assumption | (simp [q_up]; done) | (simp [q_up]; assumption))
    rw [vqy_22]
    refine p_cald (pc' := 26) dX5_readSign_25 rfl kc26 (by first | assumption | omega) (by first | assumption | omega) (by decide) (fun qy_25 eqy_25 rqy_25 => ?_)
    refine q_iloadn (pc' := 27) 1 dX5_readSign_26 rfl rfl ?_
    refine q_icmp_eq (tgt := 32) (pc' := 30) dX5_readSign_27 rfl rfl (by first | assumption | omega) (by first | assumption | omega) (fun qc_27 => ?_) (fun qc_27 => ?_)
    · refine q_aloadn (pc' := 33) 0 dX5_readSign_32 rfl rfl ?_
      refine q_dup (pc' := 34) dX5_readSign_33 rfl rfl ?_
      refine p_getJ (pc' := 37) (kz := 1) dX5_readSign_34 rfl fX5_9 kc27 rfl rfl (fun qy_34 eqy_34 rqy_34 => ?_)
      have vqy_34 : qy_34 = z := eqy_34.trans (by first | assumption | (simp [q_up]; done) | (simp [q_up]; assumption))
      rw [vqy_34]
      refine q_iconst (pc' := 38) dX5_readSign_37 rfl ?_
      refine q_iadd (pc' := 39) dX5_readSign_38 rfl ?_
      refine p_putJ (pc' := 42) (kz := 1) dX5_readSign_39 rfl fX5_9 kc27 rfl rfl (rfl) (rfl) (by first | assumption | omega) ?_
      refine q_iconst (pc' := 43) dX5_readSign_42 rfl ?_
      first | exact q_iret dX5_readSign_43 rfl rfl (Or.inl ⟨rfl, rfl, by omega⟩) | exact q_iret dX5_readSign_43 rfl rfl (Or.inr ⟨rfl, rfl, by omega, by omega⟩)
    · refine q_iconst (pc' := 31) dX5_readSign_30 rfl ?_
      first | exact q_iret dX5_readSign_31 rfl rfl (Or.inl ⟨rfl, rfl, by omega⟩) | exact q_iret dX5_readSign_31 rfl rfl (Or.inr ⟨rfl, rfl, by omega, by omega⟩)
set_option maxRecDepth 20000 in
set_option maxHeartbeats 4000000 in
theorem c_X5_readNumber {Γ : q_G} {S : q_S} {P : Int → Int} {z n : Int} (pd : s_pdC S P) (ha : S 27 1 = z) (z0 : 0 ≤ z) (z1 : z ≤ 80) (hn : S 27 4 = n) (n0 : 0 ≤ n) (n1 : n < 5) : q_Sp Γ mX5_readNumber 1 0 0 [q_r Γ 27] (KC, S) (fun v w => (v = some (q_i 0) ∧ w = (KC, S) ∧ ¬ s_isd P 9 z) ∨ (v = some (q_i 1) ∧ w = (KC, q_up (q_up (q_up S 27 1 (s_num P z).2) 28 n (s_num P z).1) 27 4 (n + 1)) ∧ s_isd P 9 z ∧ (z < (s_num P z).2 ∧ (s_num P z).2 ≤ 80) ∧ 0 ≤ (s_num P z).1 ∧ (s_num P z).1 ≤ 999)) := by
  show q_Go Γ mX5_readNumber 1 0 0 0 [(0, q_r Γ 27)] [] (KC, S) (fun v w => (v = some (q_i 0) ∧ w = (KC, S) ∧ ¬ s_isd P 9 z) ∨ (v = some (q_i 1) ∧ w = (KC, q_up (q_up (q_up S 27 1 (s_num P z).2) 28 n (s_num P z).1) 27 4 (n + 1)) ∧ s_isd P 9 z ∧ (z < (s_num P z).2 ∧ (s_num P z).2 ≤ 80) ∧ 0 ≤ (s_num P z).1 ∧ (s_num P z).1 ≤ 999))
  have pb := pd.2.2.2 z
  have pl := pd.1
  have pin := pd.2.1 z z0
  have pou := pd.2.2.1 z
  have qdh : s_dh P z = if 48 ≤ P z ∧ P z ≤ 57 then P z - 48 else -6 := rfl
  have plt := fun q => s_pdC_lt pd (z := z) q
  refine q_aloadn (pc' := 1) 0 dX5_readNumber_0 rfl rfl ?_
  refine q_callVI (pc' := 4) dX5_readNumber_1 rfl lX5_68 iX5_digitHere kc27 rfl (c_X5_digitHere (P := P) (z := z) (by first | assumption | (repeat (refine s_pdC_u (by decide) (by decide) ?_); assumption)) (by first | assumption | (simp [q_up]; done) | (simp [q_up]; assumption)) (by first | assumption | omega) (by first | assumption | omega)) rfl rfl (Nat.le_of_ble_eq_true rfl) (Nat.le_of_ble_eq_true rfl) (Nat.le_of_ble_eq_true rfl) ?_
  refine q_istoren (pc' := 5) (L' := [(1, q_i (s_dh P z)), (0, q_r Γ 27)]) dX5_readNumber_4 rfl rfl (by decide) rfl ?_
  refine q_iloadn (pc' := 6) 0 dX5_readNumber_5 rfl rfl ?_
  refine q_if_ge (tgt := 11) (pc' := 9) dX5_readNumber_6 rfl rfl (by first | assumption | omega) (fun qc_6 => ?_) (fun qc_6 => ?_)
  · refine q_aloadn (pc' := 12) 1 dX5_readNumber_11 rfl rfl ?_
    refine q_dup (pc' := 13) dX5_readNumber_12 rfl rfl ?_
    refine p_getJ (pc' := 16) (kz := 1) dX5_readNumber_13 rfl fX5_9 kc27 rfl rfl (fun qy_13 eqy_13 rqy_13 => ?_)
    have vqy_13 : qy_13 = z := eqy_13.trans (by first | assumption | (simp [q_up]; done) | (simp [q_up]; assumption))
    rw [vqy_13]
    refine q_iconst (pc' := 17) dX5_readNumber_16 rfl ?_
    refine q_iadd (pc' := 18) dX5_readNumber_17 rfl ?_
    refine p_putJ (pc' := 21) (kz := 1) dX5_readNumber_18 rfl fX5_9 kc27 rfl rfl (rfl) (rfl) (by first | assumption | omega) ?_
    refine q_iconst (pc' := 22) dX5_readNumber_21 rfl ?_
    refine q_istoren (pc' := 23) (L' := [(2, q_i 1), (1, q_i (s_dh P z)), (0, q_r Γ 27)]) dX5_readNumber_22 rfl rfl (by decide) rfl ?_
    have qlp_23 : ∀ (qn_23 : Nat) (k v a : Int), (1 ≤ k) → (k ≤ 3) → ((k = 1 ∧ 0 ≤ v ∧ v ≤ 9) ∨ (k = 2 ∧ 10 ≤ v ∧ v ≤ 99) ∨ (k = 3 ∧ 100 ≤ v ∧ v ≤ 999)) → (z < a ∧ a ≤ 80) → (s_nmL P (3 - k).toNat (v, a) = s_num P z) → (s_isd P 9 z) → ((3 - k).toNat) = qn_23 → q_Go Γ mX5_readNumber 1 0 0 23 [(0, q_r Γ 27), (1, q_i v), (2, q_i k)] [] (KC, (q_up S 27 1 a)) (fun v w => (v = some (q_i 0) ∧ w = (KC, S) ∧ ¬ s_isd P 9 z) ∨ (v = some (q_i 1) ∧ w = (KC, q_up (q_up (q_up S 27 1 (s_num P z).2) 28 n (s_num P z).1) 27 4 (n + 1)) ∧ s_isd P 9 z ∧ (z < (s_num P z).2 ∧ (s_num P z).2 ≤ 80) ∧ 0 ≤ (s_num P z).1 ∧ (s_num P z).1 ≤ 999)) := by
      intro qn_23
      induction qn_23 using Nat.strongRecOn with
      | ind qn_23 qih_23 =>
        intro k v a qa_23_0 qa_23_1 qa_23_2 qa_23_3 qa_23_4 qa_23_5 qhn_23
        subst qhn_23
        have pba := pd.2.2.2 a
        have qla := fun q => s_pdC_lt pd (z := a) q
        have qdh : s_dh P a = if 48 ≤ P a ∧ P a ≤ 57 then P a - 48 else -6 := rfl
        refine q_iloadn (pc' := 24) 2 dX5_readNumber_23 rfl rfl ?_
        refine q_iconst (pc' := 25) dX5_readNumber_24 rfl ?_
        refine q_icmp_ge (tgt := 65) (pc' := 28) dX5_readNumber_25 rfl rfl (by first | assumption | omega) (by decide) (fun qc_25 => ?_) (fun qc_25 => ?_)
        · refine q_aloadn (pc' := 66) 0 dX5_readNumber_65 rfl rfl ?_
          refine q_iloadn (pc' := 67) 1 dX5_readNumber_66 rfl rfl ?_
          refine q_callVV (pc' := 70) dX5_readNumber_67 rfl lX5_72 iX5_keepNumber kc27 rfl (c_X5_keepNumber (n := n) (by first | assumption | (simp [q_up]; done) | (simp [q_up]; assumption)) (by first | assumption | omega) (by first | assumption | omega) (by first | assumption | omega)) rfl rfl (Nat.le_of_ble_eq_true rfl) (Nat.le_of_ble_eq_true rfl) (Nat.le_of_ble_eq_true rfl) ?_
          refine q_iconst (pc' := 71) dX5_readNumber_70 rfl ?_
          first | exact q_iret dX5_readNumber_71 rfl rfl (Or.inl ⟨rfl, rfl, fun q => by unfold s_isd at q; omega⟩) | exact (fun en => q_iret dX5_readNumber_71 rfl rfl (Or.inr (by rw [en]; exact ⟨rfl, rfl, qa_23_5, qa_23_3, by (show 0 ≤ v; omega), by (show v ≤ 999; omega)⟩))) (s_nmL_e qa_23_4 (by omega))
        · refine q_iloadn (pc' := 29) 1 dX5_readNumber_28 rfl rfl ?_
          refine q_if_le (tgt := 65) (pc' := 32) dX5_readNumber_29 rfl rfl (by first | assumption | omega) (fun qc_29 => ?_) (fun qc_29 => ?_)
          · refine q_aloadn (pc' := 66) 0 dX5_readNumber_65 rfl rfl ?_
            refine q_iloadn (pc' := 67) 1 dX5_readNumber_66 rfl rfl ?_
            refine q_callVV (pc' := 70) dX5_readNumber_67 rfl lX5_72 iX5_keepNumber kc27 rfl (c_X5_keepNumber (n := n) (by first | assumption | (simp [q_up]; done) | (simp [q_up]; assumption)) (by first | assumption | omega) (by first | assumption | omega) (by first | assumption | omega)) rfl rfl (Nat.le_of_ble_eq_true rfl) (Nat.le_of_ble_eq_true rfl) (Nat.le_of_ble_eq_true rfl) ?_
            refine q_iconst (pc' := 71) dX5_readNumber_70 rfl ?_
            first | exact q_iret dX5_readNumber_71 rfl rfl (Or.inl ⟨rfl, rfl, fun q => by unfold s_isd at q; omega⟩) | exact (fun en => q_iret dX5_readNumber_71 rfl rfl (Or.inr (by rw [en]; exact ⟨rfl, rfl, qa_23_5, qa_23_3, by (show 0 ≤ v; omega), by (show v ≤ 999; omega)⟩))) (s_nmL_e qa_23_4 (by omega))
          · refine q_aloadn (pc' := 33) 0 dX5_readNumber_32 rfl rfl ?_
            refine q_callVI (pc' := 36) dX5_readNumber_33 rfl lX5_68 iX5_digitHere kc27 rfl (c_X5_digitHere (P := P) (z := a) (by first | assumption | (repeat (refine s_pdC_u (by decide) (by decide) ?_); assumption)) (by first | assumption | (simp [q_up]; done) | (simp [q_up]; assumption)) (by first | assumption | omega) (by first | assumption | omega)) rfl rfl (Nat.le_of_ble_eq_true rfl) (Nat.le_of_ble_eq_true rfl) (Nat.le_of_ble_eq_true rfl) ?_
            refine q_if_lt (tgt := 65) (pc' := 39) dX5_readNumber_36 rfl rfl (by first | assumption | omega) (fun qc_36 => ?_) (fun qc_36 => ?_)
            · refine q_aloadn (pc' := 66) 0 dX5_readNumber_65 rfl rfl ?_
              refine q_iloadn (pc' := 67) 1 dX5_readNumber_66 rfl rfl ?_
              refine q_callVV (pc' := 70) dX5_readNumber_67 rfl lX5_72 iX5_keepNumber kc27 rfl (c_X5_keepNumber (n := n) (by first | assumption | (simp [q_up]; done) | (simp [q_up]; assumption)) (by first | assumption | omega) (by first | assumption | omega) (by first | assumption | omega)) rfl rfl (Nat.le_of_ble_eq_true rfl) (Nat.le_of_ble_eq_true rfl) (Nat.le_of_ble_eq_true rfl) ?_
              refine q_iconst (pc' := 71) dX5_readNumber_70 rfl ?_
              first | exact q_iret dX5_readNumber_71 rfl rfl (Or.inl ⟨rfl, rfl, fun q => by unfold s_isd at q; omega⟩) | exact (fun en => q_iret dX5_readNumber_71 rfl rfl (Or.inr (by rw [en]; exact ⟨rfl, rfl, qa_23_5, qa_23_3, by (show 0 ≤ v; omega), by (show v ≤ 999; omega)⟩))) (s_nmL_e qa_23_4 (by omega))
            · refine q_iloadn (pc' := 40) 1 dX5_readNumber_39 rfl rfl ?_
              refine q_bipush (pc' := 42) dX5_readNumber_40 rfl rfl ?_
              refine q_imul (pc' := 43) dX5_readNumber_42 rfl ?_
              refine q_aloadn (pc' := 44) 0 dX5_readNumber_43 rfl rfl ?_
              refine q_callVI (pc' := 47) dX5_readNumber_44 rfl lX5_68 iX5_digitHere kc27 rfl (c_X5_digitHere (P := P) (z := a) (by first | assumption | (repeat (refine s_pdC_u (by decide) (by decide) ?_); assumption)) (by first | assumption | (simp [q_up]; done) | (simp [q_up]; assumption)) (by first | assumption | omega) (by first | assumption | omega)) rfl rfl (Nat.le_of_ble_eq_true rfl) (Nat.le_of_ble_eq_true rfl) (Nat.le_of_ble_eq_true rfl) ?_
              refine q_iadd (pc' := 48) dX5_readNumber_47 rfl ?_
              refine q_istoren (pc' := 49) (L' := [(1, q_i ((v * 10) + (s_dh P a))), (0, q_r Γ 27), (2, q_i k)]) dX5_readNumber_48 rfl rfl (by decide) rfl ?_
              refine q_aloadn (pc' := 50) 1 dX5_readNumber_49 rfl rfl ?_
              refine q_dup (pc' := 51) dX5_readNumber_50 rfl rfl ?_
              refine p_getJ (pc' := 54) (kz := 1) dX5_readNumber_51 rfl fX5_9 kc27 rfl rfl (fun qy_51 eqy_51 rqy_51 => ?_)
              have vqy_51 : qy_51 = a := eqy_51.trans (by first | assumption | (simp [q_up]; done) | (simp [q_up]; assumption))
              rw [vqy_51]
              refine q_iconst (pc' := 55) dX5_readNumber_54 rfl ?_
              refine q_iadd (pc' := 56) dX5_readNumber_55 rfl ?_
              refine p_putJ (pc' := 59) (kz := 1) dX5_readNumber_56 rfl fX5_9 kc27 rfl rfl (rfl) (rfl) (by first | assumption | omega) ?_
              rw [q_up_up]
              refine q_iinc (pc' := 62) 2 (L' := [(2, q_i (k + 1)), (1, q_i ((v * 10) + (s_dh P a))), (0, q_r Γ 27)]) dX5_readNumber_59 rfl rfl (by decide) rfl ?_
              refine q_goto (pc' := 23) dX5_readNumber_62 rfl ?_
              refine p_sub [2, 1, 0] rfl ?_
              exact qih_23 _ (by omega) _ _ (a + 1) (by first | assumption | omega) (by first | assumption | omega) (by first | assumption | omega) (by have := qla (by omega); omega) (by rw [show v * 10 + s_dh P a = 10 * v + (P a - 48) by omega]; exact s_nmL_c qa_23_4 (by omega) (by omega) (by omega) (by omega)) (by assumption) rfl
    refine p_sub [2, 1, 0] rfl ?_
    exact qlp_23 _ _ _ (z + 1) (by first | assumption | omega) (by first | assumption | omega) (by first | assumption | omega) (by have := plt (by omega); omega) (by rw [show s_dh P z = P z - 48 by omega]; rfl) (by unfold s_isd; omega) rfl
  · refine q_iconst (pc' := 10) dX5_readNumber_9 rfl ?_
    first | exact q_iret dX5_readNumber_10 rfl rfl (Or.inl ⟨rfl, rfl, fun q => by unfold s_isd at q; omega⟩) | exact (fun en => q_iret dX5_readNumber_10 rfl rfl (Or.inr (by rw [en]; exact ⟨rfl, rfl, qnone_, qnone_, by (show 0 ≤ v; omega), by (show v ≤ 999; omega)⟩))) (s_nmL_e qnone_ (by omega))
set_option maxRecDepth 20000 in
set_option maxHeartbeats 4000000 in
theorem c_X5_readTerms {Γ : q_G} {S : q_S} {P : Int → Int} {z n : Int} (pd : s_pdC S P) (ha : S 27 1 = z) (z0 : 0 ≤ z) (z1 : z ≤ 80) (hn : S 27 4 = n) (n0 : 0 ≤ n) (n1 : n < 3) : q_Sp Γ mX5_readTerms 2 0 0 [q_r Γ 27] (KC, S) (fun v w => (v = some (q_i 0) ∧ ∃ S2, w = (KC, S2) ∧ s_offR S S2 ∧ S2 27 1 = s_tmAt P z ∧ ¬ s_tmOk P z ∧ 0 ≤ s_tmAt P z ∧ s_tmAt P z ≤ 80) ∨ (v = some (q_i 1) ∧ ∃ S2, w = (KC, S2) ∧ s_offR S S2 ∧ S2 27 1 = s_tmAt P z ∧ s_tmOk P z ∧ (z < s_tmAt P z ∧ s_tmAt P z ≤ 80) ∧ S2 27 2 = S 27 2 ∧ (∀ j, j < n → S2 28 j = S 28 j) ∧ S2 28 n = P (z + 1) - 48 ∧ S2 28 (n + 1) = (s_num P (z + 1 + 1 + 1)).1 ∧ S2 28 (n + 1 + 1) = (s_num P ((s_num P (z + 1 + 1 + 1)).2 + 1)).1)) := by
  show q_Go Γ mX5_readTerms 2 0 0 0 [(0, q_r Γ 27)] [] (KC, S) (fun v w => (v = some (q_i 0) ∧ ∃ S2, w = (KC, S2) ∧ s_offR S S2 ∧ S2 27 1 = s_tmAt P z ∧ ¬ s_tmOk P z ∧ 0 ≤ s_tmAt P z ∧ s_tmAt P z ≤ 80) ∨ (v = some (q_i 1) ∧ ∃ S2, w = (KC, S2) ∧ s_offR S S2 ∧ S2 27 1 = s_tmAt P z ∧ s_tmOk P z ∧ (z < s_tmAt P z ∧ s_tmAt P z ≤ 80) ∧ S2 27 2 = S 27 2 ∧ (∀ j, j < n → S2 28 j = S 28 j) ∧ S2 28 n = P (z + 1) - 48 ∧ S2 28 (n + 1) = (s_num P (z + 1 + 1 + 1)).1 ∧ S2 28 (n + 1 + 1) = (s_num P ((s_num P (z + 1 + 1 + 1)).2 + 1)).1))
  have pl := pd.1
  refine q_aloadn (pc' := 1) 0 dX5_readTerms_0 rfl rfl ?_
  refine q_bipush (pc' := 3) dX5_readTerms_1 rfl rfl ?_
  refine q_callVQ (pc' := 6) dX5_readTerms_3 rfl lX5_42 iX5_readSign kc27 rfl (c_X5_readSign (P := P) (z := z) (by first | assumption | (repeat (refine s_pdC_u (by decide) (by decide) ?_); assumption)) (by first | assumption | (simp [q_up]; done) | (simp [q_up]; assumption)) (by first | assumption | omega) (by first | assumption | omega) (by first | assumption | omega) (by first | assumption | omega)) rfl rfl (Nat.le_of_ble_eq_true rfl) (Nat.le_of_ble_eq_true rfl) (Nat.le_of_ble_eq_true rfl) (fun vq wq hq => ?_)
  rcases hq with ⟨rfl, rfl, qd3⟩ | ⟨rfl, rfl, qd3, qz3⟩
  · show q_Go Γ mX5_readTerms 2 0 0 6 [(0, q_r Γ 27)] [q_i 0] (KC, S) (fun v w => (v = some (q_i 0) ∧ ∃ S2, w = (KC, S2) ∧ s_offR S S2 ∧ S2 27 1 = s_tmAt P z ∧ ¬ s_tmOk P z ∧ 0 ≤ s_tmAt P z ∧ s_tmAt P z ≤ 80) ∨ (v = some (q_i 1) ∧ ∃ S2, w = (KC, S2) ∧ s_offR S S2 ∧ S2 27 1 = s_tmAt P z ∧ s_tmOk P z ∧ (z < s_tmAt P z ∧ s_tmAt P z ≤ 80) ∧ S2 27 2 = S 27 2 ∧ (∀ j, j < n → S2 28 j = S 28 j) ∧ S2 28 n = P (z + 1) - 48 ∧ S2 28 (n + 1) = (s_num P (z + 1 + 1 + 1)).1 ∧ S2 28 (n + 1 + 1) = (s_num P ((s_num P (z + 1 + 1 + 1)).2 + 1)).1))
    refine q_if_eq (tgt := 54) (pc' := 9) dX5_readTerms_6 rfl rfl (by decide) (fun qc_6 => ?_) (fun qc_6 => absurd qc_6 (by decide))
    refine q_iconst (pc' := 55) dX5_readTerms_54 rfl ?_
    first | exact q_iret dX5_readTerms_55 rfl rfl (Or.inl ⟨rfl, _, rfl, (by first | assumption | ((repeat (refine s_offR_u ?_ (by decide))); first | exact s_offR_r | assumption) | (refine s_offR_t ?_ (by assumption); (repeat (refine s_offR_u ?_ (by decide))); first | exact s_offR_r | assumption)), (by (repeat (first | rw [q_up_eq] | rw [q_up_nz (by omega)] | rw [q_up_ne (by decide)])); unfold s_tmAt; repeat' split <;> omega), fun q => by unfold s_tmOk at q; omega, by unfold s_tmAt; repeat' split <;> omega, by unfold s_tmAt; repeat' split <;> omega⟩) | exact q_iret dX5_readTerms_55 rfl rfl (Or.inr ⟨rfl, _, rfl, (by first | assumption | ((repeat (refine s_offR_u ?_ (by decide))); first | exact s_offR_r | assumption) | (refine s_offR_t ?_ (by assumption); (repeat (refine s_offR_u ?_ (by decide))); first | exact s_offR_r | assumption)), (by (repeat (first | rw [q_up_eq] | rw [q_up_nz (by omega)] | rw [q_up_ne (by decide)])); unfold s_tmAt; repeat' split <;> omega), by unfold s_tmOk; omega, ⟨by unfold s_tmAt; repeat' split <;> omega, by unfold s_tmAt; repeat' split <;> omega⟩, (by (repeat (first | rw [q_up_eq] | rw [q_up_nz (by omega)] | rw [q_up_ne (by decide)])); first | done | rfl | assumption), (fun j hj => (by (repeat (first | rw [q_up_eq] | rw [q_up_nz (by omega)] | rw [q_up_ne (by decide)])); first | done | rfl | assumption)), (by (repeat (first | rw [q_up_eq] | rw [q_up_nz (by omega)] | rw [q_up_ne (by decide)])); first | done | rfl | assumption), (by (repeat (first | rw [q_up_eq] | rw [q_up_nz (by omega)] | rw [q_up_ne (by decide)])); first | done | rfl | assumption), (by (repeat (first | rw [q_up_eq] | rw [q_up_nz (by omega)] | rw [q_up_ne (by decide)])); first | done | rfl | assumption)⟩)
  · show q_Go Γ mX5_readTerms 2 0 0 6 [(0, q_r Γ 27)] [q_i 1] (KC, q_up S 27 1 (z + 1)) (fun v w => (v = some (q_i 0) ∧ ∃ S2, w = (KC, S2) ∧ s_offR S S2 ∧ S2 27 1 = s_tmAt P z ∧ ¬ s_tmOk P z ∧ 0 ≤ s_tmAt P z ∧ s_tmAt P z ≤ 80) ∨ (v = some (q_i 1) ∧ ∃ S2, w = (KC, S2) ∧ s_offR S S2 ∧ S2 27 1 = s_tmAt P z ∧ s_tmOk P z ∧ (z < s_tmAt P z ∧ s_tmAt P z ≤ 80) ∧ S2 27 2 = S 27 2 ∧ (∀ j, j < n → S2 28 j = S 28 j) ∧ S2 28 n = P (z + 1) - 48 ∧ S2 28 (n + 1) = (s_num P (z + 1 + 1 + 1)).1 ∧ S2 28 (n + 1 + 1) = (s_num P ((s_num P (z + 1 + 1 + 1)).2 + 1)).1))
    refine q_if_eq (tgt := 54) (pc' := 9) dX5_readTerms_6 rfl rfl (by decide) (fun qc_6_1 => absurd qc_6_1 (by decide)) (fun qc_6_1 => ?_)
    refine q_aloadn (pc' := 10) 0 dX5_readTerms_9 rfl rfl ?_
    refine q_bipush (pc' := 12) dX5_readTerms_10 rfl rfl ?_
    refine q_callVQ (pc' := 15) dX5_readTerms_12 rfl lX5_58 iX5_readDigit kc27 rfl (c_X5_readDigit (P := P) (z := z + 1) (n := n) (by first | assumption | (repeat (refine s_pdC_u (by decide) (by decide) ?_); assumption)) (by first | assumption | (simp [q_up]; done) | (simp [q_up]; assumption)) (by first | assumption | omega) (by first | assumption | omega) (by first | assumption | (simp [q_up]; done) | (simp [q_up]; assumption)) (by first | assumption | omega) (by first | assumption | omega) (by first | assumption | omega) (by first | assumption | omega)) rfl rfl (Nat.le_of_ble_eq_true rfl) (Nat.le_of_ble_eq_true rfl) (Nat.le_of_ble_eq_true rfl) (fun vq wq hq => ?_)
    rcases hq with ⟨rfl, rfl, qd12⟩ | ⟨rfl, rfl, qd12, qz12, qn12, qm12⟩
    · show q_Go Γ mX5_readTerms 2 0 0 15 [(0, q_r Γ 27)] [q_i 0] (KC, (q_up S 27 1 (z + 1))) (fun v w => (v = some (q_i 0) ∧ ∃ S2, w = (KC, S2) ∧ s_offR S S2 ∧ S2 27 1 = s_tmAt P z ∧ ¬ s_tmOk P z ∧ 0 ≤ s_tmAt P z ∧ s_tmAt P z ≤ 80) ∨ (v = some (q_i 1) ∧ ∃ S2, w = (KC, S2) ∧ s_offR S S2 ∧ S2 27 1 = s_tmAt P z ∧ s_tmOk P z ∧ (z < s_tmAt P z ∧ s_tmAt P z ≤ 80) ∧ S2 27 2 = S 27 2 ∧ (∀ j, j < n → S2 28 j = S 28 j) ∧ S2 28 n = P (z + 1) - 48 ∧ S2 28 (n + 1) = (s_num P (z + 1 + 1 + 1)).1 ∧ S2 28 (n + 1 + 1) = (s_num P ((s_num P (z + 1 + 1 + 1)).2 + 1)).1))
      unfold s_isd at qd12
      refine q_if_eq (tgt := 54) (pc' := 18) dX5_readTerms_15 rfl rfl (by decide) (fun qc_15 => ?_) (fun qc_15 => absurd qc_15 (by decide))
      refine q_iconst (pc' := 55) dX5_readTerms_54 rfl ?_
      first | exact q_iret dX5_readTerms_55 rfl rfl (Or.inl ⟨rfl, _, rfl, (by first | assumption | ((repeat (refine s_offR_u ?_ (by decide))); first | exact s_offR_r | assumption) | (refine s_offR_t ?_ (by assumption); (repeat (refine s_offR_u ?_ (by decide))); first | exact s_offR_r | assumption)), (by (repeat (first | rw [q_up_eq] | rw [q_up_nz (by omega)] | rw [q_up_ne (by decide)])); unfold s_tmAt; repeat' split <;> omega), fun q => by unfold s_tmOk at q; omega, by unfold s_tmAt; repeat' split <;> omega, by unfold s_tmAt; repeat' split <;> omega⟩) | exact q_iret dX5_readTerms_55 rfl rfl (Or.inr ⟨rfl, _, rfl, (by first | assumption | ((repeat (refine s_offR_u ?_ (by decide))); first | exact s_offR_r | assumption) | (refine s_offR_t ?_ (by assumption); (repeat (refine s_offR_u ?_ (by decide))); first | exact s_offR_r | assumption)), (by (repeat (first | rw [q_up_eq] | rw [q_up_nz (by omega)] | rw [q_up_ne (by decide)])); unfold s_tmAt; repeat' split <;> omega), by unfold s_tmOk; omega, ⟨by unfold s_tmAt; repeat' split <;> omega, by unfold s_tmAt; repeat' split <;> omega⟩, (by (repeat (first | rw [q_up_eq] | rw [q_up_nz (by omega)] | rw [q_up_ne (by decide)])); first | done | rfl | assumption), (fun j hj => (by (repeat (first | rw [q_up_eq] | rw [q_up_nz (by omega)] | rw [q_up_ne (by decide)])); first | done | rfl | assumption)), (by (repeat (first | rw [q_up_eq] | rw [q_up_nz (by omega)] | rw [q_up_ne (by decide)])); first | done | rfl | assumption), (by (repeat (first | rw [q_up_eq] | rw [q_up_nz (by omega)] | rw [q_up_ne (by decide)])); first | done | rfl | assumption), (by (repeat (first | rw [q_up_eq] | rw [q_up_nz (by omega)] | rw [q_up_ne (by decide)])); first | done | rfl | assumption)⟩)
    · show q_Go Γ mX5_readTerms 2 0 0 15 [(0, q_r Γ 27)] [q_i 1] (KC, q_up (q_up (q_up (q_up S 27 1 (z + 1)) 27 1 ((z + 1) + 1)) 28 n (P (z + 1) - 48)) 27 4 (n + 1)) (fun v w => (v = some (q_i 0) ∧ ∃ S2, w = (KC, S2) ∧ s_offR S S2 ∧ S2 27 1 = s_tmAt P z ∧ ¬ s_tmOk P z ∧ 0 ≤ s_tmAt P z ∧ s_tmAt P z ≤ 80) ∨ (v = some (q_i 1) ∧ ∃ S2, w = (KC, S2) ∧ s_offR S S2 ∧ S2 27 1 = s_tmAt P z ∧ s_tmOk P z ∧ (z < s_tmAt P z ∧ s_tmAt P z ≤ 80) ∧ S2 27 2 = S 27 2 ∧ (∀ j, j < n → S2 28 j = S 28 j) ∧ S2 28 n = P (z + 1) - 48 ∧ S2 28 (n + 1) = (s_num P (z + 1 + 1 + 1)).1 ∧ S2 28 (n + 1 + 1) = (s_num P ((s_num P (z + 1 + 1 + 1)).2 + 1)).1))
      unfold s_isd at qd12
      refine q_if_eq (tgt := 54) (pc' := 18) dX5_readTerms_15 rfl rfl (by decide) (fun qc_15_1 => absurd qc_15_1 (by decide)) (fun qc_15_1 => ?_)
      refine q_aloadn (pc' := 19) 0 dX5_readTerms_18 rfl rfl ?_
      refine q_bipush (pc' := 21) dX5_readTerms_19 rfl rfl ?_
      refine q_callVQ (pc' := 24) dX5_readTerms_21 rfl lX5_42 iX5_readSign kc27 rfl (c_X5_readSign (P := P) (z := (z + 1) + 1) (by first | assumption | (repeat (refine s_pdC_u (by decide) (by decide) ?_); assumption)) (by first | assumption | (simp [q_up]; done) | (simp [q_up]; assumption)) (by first | assumption | omega) (by first | assumption | omega) (by first | assumption | omega) (by first | assumption | omega)) rfl rfl (Nat.le_of_ble_eq_true rfl) (Nat.le_of_ble_eq_true rfl) (Nat.le_of_ble_eq_true rfl) (fun vq wq hq => ?_)
      rcases hq with ⟨rfl, rfl, qd21⟩ | ⟨rfl, rfl, qd21, qz21⟩
      · show q_Go Γ mX5_readTerms 2 0 0 24 [(0, q_r Γ 27)] [q_i 0] (KC, (q_up (q_up (q_up (q_up S 27 1 (z + 1)) 27 1 ((z + 1) + 1)) 28 n (P (z + 1) - 48)) 27 4 (n + 1))) (fun v w => (v = some (q_i 0) ∧ ∃ S2, w = (KC, S2) ∧ s_offR S S2 ∧ S2 27 1 = s_tmAt P z ∧ ¬ s_tmOk P z ∧ 0 ≤ s_tmAt P z ∧ s_tmAt P z ≤ 80) ∨ (v = some (q_i 1) ∧ ∃ S2, w = (KC, S2) ∧ s_offR S S2 ∧ S2 27 1 = s_tmAt P z ∧ s_tmOk P z ∧ (z < s_tmAt P z ∧ s_tmAt P z ≤ 80) ∧ S2 27 2 = S 27 2 ∧ (∀ j, j < n → S2 28 j = S 28 j) ∧ S2 28 n = P (z + 1) - 48 ∧ S2 28 (n + 1) = (s_num P (z + 1 + 1 + 1)).1 ∧ S2 28 (n + 1 + 1) = (s_num P ((s_num P (z + 1 + 1 + 1)).2 + 1)).1))
        refine q_if_eq (tgt := 54) (pc' := 27) dX5_readTerms_24 rfl rfl (by decide) (fun qc_24 => ?_) (fun qc_24 => absurd qc_24 (by decide))
        refine q_iconst (pc' := 55) dX5_readTerms_54 rfl ?_
        first | exact q_iret dX5_readTerms_55 rfl rfl (Or.inl ⟨rfl, _, rfl, (by first | assumption | ((repeat (refine s_offR_u ?_ (by decide))); first | exact s_offR_r | assumption) | (refine s_offR_t ?_ (by assumption); (repeat (refine s_offR_u ?_ (by decide))); first | exact s_offR_r | assumption)), (by (repeat (first | rw [q_up_eq] | rw [q_up_nz (by omega)] | rw [q_up_ne (by decide)])); unfold s_tmAt; repeat' split <;> omega), fun q => by unfold s_tmOk at q; omega, by unfold s_tmAt; repeat' split <;> omega, by unfold s_tmAt; repeat' split <;> omega⟩) | exact q_iret dX5_readTerms_55 rfl rfl (Or.inr ⟨rfl, _, rfl, (by first | assumption | ((repeat (refine s_offR_u ?_ (by decide))); first | exact s_offR_r | assumption) | (refine s_offR_t ?_ (by assumption); (repeat (refine s_offR_u ?_ (by decide))); first | exact s_offR_r | assumption)), (by (repeat (first | rw [q_up_eq] | rw [q_up_nz (by omega)] | rw [q_up_ne (by decide)])); unfold s_tmAt; repeat' split <;> omega), by unfold s_tmOk; omega, ⟨by unfold s_tmAt; repeat' split <;> omega, by unfold s_tmAt; repeat' split <;> omega⟩, (by (repeat (first | rw [q_up_eq] | rw [q_up_nz (by omega)] | rw [q_up_ne (by decide)])); first | done | rfl | assumption), (fun j hj => (by (repeat (first | rw [q_up_eq] | rw [q_up_nz (by omega)] | rw [q_up_ne (by decide)])); first | done | rfl | assumption)), (by (repeat (first | rw [q_up_eq] | rw [q_up_nz (by omega)] | rw [q_up_ne (by decide)])); first | done | rfl | assumption), (by (repeat (first | rw [q_up_eq] | rw [q_up_nz (by omega)] | rw [q_up_ne (by decide)])); first | done | rfl | assumption), (by (repeat (first | rw [q_up_eq] | rw [q_up_nz (by omega)] | rw [q_up_ne (by decide)])); first | done | rfl | assumption)⟩)
      · show q_Go Γ mX5_readTerms 2 0 0 24 [(0, q_r Γ 27)] [q_i 1] (KC, q_up (q_up (q_up (q_up (q_up S 27 1 (z + 1)) 27 1 ((z + 1) + 1)) 28 n (P (z + 1) - 48)) 27 4 (n + 1)) 27 1 (((z + 1) + 1) + 1)) (fun v w => (v = some (q_i 0) ∧ ∃ S2, w = (KC, S2) ∧ s_offR S S2 ∧ S2 27 1 = s_tmAt P z ∧ ¬ s_tmOk P z ∧ 0 ≤ s_tmAt P z ∧ s_tmAt P z ≤ 80) ∨ (v = some (q_i 1) ∧ ∃ S2, w = (KC, S2) ∧ s_offR S S2 ∧ S2 27 1 = s_tmAt P z ∧ s_tmOk P z ∧ (z < s_tmAt P z ∧ s_tmAt P z ≤ 80) ∧ S2 27 2 = S 27 2 ∧ (∀ j, j < n → S2 28 j = S 28 j) ∧ S2 28 n = P (z + 1) - 48 ∧ S2 28 (n + 1) = (s_num P (z + 1 + 1 + 1)).1 ∧ S2 28 (n + 1 + 1) = (s_num P ((s_num P (z + 1 + 1 + 1)).2 + 1)).1))
        refine q_if_eq (tgt := 54) (pc' := 27) dX5_readTerms_24 rfl rfl (by decide) (fun qc_24_1 => absurd qc_24_1 (by decide)) (fun qc_24_1 => ?_)
        refine q_aloadn (pc' := 28) 0 dX5_readTerms_27 rfl rfl ?_
        refine q_callVQ (pc' := 31) dX5_readTerms_28 rfl lX5_65 iX5_readNumber kc27 rfl (c_X5_readNumber (P := P) (z := ((z + 1) + 1) + 1) (n := n + 1) (by first | assumption | (repeat (refine s_pdC_u (by decide) (by decide) ?_); assumption)) (by first | assumption | (simp [q_up]; done) | (simp [q_up]; assumption)) (by first | assumption | omega) (by first | assumption | omega) (by first | assumption | (simp [q_up]; done) | (simp [q_up]; assumption)) (by first | assumption | omega) (by first | assumption | omega)) rfl rfl (Nat.le_of_ble_eq_true rfl) (Nat.le_of_ble_eq_true rfl) (Nat.le_of_ble_eq_true rfl) (fun vq wq hq => ?_)
        rcases hq with ⟨rfl, rfl, qd28⟩ | ⟨rfl, rfl, qd28, qz28, qn28, qm28⟩
        · show q_Go Γ mX5_readTerms 2 0 0 31 [(0, q_r Γ 27)] [q_i 0] (KC, (q_up (q_up (q_up (q_up (q_up S 27 1 (z + 1)) 27 1 ((z + 1) + 1)) 28 n (P (z + 1) - 48)) 27 4 (n + 1)) 27 1 (((z + 1) + 1) + 1))) (fun v w => (v = some (q_i 0) ∧ ∃ S2, w = (KC, S2) ∧ s_offR S S2 ∧ S2 27 1 = s_tmAt P z ∧ ¬ s_tmOk P z ∧ 0 ≤ s_tmAt P z ∧ s_tmAt P z ≤ 80) ∨ (v = some (q_i 1) ∧ ∃ S2, w = (KC, S2) ∧ s_offR S S2 ∧ S2 27 1 = s_tmAt P z ∧ s_tmOk P z ∧ (z < s_tmAt P z ∧ s_tmAt P z ≤ 80) ∧ S2 27 2 = S 27 2 ∧ (∀ j, j < n → S2 28 j = S 28 j) ∧ S2 28 n = P (z + 1) - 48 ∧ S2 28 (n + 1) = (s_num P (z + 1 + 1 + 1)).1 ∧ S2 28 (n + 1 + 1) = (s_num P ((s_num P (z + 1 + 1 + 1)).2 + 1)).1))
          unfold s_isd at qd28
          refine q_if_eq (tgt := 54) (pc' := 34) dX5_readTerms_31 rfl rfl (by decide) (fun qc_31 => ?_) (fun qc_31 => absurd qc_31 (by decide))
          refine q_iconst (pc' := 55) dX5_readTerms_54 rfl ?_
          first | exact q_iret dX5_readTerms_55 rfl rfl (Or.inl ⟨rfl, _, rfl, (by first | assumption | ((repeat (refine s_offR_u ?_ (by decide))); first | exact s_offR_r | assumption) | (refine s_offR_t ?_ (by assumption); (repeat (refine s_offR_u ?_ (by decide))); first | exact s_offR_r | assumption)), (by (repeat (first | rw [q_up_eq] | rw [q_up_nz (by omega)] | rw [q_up_ne (by decide)])); unfold s_tmAt; repeat' split <;> omega), fun q => by unfold s_tmOk at q; omega, by unfold s_tmAt; repeat' split <;> omega, by unfold s_tmAt; repeat' split <;> omega⟩) | exact q_iret dX5_readTerms_55 rfl rfl (Or.inr ⟨rfl, _, rfl, (by first | assumption | ((repeat (refine s_offR_u ?_ (by decide))); first | exact s_offR_r | assumption) | (refine s_offR_t ?_ (by assumption); (repeat (refine s_offR_u ?_ (by decide))); first | exact s_offR_r | assumption)), (by (repeat (first | rw [q_up_eq] | rw [q_up_nz (by omega)] | rw [q_up_ne (by decide)])); unfold s_tmAt; repeat' split <;> omega), by unfold s_tmOk; omega, ⟨by unfold s_tmAt; repeat' split <;> omega, by unfold s_tmAt; repeat' split <;> omega⟩, (by (repeat (first | rw [q_up_eq] | rw [q_up_nz (by omega)] | rw [q_up_ne (by decide)])); first | done | rfl | assumption), (fun j hj => (by (repeat (first | rw [q_up_eq] | rw [q_up_nz (by omega)] | rw [q_up_ne (by decide)])); first | done | rfl | assumption)), (by (repeat (first | rw [q_up_eq] | rw [q_up_nz (by omega)] | rw [q_up_ne (by decide)])); first | done | rfl | assumption), (by (repeat (first | rw [q_up_eq] | rw [q_up_nz (by omega)] | rw [q_up_ne (by decide)])); first | done | rfl | assumption), (by (repeat (first | rw [q_up_eq] | rw [q_up_nz (by omega)] | rw [q_up_ne (by decide)])); first | done | rfl | assumption)⟩)
        · show q_Go Γ mX5_readTerms 2 0 0 31 [(0, q_r Γ 27)] [q_i 1] (KC, q_up (q_up (q_up (q_up (q_up (q_up (q_up (q_up S 27 1 (z + 1)) 27 1 ((z + 1) + 1)) 28 n (P (z + 1) - 48)) 27 4 (n + 1)) 27 1 (((z + 1) + 1) + 1)) 27 1 (s_num P (((z + 1) + 1) + 1)).2) 28 (n + 1) (s_num P (((z + 1) + 1) + 1)).1) 27 4 ((n + 1) + 1)) (fun v w => (v = some (q_i 0) ∧ ∃ S2, w = (KC, S2) ∧ s_offR S S2 ∧ S2 27 1 = s_tmAt P z ∧ ¬ s_tmOk P z ∧ 0 ≤ s_tmAt P z ∧ s_tmAt P z ≤ 80) ∨ (v = some (q_i 1) ∧ ∃ S2, w = (KC, S2) ∧ s_offR S S2 ∧ S2 27 1 = s_tmAt P z ∧ s_tmOk P z ∧ (z < s_tmAt P z ∧ s_tmAt P z ≤ 80) ∧ S2 27 2 = S 27 2 ∧ (∀ j, j < n → S2 28 j = S 28 j) ∧ S2 28 n = P (z + 1) - 48 ∧ S2 28 (n + 1) = (s_num P (z + 1 + 1 + 1)).1 ∧ S2 28 (n + 1 + 1) = (s_num P ((s_num P (z + 1 + 1 + 1)).2 + 1)).1))
          unfold s_isd at qd28
          refine q_if_eq (tgt := 54) (pc' := 34) dX5_readTerms_31 rfl rfl (by decide) (fun qc_31_1 => absurd qc_31_1 (by decide)) (fun qc_31_1 => ?_)
          refine q_aloadn (pc' := 35) 0 dX5_readTerms_34 rfl rfl ?_
          refine q_bipush (pc' := 37) dX5_readTerms_35 rfl rfl ?_
          refine q_callVQ (pc' := 40) dX5_readTerms_37 rfl lX5_42 iX5_readSign kc27 rfl (c_X5_readSign (P := P) (z := (s_num P (((z + 1) + 1) + 1)).2) (by first | assumption | (repeat (refine s_pdC_u (by decide) (by decide) ?_); assumption)) (by first | assumption | (simp [q_up]; done) | (simp [q_up]; assumption)) (by first | assumption | omega) (by first | assumption | omega) (by first | assumption | omega) (by first | assumption | omega)) rfl rfl (Nat.le_of_ble_eq_true rfl) (Nat.le_of_ble_eq_true rfl) (Nat.le_of_ble_eq_true rfl) (fun vq wq hq => ?_)
          rcases hq with ⟨rfl, rfl, qd37⟩ | ⟨rfl, rfl, qd37, qz37⟩
          · show q_Go Γ mX5_readTerms 2 0 0 40 [(0, q_r Γ 27)] [q_i 0] (KC, (q_up (q_up (q_up (q_up (q_up (q_up (q_up (q_up S 27 1 (z + 1)) 27 1 ((z + 1) + 1)) 28 n (P (z + 1) - 48)) 27 4 (n + 1)) 27 1 (((z + 1) + 1) + 1)) 27 1 (s_num P (((z + 1) + 1) + 1)).2) 28 (n + 1) (s_num P (((z + 1) + 1) + 1)).1) 27 4 ((n + 1) + 1))) (fun v w => (v = some (q_i 0) ∧ ∃ S2, w = (KC, S2) ∧ s_offR S S2 ∧ S2 27 1 = s_tmAt P z ∧ ¬ s_tmOk P z ∧ 0 ≤ s_tmAt P z ∧ s_tmAt P z ≤ 80) ∨ (v = some (q_i 1) ∧ ∃ S2, w = (KC, S2) ∧ s_offR S S2 ∧ S2 27 1 = s_tmAt P z ∧ s_tmOk P z ∧ (z < s_tmAt P z ∧ s_tmAt P z ≤ 80) ∧ S2 27 2 = S 27 2 ∧ (∀ j, j < n → S2 28 j = S 28 j) ∧ S2 28 n = P (z + 1) - 48 ∧ S2 28 (n + 1) = (s_num P (z + 1 + 1 + 1)).1 ∧ S2 28 (n + 1 + 1) = (s_num P ((s_num P (z + 1 + 1 + 1)).2 + 1)).1))
            refine q_if_eq (tgt := 54) (pc' := 43) dX5_readTerms_40 rfl rfl (by decide) (fun qc_40 => ?_) (fun qc_40 => absurd qc_40 (by decide))
            refine q_iconst (pc' := 55) dX5_readTerms_54 rfl ?_
            first | exact q_iret dX5_readTerms_55 rfl rfl (Or.inl ⟨rfl, _, rfl, (by first | assumption | ((repeat (refine s_offR_u ?_ (by decide))); first | exact s_offR_r | assumption) | (refine s_offR_t ?_ (by assumption); (repeat (refine s_offR_u ?_ (by decide))); first | exact s_offR_r | assumption)), (by (repeat (first | rw [q_up_eq] | rw [q_up_nz (by omega)] | rw [q_up_ne (by decide)])); unfold s_tmAt; repeat' split <;> omega), fun q => by unfold s_tmOk at q; omega, by unfold s_tmAt; repeat' split <;> omega, by unfold s_tmAt; repeat' split <;> omega⟩) | exact q_iret dX5_readTerms_55 rfl rfl (Or.inr ⟨rfl, _, rfl, (by first | assumption | ((repeat (refine s_offR_u ?_ (by decide))); first | exact s_offR_r | assumption) | (refine s_offR_t ?_ (by assumption); (repeat (refine s_offR_u ?_ (by decide))); first | exact s_offR_r | assumption)), (by (repeat (first | rw [q_up_eq] | rw [q_up_nz (by omega)] | rw [q_up_ne (by decide)])); unfold s_tmAt; repeat' split <;> omega), by unfold s_tmOk; omega, ⟨by unfold s_tmAt; repeat' split <;> omega, by unfold s_tmAt; repeat' split <;> omega⟩, (by (repeat (first | rw [q_up_eq] | rw [q_up_nz (by omega)] | rw [q_up_ne (by decide)])); first | done | rfl | assumption), (fun j hj => (by (repeat (first | rw [q_up_eq] | rw [q_up_nz (by omega)] | rw [q_up_ne (by decide)])); first | done | rfl | assumption)), (by (repeat (first | rw [q_up_eq] | rw [q_up_nz (by omega)] | rw [q_up_ne (by decide)])); first | done | rfl | assumption), (by (repeat (first | rw [q_up_eq] | rw [q_up_nz (by omega)] | rw [q_up_ne (by decide)])); first | done | rfl | assumption), (by (repeat (first | rw [q_up_eq] | rw [q_up_nz (by omega)] | rw [q_up_ne (by decide)])); first | done | rfl | assumption)⟩)
          · show q_Go Γ mX5_readTerms 2 0 0 40 [(0, q_r Γ 27)] [q_i 1] (KC, q_up (q_up (q_up (q_up (q_up (q_up (q_up (q_up (q_up S 27 1 (z + 1)) 27 1 ((z + 1) + 1)) 28 n (P (z + 1) - 48)) 27 4 (n + 1)) 27 1 (((z + 1) + 1) + 1)) 27 1 (s_num P (((z + 1) + 1) + 1)).2) 28 (n + 1) (s_num P (((z + 1) + 1) + 1)).1) 27 4 ((n + 1) + 1)) 27 1 (((s_num P (((z + 1) + 1) + 1)).2) + 1)) (fun v w => (v = some (q_i 0) ∧ ∃ S2, w = (KC, S2) ∧ s_offR S S2 ∧ S2 27 1 = s_tmAt P z ∧ ¬ s_tmOk P z ∧ 0 ≤ s_tmAt P z ∧ s_tmAt P z ≤ 80) ∨ (v = some (q_i 1) ∧ ∃ S2, w = (KC, S2) ∧ s_offR S S2 ∧ S2 27 1 = s_tmAt P z ∧ s_tmOk P z ∧ (z < s_tmAt P z ∧ s_tmAt P z ≤ 80) ∧ S2 27 2 = S 27 2 ∧ (∀ j, j < n → S2 28 j = S 28 j) ∧ S2 28 n = P (z + 1) - 48 ∧ S2 28 (n + 1) = (s_num P (z + 1 + 1 + 1)).1 ∧ S2 28 (n + 1 + 1) = (s_num P ((s_num P (z + 1 + 1 + 1)).2 + 1)).1))
            refine q_if_eq (tgt := 54) (pc' := 43) dX5_readTerms_40 rfl rfl (by decide) (fun qc_40_1 => absurd qc_40_1 (by decide)) (fun qc_40_1 => ?_)
            refine q_aloadn (pc' := 44) 0 dX5_readTerms_43 rfl rfl ?_
            refine q_callVQ (pc' := 47) dX5_readTerms_44 rfl lX5_65 iX5_readNumber kc27 rfl (c_X5_readNumber (P := P) (z := ((s_num P (((z + 1) + 1) + 1)).2) + 1) (n := (n + 1) + 1) (by first | assumption | (repeat (refine s_pdC_u (by decide) (by decide) ?_); assumption)) (by first | assumption | (simp [q_up]; done) | (simp [q_up]; assumption)) (by first | assumption | omega) (by first | assumption | omega) (by first | assumption | (simp [q_up]; done) | (simp [q_up]; assumption)) (by first | assumption | omega) (by first | assumption | omega)) rfl rfl (Nat.le_of_ble_eq_true rfl) (Nat.le_of_ble_eq_true rfl) (Nat.le_of_ble_eq_true rfl) (fun vq wq hq => ?_)
            rcases hq with ⟨rfl, rfl, qd44⟩ | ⟨rfl, rfl, qd44, qz44, qn44, qm44⟩
            · show q_Go Γ mX5_readTerms 2 0 0 47 [(0, q_r Γ 27)] [q_i 0] (KC, (q_up (q_up (q_up (q_up (q_up (q_up (q_up (q_up (q_up S 27 1 (z + 1)) 27 1 ((z + 1) + 1)) 28 n (P (z + 1) - 48)) 27 4 (n + 1)) 27 1 (((z + 1) + 1) + 1)) 27 1 (s_num P (((z + 1) + 1) + 1)).2) 28 (n + 1) (s_num P (((z + 1) + 1) + 1)).1) 27 4 ((n + 1) + 1)) 27 1 (((s_num P (((z + 1) + 1) + 1)).2) + 1))) (fun v w => (v = some (q_i 0) ∧ ∃ S2, w = (KC, S2) ∧ s_offR S S2 ∧ S2 27 1 = s_tmAt P z ∧ ¬ s_tmOk P z ∧ 0 ≤ s_tmAt P z ∧ s_tmAt P z ≤ 80) ∨ (v = some (q_i 1) ∧ ∃ S2, w = (KC, S2) ∧ s_offR S S2 ∧ S2 27 1 = s_tmAt P z ∧ s_tmOk P z ∧ (z < s_tmAt P z ∧ s_tmAt P z ≤ 80) ∧ S2 27 2 = S 27 2 ∧ (∀ j, j < n → S2 28 j = S 28 j) ∧ S2 28 n = P (z + 1) - 48 ∧ S2 28 (n + 1) = (s_num P (z + 1 + 1 + 1)).1 ∧ S2 28 (n + 1 + 1) = (s_num P ((s_num P (z + 1 + 1 + 1)).2 + 1)).1))
              unfold s_isd at qd44
              refine q_if_eq (tgt := 54) (pc' := 50) dX5_readTerms_47 rfl rfl (by decide) (fun qc_47 => ?_) (fun qc_47 => absurd qc_47 (by decide))
              refine q_iconst (pc' := 55) dX5_readTerms_54 rfl ?_
              first | exact q_iret dX5_readTerms_55 rfl rfl (Or.inl ⟨rfl, _, rfl, (by first | assumption | ((repeat (refine s_offR_u ?_ (by decide))); first | exact s_offR_r | assumption) | (refine s_offR_t ?_ (by assumption); (repeat (refine s_offR_u ?_ (by decide))); first | exact s_offR_r | assumption)), (by (repeat (first | rw [q_up_eq] | rw [q_up_nz (by omega)] | rw [q_up_ne (by decide)])); unfold s_tmAt; repeat' split <;> omega), fun q => by unfold s_tmOk at q; omega, by unfold s_tmAt; repeat' split <;> omega, by unfold s_tmAt; repeat' split <;> omega⟩) | exact q_iret dX5_readTerms_55 rfl rfl (Or.inr ⟨rfl, _, rfl, (by first | assumption | ((repeat (refine s_offR_u ?_ (by decide))); first | exact s_offR_r | assumption) | (refine s_offR_t ?_ (by assumption); (repeat (refine s_offR_u ?_ (by decide))); first | exact s_offR_r | assumption)), (by (repeat (first | rw [q_up_eq] | rw [q_up_nz (by omega)] | rw [q_up_ne (by decide)])); unfold s_tmAt; repeat' split <;> omega), by unfold s_tmOk; omega, ⟨by unfold s_tmAt; repeat' split <;> omega, by unfold s_tmAt; repeat' split <;> omega⟩, (by (repeat (first | rw [q_up_eq] | rw [q_up_nz (by omega)] | rw [q_up_ne (by decide)])); first | done | rfl | assumption), (fun j hj => (by (repeat (first | rw [q_up_eq] | rw [q_up_nz (by omega)] | rw [q_up_ne (by decide)])); first | done | rfl | assumption)), (by (repeat (first | rw [q_up_eq] | rw [q_up_nz (by omega)] | rw [q_up_ne (by decide)])); first | done | rfl | assumption), (by (repeat (first | rw [q_up_eq] | rw [q_up_nz (by omega)] | rw [q_up_ne (by decide)])); first | done | rfl | assumption), (by (repeat (first | rw [q_up_eq] | rw [q_up_nz (by omega)] | rw [q_up_ne (by decide)])); first | done | rfl | assumption)⟩)
            · show q_Go Γ mX5_readTerms 2 0 0 47 [(0, q_r Γ 27)] [q_i 1] (KC, q_up (q_up (q_up (q_up (q_up (q_up (q_up (q_up (q_up (q_up (q_up (q_up S 27 1 (z + 1)) 27 1 ((z + 1) + 1)) 28 n (P (z + 1) - 48)) 27 4 (n + 1)) 27 1 (((z + 1) + 1) + 1)) 27 1 (s_num P (((z + 1) + 1) + 1)).2) 28 (n + 1) (s_num P (((z + 1) + 1) + 1)).1) 27 4 ((n + 1) + 1)) 27 1 (((s_num P (((z + 1) + 1) + 1)).2) + 1)) 27 1 (s_num P (((s_num P (((z + 1) + 1) + 1)).2) + 1)).2) 28 ((n + 1) + 1) (s_num P (((s_num P (((z + 1) + 1) + 1)).2) + 1)).1) 27 4 (((n + 1) + 1) + 1)) (fun v w => (v = some (q_i 0) ∧ ∃ S2, w = (KC, S2) ∧ s_offR S S2 ∧ S2 27 1 = s_tmAt P z ∧ ¬ s_tmOk P z ∧ 0 ≤ s_tmAt P z ∧ s_tmAt P z ≤ 80) ∨ (v = some (q_i 1) ∧ ∃ S2, w = (KC, S2) ∧ s_offR S S2 ∧ S2 27 1 = s_tmAt P z ∧ s_tmOk P z ∧ (z < s_tmAt P z ∧ s_tmAt P z ≤ 80) ∧ S2 27 2 = S 27 2 ∧ (∀ j, j < n → S2 28 j = S 28 j) ∧ S2 28 n = P (z + 1) - 48 ∧ S2 28 (n + 1) = (s_num P (z + 1 + 1 + 1)).1 ∧ S2 28 (n + 1 + 1) = (s_num P ((s_num P (z + 1 + 1 + 1)).2 + 1)).1))
              unfold s_isd at qd44
              refine q_if_eq (tgt := 54) (pc' := 50) dX5_readTerms_47 rfl rfl (by decide) (fun qc_47_1 => absurd qc_47_1 (by decide)) (fun qc_47_1 => ?_)
              refine q_iconst (pc' := 51) dX5_readTerms_50 rfl ?_
              refine q_goto (pc' := 55) dX5_readTerms_51 rfl ?_
              first | exact q_iret dX5_readTerms_55 rfl rfl (Or.inl ⟨rfl, _, rfl, (by first | assumption | ((repeat (refine s_offR_u ?_ (by decide))); first | exact s_offR_r | assumption) | (refine s_offR_t ?_ (by assumption); (repeat (refine s_offR_u ?_ (by decide))); first | exact s_offR_r | assumption)), (by (repeat (first | rw [q_up_eq] | rw [q_up_nz (by omega)] | rw [q_up_ne (by decide)])); unfold s_tmAt; repeat' split <;> omega), fun q => by unfold s_tmOk at q; omega, by unfold s_tmAt; repeat' split <;> omega, by unfold s_tmAt; repeat' split <;> omega⟩) | exact q_iret dX5_readTerms_55 rfl rfl (Or.inr ⟨rfl, _, rfl, (by first | assumption | ((repeat (refine s_offR_u ?_ (by decide))); first | exact s_offR_r | assumption) | (refine s_offR_t ?_ (by assumption); (repeat (refine s_offR_u ?_ (by decide))); first | exact s_offR_r | assumption)), (by (repeat (first | rw [q_up_eq] | rw [q_up_nz (by omega)] | rw [q_up_ne (by decide)])); unfold s_tmAt; repeat' split <;> omega), by unfold s_tmOk; omega, ⟨by unfold s_tmAt; repeat' split <;> omega, by unfold s_tmAt; repeat' split <;> omega⟩, (by (repeat (first | rw [q_up_eq] | rw [q_up_nz (by omega)] | rw [q_up_ne (by decide)])); first | done | rfl | assumption), (fun j hj => (by (repeat (first | rw [q_up_eq] | rw [q_up_nz (by omega)] | rw [q_up_ne (by decide)])); first | done | rfl | assumption)), (by (repeat (first | rw [q_up_eq] | rw [q_up_nz (by omega)] | rw [q_up_ne (by decide)])); first | done | rfl | assumption), (by (repeat (first | rw [q_up_eq] | rw [q_up_nz (by omega)] | rw [q_up_ne (by decide)])); first | done | rfl | assumption), (by (repeat (first | rw [q_up_eq] | rw [q_up_nz (by omega)] | rw [q_up_ne (by decide)])); first | done | rfl | assumption)⟩)
