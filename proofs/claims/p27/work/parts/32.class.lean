set_option maxRecDepth 20000 in
set_option maxHeartbeats 4000000 in
theorem c_X8_outside {Γ : q_G} {K : List q_K} {S : q_S} {v l h : Int} (hv : q_rg v) (hl : q_rg l) (hh : q_rg h) : q_Sp Γ mX8_outside 0 0 0 [q_i v, q_i l, q_i h] (K, S) (q_ev (some (q_i (q_B (v < l ∨ h < v)))) (K, S)) := by
  show q_Go Γ mX8_outside 0 0 0 0 [(0, q_i v), (1, q_i l), (2, q_i h)] [] (K, S) (q_ev (some (q_i (q_B (v < l ∨ h < v)))) (K, S))
  refine q_iloadn (pc' := 1) 0 dX8_outside_0 rfl rfl ?_
  refine q_iloadn (pc' := 2) 1 dX8_outside_1 rfl rfl ?_
  refine q_icmp_lt (tgt := 10) (pc' := 5) dX8_outside_2 rfl rfl (by first | assumption | omega) (by first | assumption | omega) (fun qc_2 => ?_) (fun qc_2 => ?_)
  · refine q_iconst (pc' := 11) dX8_outside_10 rfl ?_
    refine q_goto (pc' := 15) dX8_outside_11 rfl ?_
    refine p_zret dX8_outside_15 rfl ?_ ?_
    · first | exact q_B_1 (by omega) | exact q_B_0 (by omega)
    · rfl
  · refine q_iloadn (pc' := 6) 0 dX8_outside_5 rfl rfl ?_
    refine q_iloadn (pc' := 7) 2 dX8_outside_6 rfl rfl ?_
    refine q_icmp_le (tgt := 14) (pc' := 10) dX8_outside_7 rfl rfl (by first | assumption | omega) (by first | assumption | omega) (fun qc_7 => ?_) (fun qc_7 => ?_)
    · refine q_iconst (pc' := 15) dX8_outside_14 rfl ?_
      refine p_zret dX8_outside_15 rfl ?_ ?_
      · first | exact q_B_1 (by omega) | exact q_B_0 (by omega)
      · rfl
    · refine q_iconst (pc' := 11) dX8_outside_10 rfl ?_
      refine q_goto (pc' := 15) dX8_outside_11 rfl ?_
      refine p_zret dX8_outside_15 rfl ?_ ?_
      · first | exact q_B_1 (by omega) | exact q_B_0 (by omega)
      · rfl
set_option maxRecDepth 20000 in
set_option maxHeartbeats 4000000 in
theorem c_X8_isHour {Γ : q_G} {K : List q_K} {S : q_S} {h : Int} (hh : q_rg h) : q_Sp Γ mX8_isHour 1 0 0 [q_i h] (K, S) (q_ev (some (q_i (q_B (0 ≤ h ∧ h < 10)))) (K, S)) := by
  show q_Go Γ mX8_isHour 1 0 0 0 [(0, q_i h)] [] (K, S) (q_ev (some (q_i (q_B (0 ≤ h ∧ h < 10)))) (K, S))
  refine q_iloadn (pc' := 1) 0 dX8_isHour_0 rfl rfl ?_
  refine q_iconst (pc' := 2) dX8_isHour_1 rfl ?_
  refine q_bipush (pc' := 4) dX8_isHour_2 rfl rfl ?_
  refine q_callSI (pc' := 7) dX8_isHour_4 rfl lX8_104 iX8_outside (c_X8_outside (by first | assumption | omega) (by first | assumption | omega) (by first | assumption | omega)) rfl rfl (Nat.le_of_ble_eq_true rfl) (Nat.le_of_ble_eq_true rfl) (Nat.le_of_ble_eq_true rfl) ?_
  refine q_if_ne_B (tgt := 14) (pc' := 10) dX8_isHour_7 rfl rfl (fun qc_7 => ?_) (fun qc_7 => ?_)
  · refine q_iconst (pc' := 15) dX8_isHour_14 rfl ?_
    refine p_zret dX8_isHour_15 rfl ?_ ?_
    · first | exact q_B_1 (by omega) | exact q_B_0 (by omega)
    · rfl
  · refine q_iconst (pc' := 11) dX8_isHour_10 rfl ?_
    refine q_goto (pc' := 15) dX8_isHour_11 rfl ?_
    refine p_zret dX8_isHour_15 rfl ?_ ?_
    · first | exact q_B_1 (by omega) | exact q_B_0 (by omega)
    · rfl
set_option maxRecDepth 20000 in
set_option maxHeartbeats 4000000 in
theorem c_X0_hasRow {Γ : q_G} {S : q_S} {φ : Int → Int} {r : Int} (FF : s_F S 1 φ) (ok : s_ok φ) (hr : q_rg r) : q_Sp Γ mX0_hasRow 1 0 0 [q_r Γ 1, q_i r] (KC, S) (q_ev (some (q_i (q_B (0 ≤ r ∧ r < φ 0)))) (KC, S)) := by
  show q_Go Γ mX0_hasRow 1 0 0 0 [(0, q_r Γ 1), (1, q_i r)] [] (KC, S) (q_ev (some (q_i (q_B (0 ≤ r ∧ r < φ 0)))) (KC, S))
  have rw0 := s_rows_b ok
  refine q_iloadn (pc' := 1) 1 dX0_hasRow_0 rfl rfl ?_
  refine q_iconst (pc' := 2) dX0_hasRow_1 rfl ?_
  refine q_aloadn (pc' := 3) 0 dX0_hasRow_2 rfl rfl ?_
  refine p_getJ (pc' := 6) (kz := 0) dX0_hasRow_3 rfl fX0_9 kc1 rfl rfl (fun qy_3 eqy_3 rqy_3 => ?_)
  have vqy_3 : qy_3 = φ 0 := eqy_3.trans (s_F_0 FF)
  rw [vqy_3]
  refine q_iconst (pc' := 7) dX0_hasRow_6 rfl ?_
  refine q_isub (pc' := 8) dX0_hasRow_7 rfl ?_
  refine q_callSI (pc' := 11) dX0_hasRow_8 rfl lX0_60 iX8_outside (c_X8_outside (by first | assumption | omega) (by first | assumption | omega) (by first | assumption | omega)) rfl rfl (Nat.le_of_ble_eq_true rfl) (Nat.le_of_ble_eq_true rfl) (Nat.le_of_ble_eq_true rfl) ?_
  refine q_if_ne_B (tgt := 18) (pc' := 14) dX0_hasRow_11 rfl rfl (fun qc_11 => ?_) (fun qc_11 => ?_)
  · refine q_iconst (pc' := 19) dX0_hasRow_18 rfl ?_
    refine p_zret dX0_hasRow_19 rfl ?_ ?_
    · first | exact q_B_1 (by omega) | exact q_B_0 (by omega)
    · rfl
  · refine q_iconst (pc' := 15) dX0_hasRow_14 rfl ?_
    refine q_goto (pc' := 19) dX0_hasRow_15 rfl ?_
    refine p_zret dX0_hasRow_19 rfl ?_ ?_
    · first | exact q_B_1 (by omega) | exact q_B_0 (by omega)
    · rfl
set_option maxRecDepth 20000 in
set_option maxHeartbeats 4000000 in
theorem c_X0_rightAt {Γ : q_G} {K : List q_K} {S : q_S} {a b h : Int}  : q_Sp Γ mX0_rightAt 0 0 0 [q_i a, q_i b, q_i h] (K, S) (q_ev (some (q_i (10 * (6 * a + b) + h))) (K, S)) := by
  show q_Go Γ mX0_rightAt 0 0 0 0 [(0, q_i a), (1, q_i b), (2, q_i h)] [] (K, S) (q_ev (some (q_i (10 * (6 * a + b) + h))) (K, S))
  refine q_iloadn (pc' := 1) 0 dX0_rightAt_0 rfl rfl ?_
  refine q_bipush (pc' := 3) dX0_rightAt_1 rfl rfl ?_
  refine q_imul (pc' := 4) dX0_rightAt_3 rfl ?_
  refine q_iloadn (pc' := 5) 1 dX0_rightAt_4 rfl rfl ?_
  refine q_iadd (pc' := 6) dX0_rightAt_5 rfl ?_
  refine q_bipush (pc' := 8) dX0_rightAt_6 rfl rfl ?_
  refine q_imul (pc' := 9) dX0_rightAt_8 rfl ?_
  refine q_iloadn (pc' := 10) 2 dX0_rightAt_9 rfl rfl ?_
  refine q_iadd (pc' := 11) dX0_rightAt_10 rfl ?_
  refine p_iret dX0_rightAt_11 rfl ?_ ?_
  · omega
  · rfl
set_option maxRecDepth 20000 in
set_option maxHeartbeats 4000000 in
theorem c_X0_isTaken {Γ : q_G} {S : q_S} {φ : Int → Int} {p : Int} (FF : s_F S 1 φ) (ok : s_ok φ) (hp : q_rg p) : q_Sp Γ mX0_isTaken 0 0 0 [q_r Γ 1, q_i p] (KC, S) (q_ev (some (q_i (q_B (s_taken φ p)))) (KC, S)) := by
  show q_Go Γ mX0_isTaken 0 0 0 0 [(0, q_r Γ 1), (1, q_i p)] [] (KC, S) (q_ev (some (q_i (q_B (s_taken φ p)))) (KC, S))
  have rw0 := s_rows_b ok
  refine q_iconst (pc' := 1) dX0_isTaken_0 rfl ?_
  refine q_istoren (pc' := 2) (L' := [(2, q_i 0), (0, q_r Γ 1), (1, q_i p)]) dX0_isTaken_1 rfl rfl (by decide) rfl ?_
  have qlp_2 : ∀ (qn_2 : Nat) (k : Int), (0 ≤ k) → (k ≤ φ 0) → (¬ s_tkN φ p k) → ((6 - k).toNat) = qn_2 → q_Go Γ mX0_isTaken 0 0 0 2 [(0, q_r Γ 1), (1, q_i p), (2, q_i k)] [] (KC, S) (q_ev (some (q_i (q_B (s_taken φ p)))) (KC, S)) := by
    intro qn_2
    induction qn_2 using Nat.strongRecOn with
    | ind qn_2 qih_2 =>
      intro k qa_2_0 qa_2_1 qa_2_2 qhn_2
      subst qhn_2
      refine q_iloadn (pc' := 3) 2 dX0_isTaken_2 rfl rfl ?_
      refine q_aloadn (pc' := 4) 0 dX0_isTaken_3 rfl rfl ?_
      refine p_getJ (pc' := 7) (kz := 0) dX0_isTaken_4 rfl fX0_9 kc1 rfl rfl (fun qy_4 eqy_4 rqy_4 => ?_)
      have vqy_4 : qy_4 = φ 0 := eqy_4.trans (s_F_0 FF)
      rw [vqy_4]
      refine q_icmp_ge (tgt := 28) (pc' := 10) dX0_isTaken_7 rfl rfl (by first | assumption | omega) (by first | assumption | omega) (fun qc_7 => ?_) (fun qc_7 => ?_)
      · refine q_iconst (pc' := 29) dX0_isTaken_28 rfl ?_
        refine p_zret dX0_isTaken_29 rfl ?_ ?_
        · first | exact q_B_1 ⟨k, by omega, by omega, by omega⟩ | exact q_B_0 (fun q => qa_2_2 (by rw [show k = φ 0 by omega]; exact q))
        · rfl
      · refine q_aloadn (pc' := 11) 0 dX0_isTaken_10 rfl rfl ?_
        refine p_getR (pc' := 14) (f := 2) dX0_isTaken_11 rfl fX0_15 kc1 rfl ?_
        refine q_iloadn (pc' := 15) 2 dX0_isTaken_14 rfl rfl ?_
        refine p_iald (pc' := 16) dX0_isTaken_15 rfl kc2 (by first | assumption | omega) (by first | assumption | omega) (by decide) (fun qy_15 eqy_15 rqy_15 => ?_)
        have vqy_15 : qy_15 = s_pt φ (k) 0 := eqy_15.trans (s_F_2 FF (by first | assumption | omega) (by first | assumption | omega))
        rw [vqy_15]
        have pk := s_pt_b ok (r := k) (by omega) (by omega)
        refine q_iloadn (pc' := 17) 1 dX0_isTaken_16 rfl rfl ?_
        refine q_icmp_ne (tgt := 22) (pc' := 20) dX0_isTaken_17 rfl rfl (by first | assumption | omega) (by first | assumption | omega) (fun qc_17 => ?_) (fun qc_17 => ?_)
        · refine q_iinc (pc' := 25) 2 (L' := [(2, q_i (k + 1)), (0, q_r Γ 1), (1, q_i p)]) dX0_isTaken_22 rfl rfl (by decide) rfl ?_
          refine q_goto (pc' := 2) dX0_isTaken_25 rfl ?_
          refine p_sub [1, 2, 0] rfl ?_
          exact qih_2 _ (by omega) _ (by first | assumption | omega) (by first | assumption | omega) (by intro q; rcases (s_tkN_s (by omega)).mp q with q1 | q1; exact qa_2_2 q1; omega) rfl
        · refine q_iconst (pc' := 21) dX0_isTaken_20 rfl ?_
          refine p_zret dX0_isTaken_21 rfl ?_ ?_
          · first | exact q_B_1 ⟨k, by omega, by omega, by omega⟩ | exact q_B_0 (fun q => qa_2_2 (by rw [show k = φ 0 by omega]; exact q))
          · rfl
  refine p_sub [1, 2, 0] rfl ?_
  exact qlp_2 _ _ (by first | assumption | omega) (by first | assumption | omega) (by intro ⟨r, r0, r1, _⟩; omega) rfl
set_option maxRecDepth 20000 in
set_option maxHeartbeats 4000000 in
theorem c_X0_changeTilt {Γ : q_G} {S : q_S} {φ : Int → Int} {r u : Int} (FF : s_F S 1 φ) (ok : s_ok φ) (hr : q_rg r) (hu : q_rg u) : q_Sp Γ mX0_changeTilt 2 0 0 [q_r Γ 1, q_i r, q_i u] (KC, S) (fun v w => v = some (q_i (s_tiltV φ r u)) ∧ ∃ S2, w = (KC, S2) ∧ s_F S2 1 (s_tiltP φ r u) ∧ s_offF S S2) := by
  show q_Go Γ mX0_changeTilt 2 0 0 0 [(0, q_r Γ 1), (1, q_i r), (2, q_i u)] [] (KC, S) (fun v w => v = some (q_i (s_tiltV φ r u)) ∧ ∃ S2, w = (KC, S2) ∧ s_F S2 1 (s_tiltP φ r u) ∧ s_offF S S2)
  have rw0 := s_rows_b ok
  have c3 := ok.2.2.1
  have c4 := ok.2.2.2.1
  refine q_aloadn (pc' := 1) 0 dX0_changeTilt_0 rfl rfl ?_
  refine q_iloadn (pc' := 2) 1 dX0_changeTilt_1 rfl rfl ?_
  refine q_callVI (pc' := 5) dX0_changeTilt_2 rfl lX0_68 iX0_hasRow kc1 rfl (c_X0_hasRow (by first | assumption | omega) (by first | assumption | omega) (by first | assumption | omega)) rfl rfl (Nat.le_of_ble_eq_true rfl) (Nat.le_of_ble_eq_true rfl) (Nat.le_of_ble_eq_true rfl) ?_
  refine q_if_ne_B (tgt := 10) (pc' := 8) dX0_changeTilt_5 rfl rfl (fun qc_5 => ?_) (fun qc_5 => ?_)
  · refine q_iloadn (pc' := 11) 2 dX0_changeTilt_10 rfl rfl ?_
    refine q_iconst (pc' := 12) dX0_changeTilt_11 rfl ?_
    refine q_iconst (pc' := 13) dX0_changeTilt_12 rfl ?_
    refine q_callSI (pc' := 16) dX0_changeTilt_13 rfl lX0_60 iX8_outside (c_X8_outside (by first | assumption | omega) (by first | assumption | omega) (by first | assumption | omega)) rfl rfl (Nat.le_of_ble_eq_true rfl) (Nat.le_of_ble_eq_true rfl) (Nat.le_of_ble_eq_true rfl) ?_
    refine q_if_eq_B (tgt := 22) (pc' := 19) dX0_changeTilt_16 rfl rfl (fun qc_16 => ?_) (fun qc_16 => ?_)
    · refine q_aloadn (pc' := 23) 0 dX0_changeTilt_22 rfl rfl ?_
      refine p_getR (pc' := 26) (f := 4) dX0_changeTilt_23 rfl fX0_22 kc1 rfl ?_
      refine q_iloadn (pc' := 27) 1 dX0_changeTilt_26 rfl rfl ?_
      refine p_iald (pc' := 28) dX0_changeTilt_27 rfl kc4 (by first | assumption | omega) (by first | assumption | omega) (by decide) (fun qy_27 eqy_27 rqy_27 => ?_)
      have vqy_27 : qy_27 = s_pt φ (r) 2 := eqy_27.trans (s_F_4 FF (by first | assumption | omega) (by first | assumption | omega))
      rw [vqy_27]
      refine q_istoren (pc' := 29) (L' := [(3, q_i (s_pt φ (r) 2)), (0, q_r Γ 1), (1, q_i r), (2, q_i u)]) dX0_changeTilt_28 rfl rfl (by decide) rfl ?_
      refine q_aloadn (pc' := 30) 1 dX0_changeTilt_29 rfl rfl ?_
      refine p_getR (pc' := 33) (f := 4) dX0_changeTilt_30 rfl fX0_22 kc1 rfl ?_
      refine q_iloadn (pc' := 34) 2 dX0_changeTilt_33 rfl rfl ?_
      refine q_iloadn (pc' := 35) 3 dX0_changeTilt_34 rfl rfl ?_
      refine p_iast (pc' := 36) dX0_changeTilt_35 rfl kc4 (by first | assumption | omega) (by first | assumption | omega) (by decide) (by first | assumption | omega) ?_
      refine q_iloadn (pc' := 37) 0 dX0_changeTilt_36 rfl rfl ?_
      exact q_iret dX0_changeTilt_37 rfl rfl ⟨congrArg (fun z => some (q_i z)) (by unfold s_tiltV s_wTilt; omega), _, rfl, (by unfold s_tiltP; first | (rw [if_pos (by unfold s_wTilt; omega)]; exact FF) | (rw [if_neg (by unfold s_wTilt; omega)]; exact s_F_ti FF (by omega) (by omega) (by omega) (by omega))), (by (repeat (refine s_offF_u ?_ (by decide) (by decide))); exact s_offF_r)⟩
    · refine q_bipush (pc' := 21) dX0_changeTilt_19 rfl rfl ?_
      exact q_iret dX0_changeTilt_21 rfl rfl ⟨congrArg (fun z => some (q_i z)) (by unfold s_tiltV s_wTilt; omega), _, rfl, (by unfold s_tiltP; first | (rw [if_pos (by unfold s_wTilt; omega)]; exact FF) | (rw [if_neg (by unfold s_wTilt; omega)]; exact s_F_ti FF (by omega) (by omega) (by omega) (by omega))), (by (repeat (refine s_offF_u ?_ (by decide) (by decide))); exact s_offF_r)⟩
  · refine q_iconst (pc' := 9) dX0_changeTilt_8 rfl ?_
    exact q_iret dX0_changeTilt_9 rfl rfl ⟨congrArg (fun z => some (q_i z)) (by unfold s_tiltV s_wTilt; omega), _, rfl, (by unfold s_tiltP; first | (rw [if_pos (by unfold s_wTilt; omega)]; exact FF) | (rw [if_neg (by unfold s_wTilt; omega)]; exact s_F_ti FF (by omega) (by omega) (by omega) (by omega))), (by (repeat (refine s_offF_u ?_ (by decide) (by decide))); exact s_offF_r)⟩
set_option maxRecDepth 20000 in
set_option maxHeartbeats 4000000 in
theorem c_X0_changeWind {Γ : q_G} {S : q_S} {φ : Int → Int} {h u : Int} (FF : s_F S 1 φ) (ok : s_ok φ) (hh : q_rg h) (hu : q_rg u) : q_Sp Γ mX0_changeWind 2 0 0 [q_r Γ 1, q_i h, q_i u] (KC, S) (fun v w => v = some (q_i (s_windV φ h u)) ∧ ∃ S2, w = (KC, S2) ∧ s_F S2 1 (s_windP φ h u) ∧ s_offF S S2) := by
  show q_Go Γ mX0_changeWind 2 0 0 0 [(0, q_r Γ 1), (1, q_i h), (2, q_i u)] [] (KC, S) (fun v w => v = some (q_i (s_windV φ h u)) ∧ ∃ S2, w = (KC, S2) ∧ s_F S2 1 (s_windP φ h u) ∧ s_offF S S2)
  have rw0 := s_rows_b ok
  have c3 := ok.2.2.1
  have c4 := ok.2.2.2.1
  refine q_iloadn (pc' := 1) 1 dX0_changeWind_0 rfl rfl ?_
  refine q_callSI (pc' := 4) dX0_changeWind_1 rfl lX0_71 iX8_isHour (c_X8_isHour (by first | assumption | omega)) rfl rfl (Nat.le_of_ble_eq_true rfl) (Nat.le_of_ble_eq_true rfl) (Nat.le_of_ble_eq_true rfl) ?_
  refine q_if_ne_B (tgt := 9) (pc' := 7) dX0_changeWind_4 rfl rfl (fun qc_4 => ?_) (fun qc_4 => ?_)
  · refine q_iloadn (pc' := 10) 2 dX0_changeWind_9 rfl rfl ?_
    refine q_iconst (pc' := 11) dX0_changeWind_10 rfl ?_
    refine q_bipush (pc' := 13) dX0_changeWind_11 rfl rfl ?_
    refine q_callSI (pc' := 16) dX0_changeWind_13 rfl lX0_60 iX8_outside (c_X8_outside (by first | assumption | omega) (by first | assumption | omega) (by first | assumption | omega)) rfl rfl (Nat.le_of_ble_eq_true rfl) (Nat.le_of_ble_eq_true rfl) (Nat.le_of_ble_eq_true rfl) ?_
    refine q_if_eq_B (tgt := 22) (pc' := 19) dX0_changeWind_16 rfl rfl (fun qc_16 => ?_) (fun qc_16 => ?_)
    · refine q_aloadn (pc' := 23) 0 dX0_changeWind_22 rfl rfl ?_
      refine p_getR (pc' := 26) (f := 6) dX0_changeWind_23 rfl fX0_28 kc1 rfl ?_
      refine q_iloadn (pc' := 27) 1 dX0_changeWind_26 rfl rfl ?_
      refine p_iald (pc' := 28) dX0_changeWind_27 rfl kc6 (by first | assumption | omega) (by first | assumption | omega) (by decide) (fun qy_27 eqy_27 rqy_27 => ?_)
      have vqy_27 : qy_27 = φ (5 + (h)) := eqy_27.trans (s_F_w FF (by first | assumption | omega) (by first | assumption | omega))
      rw [vqy_27]
      refine q_istoren (pc' := 29) (L' := [(3, q_i (φ (5 + (h)))), (0, q_r Γ 1), (1, q_i h), (2, q_i u)]) dX0_changeWind_28 rfl rfl (by decide) rfl ?_
      refine q_aloadn (pc' := 30) 1 dX0_changeWind_29 rfl rfl ?_
      refine p_getR (pc' := 33) (f := 6) dX0_changeWind_30 rfl fX0_28 kc1 rfl ?_
      refine q_iloadn (pc' := 34) 2 dX0_changeWind_33 rfl rfl ?_
      refine q_iloadn (pc' := 35) 3 dX0_changeWind_34 rfl rfl ?_
      refine p_iast (pc' := 36) dX0_changeWind_35 rfl kc6 (by first | assumption | omega) (by first | assumption | omega) (by decide) (by first | assumption | omega) ?_
      refine q_iloadn (pc' := 37) 0 dX0_changeWind_36 rfl rfl ?_
      exact q_iret dX0_changeWind_37 rfl rfl ⟨congrArg (fun z => some (q_i z)) (by unfold s_windV s_wWind; omega), _, rfl, (by unfold s_windP; first | (rw [if_pos (by unfold s_wWind; omega)]; exact FF) | (rw [if_neg (by unfold s_wWind; omega)]; exact s_F_wi FF (by omega) (by omega) (by omega) (by omega))), (by (repeat (refine s_offF_u ?_ (by decide) (by decide))); exact s_offF_r)⟩
    · refine q_bipush (pc' := 21) dX0_changeWind_19 rfl rfl ?_
      exact q_iret dX0_changeWind_21 rfl rfl ⟨congrArg (fun z => some (q_i z)) (by unfold s_windV s_wWind; omega), _, rfl, (by unfold s_windP; first | (rw [if_pos (by unfold s_wWind; omega)]; exact FF) | (rw [if_neg (by unfold s_wWind; omega)]; exact s_F_wi FF (by omega) (by omega) (by omega) (by omega))), (by (repeat (refine s_offF_u ?_ (by decide) (by decide))); exact s_offF_r)⟩
  · refine q_iconst (pc' := 8) dX0_changeWind_7 rfl ?_
    exact q_iret dX0_changeWind_8 rfl rfl ⟨congrArg (fun z => some (q_i z)) (by unfold s_windV s_wWind; omega), _, rfl, (by unfold s_windP; first | (rw [if_pos (by unfold s_wWind; omega)]; exact FF) | (rw [if_neg (by unfold s_wWind; omega)]; exact s_F_wi FF (by omega) (by omega) (by omega) (by omega))), (by (repeat (refine s_offF_u ?_ (by decide) (by decide))); exact s_offF_r)⟩
set_option maxRecDepth 20000 in
set_option maxHeartbeats 4000000 in
theorem c_X0_rightError {Γ : q_G} {S : q_S} {φ : Int → Int} {a b h u : Int} (FF : s_F S 1 φ) (ok : s_ok φ) (ha : q_rg a) (hb : q_rg b) (hh : q_rg h) (hu : q_rg u) : q_Sp Γ mX0_rightError 2 0 0 [q_r Γ 1, q_i a, q_i b, q_i h, q_i u] (KC, S) (q_ev (some (q_i (s_wGrant φ a b h u))) (KC, S)) := by
  show q_Go Γ mX0_rightError 2 0 0 0 [(0, q_r Γ 1), (1, q_i a), (2, q_i b), (3, q_i h), (4, q_i u)] [] (KC, S) (q_ev (some (q_i (s_wGrant φ a b h u))) (KC, S))
  have rw0 := s_rows_b ok
  refine q_aloadn (pc' := 1) 0 dX0_rightError_0 rfl rfl ?_
  refine q_iloadn (pc' := 2) 1 dX0_rightError_1 rfl rfl ?_
  refine q_callVI (pc' := 5) dX0_rightError_2 rfl lX0_68 iX0_hasRow kc1 rfl (c_X0_hasRow (by first | assumption | omega) (by first | assumption | omega) (by first | assumption | omega)) rfl rfl (Nat.le_of_ble_eq_true rfl) (Nat.le_of_ble_eq_true rfl) (Nat.le_of_ble_eq_true rfl) ?_
  refine q_if_eq_B (tgt := 23) (pc' := 8) dX0_rightError_5 rfl rfl (fun qc_5 => ?_) (fun qc_5 => ?_)
  · refine q_iconst (pc' := 24) dX0_rightError_23 rfl ?_
    refine p_iret dX0_rightError_24 rfl ?_ ?_
    · unfold s_wGrant; omega
    · rfl
  · refine q_aloadn (pc' := 9) 0 dX0_rightError_8 rfl rfl ?_
    refine q_iloadn (pc' := 10) 2 dX0_rightError_9 rfl rfl ?_
    refine q_callVI (pc' := 13) dX0_rightError_10 rfl lX0_68 iX0_hasRow kc1 rfl (c_X0_hasRow (by first | assumption | omega) (by first | assumption | omega) (by first | assumption | omega)) rfl rfl (Nat.le_of_ble_eq_true rfl) (Nat.le_of_ble_eq_true rfl) (Nat.le_of_ble_eq_true rfl) ?_
    refine q_if_eq_B (tgt := 23) (pc' := 16) dX0_rightError_13 rfl rfl (fun qc_13 => ?_) (fun qc_13 => ?_)
    · refine q_iconst (pc' := 24) dX0_rightError_23 rfl ?_
      refine p_iret dX0_rightError_24 rfl ?_ ?_
      · unfold s_wGrant; omega
      · rfl
    · refine q_iloadn (pc' := 17) 3 dX0_rightError_16 rfl rfl ?_
      refine q_callSI (pc' := 20) dX0_rightError_17 rfl lX0_71 iX8_isHour (c_X8_isHour (by first | assumption | omega)) rfl rfl (Nat.le_of_ble_eq_true rfl) (Nat.le_of_ble_eq_true rfl) (Nat.le_of_ble_eq_true rfl) ?_
      refine q_if_ne_B (tgt := 25) (pc' := 23) dX0_rightError_20 rfl rfl (fun qc_20 => ?_) (fun qc_20 => ?_)
      · refine q_iloadn (pc' := 26) 1 dX0_rightError_25 rfl rfl ?_
        refine q_iloadn (pc' := 27) 2 dX0_rightError_26 rfl rfl ?_
        refine q_icmp_eq (tgt := 42) (pc' := 30) dX0_rightError_27 rfl rfl (by first | assumption | omega) (by first | assumption | omega) (fun qc_27 => ?_) (fun qc_27 => ?_)
        · refine q_bipush (pc' := 44) dX0_rightError_42 rfl rfl ?_
          refine q_goto (pc' := 48) dX0_rightError_44 rfl ?_
          refine p_iret dX0_rightError_48 rfl ?_ ?_
          · unfold s_wGrant; omega
          · rfl
        · refine q_iload (pc' := 32) 4 dX0_rightError_30 rfl rfl ?_
          refine q_iconst (pc' := 33) dX0_rightError_32 rfl ?_
          refine q_sipush (pc' := 36) dX0_rightError_33 rfl rfl ?_
          refine q_callSI (pc' := 39) dX0_rightError_36 rfl lX0_60 iX8_outside (c_X8_outside (by first | assumption | omega) (by first | assumption | omega) (by first | assumption | omega)) rfl rfl (Nat.le_of_ble_eq_true rfl) (Nat.le_of_ble_eq_true rfl) (Nat.le_of_ble_eq_true rfl) ?_
          refine q_if_eq_B (tgt := 47) (pc' := 42) dX0_rightError_39 rfl rfl (fun qc_39 => ?_) (fun qc_39 => ?_)
          · refine q_iconst (pc' := 48) dX0_rightError_47 rfl ?_
            refine p_iret dX0_rightError_48 rfl ?_ ?_
            · unfold s_wGrant; omega
            · rfl
          · refine q_bipush (pc' := 44) dX0_rightError_42 rfl rfl ?_
            refine q_goto (pc' := 48) dX0_rightError_44 rfl ?_
            refine p_iret dX0_rightError_48 rfl ?_ ?_
            · unfold s_wGrant; omega
            · rfl
      · refine q_iconst (pc' := 24) dX0_rightError_23 rfl ?_
        refine p_iret dX0_rightError_24 rfl ?_ ?_
        · unfold s_wGrant; omega
        · rfl
set_option maxRecDepth 20000 in
set_option maxHeartbeats 4000000 in
theorem c_X0_changeRight {Γ : q_G} {S : q_S} {φ : Int → Int} {a b h u : Int} (FF : s_F S 1 φ) (ok : s_ok φ) (ha : q_rg a) (hb : q_rg b) (hh : q_rg h) (hu : q_rg u) : q_Sp Γ mX0_changeRight 3 0 0 [q_r Γ 1, q_i a, q_i b, q_i h, q_i u] (KC, S) (fun v w => v = some (q_i (s_grantV φ a b h u)) ∧ ∃ S2, w = (KC, S2) ∧ s_F S2 1 (s_grantP φ a b h u) ∧ s_offF S S2) := by
  show q_Go Γ mX0_changeRight 3 0 0 0 [(0, q_r Γ 1), (1, q_i a), (2, q_i b), (3, q_i h), (4, q_i u)] [] (KC, S) (fun v w => v = some (q_i (s_grantV φ a b h u)) ∧ ∃ S2, w = (KC, S2) ∧ s_F S2 1 (s_grantP φ a b h u) ∧ s_offF S S2)
  have rw0 := s_rows_b ok
  have c3 := ok.2.2.1
  have c4 := ok.2.2.2.1
  refine q_aloadn (pc' := 1) 0 dX0_changeRight_0 rfl rfl ?_
  refine q_iloadn (pc' := 2) 1 dX0_changeRight_1 rfl rfl ?_
  refine q_iloadn (pc' := 3) 2 dX0_changeRight_2 rfl rfl ?_
  refine q_iloadn (pc' := 4) 3 dX0_changeRight_3 rfl rfl ?_
  refine q_iload (pc' := 6) 4 dX0_changeRight_4 rfl rfl ?_
  refine q_callVI (pc' := 9) dX0_changeRight_6 rfl lX0_74 iX0_rightError kc1 rfl (c_X0_rightError (by first | assumption | omega) (by first | assumption | omega) (by first | assumption | omega) (by first | assumption | omega) (by first | assumption | omega) (by first | assumption | omega)) rfl rfl (Nat.le_of_ble_eq_true rfl) (Nat.le_of_ble_eq_true rfl) (Nat.le_of_ble_eq_true rfl) ?_
  refine q_istore (pc' := 11) (L' := [(5, q_i (s_wGrant φ a b h u)), (0, q_r Γ 1), (1, q_i a), (2, q_i b), (3, q_i h), (4, q_i u)]) dX0_changeRight_9 rfl (by decide) rfl ?_
  refine q_iload (pc' := 13) 0 dX0_changeRight_11 rfl rfl ?_
  have hq : -2 ≤ s_wGrant φ a b h u ∧ s_wGrant φ a b h u ≤ 0 := by unfold s_wGrant; omega
  have hw : s_wGrant φ a b h u < 0 ∨ ((0 ≤ a ∧ a < φ 0) ∧ (0 ≤ b ∧ b < φ 0) ∧ (0 ≤ h ∧ h < 10) ∧ (0 ≤ u ∧ u ≤ 999)) := by unfold s_wGrant; omega
  refine q_if_eq (tgt := 19) (pc' := 16) dX0_changeRight_13 rfl rfl (by first | assumption | omega) (fun qc_13 => ?_) (fun qc_13 => ?_)
  · refine q_iloadn (pc' := 20) 2 dX0_changeRight_19 rfl rfl ?_
    refine q_iloadn (pc' := 21) 3 dX0_changeRight_20 rfl rfl ?_
    refine q_iloadn (pc' := 22) 4 dX0_changeRight_21 rfl rfl ?_
    refine q_callSI (pc' := 25) dX0_changeRight_22 rfl lX0_78 iX0_rightAt (c_X0_rightAt ) rfl rfl (Nat.le_of_ble_eq_true rfl) (Nat.le_of_ble_eq_true rfl) (Nat.le_of_ble_eq_true rfl) ?_
    refine q_istore (pc' := 27) (L' := [(6, q_i (10 * (6 * a + b) + h)), (5, q_i (s_wGrant φ a b h u)), (0, q_r Γ 1), (1, q_i a), (2, q_i b), (3, q_i h), (4, q_i u)]) dX0_changeRight_25 rfl (by decide) rfl ?_
    refine q_aloadn (pc' := 28) 2 dX0_changeRight_27 rfl rfl ?_
    refine p_getR (pc' := 31) (f := 7) dX0_changeRight_28 rfl fX0_34 kc1 rfl ?_
    refine q_iload (pc' := 33) 0 dX0_changeRight_31 rfl rfl ?_
    refine p_iald (pc' := 34) dX0_changeRight_33 rfl kc7 (by first | assumption | omega) (by first | assumption | omega) (by decide) (fun qy_33 eqy_33 rqy_33 => ?_)
    have vqy_33 : qy_33 = s_rt φ a b h := eqy_33.trans (s_F_rt FF (by first | assumption | omega) (by first | assumption | omega) (by first | assumption | omega) (by first | assumption | omega) (by first | assumption | omega) (by first | assumption | omega))
    rw [vqy_33]
    refine q_istore (pc' := 36) (L' := [(7, q_i (s_rt φ a b h)), (6, q_i (10 * (6 * a + b) + h)), (5, q_i (s_wGrant φ a b h u)), (0, q_r Γ 1), (1, q_i a), (2, q_i b), (3, q_i h), (4, q_i u)]) dX0_changeRight_34 rfl (by decide) rfl ?_
    refine q_aloadn (pc' := 37) 3 dX0_changeRight_36 rfl rfl ?_
    refine p_getR (pc' := 40) (f := 7) dX0_changeRight_37 rfl fX0_34 kc1 rfl ?_
    refine q_iload (pc' := 42) 1 dX0_changeRight_40 rfl rfl ?_
    refine q_iload (pc' := 44) 7 dX0_changeRight_42 rfl rfl ?_
    refine p_iast (pc' := 45) dX0_changeRight_44 rfl kc7 (by first | assumption | omega) (by first | assumption | omega) (by decide) (by first | assumption | omega) ?_
    refine q_iload (pc' := 47) 0 dX0_changeRight_45 rfl rfl ?_
    exact q_iret dX0_changeRight_47 rfl rfl ⟨congrArg (fun z => some (q_i z)) (by unfold s_grantV; omega), _, rfl, (by unfold s_grantP; first | (rw [if_pos (by omega)]; exact FF) | (rw [if_neg (by omega), show 39 + 10 * (6 * a + b) + h = 39 + (10 * (6 * a + b) + h) by omega]; exact s_F_ri FF (by omega) (by omega) (by omega) (by omega))), (by (repeat (refine s_offF_u ?_ (by decide) (by decide))); exact s_offF_r)⟩
  · refine q_iload (pc' := 18) 0 dX0_changeRight_16 rfl rfl ?_
    exact q_iret dX0_changeRight_18 rfl rfl ⟨congrArg (fun z => some (q_i z)) (by unfold s_grantV; omega), _, rfl, (by unfold s_grantP; first | (rw [if_pos (by omega)]; exact FF) | (rw [if_neg (by omega), show 39 + 10 * (6 * a + b) + h = 39 + (10 * (6 * a + b) + h) by omega]; exact s_F_ri FF (by omega) (by omega) (by omega) (by omega))), (by (repeat (refine s_offF_u ?_ (by decide) (by decide))); exact s_offF_r)⟩
set_option maxRecDepth 20000 in
set_option maxHeartbeats 4000000 in
theorem c_X0_build {Γ : q_G} {S : q_S} {φ : Int → Int} {p l u : Int} (FF : s_F S 1 φ) (ok : s_ok φ) (pz : ∀ r, φ 0 ≤ r → r < 6 → s_pt φ r 3 = 0) (hp : q_rg p) (hl : q_rg l) (hu : q_rg u) : q_Sp Γ mX0_build 1 0 0 [q_r Γ 1, q_i p, q_i l, q_i u] (KC, S) (fun v w => v = some (q_i (s_rowV φ p l u)) ∧ ∃ S2, w = (KC, S2) ∧ s_F S2 1 (s_rowP φ p l u) ∧ s_offF S S2) := by
  show q_Go Γ mX0_build 1 0 0 0 [(0, q_r Γ 1), (1, q_i p), (2, q_i l), (3, q_i u)] [] (KC, S) (fun v w => v = some (q_i (s_rowV φ p l u)) ∧ ∃ S2, w = (KC, S2) ∧ s_F S2 1 (s_rowP φ p l u) ∧ s_offF S S2)
  have rw0 := s_rows_b ok
  have c3 := ok.2.2.1
  have c4 := ok.2.2.2.1
  refine q_iloadn (pc' := 1) 1 dX0_build_0 rfl rfl ?_
  refine q_iconst (pc' := 2) dX0_build_1 rfl ?_
  refine q_sipush (pc' := 5) dX0_build_2 rfl rfl ?_
  refine q_callSI (pc' := 8) dX0_build_5 rfl lX0_60 iX8_outside (c_X8_outside (by first | assumption | omega) (by first | assumption | omega) (by first | assumption | omega)) rfl rfl (Nat.le_of_ble_eq_true rfl) (Nat.le_of_ble_eq_true rfl) (Nat.le_of_ble_eq_true rfl) ?_
  refine q_if_ne_B (tgt := 30) (pc' := 11) dX0_build_8 rfl rfl (fun qc_8 => ?_) (fun qc_8 => ?_)
  · have hv : s_rowV φ p l u = -2 := s_rowV_1 (by omega)
    refine q_bipush (pc' := 32) dX0_build_30 rfl rfl ?_
    exact q_iret dX0_build_32 rfl rfl ⟨congrArg (fun z => some (q_i z)) (by rw [hv]), _, rfl, (by unfold s_rowP; first | (rw [if_pos (by omega)]; exact FF) | (rw [if_neg (by omega), e88, s_set_id (j := 15 + 4 * φ 0 + 3) (by rw [s_set_ne (by omega), s_set_ne (by omega), s_set_ne (by omega)]; exact pz (φ 0) (by omega) (by omega))]; exact FG)), (by (repeat (refine s_offF_u ?_ (by decide) (by decide))); exact s_offF_r)⟩
  · refine q_iloadn (pc' := 12) 2 dX0_build_11 rfl rfl ?_
    refine q_iconst (pc' := 13) dX0_build_12 rfl ?_
    refine q_bipush (pc' := 15) dX0_build_13 rfl rfl ?_
    refine q_callSI (pc' := 18) dX0_build_15 rfl lX0_60 iX8_outside (c_X8_outside (by first | assumption | omega) (by first | assumption | omega) (by first | assumption | omega)) rfl rfl (Nat.le_of_ble_eq_true rfl) (Nat.le_of_ble_eq_true rfl) (Nat.le_of_ble_eq_true rfl) ?_
    refine q_if_ne_B (tgt := 30) (pc' := 21) dX0_build_18 rfl rfl (fun qc_18 => ?_) (fun qc_18 => ?_)
    · have hv : s_rowV φ p l u = -2 := s_rowV_1 (by omega)
      refine q_bipush (pc' := 32) dX0_build_30 rfl rfl ?_
      exact q_iret dX0_build_32 rfl rfl ⟨congrArg (fun z => some (q_i z)) (by rw [hv]), _, rfl, (by unfold s_rowP; first | (rw [if_pos (by omega)]; exact FF) | (rw [if_neg (by omega), e88, s_set_id (j := 15 + 4 * φ 0 + 3) (by rw [s_set_ne (by omega), s_set_ne (by omega), s_set_ne (by omega)]; exact pz (φ 0) (by omega) (by omega))]; exact FG)), (by (repeat (refine s_offF_u ?_ (by decide) (by decide))); exact s_offF_r)⟩
    · refine q_iloadn (pc' := 22) 3 dX0_build_21 rfl rfl ?_
      refine q_iconst (pc' := 23) dX0_build_22 rfl ?_
      refine q_iconst (pc' := 24) dX0_build_23 rfl ?_
      refine q_callSI (pc' := 27) dX0_build_24 rfl lX0_60 iX8_outside (c_X8_outside (by first | assumption | omega) (by first | assumption | omega) (by first | assumption | omega)) rfl rfl (Nat.le_of_ble_eq_true rfl) (Nat.le_of_ble_eq_true rfl) (Nat.le_of_ble_eq_true rfl) ?_
      refine q_if_eq_B (tgt := 33) (pc' := 30) dX0_build_27 rfl rfl (fun qc_27 => ?_) (fun qc_27 => ?_)
      · refine q_aloadn (pc' := 34) 0 dX0_build_33 rfl rfl ?_
        refine p_getJ (pc' := 37) (kz := 0) dX0_build_34 rfl fX0_9 kc1 rfl rfl (fun qy_34 eqy_34 rqy_34 => ?_)
        have vqy_34 : qy_34 = φ 0 := eqy_34.trans (s_F_0 FF)
        rw [vqy_34]
        refine q_bipush (pc' := 39) dX0_build_37 rfl rfl ?_
        refine q_icmp_lt (tgt := 45) (pc' := 42) dX0_build_39 rfl rfl (by first | assumption | omega) (by decide) (fun qc_39 => ?_) (fun qc_39 => ?_)
        · refine q_aloadn (pc' := 46) 0 dX0_build_45 rfl rfl ?_
          refine q_iloadn (pc' := 47) 1 dX0_build_46 rfl rfl ?_
          refine q_callVI (pc' := 50) dX0_build_47 rfl lX0_64 iX0_isTaken kc1 rfl (c_X0_isTaken (by first | assumption | omega) (by first | assumption | omega) (by first | assumption | omega)) rfl rfl (Nat.le_of_ble_eq_true rfl) (Nat.le_of_ble_eq_true rfl) (Nat.le_of_ble_eq_true rfl) ?_
          refine q_if_eq_B (tgt := 56) (pc' := 53) dX0_build_50 rfl rfl (fun qc_50 => ?_) (fun qc_50 => ?_)
          · have hv : s_rowV φ p l u = φ 0 := s_rowV_4 (by omega) (by omega) qc_50
            refine q_aloadn (pc' := 57) 0 dX0_build_56 rfl rfl ?_
            refine p_getJ (pc' := 60) (kz := 0) dX0_build_57 rfl fX0_9 kc1 rfl rfl (fun qy_57 eqy_57 rqy_57 => ?_)
            have vqy_57 : qy_57 = φ 0 := eqy_57.trans (s_F_0 FF)
            rw [vqy_57]
            refine q_istore (pc' := 62) (L' := [(4, q_i (φ 0)), (0, q_r Γ 1), (1, q_i p), (2, q_i l), (3, q_i u)]) dX0_build_60 rfl (by decide) rfl ?_
            refine q_aloadn (pc' := 63) 1 dX0_build_62 rfl rfl ?_
            refine p_getR (pc' := 66) (f := 2) dX0_build_63 rfl fX0_15 kc1 rfl ?_
            refine q_iload (pc' := 68) 0 dX0_build_66 rfl rfl ?_
            refine q_iloadn (pc' := 69) 2 dX0_build_68 rfl rfl ?_
            refine p_iast (pc' := 70) dX0_build_69 rfl kc2 (by first | assumption | omega) (by first | assumption | omega) (by decide) (by first | assumption | omega) ?_
            refine q_aloadn (pc' := 71) 1 dX0_build_70 rfl rfl ?_
            refine p_getR (pc' := 74) (f := 3) dX0_build_71 rfl fX0_19 kc1 rfl ?_
            refine q_iload (pc' := 76) 0 dX0_build_74 rfl rfl ?_
            refine q_iloadn (pc' := 77) 3 dX0_build_76 rfl rfl ?_
            refine p_iast (pc' := 78) dX0_build_77 rfl kc3 (by first | assumption | omega) (by first | assumption | omega) (by decide) (by first | assumption | omega) ?_
            refine q_aloadn (pc' := 79) 1 dX0_build_78 rfl rfl ?_
            refine p_getR (pc' := 82) (f := 4) dX0_build_79 rfl fX0_22 kc1 rfl ?_
            refine q_iload (pc' := 84) 0 dX0_build_82 rfl rfl ?_
            refine q_iloadn (pc' := 85) 4 dX0_build_84 rfl rfl ?_
            refine p_iast (pc' := 86) dX0_build_85 rfl kc4 (by first | assumption | omega) (by first | assumption | omega) (by decide) (by first | assumption | omega) ?_
            refine q_aloadn (pc' := 87) 1 dX0_build_86 rfl rfl ?_
            refine q_dup (pc' := 88) dX0_build_87 rfl rfl ?_
            refine p_getJ (pc' := 91) (kz := 0) dX0_build_88 rfl fX0_9 kc1 rfl rfl (fun qy_88 eqy_88 rqy_88 => ?_)
            have e88 : qy_88 = φ 0 := by rw [eqy_88, q_up_ne (by decide), q_up_ne (by decide), q_up_ne (by decide)]; exact s_F_0 FF
            refine q_iconst (pc' := 92) dX0_build_91 rfl ?_
            refine q_iadd (pc' := 93) dX0_build_92 rfl ?_
            refine p_putJ (pc' := 96) (kz := 0) dX0_build_93 rfl fX0_9 kc1 rfl rfl (rfl) (rfl) (by first | assumption | omega) ?_
            have FG := s_F_ro (s_F_ti (r := φ 0) (u := u) (s_F_le (r := φ 0) (u := l) (s_F_pl (r := φ 0) (u := p) FF (by omega) (by omega) (by omega) (by omega)) (by omega) (by omega) (by rw [s_set_ne (by omega)]; omega) (by rw [s_set_ne (by omega)]; omega)) (by omega) (by omega) (by rw [s_set_ne (by omega), s_set_ne (by omega)]; omega) (by rw [s_set_ne (by omega), s_set_ne (by omega)]; omega)) (u := φ 0 + 1) (r := 0) (by rw [s_set_ne (by omega), s_set_ne (by omega), s_set_ne (by omega)]; omega) (by rw [s_set_ne (by omega), s_set_ne (by omega), s_set_ne (by omega)]; omega)
            refine q_iload (pc' := 98) 0 dX0_build_96 rfl rfl ?_
            exact q_iret dX0_build_98 rfl rfl ⟨congrArg (fun z => some (q_i z)) (by rw [hv]), _, rfl, (by unfold s_rowP; first | (rw [if_pos (by omega)]; exact FF) | (rw [if_neg (by omega), e88, s_set_id (j := 15 + 4 * φ 0 + 3) (by rw [s_set_ne (by omega), s_set_ne (by omega), s_set_ne (by omega)]; exact pz (φ 0) (by omega) (by omega))]; exact FG)), (by (repeat (refine s_offF_u ?_ (by decide) (by decide))); exact s_offF_r)⟩
          · have hv : s_rowV φ p l u = -5 := s_rowV_3 (by omega) (by omega) qc_50
            refine q_bipush (pc' := 55) dX0_build_53 rfl rfl ?_
            exact q_iret dX0_build_55 rfl rfl ⟨congrArg (fun z => some (q_i z)) (by rw [hv]), _, rfl, (by unfold s_rowP; first | (rw [if_pos (by omega)]; exact FF) | (rw [if_neg (by omega), e88, s_set_id (j := 15 + 4 * φ 0 + 3) (by rw [s_set_ne (by omega), s_set_ne (by omega), s_set_ne (by omega)]; exact pz (φ 0) (by omega) (by omega))]; exact FG)), (by (repeat (refine s_offF_u ?_ (by decide) (by decide))); exact s_offF_r)⟩
        · have hv : s_rowV φ p l u = -4 := s_rowV_2 (by omega) (by omega)
          refine q_bipush (pc' := 44) dX0_build_42 rfl rfl ?_
          exact q_iret dX0_build_44 rfl rfl ⟨congrArg (fun z => some (q_i z)) (by rw [hv]), _, rfl, (by unfold s_rowP; first | (rw [if_pos (by omega)]; exact FF) | (rw [if_neg (by omega), e88, s_set_id (j := 15 + 4 * φ 0 + 3) (by rw [s_set_ne (by omega), s_set_ne (by omega), s_set_ne (by omega)]; exact pz (φ 0) (by omega) (by omega))]; exact FG)), (by (repeat (refine s_offF_u ?_ (by decide) (by decide))); exact s_offF_r)⟩
      · have hv : s_rowV φ p l u = -2 := s_rowV_1 (by omega)
        refine q_bipush (pc' := 32) dX0_build_30 rfl rfl ?_
        exact q_iret dX0_build_32 rfl rfl ⟨congrArg (fun z => some (q_i z)) (by rw [hv]), _, rfl, (by unfold s_rowP; first | (rw [if_pos (by omega)]; exact FF) | (rw [if_neg (by omega), e88, s_set_id (j := 15 + 4 * φ 0 + 3) (by rw [s_set_ne (by omega), s_set_ne (by omega), s_set_ne (by omega)]; exact pz (φ 0) (by omega) (by omega))]; exact FG)), (by (repeat (refine s_offF_u ?_ (by decide) (by decide))); exact s_offF_r)⟩
