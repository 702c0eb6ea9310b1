set_option maxRecDepth 20000 in
set_option maxHeartbeats 4000000 in
theorem c_X3_isBadOffer {Γ : q_G} {K : List q_K} {S : q_S} {u p : Int} (hu : q_rg u) (hp : q_rg p) : q_Sp Γ mX3_isBadOffer 1 0 0 [q_i u, q_i p] (K, S) (q_ev (some (q_i (q_B (¬ ((1 ≤ u ∧ u ≤ 200) ∧ (0 ≤ p ∧ p ≤ 999)))))) (K, S)) := by
  show q_Go Γ mX3_isBadOffer 1 0 0 0 [(0, q_i u), (1, q_i p)] [] (K, S) (q_ev (some (q_i (q_B (¬ ((1 ≤ u ∧ u ≤ 200) ∧ (0 ≤ p ∧ p ≤ 999)))))) (K, S))
  refine q_iloadn (pc' := 1) 0 dX3_isBadOffer_0 rfl rfl ?_
  refine q_iconst (pc' := 2) dX3_isBadOffer_1 rfl ?_
  refine q_sipush (pc' := 5) dX3_isBadOffer_2 rfl rfl ?_
  refine q_callSI (pc' := 8) dX3_isBadOffer_5 rfl lX3_41 iX8_outside (c_X8_outside (by first | assumption | omega) (by first | assumption | omega) (by first | assumption | omega)) rfl rfl (Nat.le_of_ble_eq_true rfl) (Nat.le_of_ble_eq_true rfl) (Nat.le_of_ble_eq_true rfl) ?_
  refine q_if_ne_B (tgt := 22) (pc' := 11) dX3_isBadOffer_8 rfl rfl (fun qc_8 => ?_) (fun qc_8 => ?_)
  · refine q_iconst (pc' := 23) dX3_isBadOffer_22 rfl ?_
    refine q_goto (pc' := 27) dX3_isBadOffer_23 rfl ?_
    refine p_zret dX3_isBadOffer_27 rfl ?_ ?_
    · first | exact q_B_1 (by omega) | exact q_B_0 (by omega)
    · rfl
  · refine q_iloadn (pc' := 12) 1 dX3_isBadOffer_11 rfl rfl ?_
    refine q_iconst (pc' := 13) dX3_isBadOffer_12 rfl ?_
    refine q_sipush (pc' := 16) dX3_isBadOffer_13 rfl rfl ?_
    refine q_callSI (pc' := 19) dX3_isBadOffer_16 rfl lX3_41 iX8_outside (c_X8_outside (by first | assumption | omega) (by first | assumption | omega) (by first | assumption | omega)) rfl rfl (Nat.le_of_ble_eq_true rfl) (Nat.le_of_ble_eq_true rfl) (Nat.le_of_ble_eq_true rfl) ?_
    refine q_if_eq_B (tgt := 26) (pc' := 22) dX3_isBadOffer_19 rfl rfl (fun qc_19 => ?_) (fun qc_19 => ?_)
    · refine q_iconst (pc' := 27) dX3_isBadOffer_26 rfl ?_
      refine p_zret dX3_isBadOffer_27 rfl ?_ ?_
      · first | exact q_B_1 (by omega) | exact q_B_0 (by omega)
      · rfl
    · refine q_iconst (pc' := 23) dX3_isBadOffer_22 rfl ?_
      refine q_goto (pc' := 27) dX3_isBadOffer_23 rfl ?_
      refine p_zret dX3_isBadOffer_27 rfl ?_ ?_
      · first | exact q_B_1 (by omega) | exact q_B_0 (by omega)
      · rfl
set_option maxRecDepth 20000 in
set_option maxHeartbeats 4000000 in
theorem c_X3_addAsk {Γ : q_G} {S : q_S} {φ : Int → Int} {a h u p : Int} (FF : s_F S 1 φ) (ok : s_ok φ) (ha : q_rg a) (hh : q_rg h) (hu : q_rg u) (hp : q_rg p) : q_Sp Γ mX3_addAsk 2 0 0 [q_r Γ 19, q_i a, q_i h, q_i u, q_i p] (KC, S) (fun v w => v = some (q_i (s_askV φ a h u p)) ∧ ∃ S2, w = (KC, S2) ∧ s_F S2 1 (s_askQ φ a h u p) ∧ s_offF S S2) := by
  show q_Go Γ mX3_addAsk 2 0 0 0 [(0, q_r Γ 19), (1, q_i a), (2, q_i h), (3, q_i u), (4, q_i p)] [] (KC, S) (fun v w => v = some (q_i (s_askV φ a h u p)) ∧ ∃ S2, w = (KC, S2) ∧ s_F S2 1 (s_askQ φ a h u p) ∧ s_offF S S2)
  have rw0 := s_rows_b ok
  have c3 := ok.2.2.1
  have c4 := ok.2.2.2.1
  refine q_aloadn (pc' := 1) 0 dX3_addAsk_0 rfl rfl ?_
  refine p_getR (pc' := 4) (f := 1) dX3_addAsk_1 rfl fX3_9 kc19 rfl ?_
  refine q_iloadn (pc' := 5) 1 dX3_addAsk_4 rfl rfl ?_
  refine q_callVI (pc' := 8) dX3_addAsk_5 rfl lX3_15 iX0_hasRow kc1 rfl (c_X0_hasRow (by first | assumption | exact s_cO8 | exact s_cO11 | omega) (by first | assumption | exact s_cO8 | exact s_cO11 | omega) (by first | assumption | exact s_cO8 | exact s_cO11 | omega)) rfl rfl (Nat.le_of_ble_eq_true rfl) (Nat.le_of_ble_eq_true rfl) (Nat.le_of_ble_eq_true rfl) ?_
  refine q_if_eq_B (tgt := 18) (pc' := 11) dX3_addAsk_8 rfl rfl (fun qc_8 => ?_) (fun qc_8 => ?_)
  · refine q_iconst (pc' := 19) dX3_addAsk_18 rfl ?_
    first | exact q_iret dX3_addAsk_19 rfl rfl ⟨congrArg (fun z => some (q_i z)) (by unfold s_askV s_wAsk; omega), _, rfl, (by unfold s_askQ; rw [if_pos (by unfold s_wAsk; omega)]; exact FF), s_offF_r⟩ | (rw [s_F_an FF]; by_cases hg : 10 ≤ φ 3; (rw [if_pos hg, if_pos hg]; exact q_iret dX3_addAsk_19 rfl rfl ⟨congrArg (fun z => some (q_i z)) (by unfold s_askV s_wAsk; omega), _, rfl, (by unfold s_askQ; rw [if_pos (by unfold s_wAsk; omega)]; exact FF), s_offF_r⟩); (rw [if_neg hg, if_neg hg]; exact q_iret dX3_addAsk_19 rfl rfl ⟨congrArg (fun z => some (q_i z)) (by unfold s_askV s_wAsk; omega), _, rfl, (by unfold s_askQ; rw [if_neg (by unfold s_wAsk; omega)]; exact s_F_add8 FF (by omega) (by omega) (by omega)), s_offF_add (by decide)⟩))
  · refine q_iloadn (pc' := 12) 2 dX3_addAsk_11 rfl rfl ?_
    refine q_callSI (pc' := 15) dX3_addAsk_12 rfl lX3_21 iX8_isHour (c_X8_isHour (by first | assumption | exact s_cO8 | exact s_cO11 | omega)) rfl rfl (Nat.le_of_ble_eq_true rfl) (Nat.le_of_ble_eq_true rfl) (Nat.le_of_ble_eq_true rfl) ?_
    refine q_if_ne_B (tgt := 20) (pc' := 18) dX3_addAsk_15 rfl rfl (fun qc_15 => ?_) (fun qc_15 => ?_)
    · refine q_iloadn (pc' := 21) 3 dX3_addAsk_20 rfl rfl ?_
      refine q_iload (pc' := 23) 4 dX3_addAsk_21 rfl rfl ?_
      refine q_callSI (pc' := 26) dX3_addAsk_23 rfl lX3_24 iX3_isBadOffer (c_X3_isBadOffer (by first | assumption | exact s_cO8 | exact s_cO11 | omega) (by first | assumption | exact s_cO8 | exact s_cO11 | omega)) rfl rfl (Nat.le_of_ble_eq_true rfl) (Nat.le_of_ble_eq_true rfl) (Nat.le_of_ble_eq_true rfl) ?_
      refine q_if_eq_B (tgt := 32) (pc' := 29) dX3_addAsk_26 rfl rfl (fun qc_26 => ?_) (fun qc_26 => ?_)
      · refine q_aloadn (pc' := 33) 0 dX3_addAsk_32 rfl rfl ?_
        refine p_getR (pc' := 36) (f := 1) dX3_addAsk_33 rfl fX3_9 kc19 rfl ?_
        refine p_getR (pc' := 39) (f := 8) dX3_addAsk_36 rfl fX3_28 kc1 rfl ?_
        refine q_iloadn (pc' := 40) 1 dX3_addAsk_39 rfl rfl ?_
        refine q_iloadn (pc' := 41) 2 dX3_addAsk_40 rfl rfl ?_
        refine q_iloadn (pc' := 42) 3 dX3_addAsk_41 rfl rfl ?_
        refine q_iload (pc' := 44) 4 dX3_addAsk_42 rfl rfl ?_
        refine q_bipush (pc' := 46) dX3_addAsk_44 rfl rfl ?_
        refine q_callVI (pc' := 49) dX3_addAsk_46 rfl lX3_32 iX4_add kc8 rfl (c_X4_add s_cO8 (by rw [s_F_an FF]; omega) (by rw [s_F_an FF]; omega) (by omega) (by omega) (by omega) (by omega) (by omega)) rfl rfl (Nat.le_of_ble_eq_true rfl) (Nat.le_of_ble_eq_true rfl) (Nat.le_of_ble_eq_true rfl) ?_
        first | exact q_iret dX3_addAsk_49 rfl rfl ⟨congrArg (fun z => some (q_i z)) (by unfold s_askV s_wAsk; omega), _, rfl, (by unfold s_askQ; rw [if_pos (by unfold s_wAsk; omega)]; exact FF), s_offF_r⟩ | (rw [s_F_an FF]; by_cases hg : 10 ≤ φ 3; (rw [if_pos hg, if_pos hg]; exact q_iret dX3_addAsk_49 rfl rfl ⟨congrArg (fun z => some (q_i z)) (by unfold s_askV s_wAsk; omega), _, rfl, (by unfold s_askQ; rw [if_pos (by unfold s_wAsk; omega)]; exact FF), s_offF_r⟩); (rw [if_neg hg, if_neg hg]; exact q_iret dX3_addAsk_49 rfl rfl ⟨congrArg (fun z => some (q_i z)) (by unfold s_askV s_wAsk; omega), _, rfl, (by unfold s_askQ; rw [if_neg (by unfold s_wAsk; omega)]; exact s_F_add8 FF (by omega) (by omega) (by omega)), s_offF_add (by decide)⟩))
      · refine q_bipush (pc' := 31) dX3_addAsk_29 rfl rfl ?_
        first | exact q_iret dX3_addAsk_31 rfl rfl ⟨congrArg (fun z => some (q_i z)) (by unfold s_askV s_wAsk; omega), _, rfl, (by unfold s_askQ; rw [if_pos (by unfold s_wAsk; omega)]; exact FF), s_offF_r⟩ | (rw [s_F_an FF]; by_cases hg : 10 ≤ φ 3; (rw [if_pos hg, if_pos hg]; exact q_iret dX3_addAsk_31 rfl rfl ⟨congrArg (fun z => some (q_i z)) (by unfold s_askV s_wAsk; omega), _, rfl, (by unfold s_askQ; rw [if_pos (by unfold s_wAsk; omega)]; exact FF), s_offF_r⟩); (rw [if_neg hg, if_neg hg]; exact q_iret dX3_addAsk_31 rfl rfl ⟨congrArg (fun z => some (q_i z)) (by unfold s_askV s_wAsk; omega), _, rfl, (by unfold s_askQ; rw [if_neg (by unfold s_wAsk; omega)]; exact s_F_add8 FF (by omega) (by omega) (by omega)), s_offF_add (by decide)⟩))
    · refine q_iconst (pc' := 19) dX3_addAsk_18 rfl ?_
      first | exact q_iret dX3_addAsk_19 rfl rfl ⟨congrArg (fun z => some (q_i z)) (by unfold s_askV s_wAsk; omega), _, rfl, (by unfold s_askQ; rw [if_pos (by unfold s_wAsk; omega)]; exact FF), s_offF_r⟩ | (rw [s_F_an FF]; by_cases hg : 10 ≤ φ 3; (rw [if_pos hg, if_pos hg]; exact q_iret dX3_addAsk_19 rfl rfl ⟨congrArg (fun z => some (q_i z)) (by unfold s_askV s_wAsk; omega), _, rfl, (by unfold s_askQ; rw [if_pos (by unfold s_wAsk; omega)]; exact FF), s_offF_r⟩); (rw [if_neg hg, if_neg hg]; exact q_iret dX3_addAsk_19 rfl rfl ⟨congrArg (fun z => some (q_i z)) (by unfold s_askV s_wAsk; omega), _, rfl, (by unfold s_askQ; rw [if_neg (by unfold s_wAsk; omega)]; exact s_F_add8 FF (by omega) (by omega) (by omega)), s_offF_add (by decide)⟩))
set_option maxRecDepth 20000 in
set_option maxHeartbeats 4000000 in
theorem c_X3_addBid {Γ : q_G} {S : q_S} {φ : Int → Int} {b a h u p : Int} (FF : s_F S 1 φ) (ok : s_ok φ) (hb : q_rg b) (ha : q_rg a) (hh : q_rg h) (hu : q_rg u) (hp : q_rg p) : q_Sp Γ mX3_addBid 2 0 0 [q_r Γ 19, q_i b, q_i a, q_i h, q_i u, q_i p] (KC, S) (fun v w => v = some (q_i (s_bidV φ b a h u p)) ∧ ∃ S2, w = (KC, S2) ∧ s_F S2 1 (s_bidQ φ b a h u p) ∧ s_offF S S2) := by
  show q_Go Γ mX3_addBid 2 0 0 0 [(0, q_r Γ 19), (1, q_i b), (2, q_i a), (3, q_i h), (4, q_i u), (5, q_i p)] [] (KC, S) (fun v w => v = some (q_i (s_bidV φ b a h u p)) ∧ ∃ S2, w = (KC, S2) ∧ s_F S2 1 (s_bidQ φ b a h u p) ∧ s_offF S S2)
  have rw0 := s_rows_b ok
  have c3 := ok.2.2.1
  have c4 := ok.2.2.2.1
  refine q_aloadn (pc' := 1) 0 dX3_addBid_0 rfl rfl ?_
  refine p_getR (pc' := 4) (f := 1) dX3_addBid_1 rfl fX3_9 kc19 rfl ?_
  refine q_iloadn (pc' := 5) 1 dX3_addBid_4 rfl rfl ?_
  refine q_callVI (pc' := 8) dX3_addBid_5 rfl lX3_15 iX0_hasRow kc1 rfl (c_X0_hasRow (by first | assumption | exact s_cO8 | exact s_cO11 | omega) (by first | assumption | exact s_cO8 | exact s_cO11 | omega) (by first | assumption | exact s_cO8 | exact s_cO11 | omega)) rfl rfl (Nat.le_of_ble_eq_true rfl) (Nat.le_of_ble_eq_true rfl) (Nat.le_of_ble_eq_true rfl) ?_
  refine q_if_eq_B (tgt := 29) (pc' := 11) dX3_addBid_8 rfl rfl (fun qc_8 => ?_) (fun qc_8 => ?_)
  · refine q_iconst (pc' := 30) dX3_addBid_29 rfl ?_
    first | exact q_iret dX3_addBid_30 rfl rfl ⟨congrArg (fun z => some (q_i z)) (by unfold s_bidV s_wBid; omega), _, rfl, (by unfold s_bidQ; rw [if_pos (by unfold s_wBid; omega)]; exact FF), s_offF_r⟩ | (rw [s_F_bn FF]; by_cases hg : 10 ≤ φ 4; (rw [if_pos hg, if_pos hg]; exact q_iret dX3_addBid_30 rfl rfl ⟨congrArg (fun z => some (q_i z)) (by unfold s_bidV s_wBid; omega), _, rfl, (by unfold s_bidQ; rw [if_pos (by unfold s_wBid; omega)]; exact FF), s_offF_r⟩); (rw [if_neg hg, if_neg hg]; exact q_iret dX3_addBid_30 rfl rfl ⟨congrArg (fun z => some (q_i z)) (by unfold s_bidV s_wBid; omega), _, rfl, (by unfold s_bidQ; rw [if_neg (by unfold s_wBid; omega)]; exact s_F_add11 FF (by omega) (by omega) (by omega)), s_offF_add (by decide)⟩))
  · refine q_aloadn (pc' := 12) 0 dX3_addBid_11 rfl rfl ?_
    refine p_getR (pc' := 15) (f := 1) dX3_addBid_12 rfl fX3_9 kc19 rfl ?_
    refine q_iloadn (pc' := 16) 2 dX3_addBid_15 rfl rfl ?_
    refine q_callVI (pc' := 19) dX3_addBid_16 rfl lX3_15 iX0_hasRow kc1 rfl (c_X0_hasRow (by first | assumption | exact s_cO8 | exact s_cO11 | omega) (by first | assumption | exact s_cO8 | exact s_cO11 | omega) (by first | assumption | exact s_cO8 | exact s_cO11 | omega)) rfl rfl (Nat.le_of_ble_eq_true rfl) (Nat.le_of_ble_eq_true rfl) (Nat.le_of_ble_eq_true rfl) ?_
    refine q_if_eq_B (tgt := 29) (pc' := 22) dX3_addBid_19 rfl rfl (fun qc_19 => ?_) (fun qc_19 => ?_)
    · refine q_iconst (pc' := 30) dX3_addBid_29 rfl ?_
      first | exact q_iret dX3_addBid_30 rfl rfl ⟨congrArg (fun z => some (q_i z)) (by unfold s_bidV s_wBid; omega), _, rfl, (by unfold s_bidQ; rw [if_pos (by unfold s_wBid; omega)]; exact FF), s_offF_r⟩ | (rw [s_F_bn FF]; by_cases hg : 10 ≤ φ 4; (rw [if_pos hg, if_pos hg]; exact q_iret dX3_addBid_30 rfl rfl ⟨congrArg (fun z => some (q_i z)) (by unfold s_bidV s_wBid; omega), _, rfl, (by unfold s_bidQ; rw [if_pos (by unfold s_wBid; omega)]; exact FF), s_offF_r⟩); (rw [if_neg hg, if_neg hg]; exact q_iret dX3_addBid_30 rfl rfl ⟨congrArg (fun z => some (q_i z)) (by unfold s_bidV s_wBid; omega), _, rfl, (by unfold s_bidQ; rw [if_neg (by unfold s_wBid; omega)]; exact s_F_add11 FF (by omega) (by omega) (by omega)), s_offF_add (by decide)⟩))
    · refine q_iloadn (pc' := 23) 3 dX3_addBid_22 rfl rfl ?_
      refine q_callSI (pc' := 26) dX3_addBid_23 rfl lX3_21 iX8_isHour (c_X8_isHour (by first | assumption | exact s_cO8 | exact s_cO11 | omega)) rfl rfl (Nat.le_of_ble_eq_true rfl) (Nat.le_of_ble_eq_true rfl) (Nat.le_of_ble_eq_true rfl) ?_
      refine q_if_ne_B (tgt := 31) (pc' := 29) dX3_addBid_26 rfl rfl (fun qc_26 => ?_) (fun qc_26 => ?_)
      · refine q_iloadn (pc' := 32) 1 dX3_addBid_31 rfl rfl ?_
        refine q_iloadn (pc' := 33) 2 dX3_addBid_32 rfl rfl ?_
        refine q_icmp_eq (tgt := 46) (pc' := 36) dX3_addBid_33 rfl rfl (by first | assumption | exact s_cO8 | exact s_cO11 | omega) (by first | assumption | exact s_cO8 | exact s_cO11 | omega) (fun qc_33 => ?_) (fun qc_33 => ?_)
        · refine q_bipush (pc' := 48) dX3_addBid_46 rfl rfl ?_
          first | exact q_iret dX3_addBid_48 rfl rfl ⟨congrArg (fun z => some (q_i z)) (by unfold s_bidV s_wBid; omega), _, rfl, (by unfold s_bidQ; rw [if_pos (by unfold s_wBid; omega)]; exact FF), s_offF_r⟩ | (rw [s_F_bn FF]; by_cases hg : 10 ≤ φ 4; (rw [if_pos hg, if_pos hg]; exact q_iret dX3_addBid_48 rfl rfl ⟨congrArg (fun z => some (q_i z)) (by unfold s_bidV s_wBid; omega), _, rfl, (by unfold s_bidQ; rw [if_pos (by unfold s_wBid; omega)]; exact FF), s_offF_r⟩); (rw [if_neg hg, if_neg hg]; exact q_iret dX3_addBid_48 rfl rfl ⟨congrArg (fun z => some (q_i z)) (by unfold s_bidV s_wBid; omega), _, rfl, (by unfold s_bidQ; rw [if_neg (by unfold s_wBid; omega)]; exact s_F_add11 FF (by omega) (by omega) (by omega)), s_offF_add (by decide)⟩))
        · refine q_iload (pc' := 38) 4 dX3_addBid_36 rfl rfl ?_
          refine q_iload (pc' := 40) 5 dX3_addBid_38 rfl rfl ?_
          refine q_callSI (pc' := 43) dX3_addBid_40 rfl lX3_24 iX3_isBadOffer (c_X3_isBadOffer (by first | assumption | exact s_cO8 | exact s_cO11 | omega) (by first | assumption | exact s_cO8 | exact s_cO11 | omega)) rfl rfl (Nat.le_of_ble_eq_true rfl) (Nat.le_of_ble_eq_true rfl) (Nat.le_of_ble_eq_true rfl) ?_
          refine q_if_eq_B (tgt := 49) (pc' := 46) dX3_addBid_43 rfl rfl (fun qc_43 => ?_) (fun qc_43 => ?_)
          · refine q_aloadn (pc' := 50) 0 dX3_addBid_49 rfl rfl ?_
            refine p_getR (pc' := 53) (f := 1) dX3_addBid_50 rfl fX3_9 kc19 rfl ?_
            refine p_getR (pc' := 56) (f := 11) dX3_addBid_53 rfl fX3_38 kc1 rfl ?_
            refine q_iloadn (pc' := 57) 2 dX3_addBid_56 rfl rfl ?_
            refine q_iloadn (pc' := 58) 3 dX3_addBid_57 rfl rfl ?_
            refine q_iload (pc' := 60) 4 dX3_addBid_58 rfl rfl ?_
            refine q_iload (pc' := 62) 5 dX3_addBid_60 rfl rfl ?_
            refine q_iloadn (pc' := 63) 1 dX3_addBid_62 rfl rfl ?_
            refine q_callVI (pc' := 66) dX3_addBid_63 rfl lX3_32 iX4_add kc11 rfl (c_X4_add s_cO11 (by rw [s_F_bn FF]; omega) (by rw [s_F_bn FF]; omega) (by omega) (by omega) (by omega) (by omega) (by omega)) rfl rfl (Nat.le_of_ble_eq_true rfl) (Nat.le_of_ble_eq_true rfl) (Nat.le_of_ble_eq_true rfl) ?_
            first | exact q_iret dX3_addBid_66 rfl rfl ⟨congrArg (fun z => some (q_i z)) (by unfold s_bidV s_wBid; omega), _, rfl, (by unfold s_bidQ; rw [if_pos (by unfold s_wBid; omega)]; exact FF), s_offF_r⟩ | (rw [s_F_bn FF]; by_cases hg : 10 ≤ φ 4; (rw [if_pos hg, if_pos hg]; exact q_iret dX3_addBid_66 rfl rfl ⟨congrArg (fun z => some (q_i z)) (by unfold s_bidV s_wBid; omega), _, rfl, (by unfold s_bidQ; rw [if_pos (by unfold s_wBid; omega)]; exact FF), s_offF_r⟩); (rw [if_neg hg, if_neg hg]; exact q_iret dX3_addBid_66 rfl rfl ⟨congrArg (fun z => some (q_i z)) (by unfold s_bidV s_wBid; omega), _, rfl, (by unfold s_bidQ; rw [if_neg (by unfold s_wBid; omega)]; exact s_F_add11 FF (by omega) (by omega) (by omega)), s_offF_add (by decide)⟩))
          · refine q_bipush (pc' := 48) dX3_addBid_46 rfl rfl ?_
            first | exact q_iret dX3_addBid_48 rfl rfl ⟨congrArg (fun z => some (q_i z)) (by unfold s_bidV s_wBid; omega), _, rfl, (by unfold s_bidQ; rw [if_pos (by unfold s_wBid; omega)]; exact FF), s_offF_r⟩ | (rw [s_F_bn FF]; by_cases hg : 10 ≤ φ 4; (rw [if_pos hg, if_pos hg]; exact q_iret dX3_addBid_48 rfl rfl ⟨congrArg (fun z => some (q_i z)) (by unfold s_bidV s_wBid; omega), _, rfl, (by unfold s_bidQ; rw [if_pos (by unfold s_wBid; omega)]; exact FF), s_offF_r⟩); (rw [if_neg hg, if_neg hg]; exact q_iret dX3_addBid_48 rfl rfl ⟨congrArg (fun z => some (q_i z)) (by unfold s_bidV s_wBid; omega), _, rfl, (by unfold s_bidQ; rw [if_neg (by unfold s_wBid; omega)]; exact s_F_add11 FF (by omega) (by omega) (by omega)), s_offF_add (by decide)⟩))
      · refine q_iconst (pc' := 30) dX3_addBid_29 rfl ?_
        first | exact q_iret dX3_addBid_30 rfl rfl ⟨congrArg (fun z => some (q_i z)) (by unfold s_bidV s_wBid; omega), _, rfl, (by unfold s_bidQ; rw [if_pos (by unfold s_wBid; omega)]; exact FF), s_offF_r⟩ | (rw [s_F_bn FF]; by_cases hg : 10 ≤ φ 4; (rw [if_pos hg, if_pos hg]; exact q_iret dX3_addBid_30 rfl rfl ⟨congrArg (fun z => some (q_i z)) (by unfold s_bidV s_wBid; omega), _, rfl, (by unfold s_bidQ; rw [if_pos (by unfold s_wBid; omega)]; exact FF), s_offF_r⟩); (rw [if_neg hg, if_neg hg]; exact q_iret dX3_addBid_30 rfl rfl ⟨congrArg (fun z => some (q_i z)) (by unfold s_bidV s_wBid; omega), _, rfl, (by unfold s_bidQ; rw [if_neg (by unfold s_wBid; omega)]; exact s_F_add11 FF (by omega) (by omega) (by omega)), s_offF_add (by decide)⟩))
set_option maxRecDepth 20000 in
set_option maxHeartbeats 4000000 in
theorem c_X3_suits {Γ : q_G} {S : q_S} {φ : Int → Int} {b k : Int} (FF : s_F S 1 φ) (ok : s_ok φ) (b0 : 0 ≤ b) (b1 : b < φ 4) (k0 : 0 ≤ k) (k1 : k < φ 3) : q_Sp Γ mX3_suits 1 0 0 [q_r Γ 19, q_i b, q_i k] (KC, S) (q_ev (some (q_i (q_B (s_sui φ b k)))) (KC, S)) := by
  show q_Go Γ mX3_suits 1 0 0 0 [(0, q_r Γ 19), (1, q_i b), (2, q_i k)] [] (KC, S) (q_ev (some (q_i (q_B (s_sui φ b k)))) (KC, S))
  have rw0 := s_rows_b ok
  have c3 := ok.2.2.1
  have c4 := ok.2.2.2.1
  have ab := s_as_b ok k0 (show k < 10 by omega)
  have bb := s_bd_b ok b0 (show b < 10 by omega)
  refine q_aloadn (pc' := 1) 0 dX3_suits_0 rfl rfl ?_
  refine p_getR (pc' := 4) (f := 1) dX3_suits_1 rfl fX3_9 kc19 rfl ?_
  refine p_getR (pc' := 7) (f := 8) dX3_suits_4 rfl fX3_28 kc1 rfl ?_
  refine q_astoren (pc' := 8) (L' := [(3, q_r Γ 8), (0, q_r Γ 19), (1, q_i b), (2, q_i k)]) dX3_suits_7 rfl rfl (by decide) rfl ?_
  refine q_aloadn (pc' := 9) 1 dX3_suits_8 rfl rfl ?_
  refine p_getR (pc' := 12) (f := 1) dX3_suits_9 rfl fX3_9 kc19 rfl ?_
  refine p_getR (pc' := 15) (f := 11) dX3_suits_12 rfl fX3_38 kc1 rfl ?_
  refine q_astore (pc' := 17) (L' := [(4, q_r Γ 11), (3, q_r Γ 8), (0, q_r Γ 19), (1, q_i b), (2, q_i k)]) dX3_suits_15 rfl (by decide) rfl ?_
  refine q_aloadn (pc' := 18) 1 dX3_suits_17 rfl rfl ?_
  refine q_iloadn (pc' := 19) 4 dX3_suits_18 rfl rfl ?_
  refine q_iconst (pc' := 20) dX3_suits_19 rfl ?_
  refine q_callVI (pc' := 23) dX3_suits_20 rfl lX3_74 iX4_get kc8 rfl (c_X4_get (by first | assumption | exact s_cO8 | exact s_cO11 | omega) (by first | assumption | exact s_cO8 | exact s_cO11 | omega) (by first | assumption | exact s_cO8 | exact s_cO11 | omega) (by first | assumption | exact s_cO8 | exact s_cO11 | omega) (by first | assumption | exact s_cO8 | exact s_cO11 | omega)) rfl rfl (Nat.le_of_ble_eq_true rfl) (Nat.le_of_ble_eq_true rfl) (Nat.le_of_ble_eq_true rfl) ?_
  refine p_eq (s_F_a FF (i := k) (p := 0) (by first | assumption | exact s_cO8 | exact s_cO11 | omega) (by first | assumption | exact s_cO8 | exact s_cO11 | omega) (by decide) (by decide)) ?_
  refine q_aload (pc' := 25) 0 dX3_suits_23 rfl rfl ?_
  refine q_iloadn (pc' := 26) 3 dX3_suits_25 rfl rfl ?_
  refine q_iconst (pc' := 27) dX3_suits_26 rfl ?_
  refine q_callVI (pc' := 30) dX3_suits_27 rfl lX3_74 iX4_get kc11 rfl (c_X4_get (by first | assumption | exact s_cO8 | exact s_cO11 | omega) (by first | assumption | exact s_cO8 | exact s_cO11 | omega) (by first | assumption | exact s_cO8 | exact s_cO11 | omega) (by first | assumption | exact s_cO8 | exact s_cO11 | omega) (by first | assumption | exact s_cO8 | exact s_cO11 | omega)) rfl rfl (Nat.le_of_ble_eq_true rfl) (Nat.le_of_ble_eq_true rfl) (Nat.le_of_ble_eq_true rfl) ?_
  refine p_eq (s_F_b FF (i := b) (p := 0) (by first | assumption | exact s_cO8 | exact s_cO11 | omega) (by first | assumption | exact s_cO8 | exact s_cO11 | omega) (by decide) (by decide)) ?_
  refine q_icmp_ne (tgt := 69) (pc' := 33) dX3_suits_30 rfl rfl (by first | assumption | exact s_cO8 | exact s_cO11 | omega) (by first | assumption | exact s_cO8 | exact s_cO11 | omega) (fun qc_30 => ?_) (fun qc_30 => ?_)
  · refine q_iconst (pc' := 70) dX3_suits_69 rfl ?_
    refine p_zret dX3_suits_70 rfl ?_ ?_
    · first | exact q_B_1 (by unfold s_sui; omega) | exact q_B_0 (by unfold s_sui; omega)
    · rfl
  · refine q_aloadn (pc' := 34) 1 dX3_suits_33 rfl rfl ?_
    refine q_iloadn (pc' := 35) 4 dX3_suits_34 rfl rfl ?_
    refine q_iconst (pc' := 36) dX3_suits_35 rfl ?_
    refine q_callVI (pc' := 39) dX3_suits_36 rfl lX3_74 iX4_get kc8 rfl (c_X4_get (by first | assumption | exact s_cO8 | exact s_cO11 | omega) (by first | assumption | exact s_cO8 | exact s_cO11 | omega) (by first | assumption | exact s_cO8 | exact s_cO11 | omega) (by first | assumption | exact s_cO8 | exact s_cO11 | omega) (by first | assumption | exact s_cO8 | exact s_cO11 | omega)) rfl rfl (Nat.le_of_ble_eq_true rfl) (Nat.le_of_ble_eq_true rfl) (Nat.le_of_ble_eq_true rfl) ?_
    refine p_eq (s_F_a FF (i := k) (p := 1) (by first | assumption | exact s_cO8 | exact s_cO11 | omega) (by first | assumption | exact s_cO8 | exact s_cO11 | omega) (by decide) (by decide)) ?_
    refine q_aload (pc' := 41) 0 dX3_suits_39 rfl rfl ?_
    refine q_iloadn (pc' := 42) 3 dX3_suits_41 rfl rfl ?_
    refine q_iconst (pc' := 43) dX3_suits_42 rfl ?_
    refine q_callVI (pc' := 46) dX3_suits_43 rfl lX3_74 iX4_get kc11 rfl (c_X4_get (by first | assumption | exact s_cO8 | exact s_cO11 | omega) (by first | assumption | exact s_cO8 | exact s_cO11 | omega) (by first | assumption | exact s_cO8 | exact s_cO11 | omega) (by first | assumption | exact s_cO8 | exact s_cO11 | omega) (by first | assumption | exact s_cO8 | exact s_cO11 | omega)) rfl rfl (Nat.le_of_ble_eq_true rfl) (Nat.le_of_ble_eq_true rfl) (Nat.le_of_ble_eq_true rfl) ?_
    refine p_eq (s_F_b FF (i := b) (p := 1) (by first | assumption | exact s_cO8 | exact s_cO11 | omega) (by first | assumption | exact s_cO8 | exact s_cO11 | omega) (by decide) (by decide)) ?_
    refine q_icmp_ne (tgt := 69) (pc' := 49) dX3_suits_46 rfl rfl (by first | assumption | exact s_cO8 | exact s_cO11 | omega) (by first | assumption | exact s_cO8 | exact s_cO11 | omega) (fun qc_46 => ?_) (fun qc_46 => ?_)
    · refine q_iconst (pc' := 70) dX3_suits_69 rfl ?_
      refine p_zret dX3_suits_70 rfl ?_ ?_
      · first | exact q_B_1 (by unfold s_sui; omega) | exact q_B_0 (by unfold s_sui; omega)
      · rfl
    · refine q_aloadn (pc' := 50) 1 dX3_suits_49 rfl rfl ?_
      refine q_iloadn (pc' := 51) 4 dX3_suits_50 rfl rfl ?_
      refine q_iconst (pc' := 52) dX3_suits_51 rfl ?_
      refine q_callVI (pc' := 55) dX3_suits_52 rfl lX3_74 iX4_get kc8 rfl (c_X4_get (by first | assumption | exact s_cO8 | exact s_cO11 | omega) (by first | assumption | exact s_cO8 | exact s_cO11 | omega) (by first | assumption | exact s_cO8 | exact s_cO11 | omega) (by first | assumption | exact s_cO8 | exact s_cO11 | omega) (by first | assumption | exact s_cO8 | exact s_cO11 | omega)) rfl rfl (Nat.le_of_ble_eq_true rfl) (Nat.le_of_ble_eq_true rfl) (Nat.le_of_ble_eq_true rfl) ?_
      refine p_eq (s_F_a FF (i := k) (p := 3) (by first | assumption | exact s_cO8 | exact s_cO11 | omega) (by first | assumption | exact s_cO8 | exact s_cO11 | omega) (by decide) (by decide)) ?_
      refine q_aload (pc' := 57) 0 dX3_suits_55 rfl rfl ?_
      refine q_iloadn (pc' := 58) 3 dX3_suits_57 rfl rfl ?_
      refine q_iconst (pc' := 59) dX3_suits_58 rfl ?_
      refine q_callVI (pc' := 62) dX3_suits_59 rfl lX3_74 iX4_get kc11 rfl (c_X4_get (by first | assumption | exact s_cO8 | exact s_cO11 | omega) (by first | assumption | exact s_cO8 | exact s_cO11 | omega) (by first | assumption | exact s_cO8 | exact s_cO11 | omega) (by first | assumption | exact s_cO8 | exact s_cO11 | omega) (by first | assumption | exact s_cO8 | exact s_cO11 | omega)) rfl rfl (Nat.le_of_ble_eq_true rfl) (Nat.le_of_ble_eq_true rfl) (Nat.le_of_ble_eq_true rfl) ?_
      refine p_eq (s_F_b FF (i := b) (p := 3) (by first | assumption | exact s_cO8 | exact s_cO11 | omega) (by first | assumption | exact s_cO8 | exact s_cO11 | omega) (by decide) (by decide)) ?_
      refine q_icmp_gt (tgt := 69) (pc' := 65) dX3_suits_62 rfl rfl (by first | assumption | exact s_cO8 | exact s_cO11 | omega) (by first | assumption | exact s_cO8 | exact s_cO11 | omega) (fun qc_62 => ?_) (fun qc_62 => ?_)
      · refine q_iconst (pc' := 70) dX3_suits_69 rfl ?_
        refine p_zret dX3_suits_70 rfl ?_ ?_
        · first | exact q_B_1 (by unfold s_sui; omega) | exact q_B_0 (by unfold s_sui; omega)
        · rfl
      · refine q_iconst (pc' := 66) dX3_suits_65 rfl ?_
        refine q_goto (pc' := 70) dX3_suits_66 rfl ?_
        refine p_zret dX3_suits_70 rfl ?_ ?_
        · first | exact q_B_1 (by unfold s_sui; omega) | exact q_B_0 (by unfold s_sui; omega)
        · rfl
set_option maxRecDepth 20000 in
set_option maxHeartbeats 4000000 in
theorem c_X3_trade {Γ : q_G} {S : q_S} {φ : Int → Int} {b k : Int} (FF : s_F S 1 φ) (ok : s_ok φ) (b0 : 0 ≤ b) (b1 : b < φ 4) (k0 : 0 ≤ k) (k1 : k < φ 3) (hs : s_sui φ b k) : q_Sp Γ mX3_trade 1 0 0 [q_r Γ 19, q_i b, q_i k] (KC, S) (fun v w => v = some (q_i (s_tu1 φ b k)) ∧ ∃ S2, w = (KC, S2) ∧ s_F S2 1 (s_tr1 φ b k) ∧ s_offT S S2) := by
  show q_Go Γ mX3_trade 1 0 0 0 [(0, q_r Γ 19), (1, q_i b), (2, q_i k)] [] (KC, S) (fun v w => v = some (q_i (s_tu1 φ b k)) ∧ ∃ S2, w = (KC, S2) ∧ s_F S2 1 (s_tr1 φ b k) ∧ s_offT S S2)
  have rw0 := s_rows_b ok
  have c3 := ok.2.2.1
  have c4 := ok.2.2.2.1
  have ab := s_as_b ok k0 (show k < 10 by omega)
  have bb := s_bd_b ok b0 (show b < 10 by omega)
  have hri := s_ri_b ok b0 (show b < 10 by omega)
  have hrv := s_ri_v ok b0 (show b < 10 by omega)
  have hu : 0 ≤ s_tu1 φ b k ∧ s_tu1 φ b k ≤ s_bd φ b 2 ∧ s_tu1 φ b k ≤ s_as φ k 2 ∧ s_tu1 φ b k ≤ 999 - φ (s_ri φ b) := by unfold s_tu1; omega
  refine q_aloadn (pc' := 1) 0 dX3_trade_0 rfl rfl ?_
  refine p_getR (pc' := 4) (f := 1) dX3_trade_1 rfl fX3_9 kc19 rfl ?_
  refine p_getR (pc' := 7) (f := 11) dX3_trade_4 rfl fX3_38 kc1 rfl ?_
  refine q_iloadn (pc' := 8) 1 dX3_trade_7 rfl rfl ?_
  refine q_iconst (pc' := 9) dX3_trade_8 rfl ?_
  refine q_callVI (pc' := 12) dX3_trade_9 rfl lX3_74 iX4_get kc11 rfl (c_X4_get (by first | assumption | exact s_cO8 | exact s_cO11 | omega) (by first | assumption | exact s_cO8 | exact s_cO11 | omega) (by first | assumption | exact s_cO8 | exact s_cO11 | omega) (by first | assumption | exact s_cO8 | exact s_cO11 | omega) (by first | assumption | exact s_cO8 | exact s_cO11 | omega)) rfl rfl (Nat.le_of_ble_eq_true rfl) (Nat.le_of_ble_eq_true rfl) (Nat.le_of_ble_eq_true rfl) ?_
  refine p_eq (s_F_b FF (i := b) (p := 4) (by first | assumption | exact s_cO8 | exact s_cO11 | omega) (by first | assumption | exact s_cO8 | exact s_cO11 | omega) (by decide) (by decide)) ?_
  refine q_istoren (pc' := 13) (L' := [(3, q_i (s_bd φ b 4)), (0, q_r Γ 19), (1, q_i b), (2, q_i k)]) dX3_trade_12 rfl rfl (by decide) rfl ?_
  refine q_aloadn (pc' := 14) 1 dX3_trade_13 rfl rfl ?_
  refine p_getR (pc' := 17) (f := 1) dX3_trade_14 rfl fX3_9 kc19 rfl ?_
  refine p_getR (pc' := 20) (f := 8) dX3_trade_17 rfl fX3_28 kc1 rfl ?_
  refine q_iloadn (pc' := 21) 3 dX3_trade_20 rfl rfl ?_
  refine q_iconst (pc' := 22) dX3_trade_21 rfl ?_
  refine q_callVI (pc' := 25) dX3_trade_22 rfl lX3_74 iX4_get kc8 rfl (c_X4_get (by first | assumption | exact s_cO8 | exact s_cO11 | omega) (by first | assumption | exact s_cO8 | exact s_cO11 | omega) (by first | assumption | exact s_cO8 | exact s_cO11 | omega) (by first | assumption | exact s_cO8 | exact s_cO11 | omega) (by first | assumption | exact s_cO8 | exact s_cO11 | omega)) rfl rfl (Nat.le_of_ble_eq_true rfl) (Nat.le_of_ble_eq_true rfl) (Nat.le_of_ble_eq_true rfl) ?_
  refine p_eq (s_F_a FF (i := k) (p := 0) (by first | assumption | exact s_cO8 | exact s_cO11 | omega) (by first | assumption | exact s_cO8 | exact s_cO11 | omega) (by decide) (by decide)) ?_
  refine p_eq hs.1 ?_
  refine q_istore (pc' := 27) (L' := [(4, q_i (s_bd φ b 0)), (3, q_i (s_bd φ b 4)), (0, q_r Γ 19), (1, q_i b), (2, q_i k)]) dX3_trade_25 rfl (by decide) rfl ?_
  refine q_iloadn (pc' := 28) 1 dX3_trade_27 rfl rfl ?_
  refine q_iload (pc' := 30) 0 dX3_trade_28 rfl rfl ?_
  refine q_aloadn (pc' := 31) 2 dX3_trade_30 rfl rfl ?_
  refine p_getR (pc' := 34) (f := 1) dX3_trade_31 rfl fX3_9 kc19 rfl ?_
  refine p_getR (pc' := 37) (f := 8) dX3_trade_34 rfl fX3_28 kc1 rfl ?_
  refine q_iloadn (pc' := 38) 4 dX3_trade_37 rfl rfl ?_
  refine q_iconst (pc' := 39) dX3_trade_38 rfl ?_
  refine q_callVI (pc' := 42) dX3_trade_39 rfl lX3_74 iX4_get kc8 rfl (c_X4_get (by first | assumption | exact s_cO8 | exact s_cO11 | omega) (by first | assumption | exact s_cO8 | exact s_cO11 | omega) (by first | assumption | exact s_cO8 | exact s_cO11 | omega) (by first | assumption | exact s_cO8 | exact s_cO11 | omega) (by first | assumption | exact s_cO8 | exact s_cO11 | omega)) rfl rfl (Nat.le_of_ble_eq_true rfl) (Nat.le_of_ble_eq_true rfl) (Nat.le_of_ble_eq_true rfl) ?_
  refine p_eq (s_F_a FF (i := k) (p := 1) (by first | assumption | exact s_cO8 | exact s_cO11 | omega) (by first | assumption | exact s_cO8 | exact s_cO11 | omega) (by decide) (by decide)) ?_
  refine p_eq hs.2.1 ?_
  refine q_callSI (pc' := 45) dX3_trade_42 rfl lX3_77 iX0_rightAt (c_X0_rightAt ) rfl rfl (Nat.le_of_ble_eq_true rfl) (Nat.le_of_ble_eq_true rfl) (Nat.le_of_ble_eq_true rfl) ?_
  refine p_eq (y := s_ri φ b - 39) (by unfold s_ri; omega) ?_
  refine q_istore (pc' := 47) (L' := [(5, q_i (s_ri φ b - 39)), (4, q_i (s_bd φ b 0)), (3, q_i (s_bd φ b 4)), (0, q_r Γ 19), (1, q_i b), (2, q_i k)]) dX3_trade_45 rfl (by decide) rfl ?_
  refine q_aloadn (pc' := 48) 3 dX3_trade_47 rfl rfl ?_
  refine p_getR (pc' := 51) (f := 1) dX3_trade_48 rfl fX3_9 kc19 rfl ?_
  refine p_getR (pc' := 54) (f := 11) dX3_trade_51 rfl fX3_38 kc1 rfl ?_
  refine q_iloadn (pc' := 55) 4 dX3_trade_54 rfl rfl ?_
  refine q_iconst (pc' := 56) dX3_trade_55 rfl ?_
  refine q_callVI (pc' := 59) dX3_trade_56 rfl lX3_74 iX4_get kc11 rfl (c_X4_get (by first | assumption | exact s_cO8 | exact s_cO11 | omega) (by first | assumption | exact s_cO8 | exact s_cO11 | omega) (by first | assumption | exact s_cO8 | exact s_cO11 | omega) (by first | assumption | exact s_cO8 | exact s_cO11 | omega) (by first | assumption | exact s_cO8 | exact s_cO11 | omega)) rfl rfl (Nat.le_of_ble_eq_true rfl) (Nat.le_of_ble_eq_true rfl) (Nat.le_of_ble_eq_true rfl) ?_
  refine p_eq (s_F_b FF (i := b) (p := 2) (by first | assumption | exact s_cO8 | exact s_cO11 | omega) (by first | assumption | exact s_cO8 | exact s_cO11 | omega) (by decide) (by decide)) ?_
  refine q_aloadn (pc' := 60) 3 dX3_trade_59 rfl rfl ?_
  refine p_getR (pc' := 63) (f := 1) dX3_trade_60 rfl fX3_9 kc19 rfl ?_
  refine p_getR (pc' := 66) (f := 8) dX3_trade_63 rfl fX3_28 kc1 rfl ?_
  refine q_iloadn (pc' := 67) 5 dX3_trade_66 rfl rfl ?_
  refine q_iconst (pc' := 68) dX3_trade_67 rfl ?_
  refine q_callVI (pc' := 71) dX3_trade_68 rfl lX3_74 iX4_get kc8 rfl (c_X4_get (by first | assumption | exact s_cO8 | exact s_cO11 | omega) (by first | assumption | exact s_cO8 | exact s_cO11 | omega) (by first | assumption | exact s_cO8 | exact s_cO11 | omega) (by first | assumption | exact s_cO8 | exact s_cO11 | omega) (by first | assumption | exact s_cO8 | exact s_cO11 | omega)) rfl rfl (Nat.le_of_ble_eq_true rfl) (Nat.le_of_ble_eq_true rfl) (Nat.le_of_ble_eq_true rfl) ?_
  refine p_eq (s_F_a FF (i := k) (p := 2) (by first | assumption | exact s_cO8 | exact s_cO11 | omega) (by first | assumption | exact s_cO8 | exact s_cO11 | omega) (by decide) (by decide)) ?_
  refine p_min (pc' := 74) dX3_trade_71 rfl wX3_81 (Nat.le_of_ble_eq_true rfl) (Nat.le_of_ble_eq_true rfl) (by first | assumption | exact s_cO8 | exact s_cO11 | omega) (by first | assumption | exact s_cO8 | exact s_cO11 | omega) (fun qy_71 eqy_71 => ?_)
  refine q_istore (pc' := 76) (L' := [(6, q_i qy_71), (5, q_i (s_ri φ b - 39)), (4, q_i (s_bd φ b 0)), (3, q_i (s_bd φ b 4)), (0, q_r Γ 19), (1, q_i b), (2, q_i k)]) dX3_trade_74 rfl (by decide) rfl ?_
  refine q_iload (pc' := 78) 0 dX3_trade_76 rfl rfl ?_
  refine q_sipush (pc' := 81) dX3_trade_78 rfl rfl ?_
  refine q_aloadn (pc' := 82) 4 dX3_trade_81 rfl rfl ?_
  refine p_getR (pc' := 85) (f := 1) dX3_trade_82 rfl fX3_9 kc19 rfl ?_
  refine p_getR (pc' := 88) (f := 7) dX3_trade_85 rfl fX3_86 kc1 rfl ?_
  refine q_iload (pc' := 90) 1 dX3_trade_88 rfl rfl ?_
  refine p_iald (pc' := 91) dX3_trade_90 rfl kc7 (by first | assumption | exact s_cO8 | exact s_cO11 | omega) (by first | assumption | exact s_cO8 | exact s_cO11 | omega) (by decide) (fun qy_90 eqy_90 rqy_90 => ?_)
  have vqy_90 : qy_90 = φ (s_ri φ b) := eqy_90.trans (s_F_7 FF (by first | assumption | exact s_cO8 | exact s_cO11 | omega) (by first | assumption | exact s_cO8 | exact s_cO11 | omega))
  rw [vqy_90]
  refine q_isub (pc' := 92) dX3_trade_91 rfl ?_
  refine p_min (pc' := 95) dX3_trade_92 rfl wX3_81 (Nat.le_of_ble_eq_true rfl) (Nat.le_of_ble_eq_true rfl) (by first | assumption | exact s_cO8 | exact s_cO11 | omega) (by first | assumption | exact s_cO8 | exact s_cO11 | omega) (fun qy_92 eqy_92 => ?_)
  have eu : qy_92 = s_tu1 φ b k := by unfold s_tu1; rw [eqy_92, eqy_71]
  rw [eu]
  refine q_istore (pc' := 97) (L' := [(7, q_i (s_tu1 φ b k)), (6, q_i qy_71), (5, q_i (s_ri φ b - 39)), (4, q_i (s_bd φ b 0)), (3, q_i (s_bd φ b 4)), (0, q_r Γ 19), (1, q_i b), (2, q_i k)]) dX3_trade_95 rfl (by decide) rfl ?_
  refine q_iload (pc' := 99) 0 dX3_trade_97 rfl rfl ?_
  refine q_aloadn (pc' := 100) 5 dX3_trade_99 rfl rfl ?_
  refine p_getR (pc' := 103) (f := 1) dX3_trade_100 rfl fX3_9 kc19 rfl ?_
  refine p_getR (pc' := 106) (f := 8) dX3_trade_103 rfl fX3_28 kc1 rfl ?_
  refine q_iloadn (pc' := 107) 7 dX3_trade_106 rfl rfl ?_
  refine q_iconst (pc' := 108) dX3_trade_107 rfl ?_
  refine q_callVI (pc' := 111) dX3_trade_108 rfl lX3_74 iX4_get kc8 rfl (c_X4_get (by first | assumption | exact s_cO8 | exact s_cO11 | omega) (by first | assumption | exact s_cO8 | exact s_cO11 | omega) (by first | assumption | exact s_cO8 | exact s_cO11 | omega) (by first | assumption | exact s_cO8 | exact s_cO11 | omega) (by first | assumption | exact s_cO8 | exact s_cO11 | omega)) rfl rfl (Nat.le_of_ble_eq_true rfl) (Nat.le_of_ble_eq_true rfl) (Nat.le_of_ble_eq_true rfl) ?_
  refine p_eq (s_F_a FF (i := k) (p := 3) (by first | assumption | exact s_cO8 | exact s_cO11 | omega) (by first | assumption | exact s_cO8 | exact s_cO11 | omega) (by decide) (by decide)) ?_
  refine q_imul (pc' := 112) dX3_trade_111 rfl ?_
  refine q_istore (pc' := 114) (L' := [(8, q_i ((s_tu1 φ b k) * (s_as φ k 3))), (7, q_i (s_tu1 φ b k)), (6, q_i qy_71), (5, q_i (s_ri φ b - 39)), (4, q_i (s_bd φ b 0)), (3, q_i (s_bd φ b 4)), (0, q_r Γ 19), (1, q_i b), (2, q_i k)]) dX3_trade_112 rfl (by decide) rfl ?_
  refine q_aloadn (pc' := 115) 6 dX3_trade_114 rfl rfl ?_
  refine p_getR (pc' := 118) (f := 1) dX3_trade_115 rfl fX3_9 kc19 rfl ?_
  refine p_getR (pc' := 121) (f := 7) dX3_trade_118 rfl fX3_86 kc1 rfl ?_
  refine q_iload (pc' := 123) 3 dX3_trade_121 rfl rfl ?_
  refine q_dup2 (pc' := 124) dX3_trade_123 rfl rfl rfl ?_
  refine p_iald (pc' := 125) dX3_trade_124 rfl kc7 (by first | assumption | exact s_cO8 | exact s_cO11 | omega) (by first | assumption | exact s_cO8 | exact s_cO11 | omega) (by decide) (fun qy_124 eqy_124 rqy_124 => ?_)
  have vqy_124 : qy_124 = φ (s_ri φ b) := eqy_124.trans (s_F_7 FF (by first | assumption | exact s_cO8 | exact s_cO11 | omega) (by first | assumption | exact s_cO8 | exact s_cO11 | omega))
  rw [vqy_124]
  refine q_iload (pc' := 127) 1 dX3_trade_125 rfl rfl ?_
  refine q_iadd (pc' := 128) dX3_trade_127 rfl ?_
  refine p_iast (pc' := 129) dX3_trade_128 rfl kc7 (by first | assumption | exact s_cO8 | exact s_cO11 | omega) (by first | assumption | exact s_cO8 | exact s_cO11 | omega) (by decide) (by first | assumption | exact s_cO8 | exact s_cO11 | omega) ?_
  have F1 : s_F (q_up S 7 (s_ri φ b - 39) ((φ (s_ri φ b)) + (s_tu1 φ b k))) 1 (s_set φ (s_ri φ b) (φ (s_ri φ b) + s_tu1 φ b k)) := s_F_rj FF (by omega) (by omega) (by omega) (by omega)
  have z1 : (s_set φ (s_ri φ b) (φ (s_ri φ b) + s_tu1 φ b k)) 3 ≤ 10 ∧ (s_set φ (s_ri φ b) (φ (s_ri φ b) + s_tu1 φ b k)) 4 ≤ 10 := by rw [s_set_ne (by omega), s_set_ne (by omega)]; omega
  refine q_aloadn (pc' := 130) 6 dX3_trade_129 rfl rfl ?_
  refine p_getR (pc' := 133) (f := 1) dX3_trade_130 rfl fX3_9 kc19 rfl ?_
  refine p_getR (pc' := 136) (f := 5) dX3_trade_133 rfl fX3_89 kc1 rfl ?_
  refine q_iloadn (pc' := 137) 5 dX3_trade_136 rfl rfl ?_
  refine q_dup2 (pc' := 138) dX3_trade_137 rfl rfl rfl ?_
  refine p_iald (pc' := 139) dX3_trade_138 rfl kc5 (by first | assumption | exact s_cO8 | exact s_cO11 | omega) (by first | assumption | exact s_cO8 | exact s_cO11 | omega) (by decide) (fun qy_138 eqy_138 rqy_138 => ?_)
  have e138 : qy_138 = s_pt (s_set φ (s_ri φ b) (φ (s_ri φ b) + s_tu1 φ b k)) (s_bd φ b 4) 3 := eqy_138.trans (s_F_5 F1 (by omega) (by omega))
  rw [e138]
  refine q_iload (pc' := 141) 0 dX3_trade_139 rfl rfl ?_
  refine q_isub (pc' := 142) dX3_trade_141 rfl ?_
  refine p_eq (Int.sub_eq_add_neg (a := s_pt (s_set φ (s_ri φ b) (φ (s_ri φ b) + s_tu1 φ b k)) (s_bd φ b 4) 3) (b := (s_tu1 φ b k * s_as φ k 3))) ?_
  refine p_wr (fun r142 => ?_)
  refine p_iast (pc' := 143) dX3_trade_142 rfl kc5 (by first | assumption | exact s_cO8 | exact s_cO11 | omega) (by first | assumption | exact s_cO8 | exact s_cO11 | omega) (by decide) (by first | assumption | exact s_cO8 | exact s_cO11 | omega) ?_
  have F2 : s_F ((q_up (q_up S 7 (s_ri φ b - 39) ((φ (s_ri φ b)) + (s_tu1 φ b k))) 5 (s_bd φ b 4) (s_wr (s_pt (s_set φ (s_ri φ b) (φ (s_ri φ b) + s_tu1 φ b k)) (s_bd φ b 4) 3 + -(s_tu1 φ b k * s_as φ k 3))))) 1 (s_aw (s_set φ (s_ri φ b) (φ (s_ri φ b) + s_tu1 φ b k)) (15 + 4 * s_bd φ b 4 + 3) (-(s_tu1 φ b k * s_as φ k 3))) := s_F_pu F1 (by omega) (by omega) z1.1 z1.2
  have z2 : (s_aw (s_set φ (s_ri φ b) (φ (s_ri φ b) + s_tu1 φ b k)) (15 + 4 * s_bd φ b 4 + 3) (-(s_tu1 φ b k * s_as φ k 3))) 3 ≤ 10 ∧ (s_aw (s_set φ (s_ri φ b) (φ (s_ri φ b) + s_tu1 φ b k)) (15 + 4 * s_bd φ b 4 + 3) (-(s_tu1 φ b k * s_as φ k 3))) 4 ≤ 10 := by rw [s_aw_ne (by omega), s_aw_ne (by omega)]; exact z1
  refine q_aloadn (pc' := 144) 6 dX3_trade_143 rfl rfl ?_
  refine p_getR (pc' := 147) (f := 1) dX3_trade_144 rfl fX3_9 kc19 rfl ?_
  refine p_getR (pc' := 150) (f := 5) dX3_trade_147 rfl fX3_89 kc1 rfl ?_
  refine q_iload (pc' := 152) 4 dX3_trade_150 rfl rfl ?_
  refine q_dup2 (pc' := 153) dX3_trade_152 rfl rfl rfl ?_
  refine p_iald (pc' := 154) dX3_trade_153 rfl kc5 (by first | assumption | exact s_cO8 | exact s_cO11 | omega) (by first | assumption | exact s_cO8 | exact s_cO11 | omega) (by decide) (fun qy_153 eqy_153 rqy_153 => ?_)
  have e153 : qy_153 = s_pt (s_aw (s_set φ (s_ri φ b) (φ (s_ri φ b) + s_tu1 φ b k)) (15 + 4 * s_bd φ b 4 + 3) (-(s_tu1 φ b k * s_as φ k 3))) (s_bd φ b 0) 3 := eqy_153.trans (s_F_5 F2 (by omega) (by omega))
  rw [e153]
  refine q_iload (pc' := 156) 0 dX3_trade_154 rfl rfl ?_
  refine q_iadd (pc' := 157) dX3_trade_156 rfl ?_
  refine p_wr (fun r157 => ?_)
  refine p_iast (pc' := 158) dX3_trade_157 rfl kc5 (by first | assumption | exact s_cO8 | exact s_cO11 | omega) (by first | assumption | exact s_cO8 | exact s_cO11 | omega) (by decide) (by first | assumption | exact s_cO8 | exact s_cO11 | omega) ?_
  have F3 : s_F ((q_up (q_up (q_up S 7 (s_ri φ b - 39) ((φ (s_ri φ b)) + (s_tu1 φ b k))) 5 (s_bd φ b 4) (s_wr (s_pt (s_set φ (s_ri φ b) (φ (s_ri φ b) + s_tu1 φ b k)) (s_bd φ b 4) 3 + -(s_tu1 φ b k * s_as φ k 3)))) 5 (s_bd φ b 0) (s_wr (s_pt (s_aw (s_set φ (s_ri φ b) (φ (s_ri φ b) + s_tu1 φ b k)) (15 + 4 * s_bd φ b 4 + 3) (-(s_tu1 φ b k * s_as φ k 3))) (s_bd φ b 0) 3 + (s_tu1 φ b k * s_as φ k 3))))) 1 (s_aw (s_aw (s_set φ (s_ri φ b) (φ (s_ri φ b) + s_tu1 φ b k)) (15 + 4 * s_bd φ b 4 + 3) (-(s_tu1 φ b k * s_as φ k 3))) (15 + 4 * s_bd φ b 0 + 3) (s_tu1 φ b k * s_as φ k 3)) := s_F_pu F2 (by omega) (by omega) z2.1 z2.2
  have z3 : (s_aw (s_aw (s_set φ (s_ri φ b) (φ (s_ri φ b) + s_tu1 φ b k)) (15 + 4 * s_bd φ b 4 + 3) (-(s_tu1 φ b k * s_as φ k 3))) (15 + 4 * s_bd φ b 0 + 3) (s_tu1 φ b k * s_as φ k 3)) 3 ≤ 10 ∧ (s_aw (s_aw (s_set φ (s_ri φ b) (φ (s_ri φ b) + s_tu1 φ b k)) (15 + 4 * s_bd φ b 4 + 3) (-(s_tu1 φ b k * s_as φ k 3))) (15 + 4 * s_bd φ b 0 + 3) (s_tu1 φ b k * s_as φ k 3)) 4 ≤ 10 := by rw [s_aw_ne (φ := (s_aw (s_set φ (s_ri φ b) (φ (s_ri φ b) + s_tu1 φ b k)) (15 + 4 * s_bd φ b 4 + 3) (-(s_tu1 φ b k * s_as φ k 3)))) (by omega), s_aw_ne (φ := (s_aw (s_set φ (s_ri φ b) (φ (s_ri φ b) + s_tu1 φ b k)) (15 + 4 * s_bd φ b 4 + 3) (-(s_tu1 φ b k * s_as φ k 3)))) (by omega)]; exact z2
  have hq168 : ((q_up (q_up (q_up S 7 (s_ri φ b - 39) ((φ (s_ri φ b)) + (s_tu1 φ b k))) 5 (s_bd φ b 4) (s_wr (s_pt (s_set φ (s_ri φ b) (φ (s_ri φ b) + s_tu1 φ b k)) (s_bd φ b 4) 3 + -(s_tu1 φ b k * s_as φ k 3)))) 5 (s_bd φ b 0) (s_wr (s_pt (s_aw (s_set φ (s_ri φ b) (φ (s_ri φ b) + s_tu1 φ b k)) (15 + 4 * s_bd φ b 4 + 3) (-(s_tu1 φ b k * s_as φ k 3))) (s_bd φ b 0) 3 + (s_tu1 φ b k * s_as φ k 3))))) 12 (b * 5 + 2) = s_bd φ b 2 := by have q := s_F_b F3 (i := b) (p := 2) b0 (by rw [s_aw_ne (by omega), s_aw_ne (by omega), s_set_ne (by omega)]; exact b1) (by decide) (by decide); rw [show 5 * b + 2 = b * 5 + 2 by omega] at q; rw [q]; show (s_aw (s_aw (s_set φ (s_ri φ b) (φ (s_ri φ b) + s_tu1 φ b k)) (15 + 4 * s_bd φ b 4 + 3) (-(s_tu1 φ b k * s_as φ k 3))) (15 + 4 * s_bd φ b 0 + 3) (s_tu1 φ b k * s_as φ k 3)) (439 + 5 * b + 2) = _; rw [s_aw_ne (by omega), s_aw_ne (by omega), s_set_ne (by omega)]; rfl
  refine q_aloadn (pc' := 159) 6 dX3_trade_158 rfl rfl ?_
  refine p_getR (pc' := 162) (f := 1) dX3_trade_159 rfl fX3_9 kc19 rfl ?_
  refine p_getR (pc' := 165) (f := 11) dX3_trade_162 rfl fX3_38 kc1 rfl ?_
  refine q_iloadn (pc' := 166) 7 dX3_trade_165 rfl rfl ?_
  refine q_iload (pc' := 168) 1 dX3_trade_166 rfl rfl ?_
  refine q_callVV (pc' := 171) dX3_trade_168 rfl lX3_92 iX4_take kc11 rfl (c_X4_take s_cO11 (by omega) (by omega) (show q_rg ((q_up (q_up (q_up S 7 (s_ri φ b - 39) ((φ (s_ri φ b)) + (s_tu1 φ b k))) 5 (s_bd φ b 4) (s_wr (s_pt (s_set φ (s_ri φ b) (φ (s_ri φ b) + s_tu1 φ b k)) (s_bd φ b 4) 3 + -(s_tu1 φ b k * s_as φ k 3)))) 5 (s_bd φ b 0) (s_wr (s_pt (s_aw (s_set φ (s_ri φ b) (φ (s_ri φ b) + s_tu1 φ b k)) (15 + 4 * s_bd φ b 4 + 3) (-(s_tu1 φ b k * s_as φ k 3))) (s_bd φ b 0) 3 + (s_tu1 φ b k * s_as φ k 3)))) 12 (b * 5 + 2) - s_tu1 φ b k) from by rw [hq168]; exact ⟨by omega, by omega⟩)) rfl rfl (Nat.le_of_ble_eq_true rfl) (Nat.le_of_ble_eq_true rfl) (Nat.le_of_ble_eq_true rfl) ?_
  have F4 : s_F ((q_up (q_up (q_up (q_up S 7 (s_ri φ b - 39) ((φ (s_ri φ b)) + (s_tu1 φ b k))) 5 (s_bd φ b 4) (s_wr (s_pt (s_set φ (s_ri φ b) (φ (s_ri φ b) + s_tu1 φ b k)) (s_bd φ b 4) 3 + -(s_tu1 φ b k * s_as φ k 3)))) 5 (s_bd φ b 0) (s_wr (s_pt (s_aw (s_set φ (s_ri φ b) (φ (s_ri φ b) + s_tu1 φ b k)) (15 + 4 * s_bd φ b 4 + 3) (-(s_tu1 φ b k * s_as φ k 3))) (s_bd φ b 0) 3 + (s_tu1 φ b k * s_as φ k 3)))) 12 (b * 5 + 2) ((q_up (q_up (q_up S 7 (s_ri φ b - 39) ((φ (s_ri φ b)) + (s_tu1 φ b k))) 5 (s_bd φ b 4) (s_wr (s_pt (s_set φ (s_ri φ b) (φ (s_ri φ b) + s_tu1 φ b k)) (s_bd φ b 4) 3 + -(s_tu1 φ b k * s_as φ k 3)))) 5 (s_bd φ b 0) (s_wr (s_pt (s_aw (s_set φ (s_ri φ b) (φ (s_ri φ b) + s_tu1 φ b k)) (15 + 4 * s_bd φ b 4 + 3) (-(s_tu1 φ b k * s_as φ k 3))) (s_bd φ b 0) 3 + (s_tu1 φ b k * s_as φ k 3)))) 12 (b * 5 + 2) - (s_tu1 φ b k)))) 1 (s_set (s_aw (s_aw (s_set φ (s_ri φ b) (φ (s_ri φ b) + s_tu1 φ b k)) (15 + 4 * s_bd φ b 4 + 3) (-(s_tu1 φ b k * s_as φ k 3))) (15 + 4 * s_bd φ b 0 + 3) (s_tu1 φ b k * s_as φ k 3)) (439 + 5 * b + 2) (s_bd φ b 2 - s_tu1 φ b k)) := by rw [hq168]; exact s_F_bu F3 b0 (by omega) z3.1 z3.2
  have z4 : (s_set (s_aw (s_aw (s_set φ (s_ri φ b) (φ (s_ri φ b) + s_tu1 φ b k)) (15 + 4 * s_bd φ b 4 + 3) (-(s_tu1 φ b k * s_as φ k 3))) (15 + 4 * s_bd φ b 0 + 3) (s_tu1 φ b k * s_as φ k 3)) (439 + 5 * b + 2) (s_bd φ b 2 - s_tu1 φ b k)) 3 ≤ 10 ∧ (s_set (s_aw (s_aw (s_set φ (s_ri φ b) (φ (s_ri φ b) + s_tu1 φ b k)) (15 + 4 * s_bd φ b 4 + 3) (-(s_tu1 φ b k * s_as φ k 3))) (15 + 4 * s_bd φ b 0 + 3) (s_tu1 φ b k * s_as φ k 3)) (439 + 5 * b + 2) (s_bd φ b 2 - s_tu1 φ b k)) 4 ≤ 10 := by rw [s_set_ne (by omega), s_set_ne (by omega)]; exact z3
  have hq181 : ((q_up (q_up (q_up (q_up S 7 (s_ri φ b - 39) ((φ (s_ri φ b)) + (s_tu1 φ b k))) 5 (s_bd φ b 4) (s_wr (s_pt (s_set φ (s_ri φ b) (φ (s_ri φ b) + s_tu1 φ b k)) (s_bd φ b 4) 3 + -(s_tu1 φ b k * s_as φ k 3)))) 5 (s_bd φ b 0) (s_wr (s_pt (s_aw (s_set φ (s_ri φ b) (φ (s_ri φ b) + s_tu1 φ b k)) (15 + 4 * s_bd φ b 4 + 3) (-(s_tu1 φ b k * s_as φ k 3))) (s_bd φ b 0) 3 + (s_tu1 φ b k * s_as φ k 3)))) 12 (b * 5 + 2) ((q_up (q_up (q_up S 7 (s_ri φ b - 39) ((φ (s_ri φ b)) + (s_tu1 φ b k))) 5 (s_bd φ b 4) (s_wr (s_pt (s_set φ (s_ri φ b) (φ (s_ri φ b) + s_tu1 φ b k)) (s_bd φ b 4) 3 + -(s_tu1 φ b k * s_as φ k 3)))) 5 (s_bd φ b 0) (s_wr (s_pt (s_aw (s_set φ (s_ri φ b) (φ (s_ri φ b) + s_tu1 φ b k)) (15 + 4 * s_bd φ b 4 + 3) (-(s_tu1 φ b k * s_as φ k 3))) (s_bd φ b 0) 3 + (s_tu1 φ b k * s_as φ k 3)))) 12 (b * 5 + 2) - (s_tu1 φ b k)))) 9 (k * 5 + 2) = s_as φ k 2 := by have q := s_F_a F4 (i := k) (p := 2) k0 (by rw [s_set_ne (by omega), s_aw_ne (by omega), s_aw_ne (by omega), s_set_ne (by omega)]; exact k1) (by decide) (by decide); rw [show 5 * k + 2 = k * 5 + 2 by omega] at q; rw [q]; show (s_set (s_aw (s_aw (s_set φ (s_ri φ b) (φ (s_ri φ b) + s_tu1 φ b k)) (15 + 4 * s_bd φ b 4 + 3) (-(s_tu1 φ b k * s_as φ k 3))) (15 + 4 * s_bd φ b 0 + 3) (s_tu1 φ b k * s_as φ k 3)) (439 + 5 * b + 2) (s_bd φ b 2 - s_tu1 φ b k)) (399 + 4 * k + 2) = _; rw [s_set_ne (by omega), s_aw_ne (by omega), s_aw_ne (by omega), s_set_ne (by omega)]; rfl
  refine q_aloadn (pc' := 172) 6 dX3_trade_171 rfl rfl ?_
  refine p_getR (pc' := 175) (f := 1) dX3_trade_172 rfl fX3_9 kc19 rfl ?_
  refine p_getR (pc' := 178) (f := 8) dX3_trade_175 rfl fX3_28 kc1 rfl ?_
  refine q_iloadn (pc' := 179) 8 dX3_trade_178 rfl rfl ?_
  refine q_iload (pc' := 181) 1 dX3_trade_179 rfl rfl ?_
  refine q_callVV (pc' := 184) dX3_trade_181 rfl lX3_92 iX4_take kc8 rfl (c_X4_take s_cO8 (by omega) (by omega) (show q_rg ((q_up (q_up (q_up (q_up S 7 (s_ri φ b - 39) ((φ (s_ri φ b)) + (s_tu1 φ b k))) 5 (s_bd φ b 4) (s_wr (s_pt (s_set φ (s_ri φ b) (φ (s_ri φ b) + s_tu1 φ b k)) (s_bd φ b 4) 3 + -(s_tu1 φ b k * s_as φ k 3)))) 5 (s_bd φ b 0) (s_wr (s_pt (s_aw (s_set φ (s_ri φ b) (φ (s_ri φ b) + s_tu1 φ b k)) (15 + 4 * s_bd φ b 4 + 3) (-(s_tu1 φ b k * s_as φ k 3))) (s_bd φ b 0) 3 + (s_tu1 φ b k * s_as φ k 3)))) 12 (b * 5 + 2) ((q_up (q_up (q_up S 7 (s_ri φ b - 39) ((φ (s_ri φ b)) + (s_tu1 φ b k))) 5 (s_bd φ b 4) (s_wr (s_pt (s_set φ (s_ri φ b) (φ (s_ri φ b) + s_tu1 φ b k)) (s_bd φ b 4) 3 + -(s_tu1 φ b k * s_as φ k 3)))) 5 (s_bd φ b 0) (s_wr (s_pt (s_aw (s_set φ (s_ri φ b) (φ (s_ri φ b) + s_tu1 φ b k)) (15 + 4 * s_bd φ b 4 + 3) (-(s_tu1 φ b k * s_as φ k 3))) (s_bd φ b 0) 3 + (s_tu1 φ b k * s_as φ k 3)))) 12 (b * 5 + 2) - (s_tu1 φ b k))) 9 (k * 5 + 2) - s_tu1 φ b k) from by rw [hq181]; exact ⟨by omega, by omega⟩)) rfl rfl (Nat.le_of_ble_eq_true rfl) (Nat.le_of_ble_eq_true rfl) (Nat.le_of_ble_eq_true rfl) ?_
  have F5 : s_F ((q_up (q_up (q_up (q_up (q_up S 7 (s_ri φ b - 39) ((φ (s_ri φ b)) + (s_tu1 φ b k))) 5 (s_bd φ b 4) (s_wr (s_pt (s_set φ (s_ri φ b) (φ (s_ri φ b) + s_tu1 φ b k)) (s_bd φ b 4) 3 + -(s_tu1 φ b k * s_as φ k 3)))) 5 (s_bd φ b 0) (s_wr (s_pt (s_aw (s_set φ (s_ri φ b) (φ (s_ri φ b) + s_tu1 φ b k)) (15 + 4 * s_bd φ b 4 + 3) (-(s_tu1 φ b k * s_as φ k 3))) (s_bd φ b 0) 3 + (s_tu1 φ b k * s_as φ k 3)))) 12 (b * 5 + 2) ((q_up (q_up (q_up S 7 (s_ri φ b - 39) ((φ (s_ri φ b)) + (s_tu1 φ b k))) 5 (s_bd φ b 4) (s_wr (s_pt (s_set φ (s_ri φ b) (φ (s_ri φ b) + s_tu1 φ b k)) (s_bd φ b 4) 3 + -(s_tu1 φ b k * s_as φ k 3)))) 5 (s_bd φ b 0) (s_wr (s_pt (s_aw (s_set φ (s_ri φ b) (φ (s_ri φ b) + s_tu1 φ b k)) (15 + 4 * s_bd φ b 4 + 3) (-(s_tu1 φ b k * s_as φ k 3))) (s_bd φ b 0) 3 + (s_tu1 φ b k * s_as φ k 3)))) 12 (b * 5 + 2) - (s_tu1 φ b k))) 9 (k * 5 + 2) ((q_up (q_up (q_up (q_up S 7 (s_ri φ b - 39) ((φ (s_ri φ b)) + (s_tu1 φ b k))) 5 (s_bd φ b 4) (s_wr (s_pt (s_set φ (s_ri φ b) (φ (s_ri φ b) + s_tu1 φ b k)) (s_bd φ b 4) 3 + -(s_tu1 φ b k * s_as φ k 3)))) 5 (s_bd φ b 0) (s_wr (s_pt (s_aw (s_set φ (s_ri φ b) (φ (s_ri φ b) + s_tu1 φ b k)) (15 + 4 * s_bd φ b 4 + 3) (-(s_tu1 φ b k * s_as φ k 3))) (s_bd φ b 0) 3 + (s_tu1 φ b k * s_as φ k 3)))) 12 (b * 5 + 2) ((q_up (q_up (q_up S 7 (s_ri φ b - 39) ((φ (s_ri φ b)) + (s_tu1 φ b k))) 5 (s_bd φ b 4) (s_wr (s_pt (s_set φ (s_ri φ b) (φ (s_ri φ b) + s_tu1 φ b k)) (s_bd φ b 4) 3 + -(s_tu1 φ b k * s_as φ k 3)))) 5 (s_bd φ b 0) (s_wr (s_pt (s_aw (s_set φ (s_ri φ b) (φ (s_ri φ b) + s_tu1 φ b k)) (15 + 4 * s_bd φ b 4 + 3) (-(s_tu1 φ b k * s_as φ k 3))) (s_bd φ b 0) 3 + (s_tu1 φ b k * s_as φ k 3)))) 12 (b * 5 + 2) - (s_tu1 φ b k))) 9 (k * 5 + 2) - (s_tu1 φ b k)))) 1 (s_set (s_set (s_aw (s_aw (s_set φ (s_ri φ b) (φ (s_ri φ b) + s_tu1 φ b k)) (15 + 4 * s_bd φ b 4 + 3) (-(s_tu1 φ b k * s_as φ k 3))) (15 + 4 * s_bd φ b 0 + 3) (s_tu1 φ b k * s_as φ k 3)) (439 + 5 * b + 2) (s_bd φ b 2 - s_tu1 φ b k)) (399 + 4 * k + 2) (s_as φ k 2 - s_tu1 φ b k)) := by rw [hq181]; exact s_F_au F4 k0 (by omega) z4.1 z4.2
  rw [s_tr1_e ok b0 (by omega) k0 (by omega) hu.1 hu.2.1 hu.2.2.1] at F5
  refine q_iload (pc' := 186) 1 dX3_trade_184 rfl rfl ?_
  exact q_iret dX3_trade_186 rfl rfl ⟨rfl, _, rfl, F5, (by (repeat (refine s_offT_u ?_ (by decide) (by decide) (by decide) (by decide))); exact s_offT_r)⟩
set_option maxRecDepth 20000 in
set_option maxHeartbeats 4000000 in
theorem c_X3_serve {Γ : q_G} {S : q_S} {φ : Int → Int} {b : Int} (FF : s_F S 1 φ) (ok : s_ok φ) (b0 : 0 ≤ b) (b1 : b < φ 4) (HT : s_so (fun k => s_as φ k 3) (S 10) (φ 3)) : q_Sp Γ mX3_serve 2 0 0 [q_r Γ 19, q_i b] (KC, S) (fun v w => v = some (q_i (s_tbV φ b)) ∧ ∃ S2, w = (KC, S2) ∧ s_F S2 1 (s_tbP φ b) ∧ s_offT S S2) := by
  show q_Go Γ mX3_serve 2 0 0 0 [(0, q_r Γ 19), (1, q_i b)] [] (KC, S) (fun v w => v = some (q_i (s_tbV φ b)) ∧ ∃ S2, w = (KC, S2) ∧ s_F S2 1 (s_tbP φ b) ∧ s_offT S S2)
  have rw0 := s_rows_b ok
  have c3 := ok.2.2.1
  have c4 := ok.2.2.2.1
  have hri := s_ri_b ok b0 (show b < 10 by omega)
  refine q_iconst (pc' := 1) dX3_serve_0 rfl ?_
  refine q_istoren (pc' := 2) (L' := [(2, q_i 0), (0, q_r Γ 19), (1, q_i b)]) dX3_serve_1 rfl rfl (by decide) rfl ?_
  refine q_iconst (pc' := 3) dX3_serve_2 rfl ?_
  refine q_istoren (pc' := 4) (L' := [(3, q_i 0), (2, q_i 0), (0, q_r Γ 19), (1, q_i b)]) dX3_serve_3 rfl rfl (by decide) rfl ?_
  have qlp_4 : ∀ (qn_4 : Nat) (S2 : q_S) (x : (Int → Int) × Int × Int) (i : Int), (0 ≤ i) → (i ≤ φ 3) → (s_F S2 1 (s_cur φ b x)) → (s_offT S S2) → (s_tbI φ b x (S 10) i) → ((10 - i).toNat) = qn_4 → q_Go Γ mX3_serve 2 0 0 4 [(0, q_r Γ 19), (1, q_i b), (2, q_i x.2.2), (3, q_i i)] [] (KC, S2) (fun v w => v = some (q_i (s_tbV φ b)) ∧ ∃ S2, w = (KC, S2) ∧ s_F S2 1 (s_tbP φ b) ∧ s_offT S S2) := by
    intro qn_4
    induction qn_4 using Nat.strongRecOn with
    | ind qn_4 qih_4 =>
      intro S2 x i qa_4_0 qa_4_1 qa_4_2 qa_4_3 qa_4_4 qhn_4
      subst qhn_4
      have okc := s_cur_ok qa_4_4 ok b0 (show b < 10 by omega)
      refine p_rng (fun hrg => ?_)
      have hpp : ∀ r, 0 ≤ r → r < 6 → q_rg (s_pt x.1 r 3) := fun r y0 y1 => by have q := s_F_5 qa_4_2 y0 y1; have e : s_pt (s_cur φ b x) r 3 = s_pt x.1 r 3 := s_set_ne (by omega); rw [← e, ← q]; exact hrg 5 r
      refine q_iloadn (pc' := 5) 3 dX3_serve_4 rfl rfl ?_
      refine q_aloadn (pc' := 6) 0 dX3_serve_5 rfl rfl ?_
      refine p_getR (pc' := 9) (f := 1) dX3_serve_6 rfl fX3_9 kc19 rfl ?_
      refine p_getR (pc' := 12) (f := 8) dX3_serve_9 rfl fX3_28 kc1 rfl ?_
      refine p_getJ (pc' := 15) (kz := 0) dX3_serve_12 rfl fX3_49 kc8 rfl rfl (fun qy_12 eqy_12 rqy_12 => ?_)
      have e12 : qy_12 = φ 3 := by rw [eqy_12, s_F_an qa_4_2]; exact okc.2.1 3 (by decide)
      rw [e12]
      refine q_icmp_ge (tgt := 58) (pc' := 18) dX3_serve_15 rfl rfl (by first | assumption | exact s_cO8 | exact s_cO11 | omega) (by first | assumption | exact s_cO8 | exact s_cO11 | omega) (fun qc_15 => ?_) (fun qc_15 => ?_)
      · have he := s_tbI_e qa_4_4 b0 (show b < 10 by omega) HT c3.2 (by omega)
        refine q_iloadn (pc' := 59) 2 dX3_serve_58 rfl rfl ?_
        exact q_iret dX3_serve_59 rfl rfl ⟨congrArg (fun z => some (q_i z)) (by unfold s_tbV; rw [he]), _, rfl, (by rw [← s_tbP_cur he]; exact qa_4_2), qa_4_3⟩
      · refine q_aloadn (pc' := 19) 0 dX3_serve_18 rfl rfl ?_
        refine p_getR (pc' := 22) (f := 1) dX3_serve_19 rfl fX3_9 kc19 rfl ?_
        refine p_getR (pc' := 25) (f := 8) dX3_serve_22 rfl fX3_28 kc1 rfl ?_
        refine p_getR (pc' := 28) (f := 10) dX3_serve_25 rfl fX3_53 kc8 rfl ?_
        refine q_iloadn (pc' := 29) 3 dX3_serve_28 rfl rfl ?_
        refine p_iald (pc' := 30) dX3_serve_29 rfl kc10 (by first | assumption | exact s_cO8 | exact s_cO11 | omega) (by first | assumption | exact s_cO8 | exact s_cO11 | omega) (by decide) (fun qy_29 eqy_29 rqy_29 => ?_)
        have e29 : qy_29 = S 10 i := by rw [eqy_29, qa_4_3.2.1]
        rw [e29]
        have t10 := HT.1 i (by omega) (by omega)
        refine q_istore (pc' := 32) (L' := [(4, q_i (S 10 i)), (0, q_r Γ 19), (1, q_i b), (2, q_i (x.2.2)), (3, q_i i)]) dX3_serve_30 rfl (by decide) rfl ?_
        refine q_aloadn (pc' := 33) 1 dX3_serve_32 rfl rfl ?_
        refine q_iloadn (pc' := 34) 2 dX3_serve_33 rfl rfl ?_
        refine q_iload (pc' := 36) 0 dX3_serve_34 rfl rfl ?_
        refine q_callVI (pc' := 39) dX3_serve_36 rfl lX3_67 iX3_suits kc19 rfl (c_X3_suits qa_4_2 okc.1 b0 (by rw [okc.2.1 4 (by decide)]; exact b1) t10.1 (by rw [okc.2.1 3 (by decide)]; exact t10.2)) rfl rfl (Nat.le_of_ble_eq_true rfl) (Nat.le_of_ble_eq_true rfl) (Nat.le_of_ble_eq_true rfl) ?_
        refine q_if_eq_B (tgt := 52) (pc' := 42) dX3_serve_39 rfl rfl (fun qc_39 => ?_) (fun qc_39 => ?_)
        · refine q_iinc (pc' := 55) 4 (L' := [(3, q_i (i + 1)), (4, q_i (S 10 i)), (0, q_r Γ 19), (1, q_i b), (2, q_i (x.2.2))]) dX3_serve_52 rfl rfl (by decide) rfl ?_
          refine q_goto (pc' := 4) dX3_serve_55 rfl ?_
          refine p_sub [2, 3, 4, 0] rfl ?_
          exact qih_4 _ (by omega) _ x _ (by first | assumption | exact s_cO8 | exact s_cO11 | omega) (by first | assumption | exact s_cO8 | exact s_cO11 | omega) (by first | exact qF2 | assumption) (by first | exact s_offT_t qa_4_3 qo47 | assumption) (by first | exact s_tbI_t qa_4_4 hpp b0 (by omega) HT c3.2 (by omega) (by omega) hs40 rfl | exact s_tbI_n qa_4_4 (fun q => qc_39 ((s_sui_sam okc.2 b0 (by omega) t10.1 (by omega)).mpr q))) rfl
        · have hs39 := qc_39
          have hs40 := (s_sui_sam okc.2 b0 (show b < 10 by omega) t10.1 (show S 10 i < 10 by omega)).mp hs39
          have hq47 := s_tr1_cur (k := S 10 i) qa_4_4 ok b0 (show b < 10 by omega) t10.1 (by omega)
          refine q_iloadn (pc' := 43) 3 dX3_serve_42 rfl rfl ?_
          refine q_aloadn (pc' := 44) 1 dX3_serve_43 rfl rfl ?_
          refine q_iloadn (pc' := 45) 2 dX3_serve_44 rfl rfl ?_
          refine q_iload (pc' := 47) 0 dX3_serve_45 rfl rfl ?_
          refine q_callVQ (pc' := 50) dX3_serve_47 rfl lX3_70 iX3_trade kc19 rfl (c_X3_trade qa_4_2 okc.1 b0 (by rw [okc.2.1 4 (by decide)]; exact b1) t10.1 (by rw [okc.2.1 3 (by decide)]; exact t10.2) hs39) rfl rfl (Nat.le_of_ble_eq_true rfl) (Nat.le_of_ble_eq_true rfl) (Nat.le_of_ble_eq_true rfl) (fun vq wq hq => ?_)
          obtain ⟨rfl, qS47, rfl, qF47, qo47⟩ := hq
          show q_Go Γ mX3_serve 2 0 0 50 [(4, q_i (S 10 i)), (0, q_r Γ 19), (1, q_i b), (2, q_i (x.2.2)), (3, q_i i)] [q_i (s_tu1 (s_cur φ b x) b (S 10 i)), q_i (x.2.2)] (KC, qS47) (fun v w => v = some (q_i (s_tbV φ b)) ∧ ∃ S2, w = (KC, S2) ∧ s_F S2 1 (s_tbP φ b) ∧ s_offT S S2)
          rw [hq47.1]
          have qF2 : s_F qS47 1 (s_cur φ b (s_x1 x b (S 10 i) (min (min (s_bd x.1 b 2) (s_as x.1 (S 10 i) 2)) x.2.1))) := by rw [← hq47.2]; exact qF47
          refine q_iadd (pc' := 51) dX3_serve_50 rfl ?_
          refine q_istoren (pc' := 52) (L' := [(2, q_i ((x.2.2) + (min (min (s_bd x.1 b 2) (s_as x.1 (S 10 i) 2)) x.2.1))), (4, q_i (S 10 i)), (0, q_r Γ 19), (1, q_i b), (3, q_i i)]) dX3_serve_51 rfl rfl (by decide) rfl ?_
          refine q_iinc (pc' := 55) 4 (L' := [(3, q_i (i + 1)), (2, q_i ((x.2.2) + (min (min (s_bd x.1 b 2) (s_as x.1 (S 10 i) 2)) x.2.1))), (4, q_i (S 10 i)), (0, q_r Γ 19), (1, q_i b)]) dX3_serve_52 rfl rfl (by decide) rfl ?_
          refine q_goto (pc' := 4) dX3_serve_55 rfl ?_
          refine p_sub [3, 4, 1, 0] rfl ?_
          exact qih_4 _ (by omega) _ (s_x1 x b (S 10 i) (min (min (s_bd x.1 b 2) (s_as x.1 (S 10 i) 2)) x.2.1)) _ (by first | assumption | exact s_cO8 | exact s_cO11 | omega) (by first | assumption | exact s_cO8 | exact s_cO11 | omega) (by first | exact qF2 | assumption) (by first | exact s_offT_t qa_4_3 qo47 | assumption) (by first | exact s_tbI_t qa_4_4 hpp b0 (by omega) HT c3.2 (by omega) (by omega) hs40 rfl | exact s_tbI_n qa_4_4 (fun q => qc_39 ((s_sui_sam okc.2 b0 (by omega) t10.1 (by omega)).mpr q))) rfl
  refine p_sub [2, 3, 1, 0] rfl ?_
  exact qlp_4 _ _ (s_x0 φ b) _ (by first | assumption | exact s_cO8 | exact s_cO11 | omega) (by first | assumption | exact s_cO8 | exact s_cO11 | omega) (by rw [s_cur_0]; exact FF) (by exact s_offT_r) (by exact s_tbI_0 ok b0 (by omega) _) rfl
set_option maxRecDepth 20000 in
set_option maxHeartbeats 4000000 in
theorem c_X3_tradeAll {Γ : q_G} {S : q_S} {φ : Int → Int}  (FF : s_F S 1 φ) (ok : s_ok φ) : q_Sp Γ mX3_tradeAll 3 0 0 [q_r Γ 19] (KC, S) (fun v w => v = some (q_i (s_matV φ)) ∧ ∃ S2, w = (KC, S2) ∧ s_F S2 1 (s_matP φ) ∧ s_offF S S2) := by
  show q_Go Γ mX3_tradeAll 3 0 0 0 [(0, q_r Γ 19)] [] (KC, S) (fun v w => v = some (q_i (s_matV φ)) ∧ ∃ S2, w = (KC, S2) ∧ s_F S2 1 (s_matP φ) ∧ s_offF S S2)
  have rw0 := s_rows_b ok
  have c3 := ok.2.2.1
  have c4 := ok.2.2.2.1
  have HPb : ∀ k, 0 ≤ k → k < S 11 0 → 0 ≤ S 12 (5 * k + 3) ∧ S 12 (5 * k + 3) ≤ 999 := fun k k0 k1 => by rw [s_F_bn FF] at k1; rw [s_F_b FF k0 k1 (by decide) (by decide)]; have q := s_bd_b ok k0 (show k < 10 by omega); omega
  have HPa : ∀ k, 0 ≤ k → k < S 8 0 → 0 ≤ S 9 (5 * k + 3) ∧ S 9 (5 * k + 3) ≤ 999 := fun k k0 k1 => by rw [s_F_an FF] at k1; rw [s_F_a FF k0 k1 (by decide) (by decide)]; have q := s_as_b ok k0 (show k < 10 by omega); omega
  refine q_aloadn (pc' := 1) 0 dX3_tradeAll_0 rfl rfl ?_
  refine p_getR (pc' := 4) (f := 1) dX3_tradeAll_1 rfl fX3_9 kc19 rfl ?_
  refine p_getR (pc' := 7) (f := 11) dX3_tradeAll_4 rfl fX3_38 kc1 rfl ?_
  refine q_astoren (pc' := 8) (L' := [(1, q_r Γ 11), (0, q_r Γ 19)]) dX3_tradeAll_7 rfl rfl (by decide) rfl ?_
  refine q_aloadn (pc' := 9) 0 dX3_tradeAll_8 rfl rfl ?_
  refine q_iconst (pc' := 10) dX3_tradeAll_9 rfl ?_
  refine q_callVQ (pc' := 13) dX3_tradeAll_10 rfl lX3_45 iX4_sortByPrice kc11 rfl (c_X4_sortByPrice s_cO11 (by rw [s_F_bn FF]; omega) (by rw [s_F_bn FF]; omega) (Or.inr rfl) HPb) rfl rfl (Nat.le_of_ble_eq_true rfl) (Nat.le_of_ble_eq_true rfl) (Nat.le_of_ble_eq_true rfl) (fun vq wq hq => ?_)
  obtain ⟨rfl, qS10, rfl, qo10, qso10⟩ := hq
  show q_Go Γ mX3_tradeAll 3 0 0 13 [(1, q_r Γ 11), (0, q_r Γ 19)] [] (KC, qS10) (fun v w => v = some (q_i (s_matV φ)) ∧ ∃ S2, w = (KC, S2) ∧ s_F S2 1 (s_matP φ) ∧ s_offF S S2)
  have qF10 : s_F qS10 1 φ := s_F_o FF (fun a h1 h2 h3 => qo10 a (by omega))
  have HB : s_so (fun k => -s_bd φ k 3) (qS10 13) (φ 4) := by have q := qso10; rw [s_F_bn FF] at q; exact s_so_V q (fun k k0 k1 => by show -s_bd φ k 3 = -1 * S 12 (5 * k + 3); rw [s_F_b FF k0 k1 (by decide) (by decide)]; omega)
  have HPa2 : ∀ k, 0 ≤ k → k < qS10 8 0 → 0 ≤ qS10 9 (5 * k + 3) ∧ qS10 9 (5 * k + 3) ≤ 999 := by rw [qo10 8 (by decide), qo10 9 (by decide)]; exact HPa
  refine q_aloadn (pc' := 14) 1 dX3_tradeAll_13 rfl rfl ?_
  refine p_getR (pc' := 17) (f := 1) dX3_tradeAll_14 rfl fX3_9 kc19 rfl ?_
  refine p_getR (pc' := 20) (f := 8) dX3_tradeAll_17 rfl fX3_28 kc1 rfl ?_
  refine q_iconst (pc' := 21) dX3_tradeAll_20 rfl ?_
  refine q_callVQ (pc' := 24) dX3_tradeAll_21 rfl lX3_45 iX4_sortByPrice kc8 rfl (c_X4_sortByPrice s_cO8 (by rw [qo10 8 (by decide), s_F_an FF]; omega) (by rw [qo10 8 (by decide), s_F_an FF]; omega) (Or.inl rfl) HPa2) rfl rfl (Nat.le_of_ble_eq_true rfl) (Nat.le_of_ble_eq_true rfl) (Nat.le_of_ble_eq_true rfl) (fun vq wq hq => ?_)
  obtain ⟨rfl, qS21, rfl, qo21, qso21⟩ := hq
  show q_Go Γ mX3_tradeAll 3 0 0 24 [(1, q_r Γ 11), (0, q_r Γ 19)] [] (KC, qS21) (fun v w => v = some (q_i (s_matV φ)) ∧ ∃ S2, w = (KC, S2) ∧ s_F S2 1 (s_matP φ) ∧ s_offF S S2)
  have qF21 : s_F qS21 1 φ := s_F_o qF10 (fun a h1 h2 h3 => qo21 a (by omega))
  have HA : s_so (fun k => s_as φ k 3) (qS21 10) (φ 3) := by have q := qso21; rw [s_F_an qF10] at q; exact s_so_V q (fun k k0 k1 => by show s_as φ k 3 = 1 * qS10 9 (5 * k + 3); rw [s_F_a qF10 k0 k1 (by decide) (by decide)]; omega)
  refine q_iconst (pc' := 25) dX3_tradeAll_24 rfl ?_
  refine q_istoren (pc' := 26) (L' := [(2, q_i 0), (1, q_r Γ 11), (0, q_r Γ 19)]) dX3_tradeAll_25 rfl rfl (by decide) rfl ?_
  refine q_iconst (pc' := 27) dX3_tradeAll_26 rfl ?_
  refine q_istoren (pc' := 28) (L' := [(3, q_i 0), (2, q_i 0), (1, q_r Γ 11), (0, q_r Γ 19)]) dX3_tradeAll_27 rfl rfl (by decide) rfl ?_
  have qlp_28 : ∀ (qn_28 : Nat) (S2 : q_S) (ps : Int → Int) (i u : Int), (0 ≤ i) → (i ≤ φ 4) → (s_F S2 1 ps) → (s_ok ps) → (s_sam φ ps) → (s_mtP (φ, 0) i.toNat = (ps, u)) → (S2 10 = qS21 10) → (S2 13 = qS10 13) → (s_offF S S2) → ((10 - i).toNat) = qn_28 → q_Go Γ mX3_tradeAll 3 0 0 28 [(0, q_r Γ 19), (1, q_r Γ 11), (2, q_i u), (3, q_i i)] [] (KC, S2) (fun v w => v = some (q_i (s_matV φ)) ∧ ∃ S2, w = (KC, S2) ∧ s_F S2 1 (s_matP φ) ∧ s_offF S S2) := by
    intro qn_28
    induction qn_28 using Nat.strongRecOn with
    | ind qn_28 qih_28 =>
      intro S2 ps i u qa_28_0 qa_28_1 qa_28_2 qa_28_3 qa_28_4 qa_28_5 qa_28_6 qa_28_7 qa_28_8 qhn_28
      subst qhn_28
      have p3 := qa_28_3.2.2.1
      have p4 := qa_28_3.2.2.2.1
      refine q_iloadn (pc' := 29) 3 dX3_tradeAll_28 rfl rfl ?_
      refine q_aloadn (pc' := 30) 1 dX3_tradeAll_29 rfl rfl ?_
      refine p_getJ (pc' := 33) (kz := 0) dX3_tradeAll_30 rfl fX3_49 kc11 rfl rfl (fun qy_30 eqy_30 rqy_30 => ?_)
      have e30 : qy_30 = φ 4 := by rw [eqy_30, s_F_bn qa_28_2]; exact qa_28_4.1 4 (by decide)
      rw [e30]
      refine q_icmp_ge (tgt := 55) (pc' := 36) dX3_tradeAll_33 rfl rfl (by first | assumption | exact s_cO8 | exact s_cO11 | omega) (by first | assumption | exact s_cO8 | exact s_cO11 | omega) (fun qc_33 => ?_) (fun qc_33 => ?_)
      · refine q_aloadn (pc' := 56) 1 dX3_tradeAll_55 rfl rfl ?_
        refine q_callVV (pc' := 59) dX3_tradeAll_56 rfl lX3_61 iX4_removeEmpty kc11 rfl (c_X4_removeEmpty s_cO11 (by rw [s_F_bn qa_28_2]; omega) (by rw [s_F_bn qa_28_2]; omega)) rfl rfl (Nat.le_of_ble_eq_true rfl) (Nat.le_of_ble_eq_true rfl) (Nat.le_of_ble_eq_true rfl) ?_
        have F5 := s_F_mB qa_28_2 ok qa_28_3 qa_28_4 (show s_mtP (φ, 0) (φ 4).toNat = (ps, u) by rw [show φ 4 = i by omega]; exact qa_28_5)
        have p5 := F5.2.2.2.1
        refine q_aloadn (pc' := 60) 0 dX3_tradeAll_59 rfl rfl ?_
        refine p_getR (pc' := 63) (f := 1) dX3_tradeAll_60 rfl fX3_9 kc19 rfl ?_
        refine p_getR (pc' := 66) (f := 8) dX3_tradeAll_63 rfl fX3_28 kc1 rfl ?_
        refine q_callVV (pc' := 69) dX3_tradeAll_66 rfl lX3_61 iX4_removeEmpty kc8 rfl (c_X4_removeEmpty s_cO8 (by rw [s_F_an F5.1]; omega) (by rw [s_F_an F5.1]; omega)) rfl rfl (Nat.le_of_ble_eq_true rfl) (Nat.le_of_ble_eq_true rfl) (Nat.le_of_ble_eq_true rfl) ?_
        have F6 := s_F_mA F5.1 F5.2
        have p6 := F6.2.2.2.1
        have p7 := F6.2.2.2.2.1
        have eV : s_matV φ = u := by unfold s_matV; rw [show φ 4 = i by omega, qa_28_5]
        refine q_aloadn (pc' := 70) 0 dX3_tradeAll_69 rfl rfl ?_
        refine p_getR (pc' := 73) (f := 1) dX3_tradeAll_70 rfl fX3_9 kc19 rfl ?_
        refine q_dup (pc' := 74) dX3_tradeAll_73 rfl rfl ?_
        refine p_getJ (pc' := 77) (kz := 10) dX3_tradeAll_74 rfl fX3_64 kc1 rfl rfl (fun qy_74 eqy_74 rqy_74 => ?_)
        have e74 : qy_74 = s_matA φ 2 := eqy_74.trans (s_F_10 F6.1)
        rw [e74]
        refine q_iloadn (pc' := 78) 2 dX3_tradeAll_77 rfl rfl ?_
        refine q_iadd (pc' := 79) dX3_tradeAll_78 rfl ?_
        refine p_wr (fun r79 => ?_)
        refine p_putJ (pc' := 82) (kz := 10) dX3_tradeAll_79 rfl fX3_64 kc1 rfl rfl (rfl) (rfl) (by first | assumption | exact s_cO8 | exact s_cO11 | omega) ?_
        have F7 := s_F_td (r := 0) (u := s_wr (s_matA φ 2 + u)) F6.1 (by omega) (by omega)
        refine q_iloadn (pc' := 83) 2 dX3_tradeAll_82 rfl rfl ?_
        exact q_iret dX3_tradeAll_83 rfl rfl ⟨congrArg (fun z => some (q_i z)) eV.symm, _, rfl, (by unfold s_matP s_aw; rw [eV]; exact F7), s_offF_u (s_offF_t (s_offF_t qa_28_8 (s_offF_re (by decide) _ _)) (s_offF_re (by decide) _ _)) (by decide) (by decide)⟩
      · refine q_iloadn (pc' := 37) 2 dX3_tradeAll_36 rfl rfl ?_
        refine q_aloadn (pc' := 38) 0 dX3_tradeAll_37 rfl rfl ?_
        refine q_aloadn (pc' := 39) 1 dX3_tradeAll_38 rfl rfl ?_
        refine p_getR (pc' := 42) (f := 13) dX3_tradeAll_39 rfl fX3_53 kc11 rfl ?_
        refine q_iloadn (pc' := 43) 3 dX3_tradeAll_42 rfl rfl ?_
        refine p_iald (pc' := 44) dX3_tradeAll_43 rfl kc13 (by first | assumption | exact s_cO8 | exact s_cO11 | omega) (by first | assumption | exact s_cO8 | exact s_cO11 | omega) (by decide) (fun qy_43 eqy_43 rqy_43 => ?_)
        have e43 : qy_43 = qS10 13 i := by rw [eqy_43, qa_28_7]
        rw [e43]
        have t13 := HB.1 i (by omega) (by omega)
        refine q_callVQ (pc' := 47) dX3_tradeAll_44 rfl lX3_57 iX3_serve kc19 rfl (c_X3_serve qa_28_2 qa_28_3 t13.1 (by rw [qa_28_4.1 4 (by decide)]; exact t13.2) (by rw [qa_28_6]; exact s_so_sam qa_28_4 c3.2 HA)) rfl rfl (Nat.le_of_ble_eq_true rfl) (Nat.le_of_ble_eq_true rfl) (Nat.le_of_ble_eq_true rfl) (fun vq wq hq => ?_)
        obtain ⟨rfl, qS44, rfl, qF44, qo44⟩ := hq
        show q_Go Γ mX3_tradeAll 3 0 0 47 [(0, q_r Γ 19), (1, q_r Γ 11), (2, q_i u), (3, q_i i)] [q_i (s_tbV ps (qS10 13 i)), q_i u] (KC, qS44) (fun v w => v = some (q_i (s_matV φ)) ∧ ∃ S2, w = (KC, S2) ∧ s_F S2 1 (s_matP φ) ∧ s_offF S S2)
        refine q_iadd (pc' := 48) dX3_tradeAll_47 rfl ?_
        refine q_istoren (pc' := 49) (L' := [(2, q_i (u + (s_tbV ps (qS10 13 i)))), (0, q_r Γ 19), (1, q_r Γ 11), (3, q_i i)]) dX3_tradeAll_48 rfl rfl (by decide) rfl ?_
        refine q_iinc (pc' := 52) 3 (L' := [(3, q_i (i + 1)), (2, q_i (u + (s_tbV ps (qS10 13 i)))), (0, q_r Γ 19), (1, q_r Γ 11)]) dX3_tradeAll_49 rfl rfl (by decide) rfl ?_
        refine q_goto (pc' := 28) dX3_tradeAll_52 rfl ?_
        refine p_sub [2, 3, 1, 0] rfl ?_
        exact qih_28 _ (by omega) _ (s_tbP ps (qS10 13 i)) _ _ (by first | assumption | exact s_cO8 | exact s_cO11 | omega) (by first | assumption | exact s_cO8 | exact s_cO11 | omega) (by exact qF44) (by exact (s_tbP_k qa_28_3 t13.1 (by omega)).1) (by exact s_sam_t qa_28_4 (s_tbP_sam qa_28_3 t13.1 (by omega))) (by exact s_mtP_1 ok qa_28_5 qa_28_3 qa_28_4 HB (by omega) (by omega)) (by exact qo44.2.1.trans qa_28_6) (by exact qo44.2.2.trans qa_28_7) (by exact s_offF_t qa_28_8 qo44.1) rfl
  refine p_sub [3, 2, 1, 0] rfl ?_
  exact qlp_28 _ _ φ _ _ (by first | assumption | exact s_cO8 | exact s_cO11 | omega) (by first | assumption | exact s_cO8 | exact s_cO11 | omega) (by exact qF21) (by exact ok) (by exact s_sam_r) (by rfl) (by rfl) (by exact qo21 13 (by decide)) (by exact fun a ha => (qo21 a (by omega)).trans (qo10 a (by omega))) rfl
