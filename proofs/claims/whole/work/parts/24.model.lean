set_option maxRecDepth 20000 in
set_option maxHeartbeats 4000000 in
theorem c_X9_findFault {Γ : q_G} {S : q_S} {P : Int → Int} {N : Int} (pd : s_pd S P) (hN : S 150 6 = N) : q_Sp Γ mX9_findFault 5 0 0 [q_r Γ 150] (KC, S) (fun v w => v = some (q_i (s_ff P N)) ∧ (s_ff P N = -6 ∨ (0 ≤ s_ff P N ∧ s_ff P N ≤ 80)) ∧ ∃ S2, w = (KC, S2) ∧ s_offP S S2) := by
  show q_Go Γ mX9_findFault 5 0 0 0 [(0, q_r Γ 150)] [] (KC, S) (fun v w => v = some (q_i (s_ff P N)) ∧ (s_ff P N = -6 ∨ (0 ≤ s_ff P N ∧ s_ff P N ≤ 80)) ∧ ∃ S2, w = (KC, S2) ∧ s_offP S S2)
  have pl := pd.1
  refine q_aloadn (pc' := 1) 0 dX9_findFault_0 rfl rfl ?_
  refine q_iconst (pc' := 2) dX9_findFault_1 rfl ?_
  refine p_putJ (pc' := 5) (kz := 10) dX9_findFault_2 rfl fX9_201 kc150 rfl rfl (rfl) (rfl) (by first | assumption | omega) ?_
  have qlp_5 : ∀ (qn_5 : Nat) (S2 : q_S) (z : Int) (n : Nat), (S2 150 10 = z) → (S2 150 6 = N) → (0 ≤ z ∧ z ≤ 80) → (s_pd S2 P) → (s_ffL P N n z = s_ff P N) → (81 ≤ z + n) → (s_offP S S2) → (n) = qn_5 → q_Go Γ mX9_findFault 5 0 0 5 [(0, q_r Γ 150)] [] (KC, S2) (fun v w => v = some (q_i (s_ff P N)) ∧ (s_ff P N = -6 ∨ (0 ≤ s_ff P N ∧ s_ff P N ≤ 80)) ∧ ∃ S2, w = (KC, S2) ∧ s_offP S S2) := by
    intro qn_5
    induction qn_5 using Nat.strongRecOn with
    | ind qn_5 qih_5 =>
      intro S2 z n qa_5_0 qa_5_1 qa_5_2 qa_5_3 qa_5_4 qa_5_5 qa_5_6 qhn_5
      subst qhn_5
      refine q_aloadn (pc' := 6) 0 dX9_findFault_5 rfl rfl ?_
      refine q_callVQ (pc' := 9) dX9_findFault_6 rfl lX9_238 iX9_readsOrder kc150 rfl (c_X9_readsOrder (z := z) (by first | assumption | (repeat (refine s_pd_u (by decide) ?_); assumption)) (by first | assumption | (simp [q_up]; done) | (simp [q_up]; assumption)) (by first | assumption | omega) (by first | assumption | omega)) rfl rfl (Nat.le_of_ble_eq_true rfl) (Nat.le_of_ble_eq_true rfl) (Nat.le_of_ble_eq_true rfl) (fun vq wq hq => ?_)
      rcases hq with ⟨rfl, qS6, rfl, qo6, qa6, qd6, qz6, qy6⟩ | ⟨rfl, qS6, rfl, qo6, qa6, qd6, qz6, qe6, qf6, qg6, qh6⟩
      · show q_Go Γ mX9_findFault 5 0 0 9 [(0, q_r Γ 150)] [q_i 0] (KC, qS6) (fun v w => v = some (q_i (s_ff P N)) ∧ (s_ff P N = -6 ∨ (0 ≤ s_ff P N ∧ s_ff P N ≤ 80)) ∧ ∃ S2, w = (KC, S2) ∧ s_offP S S2)
        have q66 : qS6 150 6 = N := (qo6.2 6 (Or.inl (by decide))).trans (by first | assumption | (simp [q_up]; done) | (simp [q_up]; assumption))
        have qp6 : s_pd qS6 P := s_pd_o qo6 (by first | assumption | (repeat (refine s_pd_u (by decide) ?_); assumption))
        refine q_if_ne (tgt := 17) (pc' := 12) dX9_findFault_9 rfl rfl (by decide) (fun qc_9 => absurd qc_9 (by decide)) (fun qc_9 => ?_)
        refine q_aloadn (pc' := 13) 0 dX9_findFault_12 rfl rfl ?_
        refine p_getJ (pc' := 16) (kz := 10) dX9_findFault_13 rfl fX9_201 kc150 rfl rfl (fun qy_13 eqy_13 rqy_13 => ?_)
        have vqy_13 : qy_13 = s_odAt P z := eqy_13.trans (by first | assumption | (simp [q_up]; done) | (simp [q_up]; assumption))
        rw [vqy_13]
        first | exact q_iret dX9_findFault_16 rfl rfl ⟨congrArg (fun v => some (q_i v)) (s_ffL_1 qa_5_4 (by omega) (by assumption)), by rw [← s_ffL_1 qa_5_4 (by omega) (by assumption)]; omega, _, rfl, (by first | assumption | ((repeat (refine s_offP_u ?_ (by decide) (by decide))); first | exact s_offP_r | assumption) | (refine s_offP_t ?_ (by assumption); (repeat (refine s_offP_u ?_ (by decide) (by decide))); first | exact s_offP_r | assumption))⟩ | exact q_iret dX9_findFault_16 rfl rfl ⟨congrArg (fun v => some (q_i v)) (s_ffL_2 qa_5_4 (by omega) (by assumption) (by omega)), by rw [← s_ffL_2 qa_5_4 (by omega) (by assumption) (by omega)]; omega, _, rfl, (by first | assumption | ((repeat (refine s_offP_u ?_ (by decide) (by decide))); first | exact s_offP_r | assumption) | (refine s_offP_t ?_ (by assumption); (repeat (refine s_offP_u ?_ (by decide) (by decide))); first | exact s_offP_r | assumption))⟩ | exact q_iret dX9_findFault_16 rfl rfl ⟨congrArg (fun v => some (q_i v)) (s_ffL_3 qa_5_4 (by omega) (by assumption) (by omega) (by assumption)), by rw [← s_ffL_3 qa_5_4 (by omega) (by assumption) (by omega) (by assumption)]; omega, _, rfl, (by first | assumption | ((repeat (refine s_offP_u ?_ (by decide) (by decide))); first | exact s_offP_r | assumption) | (refine s_offP_t ?_ (by assumption); (repeat (refine s_offP_u ?_ (by decide) (by decide))); first | exact s_offP_r | assumption))⟩
      · show q_Go Γ mX9_findFault 5 0 0 9 [(0, q_r Γ 150)] [q_i 1] (KC, qS6) (fun v w => v = some (q_i (s_ff P N)) ∧ (s_ff P N = -6 ∨ (0 ≤ s_ff P N ∧ s_ff P N ≤ 80)) ∧ ∃ S2, w = (KC, S2) ∧ s_offP S S2)
        have q66 : qS6 150 6 = N := (qo6.2 6 (Or.inl (by decide))).trans (by first | assumption | (simp [q_up]; done) | (simp [q_up]; assumption))
        have qp6 : s_pd qS6 P := s_pd_o qo6 (by first | assumption | (repeat (refine s_pd_u (by decide) ?_); assumption))
        refine q_if_ne (tgt := 17) (pc' := 12) dX9_findFault_9 rfl rfl (by decide) (fun qc_9_1 => ?_) (fun qc_9_1 => absurd qc_9_1 (by decide))
        refine q_aloadn (pc' := 18) 0 dX9_findFault_17 rfl rfl ?_
        refine p_getJ (pc' := 21) (kz := 10) dX9_findFault_18 rfl fX9_201 kc150 rfl rfl (fun qy_18 eqy_18 rqy_18 => ?_)
        have vqy_18 : qy_18 = s_odAt P z := eqy_18.trans (by first | assumption | (simp [q_up]; done) | (simp [q_up]; assumption))
        rw [vqy_18]
        refine q_aloadn (pc' := 22) 0 dX9_findFault_21 rfl rfl ?_
        refine p_getJ (pc' := 25) (kz := 6) dX9_findFault_22 rfl fX9_183 kc150 rfl rfl (fun qy_22 eqy_22 rqy_22 => ?_)
        have vqy_22 : qy_22 = N := eqy_22.trans (by first | assumption | (simp [q_up]; done) | (simp [q_up]; assumption))
        rw [vqy_22]
        refine q_icmp_ne (tgt := 31) (pc' := 28) dX9_findFault_25 rfl rfl (by first | assumption | omega) (by first | assumption | omega) (fun qc_25 => ?_) (fun qc_25 => ?_)
        · refine q_aloadn (pc' := 32) 0 dX9_findFault_31 rfl rfl ?_
          refine q_bipush (pc' := 34) dX9_findFault_32 rfl rfl ?_
          refine q_callVQ (pc' := 37) dX9_findFault_34 rfl lX9_210 iX9_takes kc150 rfl (c_X9_takes (z := s_odAt P z) (by first | assumption | (repeat (refine s_pd_u (by decide) ?_); assumption)) (by first | assumption | (simp [q_up]; done) | (simp [q_up]; assumption)) (by first | assumption | omega) (by first | assumption | omega) (by first | assumption | omega) (by first | assumption | omega)) rfl rfl (Nat.le_of_ble_eq_true rfl) (Nat.le_of_ble_eq_true rfl) (Nat.le_of_ble_eq_true rfl) (fun vq wq hq => ?_)
          rcases hq with ⟨rfl, rfl, qd34⟩ | ⟨rfl, rfl, qd34, qz34⟩
          · show q_Go Γ mX9_findFault 5 0 0 37 [(0, q_r Γ 150)] [q_i 0] (KC, qS6) (fun v w => v = some (q_i (s_ff P N)) ∧ (s_ff P N = -6 ∨ (0 ≤ s_ff P N ∧ s_ff P N ≤ 80)) ∧ ∃ S2, w = (KC, S2) ∧ s_offP S S2)
            refine q_if_ne (tgt := 5) (pc' := 40) dX9_findFault_37 rfl rfl (by decide) (fun qc_37 => absurd qc_37 (by decide)) (fun qc_37 => ?_)
            refine q_aloadn (pc' := 41) 0 dX9_findFault_40 rfl rfl ?_
            refine p_getJ (pc' := 44) (kz := 10) dX9_findFault_41 rfl fX9_201 kc150 rfl rfl (fun qy_41 eqy_41 rqy_41 => ?_)
            have vqy_41 : qy_41 = s_odAt P z := eqy_41.trans (by first | assumption | (simp [q_up]; done) | (simp [q_up]; assumption))
            rw [vqy_41]
            first | exact q_iret dX9_findFault_44 rfl rfl ⟨congrArg (fun v => some (q_i v)) (s_ffL_1 qa_5_4 (by omega) (by assumption)), by rw [← s_ffL_1 qa_5_4 (by omega) (by assumption)]; omega, _, rfl, (by first | assumption | ((repeat (refine s_offP_u ?_ (by decide) (by decide))); first | exact s_offP_r | assumption) | (refine s_offP_t ?_ (by assumption); (repeat (refine s_offP_u ?_ (by decide) (by decide))); first | exact s_offP_r | assumption))⟩ | exact q_iret dX9_findFault_44 rfl rfl ⟨congrArg (fun v => some (q_i v)) (s_ffL_2 qa_5_4 (by omega) (by assumption) (by omega)), by rw [← s_ffL_2 qa_5_4 (by omega) (by assumption) (by omega)]; omega, _, rfl, (by first | assumption | ((repeat (refine s_offP_u ?_ (by decide) (by decide))); first | exact s_offP_r | assumption) | (refine s_offP_t ?_ (by assumption); (repeat (refine s_offP_u ?_ (by decide) (by decide))); first | exact s_offP_r | assumption))⟩ | exact q_iret dX9_findFault_44 rfl rfl ⟨congrArg (fun v => some (q_i v)) (s_ffL_3 qa_5_4 (by omega) (by assumption) (by omega) (by assumption)), by rw [← s_ffL_3 qa_5_4 (by omega) (by assumption) (by omega) (by assumption)]; omega, _, rfl, (by first | assumption | ((repeat (refine s_offP_u ?_ (by decide) (by decide))); first | exact s_offP_r | assumption) | (refine s_offP_t ?_ (by assumption); (repeat (refine s_offP_u ?_ (by decide) (by decide))); first | exact s_offP_r | assumption))⟩
          · show q_Go Γ mX9_findFault 5 0 0 37 [(0, q_r Γ 150)] [q_i 1] (KC, q_up qS6 150 10 ((s_odAt P z) + 1)) (fun v w => v = some (q_i (s_ff P N)) ∧ (s_ff P N = -6 ∨ (0 ≤ s_ff P N ∧ s_ff P N ≤ 80)) ∧ ∃ S2, w = (KC, S2) ∧ s_offP S S2)
            refine q_if_ne (tgt := 5) (pc' := 40) dX9_findFault_37 rfl rfl (by decide) (fun qc_37_1 => ?_) (fun qc_37_1 => absurd qc_37_1 (by decide))
            refine p_sub [0] rfl ?_
            exact qih_5 _ (by omega) _ _ (n - 1) (by exact q_up_eq) (by rw [q_up_nz (by decide)]; assumption) (by omega) (by first | assumption | (repeat (refine s_pd_u (by decide) ?_); assumption)) (by exact s_ffL_4 qa_5_4 (by omega) (by assumption) (by assumption) (by assumption)) (by omega) (by exact s_offP_u (s_offP_t qa_5_6 (by assumption)) (by decide) (by decide)) rfl
        · refine q_bipush (pc' := 30) dX9_findFault_28 rfl rfl ?_
          first | exact q_iret dX9_findFault_30 rfl rfl ⟨congrArg (fun v => some (q_i v)) (s_ffL_1 qa_5_4 (by omega) (by assumption)), by rw [← s_ffL_1 qa_5_4 (by omega) (by assumption)]; omega, _, rfl, (by first | assumption | ((repeat (refine s_offP_u ?_ (by decide) (by decide))); first | exact s_offP_r | assumption) | (refine s_offP_t ?_ (by assumption); (repeat (refine s_offP_u ?_ (by decide) (by decide))); first | exact s_offP_r | assumption))⟩ | exact q_iret dX9_findFault_30 rfl rfl ⟨congrArg (fun v => some (q_i v)) (s_ffL_2 qa_5_4 (by omega) (by assumption) (by omega)), by rw [← s_ffL_2 qa_5_4 (by omega) (by assumption) (by omega)]; omega, _, rfl, (by first | assumption | ((repeat (refine s_offP_u ?_ (by decide) (by decide))); first | exact s_offP_r | assumption) | (refine s_offP_t ?_ (by assumption); (repeat (refine s_offP_u ?_ (by decide) (by decide))); first | exact s_offP_r | assumption))⟩ | exact q_iret dX9_findFault_30 rfl rfl ⟨congrArg (fun v => some (q_i v)) (s_ffL_3 qa_5_4 (by omega) (by assumption) (by omega) (by assumption)), by rw [← s_ffL_3 qa_5_4 (by omega) (by assumption) (by omega) (by assumption)]; omega, _, rfl, (by first | assumption | ((repeat (refine s_offP_u ?_ (by decide) (by decide))); first | exact s_offP_r | assumption) | (refine s_offP_t ?_ (by assumption); (repeat (refine s_offP_u ?_ (by decide) (by decide))); first | exact s_offP_r | assumption))⟩
  refine p_sub [0] rfl ?_
  exact qlp_5 _ _ 0 81 (by exact q_up_eq) (by rw [q_up_nz (by decide)]; assumption) (by omega) (by first | assumption | (repeat (refine s_pd_u (by decide) ?_); assumption)) (by rfl) (by decide) (by exact s_offP_u s_offP_r (by decide) (by decide)) rfl
set_option maxRecDepth 20000 in
set_option maxHeartbeats 4000000 in
theorem c_X9_fault {Γ : q_G} {S : q_S} {P : Int → Int} {N : Int} (pd : s_pd S P) (hN : S 150 6 = N) : q_Sp Γ mX9_fault 6 0 0 [q_r Γ 150] (KC, S) (fun v w => v = some (q_i (s_ff P N)) ∧ (s_ff P N = -6 ∨ (0 ≤ s_ff P N ∧ s_ff P N ≤ 80)) ∧ ∃ S2, w = (KC, S2) ∧ s_offP S S2) := by
  show q_Go Γ mX9_fault 6 0 0 0 [(0, q_r Γ 150)] [] (KC, S) (fun v w => v = some (q_i (s_ff P N)) ∧ (s_ff P N = -6 ∨ (0 ≤ s_ff P N ∧ s_ff P N ≤ 80)) ∧ ∃ S2, w = (KC, S2) ∧ s_offP S S2)
  refine q_aloadn (pc' := 1) 0 dX9_fault_0 rfl rfl ?_
  refine q_callVQ (pc' := 4) dX9_fault_1 rfl lX9_241 iX9_findFault kc150 rfl (c_X9_findFault (P := P) pd hN) rfl rfl (Nat.le_of_ble_eq_true rfl) (Nat.le_of_ble_eq_true rfl) (Nat.le_of_ble_eq_true rfl) (fun vq wq hq => ?_)
  obtain ⟨rfl, hb1, S1, rfl, of1⟩ := hq
  show q_Go Γ mX9_fault 6 0 0 4 [(0, q_r Γ 150)] [q_i (s_ff P N)] (KC, S1) (fun v w => v = some (q_i (s_ff P N)) ∧ (s_ff P N = -6 ∨ (0 ≤ s_ff P N ∧ s_ff P N ≤ 80)) ∧ ∃ S2, w = (KC, S2) ∧ s_offP S S2)
  exact q_iret dX9_fault_4 rfl rfl ⟨rfl, hb1, _, rfl, of1⟩
