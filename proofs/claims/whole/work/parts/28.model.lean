set_option maxRecDepth 20000 in
set_option maxHeartbeats 4000000 in
theorem c_X9_carryOut {Γ : q_G} {S : q_S} {P : Int → Int} {N : Int} (pd : s_pd S P) (hN : S 150 6 = N) (ok : s_ok (S 151)) (h0 : 0 ≤ S 150 2) (h6 : S 150 2 ≤ 6) : q_Sp Γ mX9_carryOut 6 0 0 [q_r Γ 150] (KC, S) (fun v w => v = some (q_i (s_coV P N (S 151))) ∧ ∃ S2, w = (KC, S2) ∧ s_offP (s_coS P N S) S2) := by
  show q_Go Γ mX9_carryOut 6 0 0 0 [(0, q_r Γ 150)] [] (KC, S) (fun v w => v = some (q_i (s_coV P N (S 151))) ∧ ∃ S2, w = (KC, S2) ∧ s_offP (s_coS P N S) S2)
  have pl := pd.1
  have pN := pd.2.2.1
  refine q_aloadn (pc' := 1) 0 dX9_carryOut_0 rfl rfl ?_
  refine q_callVQ (pc' := 4) dX9_carryOut_1 rfl lX9_241 iX9_findFault kc150 rfl (c_X9_findFault (P := P) pd hN) rfl rfl (Nat.le_of_ble_eq_true rfl) (Nat.le_of_ble_eq_true rfl) (Nat.le_of_ble_eq_true rfl) (fun vq wq hq => ?_)
  obtain ⟨rfl, hb1, S1, rfl, of1⟩ := hq
  have h21 := of1.2 2 (Or.inl (by decide))
  have hp1 := s_pd_o of1 pd
  have h61 : S1 150 6 = N := (of1.2 6 (Or.inl (by decide))).trans hN
  have h151 : S1 151 = S 151 := of1.1 151 (by decide)
  show q_Go Γ mX9_carryOut 6 0 0 4 [(0, q_r Γ 150)] [q_i (s_ff P N)] (KC, S1) (fun v w => v = some (q_i (s_coV P N (S 151))) ∧ ∃ S2, w = (KC, S2) ∧ s_offP (s_coS P N S) S2)
  refine q_bipush (pc' := 6) dX9_carryOut_4 rfl rfl ?_
  refine q_icmp_eq (tgt := 12) (pc' := 9) dX9_carryOut_6 rfl rfl (by first | assumption | omega) (by decide) (fun qc_6 => ?_) (fun qc_6 => ?_)
  · refine q_aloadn (pc' := 13) 0 dX9_carryOut_12 rfl rfl ?_
    refine q_callVV (pc' := 16) dX9_carryOut_13 rfl lX9_99 iX9_record kc150 rfl (c_X9_record (by first | assumption | omega) (by first | assumption | omega)) rfl rfl (Nat.le_of_ble_eq_true rfl) (Nat.le_of_ble_eq_true rfl) (Nat.le_of_ble_eq_true rfl) ?_
    refine q_iconst (pc' := 17) dX9_carryOut_16 rfl ?_
    refine q_istoren (pc' := 18) (L' := [(1, q_i 0), (0, q_r Γ 150)]) dX9_carryOut_17 rfl rfl (by decide) rfl ?_
    refine q_aloadn (pc' := 19) 1 dX9_carryOut_18 rfl rfl ?_
    refine q_iconst (pc' := 20) dX9_carryOut_19 rfl ?_
    refine p_putJ (pc' := 23) (kz := 10) dX9_carryOut_20 rfl fX9_201 kc150 rfl rfl (rfl) (rfl) (by first | assumption | omega) ?_
    refine q_iconst (pc' := 24) dX9_carryOut_23 rfl ?_
    refine q_istoren (pc' := 25) (L' := [(2, q_i 1), (1, q_i 0), (0, q_r Γ 150)]) dX9_carryOut_24 rfl rfl (by decide) rfl ?_
    have qlp_25 : ∀ (qn_25 : Nat) (S3 : q_S) (cnt go z : Int) (n : Nat), (go = 0 ∨ go = 1) → (S3 150 10 = z) → (S3 150 6 = N) → (0 ≤ z ∧ z ≤ 81) → (s_pd S3 P) → (s_ok (S3 151)) → (s_offP (q_w1 (s_rec S) (S3 151)) S3) → (s_goE P N z go) → (go = 1 → s_coL P N n (S3 151) z cnt = s_co P N (S 151)) → (go = 0 → (S3 151, cnt) = s_co P N (S 151)) → (go = 1 → 82 ≤ z + n) → (n) = qn_25 → q_Go Γ mX9_carryOut 6 0 0 25 [(0, q_r Γ 150), (1, q_i cnt), (2, q_i go)] [] (KC, S3) (fun v w => v = some (q_i (s_coV P N (S 151))) ∧ ∃ S2, w = (KC, S2) ∧ s_offP (s_coS P N S) S2) := by
      intro qn_25
      induction qn_25 using Nat.strongRecOn with
      | ind qn_25 qih_25 =>
        intro S3 cnt go z n qa_25_0 qa_25_1 qa_25_2 qa_25_3 qa_25_4 qa_25_5 qa_25_6 qa_25_7 qa_25_8 qa_25_9 qa_25_10 qhn_25
        subst qhn_25
        have ok3 : s_ok (S3 151) := qa_25_5
        refine q_iloadn (pc' := 26) 2 dX9_carryOut_25 rfl rfl ?_
        refine q_if_eq (tgt := 72) (pc' := 29) dX9_carryOut_26 rfl rfl (by first | assumption | omega) (fun qc_26 => ?_) (fun qc_26 => ?_)
        · refine q_aloadn (pc' := 73) 0 dX9_carryOut_72 rfl rfl ?_
          refine q_iconst (pc' := 74) dX9_carryOut_73 rfl ?_
          refine p_putJ (pc' := 77) (kz := 6) dX9_carryOut_74 rfl fX9_183 kc150 rfl rfl (rfl) (rfl) (by first | assumption | omega) ?_
          refine q_iloadn (pc' := 78) 1 dX9_carryOut_77 rfl rfl ?_
          first | exact q_iret dX9_carryOut_78 rfl rfl ⟨congrArg (fun v => some (q_i v)) (if_neg (by omega)).symm, _, rfl, by unfold s_coS; rw [if_neg (by omega)]; exact of1⟩ | exact (fun en => q_iret dX9_carryOut_78 rfl rfl ⟨congrArg (fun v => some (q_i v)) (by unfold s_coV; rw [if_pos (by omega), ← en]), _, rfl, by unfold s_coS; rw [if_pos (by omega)]; exact s_offP_6 qa_25_6 en⟩) (show (S3 151, cnt) = s_co P N (S 151) from by first | exact qa_25_9 (by omega) | exact s_coL_e (qa_25_8 (by omega)) (by omega))
        · refine q_aloadn (pc' := 30) 0 dX9_carryOut_29 rfl rfl ?_
          refine p_getJ (pc' := 33) (kz := 10) dX9_carryOut_30 rfl fX9_201 kc150 rfl rfl (fun qy_30 eqy_30 rqy_30 => ?_)
          have vqy_30 : qy_30 = z := eqy_30.trans (by first | assumption | (simp [q_up]; done) | (simp [q_up]; assumption))
          rw [vqy_30]
          refine q_aloadn (pc' := 34) 0 dX9_carryOut_33 rfl rfl ?_
          refine p_getJ (pc' := 37) (kz := 6) dX9_carryOut_34 rfl fX9_183 kc150 rfl rfl (fun qy_34 eqy_34 rqy_34 => ?_)
          have vqy_34 : qy_34 = N := eqy_34.trans (by first | assumption | (simp [q_up]; done) | (simp [q_up]; assumption))
          rw [vqy_34]
          refine q_icmp_ge (tgt := 72) (pc' := 40) dX9_carryOut_37 rfl rfl (by first | assumption | omega) (by first | assumption | omega) (fun qc_37 => ?_) (fun qc_37 => ?_)
          · refine q_aloadn (pc' := 73) 0 dX9_carryOut_72 rfl rfl ?_
            refine q_iconst (pc' := 74) dX9_carryOut_73 rfl ?_
            refine p_putJ (pc' := 77) (kz := 6) dX9_carryOut_74 rfl fX9_183 kc150 rfl rfl (rfl) (rfl) (by first | assumption | omega) ?_
            refine q_iloadn (pc' := 78) 1 dX9_carryOut_77 rfl rfl ?_
            first | exact q_iret dX9_carryOut_78 rfl rfl ⟨congrArg (fun v => some (q_i v)) (if_neg (by omega)).symm, _, rfl, by unfold s_coS; rw [if_neg (by omega)]; exact of1⟩ | exact (fun en => q_iret dX9_carryOut_78 rfl rfl ⟨congrArg (fun v => some (q_i v)) (by unfold s_coV; rw [if_pos (by omega), ← en]), _, rfl, by unfold s_coS; rw [if_pos (by omega)]; exact s_offP_6 qa_25_6 en⟩) (show (S3 151, cnt) = s_co P N (S 151) from by first | exact qa_25_9 (by omega) | exact s_coL_e (qa_25_8 (by omega)) (by omega))
          · obtain ⟨m, hm, hm2⟩ := qa_25_7 (by omega) (by omega)
            refine q_aloadn (pc' := 41) 0 dX9_carryOut_40 rfl rfl ?_
            refine q_callVQ (pc' := 44) dX9_carryOut_41 rfl lX9_238 iX9_readsOrder kc150 rfl (c_X9_readsOrder (z := z) (by first | assumption | (repeat (refine s_pd_u (by decide) ?_); assumption)) (by first | assumption | (simp [q_up]; done) | (simp [q_up]; assumption)) (by first | assumption | omega) (by first | assumption | omega)) rfl rfl (Nat.le_of_ble_eq_true rfl) (Nat.le_of_ble_eq_true rfl) (Nat.le_of_ble_eq_true rfl) (fun vq wq hq => ?_)
            rcases hq with ⟨rfl, qS41, rfl, qo41, qa41, qd41, qz41, qy41⟩ | ⟨rfl, qS41, rfl, qo41, qa41, qd41, qz41, qe41, qf41, qg41, qh41⟩
            · exact absurd (s_ffL_1 hm (by omega) qd41) (by omega)
            · show q_Go Γ mX9_carryOut 6 0 0 44 [(0, q_r Γ 150), (1, q_i cnt), (2, q_i go)] [q_i 1] (KC, qS41) (fun v w => v = some (q_i (s_coV P N (S 151))) ∧ ∃ S2, w = (KC, S2) ∧ s_offP (s_coS P N S) S2)
              have q641 : qS41 150 6 = N := (qo41.2 6 (Or.inl (by decide))).trans (by first | assumption | (simp [q_up]; done) | (simp [q_up]; assumption))
              have qp41 : s_pd qS41 P := s_pd_o qo41 (by first | assumption | (repeat (refine s_pd_u (by decide) ?_); assumption))
              have qv41 : qS41 151 = S3 151 := qo41.1 151 (by decide)
              refine q_pop (pc' := 45) dX9_carryOut_44 rfl rfl ?_
              refine q_aloadn (pc' := 46) 0 dX9_carryOut_45 rfl rfl ?_
              refine q_bipush (pc' := 48) dX9_carryOut_46 rfl rfl ?_
              refine q_callVQ (pc' := 51) dX9_carryOut_48 rfl lX9_210 iX9_takes kc150 rfl (c_X9_takes (z := s_odAt P z) (by first | assumption | (repeat (refine s_pd_u (by decide) ?_); assumption)) (by first | assumption | (simp [q_up]; done) | (simp [q_up]; assumption)) (by first | assumption | omega) (by first | assumption | omega) (by first | assumption | omega) (by first | assumption | omega)) rfl rfl (Nat.le_of_ble_eq_true rfl) (Nat.le_of_ble_eq_true rfl) (Nat.le_of_ble_eq_true rfl) (fun vq wq hq => ?_)
              rcases hq with ⟨rfl, rfl, qd48⟩ | ⟨rfl, rfl, qd48, qz48⟩
              · show q_Go Γ mX9_carryOut 6 0 0 51 [(0, q_r Γ 150), (1, q_i cnt), (2, q_i go)] [q_i 0] (KC, qS41) (fun v w => v = some (q_i (s_coV P N (S 151))) ∧ ∃ S2, w = (KC, S2) ∧ s_offP (s_coS P N S) S2)
                refine q_pop (pc' := 52) dX9_carryOut_51 rfl rfl ?_
                refine q_aloadn (pc' := 53) 0 dX9_carryOut_52 rfl rfl ?_
                refine q_topS (fun qW hqW => ?_)
                have w151 : qW 151 = S3 151 := by rw [hqW]; first | exact qv41 | (rw [q_up_ne (by decide)]; exact qv41)
                have w10 : qW 150 10 = s_nz P z := by unfold s_nz; rw [hqW]; first | (rw [q_B_t (by assumption)]; exact q_up_eq) | (rw [q_B_f (by assumption), Int.add_zero]; assumption)
                have w6 : qW 150 6 = N := by rw [hqW]; first | exact q641 | (rw [q_up_nz (by decide)]; exact q641)
                have wpd : s_pd qW P := by rw [hqW]; first | exact qp41 | exact s_pd_u (by decide) qp41
                have w11 : qW 150 11 = P z := by rw [hqW]; first | exact qe41 | (rw [q_up_nz (by decide)]; exact qe41)
                have w12 : qW 150 12 = s_o1 P z := by rw [hqW]; first | exact qf41 | (rw [q_up_nz (by decide)]; exact qf41)
                have w13 : qW 150 13 = s_o2 P z := by rw [hqW]; first | exact qg41 | (rw [q_up_nz (by decide)]; exact qg41)
                have w14 : P z = 97 ∨ P z = 98 → qW 150 14 = s_o3 P z ∧ qW 150 15 = s_o4 P z ∧ qW 150 16 = s_o5 P z := by rw [hqW]; first | exact qh41 | (rw [q_up_nz (by decide), q_up_nz (by decide), q_up_nz (by decide)]; exact qh41)
                have wof : s_offP S3 qW := by rw [hqW]; first | exact qo41 | exact s_offP_u qo41 (by decide) (by decide)
                have w9a : P z = 119 → (0 ≤ s_o1 P z ∧ s_o1 P z ≤ 9) ∧ (0 ≤ s_o2 P z ∧ s_o2 P z ≤ 9) := by intro q; have q2 := qd41; unfold s_odOk s_eqOk at q2; unfold s_o1 s_o2; omega
                have w9 : P z = 119 → 0 ≤ s_o1 P z ∧ s_o1 P z ≤ 9 := fun q => (w9a q).1
                have qb := q_B_or (P (s_odAt P z) = 59)
                have nzb : z < s_nz P z ∧ s_nz P z ≤ 81 := by unfold s_nz; omega
                refine q_callVI (pc' := 56) dX9_carryOut_53 rfl lX9_244 iX9_does kc150 rfl (c_X9_does (l := P z) (a := s_o1 P z) (b := s_o2 P z) (c := s_o3 P z) (e := s_o4 P z) (f := s_o5 P z) (by rw [w151]; exact ok3) w11 w12 w13 w14 w9) rfl rfl (Nat.le_of_ble_eq_true rfl) (Nat.le_of_ble_eq_true rfl) (Nat.le_of_ble_eq_true rfl) ?_
                rw [w151]
                change q_Go _ _ _ _ _ _ _ (q_i (s_do P (S3 151) z) :: _) (KC, q_w1 qW (s_dp P (S3 151) z)) _
                have dv : s_do P (S3 151) z = 0 ∨ s_do P (S3 151) z = 1 := s_doV_b _ _ _ _ _ _ _
                refine p_top (fun qx_56 hqx_56 => ?_)
                refine q_istoren (pc' := 57) (L' := [(2, q_i qx_56), (0, q_r Γ 150), (1, q_i cnt)]) dX9_carryOut_56 rfl rfl (by decide) rfl ?_
                refine q_iloadn (pc' := 58) 2 dX9_carryOut_57 rfl rfl ?_
                refine q_iloadn (pc' := 59) 0 dX9_carryOut_58 rfl rfl ?_
                refine q_if_eq (tgt := 66) (pc' := 62) dX9_carryOut_59 rfl rfl (by first | assumption | omega) (fun qc_59 => ?_) (fun qc_59 => ?_)
                · refine q_iconst (pc' := 67) dX9_carryOut_66 rfl ?_
                  refine q_iadd (pc' := 68) dX9_carryOut_67 rfl ?_
                  refine q_istoren (pc' := 69) (L' := [(1, q_i (cnt + 0)), (2, q_i qx_56), (0, q_r Γ 150)]) dX9_carryOut_68 rfl rfl (by decide) rfl ?_
                  refine q_goto (pc' := 25) dX9_carryOut_69 rfl ?_
                  refine p_sub [2, 0, 1] rfl ?_
                  exact qih_25 _ (by omega) _ _ _ (s_nz P z) (n - 1) (by omega) (by rw [q_w1_n (by decide)]; exact w10) (by rw [q_w1_n (by decide)]; exact w6) (by omega) (by exact s_pd_w wpd) (by rw [q_w1_s]; exact s_ok_do ok3 w9a) (by rw [q_w1_s]; exact s_offP_w qa_25_6 wof) (by intro _ q; exact s_ffL_n hm hm2 (by omega) (by omega) qd41 (by omega) (fun y hy => pN y (by omega)) q) (by intro q; rw [q_w1_s]; first | exact s_coL_1 (qa_25_8 (by omega)) (by omega) (by omega) (by omega) | (exfalso; omega)) (by intro q; rw [q_w1_s]; first | (rw [Int.add_zero]; exact s_coL_0 (qa_25_8 (by omega)) (by omega) (by omega) (by omega)) | (exfalso; omega)) (by intro q; have := qa_25_10 (by omega); omega) rfl
                · refine q_iconst (pc' := 63) dX9_carryOut_62 rfl ?_
                  refine q_goto (pc' := 67) dX9_carryOut_63 rfl ?_
                  refine q_iadd (pc' := 68) dX9_carryOut_67 rfl ?_
                  refine q_istoren (pc' := 69) (L' := [(1, q_i (cnt + 1)), (2, q_i qx_56), (0, q_r Γ 150)]) dX9_carryOut_68 rfl rfl (by decide) rfl ?_
                  refine q_goto (pc' := 25) dX9_carryOut_69 rfl ?_
                  refine p_sub [2, 0, 1] rfl ?_
                  exact qih_25 _ (by omega) _ _ _ (s_nz P z) (n - 1) (by omega) (by rw [q_w1_n (by decide)]; exact w10) (by rw [q_w1_n (by decide)]; exact w6) (by omega) (by exact s_pd_w wpd) (by rw [q_w1_s]; exact s_ok_do ok3 w9a) (by rw [q_w1_s]; exact s_offP_w qa_25_6 wof) (by intro _ q; exact s_ffL_n hm hm2 (by omega) (by omega) qd41 (by omega) (fun y hy => pN y (by omega)) q) (by intro q; rw [q_w1_s]; first | exact s_coL_1 (qa_25_8 (by omega)) (by omega) (by omega) (by omega) | (exfalso; omega)) (by intro q; rw [q_w1_s]; first | (rw [Int.add_zero]; exact s_coL_0 (qa_25_8 (by omega)) (by omega) (by omega) (by omega)) | (exfalso; omega)) (by intro q; have := qa_25_10 (by omega); omega) rfl
              · show q_Go Γ mX9_carryOut 6 0 0 51 [(0, q_r Γ 150), (1, q_i cnt), (2, q_i go)] [q_i 1] (KC, q_up qS41 150 10 ((s_odAt P z) + 1)) (fun v w => v = some (q_i (s_coV P N (S 151))) ∧ ∃ S2, w = (KC, S2) ∧ s_offP (s_coS P N S) S2)
                refine q_pop (pc' := 52) dX9_carryOut_51 rfl rfl ?_
                refine q_aloadn (pc' := 53) 0 dX9_carryOut_52 rfl rfl ?_
                refine q_topS (fun qW hqW => ?_)
                have w151 : qW 151 = S3 151 := by rw [hqW]; first | exact qv41 | (rw [q_up_ne (by decide)]; exact qv41)
                have w10 : qW 150 10 = s_nz P z := by unfold s_nz; rw [hqW]; first | (rw [q_B_t (by assumption)]; exact q_up_eq) | (rw [q_B_f (by assumption), Int.add_zero]; assumption)
                have w6 : qW 150 6 = N := by rw [hqW]; first | exact q641 | (rw [q_up_nz (by decide)]; exact q641)
                have wpd : s_pd qW P := by rw [hqW]; first | exact qp41 | exact s_pd_u (by decide) qp41
                have w11 : qW 150 11 = P z := by rw [hqW]; first | exact qe41 | (rw [q_up_nz (by decide)]; exact qe41)
                have w12 : qW 150 12 = s_o1 P z := by rw [hqW]; first | exact qf41 | (rw [q_up_nz (by decide)]; exact qf41)
                have w13 : qW 150 13 = s_o2 P z := by rw [hqW]; first | exact qg41 | (rw [q_up_nz (by decide)]; exact qg41)
                have w14 : P z = 97 ∨ P z = 98 → qW 150 14 = s_o3 P z ∧ qW 150 15 = s_o4 P z ∧ qW 150 16 = s_o5 P z := by rw [hqW]; first | exact qh41 | (rw [q_up_nz (by decide), q_up_nz (by decide), q_up_nz (by decide)]; exact qh41)
                have wof : s_offP S3 qW := by rw [hqW]; first | exact qo41 | exact s_offP_u qo41 (by decide) (by decide)
                have w9a : P z = 119 → (0 ≤ s_o1 P z ∧ s_o1 P z ≤ 9) ∧ (0 ≤ s_o2 P z ∧ s_o2 P z ≤ 9) := by intro q; have q2 := qd41; unfold s_odOk s_eqOk at q2; unfold s_o1 s_o2; omega
                have w9 : P z = 119 → 0 ≤ s_o1 P z ∧ s_o1 P z ≤ 9 := fun q => (w9a q).1
                have qb := q_B_or (P (s_odAt P z) = 59)
                have nzb : z < s_nz P z ∧ s_nz P z ≤ 81 := by unfold s_nz; omega
                refine q_callVI (pc' := 56) dX9_carryOut_53 rfl lX9_244 iX9_does kc150 rfl (c_X9_does (l := P z) (a := s_o1 P z) (b := s_o2 P z) (c := s_o3 P z) (e := s_o4 P z) (f := s_o5 P z) (by rw [w151]; exact ok3) w11 w12 w13 w14 w9) rfl rfl (Nat.le_of_ble_eq_true rfl) (Nat.le_of_ble_eq_true rfl) (Nat.le_of_ble_eq_true rfl) ?_
                rw [w151]
                change q_Go _ _ _ _ _ _ _ (q_i (s_do P (S3 151) z) :: _) (KC, q_w1 qW (s_dp P (S3 151) z)) _
                have dv : s_do P (S3 151) z = 0 ∨ s_do P (S3 151) z = 1 := s_doV_b _ _ _ _ _ _ _
                refine p_top (fun qx_56_1 hqx_56_1 => ?_)
                refine q_istoren (pc' := 57) (L' := [(2, q_i qx_56_1), (0, q_r Γ 150), (1, q_i cnt)]) dX9_carryOut_56 rfl rfl (by decide) rfl ?_
                refine q_iloadn (pc' := 58) 2 dX9_carryOut_57 rfl rfl ?_
                refine q_iloadn (pc' := 59) 0 dX9_carryOut_58 rfl rfl ?_
                refine q_if_eq (tgt := 66) (pc' := 62) dX9_carryOut_59 rfl rfl (by first | assumption | omega) (fun qc_59_1 => ?_) (fun qc_59_1 => ?_)
                · refine q_iconst (pc' := 67) dX9_carryOut_66 rfl ?_
                  refine q_iadd (pc' := 68) dX9_carryOut_67 rfl ?_
                  refine q_istoren (pc' := 69) (L' := [(1, q_i (cnt + 0)), (2, q_i qx_56_1), (0, q_r Γ 150)]) dX9_carryOut_68 rfl rfl (by decide) rfl ?_
                  refine q_goto (pc' := 25) dX9_carryOut_69 rfl ?_
                  refine p_sub [2, 0, 1] rfl ?_
                  exact qih_25 _ (by omega) _ _ _ (s_nz P z) (n - 1) (by omega) (by rw [q_w1_n (by decide)]; exact w10) (by rw [q_w1_n (by decide)]; exact w6) (by omega) (by exact s_pd_w wpd) (by rw [q_w1_s]; exact s_ok_do ok3 w9a) (by rw [q_w1_s]; exact s_offP_w qa_25_6 wof) (by intro _ q; exact s_ffL_n hm hm2 (by omega) (by omega) qd41 (by omega) (fun y hy => pN y (by omega)) q) (by intro q; rw [q_w1_s]; first | exact s_coL_1 (qa_25_8 (by omega)) (by omega) (by omega) (by omega) | (exfalso; omega)) (by intro q; rw [q_w1_s]; first | (rw [Int.add_zero]; exact s_coL_0 (qa_25_8 (by omega)) (by omega) (by omega) (by omega)) | (exfalso; omega)) (by intro q; have := qa_25_10 (by omega); omega) rfl
                · refine q_iconst (pc' := 63) dX9_carryOut_62 rfl ?_
                  refine q_goto (pc' := 67) dX9_carryOut_63 rfl ?_
                  refine q_iadd (pc' := 68) dX9_carryOut_67 rfl ?_
                  refine q_istoren (pc' := 69) (L' := [(1, q_i (cnt + 1)), (2, q_i qx_56_1), (0, q_r Γ 150)]) dX9_carryOut_68 rfl rfl (by decide) rfl ?_
                  refine q_goto (pc' := 25) dX9_carryOut_69 rfl ?_
                  refine p_sub [2, 0, 1] rfl ?_
                  exact qih_25 _ (by omega) _ _ _ (s_nz P z) (n - 1) (by omega) (by rw [q_w1_n (by decide)]; exact w10) (by rw [q_w1_n (by decide)]; exact w6) (by omega) (by exact s_pd_w wpd) (by rw [q_w1_s]; exact s_ok_do ok3 w9a) (by rw [q_w1_s]; exact s_offP_w qa_25_6 wof) (by intro _ q; exact s_ffL_n hm hm2 (by omega) (by omega) qd41 (by omega) (fun y hy => pN y (by omega)) q) (by intro q; rw [q_w1_s]; first | exact s_coL_1 (qa_25_8 (by omega)) (by omega) (by omega) (by omega) | (exfalso; omega)) (by intro q; rw [q_w1_s]; first | (rw [Int.add_zero]; exact s_coL_0 (qa_25_8 (by omega)) (by omega) (by omega) (by omega)) | (exfalso; omega)) (by intro q; have := qa_25_10 (by omega); omega) rfl
    refine p_sub [2, 1, 0] rfl ?_
    exact qlp_25 _ _ _ _ 0 82 (by first | assumption | omega) (by exact q_up_eq) (by rw [q_up_nz (by decide), s_rec_f (by decide)]; exact h61) (by omega) (by exact s_pd_u (by decide) (s_pd_rec hp1)) (by rw [q_up_ne (by decide), s_rec_151, h151]; exact ok) (by rw [q_up_ne (by decide), s_rec_151, h151]; refine s_offP_u ?_ (by decide) (by decide); rw [show q_w1 (s_rec S) (S 151) = s_rec S by (have q := q_w1_self (S := s_rec S); rw [s_rec_151] at q; exact q)]; exact s_offP_rec of1) (by intro _ _; exact ⟨81, by (show s_ff P N = -6; omega), by decide⟩) (by intro _; rw [q_up_ne (by decide), s_rec_151, h151]; rfl) (by omega) (by omega) rfl
  · refine q_bipush (pc' := 11) dX9_carryOut_9 rfl rfl ?_
    first | exact q_iret dX9_carryOut_11 rfl rfl ⟨congrArg (fun v => some (q_i v)) (if_neg (by omega)).symm, _, rfl, by unfold s_coS; rw [if_neg (by omega)]; exact of1⟩ | exact (fun en => q_iret dX9_carryOut_11 rfl rfl ⟨congrArg (fun v => some (q_i v)) (by unfold s_coV; rw [if_pos (by omega), ← en]), _, rfl, by unfold s_coS; rw [if_pos (by omega)]; exact s_offP_6 qnone_ en⟩) (show (S3 151, cnt) = s_co P N (S 151) from by first | exact qnone_ (by omega) | exact s_coL_e (qnone_ (by omega)) (by omega))
