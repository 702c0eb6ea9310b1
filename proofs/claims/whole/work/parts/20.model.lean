set_option maxRecDepth 20000 in
set_option maxHeartbeats 4000000 in
theorem c_X9_matched {Γ : q_G} {S : q_S} (ok : s_ok (S 151)) : q_Sp Γ mX9_matched 3 0 0 [q_r Γ 150] (KC, S) (q_ev (some (q_i (s_matV (S 151)))) (KC, q_w1 S (s_matP (S 151)))) := by
  show q_Go Γ mX9_matched 3 0 0 0 [(0, q_r Γ 150)] [] (KC, S) (q_ev (some (q_i (s_matV (S 151)))) (KC, q_w1 S (s_matP (S 151))))
  have rw0 := s_rows_b ok
  have c4 := ok.2.2.2.1
  refine q_iconst (pc' := 1) dX9_matched_0 rfl ?_
  refine q_istoren (pc' := 2) (L' := [(1, q_i 0), (0, q_r Γ 150)]) dX9_matched_1 rfl rfl (by decide) rfl ?_
  refine q_iconst (pc' := 3) dX9_matched_2 rfl ?_
  refine q_istoren (pc' := 4) (L' := [(2, q_i 0), (1, q_i 0), (0, q_r Γ 150)]) dX9_matched_3 rfl rfl (by decide) rfl ?_
  have qlp_4 : ∀ (qn_4 : Nat) (S2 : q_S) (sum place : Int), (0 ≤ place) → (place ≤ S 151 4) → ((S2 151, sum) = s_mtP (S 151, 0) place.toNat) → (s_ok (S2 151)) → (S2 151 4 = S 151 4) → (s_off S S2 (fun a => a = 151)) → ((10 - place).toNat) = qn_4 → q_Go Γ mX9_matched 3 0 0 4 [(0, q_r Γ 150), (1, q_i sum), (2, q_i place)] [] (KC, S2) (q_ev (some (q_i (s_matV (S 151)))) (KC, q_w1 S (s_matP (S 151)))) := by
    intro qn_4
    induction qn_4 using Nat.strongRecOn with
    | ind qn_4 qih_4 =>
      intro S2 sum place qa_4_0 qa_4_1 qa_4_2 qa_4_3 qa_4_4 qa_4_5 qhn_4
      subst qhn_4
      refine q_iloadn (pc' := 5) 2 dX9_matched_4 rfl rfl ?_
      refine q_aloadn (pc' := 6) 0 dX9_matched_5 rfl rfl ?_
      refine p_getR (pc' := 9) (f := 151) dX9_matched_6 rfl fX9_7 kc150 rfl ?_
      refine q_iconst (pc' := 10) dX9_matched_9 rfl ?_
      refine p_iald (pc' := 11) dX9_matched_10 rfl kc151 (by first | assumption | omega) (by first | assumption | omega) (by decide) (fun qy_10 eqy_10 rqy_10 => ?_)
      refine q_icmp_ge (tgt := 59) (pc' := 14) dX9_matched_11 rfl rfl (by first | assumption | omega) (by first | assumption | omega) (fun qc_11 => ?_) (fun qc_11 => ?_)
      · refine q_aloadn (pc' := 60) 0 dX9_matched_59 rfl rfl ?_
        refine p_getR (pc' := 63) (f := 151) dX9_matched_60 rfl fX9_7 kc150 rfl ?_
        refine q_iconst (pc' := 64) dX9_matched_63 rfl ?_
        refine p_iald (pc' := 65) dX9_matched_64 rfl kc151 (by first | assumption | omega) (by first | assumption | omega) (by decide) (fun qy_64 eqy_64 rqy_64 => ?_)
        refine q_iconst (pc' := 66) dX9_matched_65 rfl ?_
        refine q_isub (pc' := 67) dX9_matched_66 rfl ?_
        refine q_istoren (pc' := 68) (L' := [(2, q_i (qy_64 - 1)), (0, q_r Γ 150), (1, q_i sum)]) dX9_matched_67 rfl rfl (by decide) rfl ?_
        have hv : sum = s_matV (S 151) := by have q := congrArg Prod.snd qa_4_2; rw [show place = S 151 4 by omega] at q; exact q
        have hB : s_rmB (S 151 4).toNat (S2 151) = s_matB (S 151) := by have q := congrArg Prod.fst qa_4_2; rw [show place = S 151 4 by omega] at q; show s_rmB (S 151 4).toNat (S2 151) = s_rmB (S 151 4).toNat (s_mtP (S 151, 0) (S 151 4).toNat).1; rw [← q]
        have qlp_68 : ∀ (qn_68 : Nat) (S4 : q_S) (k : Int), (-1 ≤ k) → (k < S4 151 4) → (s_rmB (k + 1).toNat (S4 151) = s_matB (S 151)) → (s_ok (S4 151)) → (s_off S S4 (fun a => a = 151)) → ((k + 1).toNat) = qn_68 → q_Go Γ mX9_matched 3 0 0 68 [(0, q_r Γ 150), (1, q_i sum), (2, q_i k)] [] (KC, S4) (q_ev (some (q_i (s_matV (S 151)))) (KC, q_w1 S (s_matP (S 151)))) := by
          intro qn_68
          induction qn_68 using Nat.strongRecOn with
          | ind qn_68 qih_68 =>
            intro S4 k qa_68_0 qa_68_1 qa_68_2 qa_68_3 qa_68_4 qhn_68
            subst qhn_68
            have ok4 : s_ok (S4 151) := qa_68_3
            have c44 := ok4.2.2.2.1
            refine q_iloadn (pc' := 69) 2 dX9_matched_68 rfl rfl ?_
            refine q_if_lt (tgt := 92) (pc' := 72) dX9_matched_69 rfl rfl (by first | assumption | omega) (fun qc_69 => ?_) (fun qc_69 => ?_)
            · refine q_aloadn (pc' := 93) 0 dX9_matched_92 rfl rfl ?_
              refine p_getR (pc' := 96) (f := 151) dX9_matched_93 rfl fX9_7 kc150 rfl ?_
              refine q_iconst (pc' := 97) dX9_matched_96 rfl ?_
              refine p_iald (pc' := 98) dX9_matched_97 rfl kc151 (by first | assumption | omega) (by first | assumption | omega) (by decide) (fun qy_97 eqy_97 rqy_97 => ?_)
              refine q_iconst (pc' := 99) dX9_matched_98 rfl ?_
              refine q_isub (pc' := 100) dX9_matched_99 rfl ?_
              refine q_istoren (pc' := 101) (L' := [(2, q_i (qy_97 - 1)), (0, q_r Γ 150), (1, q_i sum)]) dX9_matched_100 rfl rfl (by decide) rfl ?_
              have hA : S4 151 = s_matB (S 151) := by have q := qa_68_2; rw [show (k + 1).toNat = 0 by omega] at q; exact q
              have c43 := ok4.2.2.1
              have qlp_101 : ∀ (qn_101 : Nat) (S5 : q_S) (k : Int), (-1 ≤ k) → (k < S5 151 3) → (s_rmA (k + 1).toNat (S5 151) = s_matA (S 151)) → (s_ok (S5 151)) → (s_off S S5 (fun a => a = 151)) → ((k + 1).toNat) = qn_101 → q_Go Γ mX9_matched 3 0 0 101 [(0, q_r Γ 150), (1, q_i sum), (2, q_i k)] [] (KC, S5) (q_ev (some (q_i (s_matV (S 151)))) (KC, q_w1 S (s_matP (S 151)))) := by
                intro qn_101
                induction qn_101 using Nat.strongRecOn with
                | ind qn_101 qih_101 =>
                  intro S5 k qa_101_0 qa_101_1 qa_101_2 qa_101_3 qa_101_4 qhn_101
                  subst qhn_101
                  have ok5 : s_ok (S5 151) := qa_101_3
                  have c53 := ok5.2.2.1
                  refine q_iloadn (pc' := 102) 2 dX9_matched_101 rfl rfl ?_
                  refine q_if_lt (tgt := 125) (pc' := 105) dX9_matched_102 rfl rfl (by first | assumption | omega) (fun qc_102 => ?_) (fun qc_102 => ?_)
                  · refine q_aloadn (pc' := 126) 0 dX9_matched_125 rfl rfl ?_
                    refine p_getR (pc' := 129) (f := 151) dX9_matched_126 rfl fX9_7 kc150 rfl ?_
                    refine q_iconst (pc' := 130) dX9_matched_129 rfl ?_
                    refine q_dup2 (pc' := 131) dX9_matched_130 rfl rfl rfl ?_
                    refine p_iald (pc' := 132) dX9_matched_131 rfl kc151 (by first | assumption | omega) (by first | assumption | omega) (by decide) (fun qy_131 eqy_131 rqy_131 => ?_)
                    refine q_iloadn (pc' := 133) 1 dX9_matched_132 rfl rfl ?_
                    refine q_iadd (pc' := 134) dX9_matched_133 rfl ?_
                    refine p_wr (fun hw133 => ?_)
                    have hS : S5 151 = s_matA (S 151) := by have q := qa_101_2; rw [show (k + 1).toNat = 0 by omega] at q; exact q
                    refine p_iast (pc' := 135) dX9_matched_134 rfl kc151 (by first | assumption | omega) (by first | assumption | omega) (by decide) (by first | assumption | omega) ?_
                    refine q_iloadn (pc' := 136) 1 dX9_matched_135 rfl rfl ?_
                    refine p_iret dX9_matched_136 rfl ?_ ?_
                    · exact hv
                    · rw [s_off_w1 (s_off_u qa_101_4 rfl : s_off S (q_up S5 151 2 (s_wr (qy_131 + sum))) (fun a => a = 151)), q_up_fn, eqy_131, hv, hS]; rfl
                  · refine q_aloadn (pc' := 106) 0 dX9_matched_105 rfl rfl ?_
                    refine q_iloadn (pc' := 107) 2 dX9_matched_106 rfl rfl ?_
                    refine q_iconst (pc' := 108) dX9_matched_107 rfl ?_
                    refine q_callVI (pc' := 111) dX9_matched_108 rfl lX9_148 iX9_askPart kc150 rfl (c_X9_askPart (by first | assumption | omega) (by first | assumption | omega)) rfl rfl (Nat.le_of_ble_eq_true rfl) (Nat.le_of_ble_eq_true rfl) (Nat.le_of_ble_eq_true rfl) ?_
                    have pk := s_as_b ok5 (i := k) (by omega) (by omega)
                    refine q_if_ne (tgt := 119) (pc' := 114) dX9_matched_111 rfl rfl (by first | assumption | omega) (fun qc_111 => ?_) (fun qc_111 => ?_)
                    · refine q_iinc (pc' := 122) 2 (L' := [(2, q_i (k + (-1))), (0, q_r Γ 150), (1, q_i sum)]) dX9_matched_119 rfl rfl (by decide) rfl ?_
                      refine q_goto (pc' := 101) dX9_matched_122 rfl ?_
                      refine p_sub [1, 2, 0] rfl ?_
                      exact qih_101 _ (by omega) _ _ (by first | assumption | omega) (by first | omega | (rw [s_dropA_w, q_w1_s, s_dpA_3]; omega)) (by first | (rw [show k + (-1) + 1 = k by omega, s_dropA_w, q_w1_s, ← qa_101_2, s_rmA_t (by omega) (by omega)]; done) | (rw [show k + (-1) + 1 = k by omega, ← qa_101_2, s_rmA_f (by omega) (by omega)]; done)) (by first | assumption | (rw [s_dropA_w, q_w1_s]; exact s_ok_dpA ok5 (by omega) (by omega))) (by first | assumption | (rw [s_dropA_w]; exact s_off_w (by assumption))) rfl
                    · refine q_aloadn (pc' := 115) 0 dX9_matched_114 rfl rfl ?_
                      refine q_iloadn (pc' := 116) 2 dX9_matched_115 rfl rfl ?_
                      refine q_callVV (pc' := 119) dX9_matched_116 rfl lX9_138 iX9_dropAsk kc150 rfl (c_X9_dropAsk (by first | assumption | omega) (by first | assumption | omega) (by first | assumption | omega)) rfl rfl (Nat.le_of_ble_eq_true rfl) (Nat.le_of_ble_eq_true rfl) (Nat.le_of_ble_eq_true rfl) ?_
                      refine q_iinc (pc' := 122) 2 (L' := [(2, q_i (k + (-1))), (0, q_r Γ 150), (1, q_i sum)]) dX9_matched_119 rfl rfl (by decide) rfl ?_
                      refine q_goto (pc' := 101) dX9_matched_122 rfl ?_
                      refine p_sub [1, 2, 0] rfl ?_
                      exact qih_101 _ (by omega) _ _ (by first | assumption | omega) (by first | omega | (rw [s_dropA_w, q_w1_s, s_dpA_3]; omega)) (by first | (rw [show k + (-1) + 1 = k by omega, s_dropA_w, q_w1_s, ← qa_101_2, s_rmA_t (by omega) (by omega)]; done) | (rw [show k + (-1) + 1 = k by omega, ← qa_101_2, s_rmA_f (by omega) (by omega)]; done)) (by first | assumption | (rw [s_dropA_w, q_w1_s]; exact s_ok_dpA ok5 (by omega) (by omega))) (by first | assumption | (rw [s_dropA_w]; exact s_off_w (by assumption))) rfl
              refine p_sub [1, 2, 0] rfl ?_
              exact qlp_101 _ _ _ (by first | assumption | omega) (by first | assumption | omega) (by rw [show qy_97 - 1 + 1 = S4 151 3 by omega]; show _ = s_rmA (s_matB (S 151) 3).toNat (s_matB (S 151)); rw [← hA]) (by assumption) (by assumption) rfl
            · refine q_aloadn (pc' := 73) 0 dX9_matched_72 rfl rfl ?_
              refine q_iloadn (pc' := 74) 2 dX9_matched_73 rfl rfl ?_
              refine q_iconst (pc' := 75) dX9_matched_74 rfl ?_
              refine q_callVI (pc' := 78) dX9_matched_75 rfl lX9_145 iX9_bidPart kc150 rfl (c_X9_bidPart (by first | assumption | omega) (by first | assumption | omega)) rfl rfl (Nat.le_of_ble_eq_true rfl) (Nat.le_of_ble_eq_true rfl) (Nat.le_of_ble_eq_true rfl) ?_
              have pk := s_bd_b ok4 (i := k) (by omega) (by omega)
              refine q_if_ne (tgt := 86) (pc' := 81) dX9_matched_78 rfl rfl (by first | assumption | omega) (fun qc_78 => ?_) (fun qc_78 => ?_)
              · refine q_iinc (pc' := 89) 2 (L' := [(2, q_i (k + (-1))), (0, q_r Γ 150), (1, q_i sum)]) dX9_matched_86 rfl rfl (by decide) rfl ?_
                refine q_goto (pc' := 68) dX9_matched_89 rfl ?_
                refine p_sub [1, 2, 0] rfl ?_
                exact qih_68 _ (by omega) _ _ (by first | assumption | omega) (by first | omega | (rw [s_dropB_w, q_w1_s, s_dpB_4]; omega)) (by first | (rw [show k + (-1) + 1 = k by omega, s_dropB_w, q_w1_s, ← qa_68_2, s_rmB_t (by omega) (by omega)]; done) | (rw [show k + (-1) + 1 = k by omega, ← qa_68_2, s_rmB_f (by omega) (by omega)]; done)) (by first | assumption | (rw [s_dropB_w, q_w1_s]; exact s_ok_dpB ok4 (by omega) (by omega))) (by first | assumption | (rw [s_dropB_w]; exact s_off_w (by assumption))) rfl
              · refine q_aloadn (pc' := 82) 0 dX9_matched_81 rfl rfl ?_
                refine q_iloadn (pc' := 83) 2 dX9_matched_82 rfl rfl ?_
                refine q_callVV (pc' := 86) dX9_matched_83 rfl lX9_142 iX9_dropBid kc150 rfl (c_X9_dropBid (by first | assumption | omega) (by first | assumption | omega) (by first | assumption | omega)) rfl rfl (Nat.le_of_ble_eq_true rfl) (Nat.le_of_ble_eq_true rfl) (Nat.le_of_ble_eq_true rfl) ?_
                refine q_iinc (pc' := 89) 2 (L' := [(2, q_i (k + (-1))), (0, q_r Γ 150), (1, q_i sum)]) dX9_matched_86 rfl rfl (by decide) rfl ?_
                refine q_goto (pc' := 68) dX9_matched_89 rfl ?_
                refine p_sub [1, 2, 0] rfl ?_
                exact qih_68 _ (by omega) _ _ (by first | assumption | omega) (by first | omega | (rw [s_dropB_w, q_w1_s, s_dpB_4]; omega)) (by first | (rw [show k + (-1) + 1 = k by omega, s_dropB_w, q_w1_s, ← qa_68_2, s_rmB_t (by omega) (by omega)]; done) | (rw [show k + (-1) + 1 = k by omega, ← qa_68_2, s_rmB_f (by omega) (by omega)]; done)) (by first | assumption | (rw [s_dropB_w, q_w1_s]; exact s_ok_dpB ok4 (by omega) (by omega))) (by first | assumption | (rw [s_dropB_w]; exact s_off_w (by assumption))) rfl
        refine p_sub [1, 2, 0] rfl ?_
        exact qlp_68 _ _ _ (by first | assumption | omega) (by first | assumption | omega) (by rw [show (qy_64 - 1 + 1).toNat = (S 151 4).toNat by omega]; exact hB) (by assumption) (by assumption) rfl
      · refine q_iconst (pc' := 15) dX9_matched_14 rfl ?_
        refine q_istoren (pc' := 16) (L' := [(3, q_i 0), (0, q_r Γ 150), (1, q_i sum), (2, q_i place)]) dX9_matched_15 rfl rfl (by decide) rfl ?_
        have qlp_16 : ∀ (qn_16 : Nat) (S3 : q_S) (sum3 k : Int), (0 ≤ k) → (k ≤ S 151 4) → ((S3 151, sum3) = s_mtI place (S2 151, sum) k.toNat) → (s_ok (S3 151)) → (S3 151 4 = S 151 4) → (s_off S S3 (fun a => a = 151)) → ((10 - k).toNat) = qn_16 → q_Go Γ mX9_matched 3 0 0 16 [(0, q_r Γ 150), (1, q_i sum3), (2, q_i place), (3, q_i k)] [] (KC, S3) (q_ev (some (q_i (s_matV (S 151)))) (KC, q_w1 S (s_matP (S 151)))) := by
          intro qn_16
          induction qn_16 using Nat.strongRecOn with
          | ind qn_16 qih_16 =>
            intro S3 sum3 k qa_16_0 qa_16_1 qa_16_2 qa_16_3 qa_16_4 qa_16_5 qhn_16
            subst qhn_16
            have ok3 : s_ok (S3 151) := qa_16_3
            refine q_iloadn (pc' := 17) 3 dX9_matched_16 rfl rfl ?_
            refine q_aloadn (pc' := 18) 0 dX9_matched_17 rfl rfl ?_
            refine p_getR (pc' := 21) (f := 151) dX9_matched_18 rfl fX9_7 kc150 rfl ?_
            refine q_iconst (pc' := 22) dX9_matched_21 rfl ?_
            refine p_iald (pc' := 23) dX9_matched_22 rfl kc151 (by first | assumption | omega) (by first | assumption | omega) (by decide) (fun qy_22 eqy_22 rqy_22 => ?_)
            refine q_icmp_ge (tgt := 53) (pc' := 26) dX9_matched_23 rfl rfl (by first | assumption | omega) (by first | assumption | omega) (fun qc_23 => ?_) (fun qc_23 => ?_)
            · refine q_iinc (pc' := 56) 2 (L' := [(2, q_i (place + 1)), (0, q_r Γ 150), (1, q_i sum3), (3, q_i k)]) dX9_matched_53 rfl rfl (by decide) rfl ?_
              refine q_goto (pc' := 4) dX9_matched_56 rfl ?_
              refine p_sub [1, 2, 0] rfl ?_
              exact qih_4 _ (by omega) _ _ _ (by first | assumption | omega) (by first | assumption | omega) (by rw [s_mtP_s (by omega), ← qa_4_2, qa_16_2, show k = S 151 4 by omega]) (by assumption) (by assumption) (by assumption) rfl
            · refine q_iloadn (pc' := 27) 1 dX9_matched_26 rfl rfl ?_
              refine q_aloadn (pc' := 28) 0 dX9_matched_27 rfl rfl ?_
              refine q_iloadn (pc' := 29) 3 dX9_matched_28 rfl rfl ?_
              refine q_callVI (pc' := 32) dX9_matched_29 rfl lX9_154 iX9_placeOfBid kc150 rfl (c_X9_placeOfBid (by first | assumption | omega) (by first | assumption | omega) (by first | assumption | omega)) rfl rfl (Nat.le_of_ble_eq_true rfl) (Nat.le_of_ble_eq_true rfl) (Nat.le_of_ble_eq_true rfl) ?_
              have pb := s_pob_b ok3 k
              refine q_iloadn (pc' := 33) 2 dX9_matched_32 rfl rfl ?_
              refine q_icmp_ne (tgt := 44) (pc' := 36) dX9_matched_33 rfl rfl (by first | assumption | omega) (by first | assumption | omega) (fun qc_33 => ?_) (fun qc_33 => ?_)
              · refine q_iconst (pc' := 45) dX9_matched_44 rfl ?_
                refine q_iadd (pc' := 46) dX9_matched_45 rfl ?_
                refine q_istoren (pc' := 47) (L' := [(1, q_i (sum3 + 0)), (0, q_r Γ 150), (2, q_i place), (3, q_i k)]) dX9_matched_46 rfl rfl (by decide) rfl ?_
                refine q_iinc (pc' := 50) 3 (L' := [(3, q_i (k + 1)), (1, q_i (sum3 + 0)), (0, q_r Γ 150), (2, q_i place)]) dX9_matched_47 rfl rfl (by decide) rfl ?_
                refine q_goto (pc' := 16) dX9_matched_50 rfl ?_
                refine p_sub [2, 1, 3, 0] rfl ?_
                exact qih_16 _ (by omega) _ _ _ (by first | assumption | omega) (by first | assumption | omega) (by first | (rw [s_mtI_t (by omega) (by rw [← qa_16_2]; show s_pob (S3 151) k = place; omega), ← qa_16_2, q_w1_s]; done) | (rw [s_mtI_f (by omega) (by rw [← qa_16_2]; show ¬ s_pob (S3 151) k = place; omega), ← qa_16_2, Int.add_zero]; done)) (by first | assumption | (rw [q_w1_s]; exact (s_tbP_k ok3 (by omega) (by omega)).1)) (by first | assumption | (rw [q_w1_s, (s_tbP_k ok3 (b := k) (by omega) (by omega)).2 4 (by omega)]; assumption)) (by first | assumption | exact s_off_w (by assumption)) rfl
              · refine q_aloadn (pc' := 37) 0 dX9_matched_36 rfl rfl ?_
                refine q_iloadn (pc' := 38) 3 dX9_matched_37 rfl rfl ?_
                refine q_callVI (pc' := 41) dX9_matched_38 rfl lX9_157 iX9_tradedBy kc150 rfl (c_X9_tradedBy (by first | assumption | omega) (by first | assumption | omega) (by first | assumption | omega)) rfl rfl (Nat.le_of_ble_eq_true rfl) (Nat.le_of_ble_eq_true rfl) (Nat.le_of_ble_eq_true rfl) ?_
                refine q_goto (pc' := 45) dX9_matched_41 rfl ?_
                refine q_iadd (pc' := 46) dX9_matched_45 rfl ?_
                refine q_istoren (pc' := 47) (L' := [(1, q_i (sum3 + (s_tbV (S3 151) k))), (0, q_r Γ 150), (2, q_i place), (3, q_i k)]) dX9_matched_46 rfl rfl (by decide) rfl ?_
                refine q_iinc (pc' := 50) 3 (L' := [(3, q_i (k + 1)), (1, q_i (sum3 + (s_tbV (S3 151) k))), (0, q_r Γ 150), (2, q_i place)]) dX9_matched_47 rfl rfl (by decide) rfl ?_
                refine q_goto (pc' := 16) dX9_matched_50 rfl ?_
                refine p_sub [2, 1, 3, 0] rfl ?_
                exact qih_16 _ (by omega) _ _ _ (by first | assumption | omega) (by first | assumption | omega) (by first | (rw [s_mtI_t (by omega) (by rw [← qa_16_2]; show s_pob (S3 151) k = place; omega), ← qa_16_2, q_w1_s]; done) | (rw [s_mtI_f (by omega) (by rw [← qa_16_2]; show ¬ s_pob (S3 151) k = place; omega), ← qa_16_2, Int.add_zero]; done)) (by first | assumption | (rw [q_w1_s]; exact (s_tbP_k ok3 (by omega) (by omega)).1)) (by first | assumption | (rw [q_w1_s, (s_tbP_k ok3 (b := k) (by omega) (by omega)).2 4 (by omega)]; assumption)) (by first | assumption | exact s_off_w (by assumption)) rfl
        refine p_sub [1, 2, 3, 0] rfl ?_
        exact qlp_16 _ _ _ _ (by first | assumption | omega) (by first | assumption | omega) (by rfl) (by assumption) (by assumption) (by assumption) rfl
  refine p_sub [2, 1, 0] rfl ?_
  exact qlp_4 _ _ _ _ (by first | assumption | omega) (by first | assumption | omega) (by rfl) (by first | assumption | omega) (by rfl) (by exact s_off_r) rfl
set_option maxRecDepth 20000 in
set_option maxHeartbeats 4000000 in
theorem c_X9_match {Γ : q_G} {S : q_S} (ok : s_ok (S 151)) (h0 : 0 ≤ S 150 2) (h6 : S 150 2 ≤ 6) : q_Sp Γ mX9_match 4 0 0 [q_r Γ 150] (KC, S) (q_ev (some (q_i (s_matV (S 151)))) (KC, q_w1 (s_rec S) (s_matP (S 151)))) := by
  show q_Go Γ mX9_match 4 0 0 0 [(0, q_r Γ 150)] [] (KC, S) (q_ev (some (q_i (s_matV (S 151)))) (KC, q_w1 (s_rec S) (s_matP (S 151))))
  refine q_aloadn (pc' := 1) 0 dX9_match_0 rfl rfl ?_
  refine q_callVV (pc' := 4) dX9_match_1 rfl lX9_99 iX9_record kc150 rfl (c_X9_record (by first | assumption | (rw [s_rec_151]; assumption) | omega) (by first | assumption | (rw [s_rec_151]; assumption) | omega)) rfl rfl (Nat.le_of_ble_eq_true rfl) (Nat.le_of_ble_eq_true rfl) (Nat.le_of_ble_eq_true rfl) ?_
  refine q_aloadn (pc' := 5) 0 dX9_match_4 rfl rfl ?_
  refine q_callVI (pc' := 8) dX9_match_5 rfl lX9_160 iX9_matched kc150 rfl (c_X9_matched (by first | assumption | (rw [s_rec_151]; assumption) | omega)) rfl rfl (Nat.le_of_ble_eq_true rfl) (Nat.le_of_ble_eq_true rfl) (Nat.le_of_ble_eq_true rfl) ?_
  refine p_iret dX9_match_8 rfl ?_ ?_
  · rw [s_rec_151]
  · rw [s_rec_151]
