set_option maxRecDepth 20000 in
set_option maxHeartbeats 400000 in
theorem c_X2_mostToBlame {Γ : q_G} {S : q_S} {φ : Int → Int} {r : Int} (FF : s_F S 1 φ) (ok : s_ok φ) (r0 : 0 ≤ r) (r1 : r < φ 0) : q_Sp Γ mX2_mostToBlame 3 0 0 [q_r Γ 14, q_i r] (KC, S) (fun v w => v = some (q_i (s_mb φ r)) ∧ ∃ S2, w = (KC, S2) ∧ s_offL S S2) := by
  show q_Go Γ mX2_mostToBlame 3 0 0 0 [(0, q_r Γ 14), (1, q_i r)] [] (KC, S) (fun v w => v = some (q_i (s_mb φ r)) ∧ ∃ S2, w = (KC, S2) ∧ s_offL S S2)
  have rw0 := s_rows_b ok
  refine q_iconst (pc' := 1) dX2_mostToBlame_0 rfl ?_
  refine q_istoren (pc' := 2) (L' := [(2, q_i 0), (0, q_r Γ 14), (1, q_i r)]) dX2_mostToBlame_1 rfl rfl (by decide) rfl ?_
  have qlp_2 : ∀ (qn_2 : Nat) (S2 : q_S) (k : Int), (0 ≤ k) → (k ≤ 6) → (s_offL S S2) → (∀ b, 0 ≤ b → b < k → S2 18 b = 0) → ((6 - k).toNat) = qn_2 → q_Go Γ mX2_mostToBlame 3 0 0 2 [(0, q_r Γ 14), (1, q_i r), (2, q_i k)] [] (KC, S2) (fun v w => v = some (q_i (s_mb φ r)) ∧ ∃ S2, w = (KC, S2) ∧ s_offL S S2) := by
    intro qn_2
    induction qn_2 using Nat.strongRecOn with
    | ind qn_2 qih_2 =>
      intro S2 k qa_2_0 qa_2_1 qa_2_2 qa_2_3 qhn_2
      subst qhn_2
      refine q_iloadn (pc' := 3) 2 dX2_mostToBlame_2 rfl rfl ?_
      refine q_bipush (pc' := 5) dX2_mostToBlame_3 rfl rfl ?_
      refine q_icmp_ge (tgt := 21) (pc' := 8) dX2_mostToBlame_5 rfl rfl (by first | assumption | omega) (by decide) (fun qc_5 => ?_) (fun qc_5 => ?_)
      · refine q_iconst (pc' := 22) dX2_mostToBlame_21 rfl ?_
        refine q_istoren (pc' := 23) (L' := [(2, q_i 0), (0, q_r Γ 14), (1, q_i r)]) dX2_mostToBlame_22 rfl rfl (by decide) rfl ?_
        have qlp_23 : ∀ (qn_23 : Nat) (S3 : q_S) (k : Int), (0 ≤ k) → (k ≤ 10) → (s_offL S S3) → (s_hb S3 φ r k.toNat) → ((10 - k).toNat) = qn_23 → q_Go Γ mX2_mostToBlame 3 0 0 23 [(0, q_r Γ 14), (1, q_i r), (2, q_i k)] [] (KC, S3) (fun v w => v = some (q_i (s_mb φ r)) ∧ ∃ S2, w = (KC, S2) ∧ s_offL S S2) := by
          intro qn_23
          induction qn_23 using Nat.strongRecOn with
          | ind qn_23 qih_23 =>
            intro S3 k qa_23_0 qa_23_1 qa_23_2 qa_23_3 qhn_23
            subst qhn_23
            have FF3 : s_F S3 1 φ := s_F_L FF qa_23_2
            refine q_iloadn (pc' := 24) 2 dX2_mostToBlame_23 rfl rfl ?_
            refine q_bipush (pc' := 26) dX2_mostToBlame_24 rfl rfl ?_
            refine q_icmp_ge (tgt := 62) (pc' := 29) dX2_mostToBlame_26 rfl rfl (by first | assumption | omega) (by decide) (fun qc_26 => ?_) (fun qc_26 => ?_)
            · refine q_iconst (pc' := 63) dX2_mostToBlame_62 rfl ?_
              refine q_istoren (pc' := 64) (L' := [(2, q_i 0), (0, q_r Γ 14), (1, q_i r)]) dX2_mostToBlame_63 rfl rfl (by decide) rfl ?_
              refine q_iconst (pc' := 65) dX2_mostToBlame_64 rfl ?_
              refine q_istoren (pc' := 66) (L' := [(3, q_i 1), (2, q_i 0), (0, q_r Γ 14), (1, q_i r)]) dX2_mostToBlame_65 rfl rfl (by decide) rfl ?_
              have qHC : ∀ b, 0 ≤ b → b < 6 → S3 18 b = s_blh φ r b := fun b x y => by have q := qa_23_3 b x y; rw [show k = 10 by omega] at q; exact q
              have qlp_66 : ∀ (qn_66 : Nat) (m k : Int), (1 ≤ k) → (k ≤ 6) → (s_mst φ r m k.toNat) → ((6 - k).toNat) = qn_66 → q_Go Γ mX2_mostToBlame 3 0 0 66 [(0, q_r Γ 14), (1, q_i r), (2, q_i m), (3, q_i k)] [] (KC, S3) (fun v w => v = some (q_i (s_mb φ r)) ∧ ∃ S2, w = (KC, S2) ∧ s_offL S S2) := by
                intro qn_66
                induction qn_66 using Nat.strongRecOn with
                | ind qn_66 qih_66 =>
                  intro m k qa_66_0 qa_66_1 qa_66_2 qhn_66
                  subst qhn_66
                  have qmm := qa_66_2.1
                  have qmn := qa_66_2.2.1
                  refine q_iloadn (pc' := 67) 3 dX2_mostToBlame_66 rfl rfl ?_
                  refine q_bipush (pc' := 69) dX2_mostToBlame_67 rfl rfl ?_
                  refine q_icmp_ge (tgt := 95) (pc' := 72) dX2_mostToBlame_69 rfl rfl (by first | assumption | omega) (by decide) (fun qc_69 => ?_) (fun qc_69 => ?_)
                  · refine q_aloadn (pc' := 96) 0 dX2_mostToBlame_95 rfl rfl ?_
                    refine p_getR (pc' := 99) (f := 18) dX2_mostToBlame_96 rfl fX2_25 kc14 rfl ?_
                    refine q_iloadn (pc' := 100) 2 dX2_mostToBlame_99 rfl rfl ?_
                    refine p_iald (pc' := 101) dX2_mostToBlame_100 rfl kc18 (by first | assumption | omega) (by first | assumption | omega) (by decide) (fun qy_100 eqy_100 rqy_100 => ?_)
                    have qe100 : qy_100 = s_blh φ r m := by rw [eqy_100]; exact qHC m (by omega) (by omega)
                    refine q_if_ne (tgt := 109) (pc' := 104) dX2_mostToBlame_101 rfl rfl (by first | assumption | omega) (fun qc_101 => ?_) (fun qc_101 => ?_)
                    · refine q_iloadn (pc' := 110) 2 dX2_mostToBlame_109 rfl rfl ?_
                      exact q_iret dX2_mostToBlame_110 rfl rfl ⟨congrArg (fun z => some (q_i z)) (by rw [s_mb_e ok r0 (by omega) (by omega) qa_66_2]; first | (rw [if_pos (by omega)]; done) | (rw [if_neg (by omega)]; done)), _, rfl, qa_23_2⟩
                    · refine q_bipush (pc' := 106) dX2_mostToBlame_104 rfl rfl ?_
                      refine q_goto (pc' := 110) dX2_mostToBlame_106 rfl ?_
                      exact q_iret dX2_mostToBlame_110 rfl rfl ⟨congrArg (fun z => some (q_i z)) (by rw [s_mb_e ok r0 (by omega) (by omega) qa_66_2]; first | (rw [if_pos (by omega)]; done) | (rw [if_neg (by omega)]; done)), _, rfl, qa_23_2⟩
                  · refine q_aloadn (pc' := 73) 0 dX2_mostToBlame_72 rfl rfl ?_
                    refine p_getR (pc' := 76) (f := 18) dX2_mostToBlame_73 rfl fX2_25 kc14 rfl ?_
                    refine q_iloadn (pc' := 77) 3 dX2_mostToBlame_76 rfl rfl ?_
                    refine p_iald (pc' := 78) dX2_mostToBlame_77 rfl kc18 (by first | assumption | omega) (by first | assumption | omega) (by decide) (fun qy_77 eqy_77 rqy_77 => ?_)
                    have qe77 : qy_77 = s_blh φ r k := by rw [eqy_77]; exact qHC k (by omega) (by omega)
                    refine q_aloadn (pc' := 79) 0 dX2_mostToBlame_78 rfl rfl ?_
                    refine p_getR (pc' := 82) (f := 18) dX2_mostToBlame_79 rfl fX2_25 kc14 rfl ?_
                    refine q_iloadn (pc' := 83) 2 dX2_mostToBlame_82 rfl rfl ?_
                    refine p_iald (pc' := 84) dX2_mostToBlame_83 rfl kc18 (by first | assumption | omega) (by first | assumption | omega) (by decide) (fun qy_83 eqy_83 rqy_83 => ?_)
                    have qe83 : qy_83 = s_blh φ r m := by rw [eqy_83]; exact qHC m (by omega) (by omega)
                    refine q_icmp_le (tgt := 89) (pc' := 87) dX2_mostToBlame_84 rfl rfl (by first | assumption | omega) (by first | assumption | omega) (fun qc_84 => ?_) (fun qc_84 => ?_)
                    · refine q_iinc (pc' := 92) 3 (L' := [(3, q_i (k + 1)), (0, q_r Γ 14), (1, q_i r), (2, q_i m)]) dX2_mostToBlame_89 rfl rfl (by decide) rfl ?_
                      refine q_goto (pc' := 66) dX2_mostToBlame_92 rfl ?_
                      refine p_sub [1, 2, 3, 0] rfl ?_
                      exact qih_66 _ (by omega) _ _ (by first | assumption | omega) (by first | assumption | omega) (by first | exact s_mst_t qa_66_2 (by omega) (by omega) (by omega) | exact s_mst_f qa_66_2 (by omega) (by omega)) rfl
                    · refine q_iloadn (pc' := 88) 3 dX2_mostToBlame_87 rfl rfl ?_
                      refine q_istoren (pc' := 89) (L' := [(2, q_i k), (0, q_r Γ 14), (1, q_i r), (3, q_i k)]) dX2_mostToBlame_88 rfl rfl (by decide) rfl ?_
                      refine q_iinc (pc' := 92) 3 (L' := [(3, q_i (k + 1)), (2, q_i k), (0, q_r Γ 14), (1, q_i r)]) dX2_mostToBlame_89 rfl rfl (by decide) rfl ?_
                      refine q_goto (pc' := 66) dX2_mostToBlame_92 rfl ?_
                      refine p_sub [2, 3, 1, 0] rfl ?_
                      exact qih_66 _ (by omega) _ _ (by first | assumption | omega) (by first | assumption | omega) (by first | exact s_mst_t qa_66_2 (by omega) (by omega) (by omega) | exact s_mst_f qa_66_2 (by omega) (by omega)) rfl
              refine p_sub [2, 3, 1, 0] rfl ?_
              exact qlp_66 _ _ _ (by first | assumption | omega) (by first | assumption | omega) (by exact s_mst_1) rfl
            · refine q_aloadn (pc' := 30) 0 dX2_mostToBlame_29 rfl rfl ?_
              refine q_iloadn (pc' := 31) 2 dX2_mostToBlame_30 rfl rfl ?_
              refine q_callVQ (pc' := 34) dX2_mostToBlame_31 rfl lX2_107 iX2_look kc14 rfl (c_X2_look (by first | assumption | omega) (by first | assumption | omega) (by first | assumption | omega) (by first | assumption | omega)) rfl rfl (Nat.le_of_ble_eq_true rfl) (Nat.le_of_ble_eq_true rfl) (Nat.le_of_ble_eq_true rfl) (fun vq wq hq => ?_)
              obtain ⟨rfl, qS31, rfl, qo31, qk31⟩ := hq
              have ql31 := s_offK_L qo31
              have qF31 : s_F qS31 1 φ := s_F_K (by assumption) qo31
              have qh31 := qk31.1
              show q_Go Γ mX2_mostToBlame 3 0 0 34 [(0, q_r Γ 14), (1, q_i r), (2, q_i k)] [] (KC, qS31) (fun v w => v = some (q_i (s_mb φ r)) ∧ ∃ S2, w = (KC, S2) ∧ s_offL S S2)
              have qe18 : qS31 18 = S3 18 := qo31 18 (Or.inr (by decide))
              refine q_aloadn (pc' := 35) 0 dX2_mostToBlame_34 rfl rfl ?_
              refine q_iloadn (pc' := 36) 1 dX2_mostToBlame_35 rfl rfl ?_
              refine q_callVI (pc' := 39) dX2_mostToBlame_36 rfl lX2_94 iX2_toBlame kc14 rfl (c_X2_toBlame (by first | assumption | omega) (by first | assumption | omega) (by first | assumption | omega) (by first | assumption | omega) (by first | assumption | omega) (by first | assumption | omega) (by first | assumption | omega)) rfl rfl (Nat.le_of_ble_eq_true rfl) (Nat.le_of_ble_eq_true rfl) (Nat.le_of_ble_eq_true rfl) ?_
              refine q_istoren (pc' := 40) (L' := [(3, q_i (s_bl φ r k)), (0, q_r Γ 14), (1, q_i r), (2, q_i k)]) dX2_mostToBlame_39 rfl rfl (by decide) rfl ?_
              have qbb := s_bl_b ok r0 (show r < 6 by omega) (h := k) (by omega) (by omega)
              refine q_iloadn (pc' := 41) 0 dX2_mostToBlame_40 rfl rfl ?_
              refine q_bipush (pc' := 43) dX2_mostToBlame_41 rfl rfl ?_
              refine q_icmp_eq (tgt := 56) (pc' := 46) dX2_mostToBlame_43 rfl rfl (by first | assumption | omega) (by decide) (fun qc_43 => ?_) (fun qc_43 => ?_)
              · refine q_iinc (pc' := 59) 3 (L' := [(2, q_i (k + 1)), (3, q_i (s_bl φ r k)), (0, q_r Γ 14), (1, q_i r)]) dX2_mostToBlame_56 rfl rfl (by decide) rfl ?_
                refine q_goto (pc' := 23) dX2_mostToBlame_59 rfl ?_
                refine p_sub [2, 3, 0] rfl ?_
                exact qih_23 _ (by omega) _ _ (by first | assumption | omega) (by first | assumption | omega) (by first | exact s_offL_t qa_23_2 ql31 | exact s_offL_u (s_offL_t qa_23_2 ql31) (by decide) (by decide)) (by first | (have qhh := s_hb_n qa_23_3 qe18 (by omega) (by omega); exact qhh) | exact s_hb_t qa_23_3 qe18 (by omega) eqnone_ (by omega) (by omega)) rfl
              · refine q_aloadn (pc' := 47) 1 dX2_mostToBlame_46 rfl rfl ?_
                refine p_getR (pc' := 50) (f := 18) dX2_mostToBlame_47 rfl fX2_25 kc14 rfl ?_
                refine q_iloadn (pc' := 51) 0 dX2_mostToBlame_50 rfl rfl ?_
                refine q_dup2 (pc' := 52) dX2_mostToBlame_51 rfl rfl rfl ?_
                refine p_iald (pc' := 53) dX2_mostToBlame_52 rfl kc18 (by first | assumption | omega) (by first | assumption | omega) (by decide) (fun qy_52 eqy_52 rqy_52 => ?_)
                have qcb := s_cnt_b (P := fun h => s_bl φ r h = s_bl φ r k) k.toNat
                have qec : qy_52 = q_sum (fun h => q_B (s_bl φ r h = s_bl φ r k)) k.toNat := by rw [eqy_52, qe18]; exact qa_23_3 _ (by omega) (by omega)
                refine q_iconst (pc' := 54) dX2_mostToBlame_53 rfl ?_
                refine q_iadd (pc' := 55) dX2_mostToBlame_54 rfl ?_
                refine p_iast (pc' := 56) dX2_mostToBlame_55 rfl kc18 (by first | assumption | omega) (by first | assumption | omega) (by decide) (by first | assumption | omega) ?_
                refine q_iinc (pc' := 59) 3 (L' := [(2, q_i (k + 1)), (3, q_i (s_bl φ r k)), (0, q_r Γ 14), (1, q_i r)]) dX2_mostToBlame_56 rfl rfl (by decide) rfl ?_
                refine q_goto (pc' := 23) dX2_mostToBlame_59 rfl ?_
                refine p_sub [2, 3, 0] rfl ?_
                exact qih_23 _ (by omega) _ _ (by first | assumption | omega) (by first | assumption | omega) (by first | exact s_offL_t qa_23_2 ql31 | exact s_offL_u (s_offL_t qa_23_2 ql31) (by decide) (by decide)) (by first | (have qhh := s_hb_n qa_23_3 qe18 (by omega) (by omega); exact qhh) | exact s_hb_t qa_23_3 qe18 (by omega) eqy_52 (by omega) (by omega)) rfl
        refine p_sub [1, 2, 0] rfl ?_
        exact qlp_23 _ _ _ (by first | assumption | omega) (by first | assumption | omega) (by assumption) (by intro b x y; exact qa_2_3 b x (by omega)) rfl
      · refine q_aloadn (pc' := 9) 0 dX2_mostToBlame_8 rfl rfl ?_
        refine p_getR (pc' := 12) (f := 18) dX2_mostToBlame_9 rfl fX2_25 kc14 rfl ?_
        refine q_iloadn (pc' := 13) 2 dX2_mostToBlame_12 rfl rfl ?_
        refine q_iconst (pc' := 14) dX2_mostToBlame_13 rfl ?_
        refine p_iast (pc' := 15) dX2_mostToBlame_14 rfl kc18 (by first | assumption | omega) (by first | assumption | omega) (by decide) (by first | assumption | omega) ?_
        refine q_iinc (pc' := 18) 2 (L' := [(2, q_i (k + 1)), (0, q_r Γ 14), (1, q_i r)]) dX2_mostToBlame_15 rfl rfl (by decide) rfl ?_
        refine q_goto (pc' := 2) dX2_mostToBlame_18 rfl ?_
        refine p_sub [1, 2, 0] rfl ?_
        exact qih_2 _ (by omega) _ _ (by first | assumption | omega) (by first | assumption | omega) (by exact s_offL_u (by assumption) (by decide) (by decide)) (by intro b x y; rcases (show b < k ∨ b = k by omega) with g | g; (rw [q_up_nz (by omega)]; exact qa_2_3 b x g); (subst g; rw [q_up_eq])) rfl
  refine p_sub [1, 2, 0] rfl ?_
  exact qlp_2 _ _ _ (by first | assumption | omega) (by first | assumption | omega) (by exact s_offL_r) (by intro b x y; omega) rfl
