set_option maxRecDepth 20000 in
set_option maxHeartbeats 4000000 in
theorem c_X7_run {Γ : q_G} {S : q_S} {φ : Int → Int}  (FF : s_F S 1 φ) (ok : s_ok φ) : q_Sp Γ mX7_run 10 0 0 [q_r Γ 20] (KC, S) (fun v9 w9 => v9 = none ∧ ∃ S2, w9 = (KC, S2) ∧ s_offS S S2 ∧ s_smk φ S2 10 ∧ s_bst φ (s_p5 (φ 0).toNat) (S2 20 3)) := by
  show q_Go Γ mX7_run 10 0 0 0 [(0, q_r Γ 20)] [] (KC, S) (fun v9 w9 => v9 = none ∧ ∃ S2, w9 = (KC, S2) ∧ s_offS S S2 ∧ s_smk φ S2 10 ∧ s_bst φ (s_p5 (φ 0).toNat) (S2 20 3))
  have rw0 := s_rows_b ok
  have p5b := s_p5_b (k := φ 0) rw0.1 rw0.2
  refine q_gets (pc' := 3) dX7_run_0 rfl (i := 2) (by decide) wX7_36 ?_
  refine q_aloadn (pc' := 4) 0 dX7_run_3 rfl rfl ?_
  refine p_getR (pc' := 7) (f := 1) dX7_run_4 rfl fX7_28 kc20 rfl ?_
  refine p_getJ (pc' := 10) (kz := 0) dX7_run_7 rfl fX7_39 kc1 rfl rfl (fun qy_7 eqy_7 rqy_7 => ?_)
  have vqy_7 : qy_7 = φ 0 := eqy_7.trans (s_F_0 FF)
  rw [vqy_7]
  refine p_tald (pc' := 11) dX7_run_10 rfl (by decide) (by first | assumption | omega) (by show φ 0 < 7; omega) (by first | assumption | omega) (fun qy_10 eqy_10 => ?_)
  rw [show qy_10 = s_p5 (φ 0).toNat from eqy_10.trans (s_tab2 (by omega) (by omega))]
  refine q_istoren (pc' := 12) (L' := [(1, q_i (s_p5 (φ 0).toNat)), (0, q_r Γ 20)]) dX7_run_11 rfl rfl (by decide) rfl ?_
  refine q_iconst (pc' := 13) dX7_run_12 rfl ?_
  refine q_istoren (pc' := 14) (L' := [(2, q_i 0), (1, q_i (s_p5 (φ 0).toNat)), (0, q_r Γ 20)]) dX7_run_13 rfl rfl (by decide) rfl ?_
  have qlp_14 : ∀ (qn_14 : Nat) (S2 : q_S) (i : Int), (0 ≤ i) → (i ≤ s_p5 (φ 0).toNat) → (s_offS S S2) → (∀ j, 0 ≤ j → j < i → S2 21 j = 0) → ((s_p5 (φ 0).toNat - i).toNat) = qn_14 → q_Go Γ mX7_run 10 0 0 14 [(0, q_r Γ 20), (1, q_i (s_p5 (φ 0).toNat)), (2, q_i i)] [] (KC, S2) (fun v9 w9 => v9 = none ∧ ∃ S2, w9 = (KC, S2) ∧ s_offS S S2 ∧ s_smk φ S2 10 ∧ s_bst φ (s_p5 (φ 0).toNat) (S2 20 3)) := by
    intro qn_14
    induction qn_14 using Nat.strongRecOn with
    | ind qn_14 qih_14 =>
      intro S2 i qa_14_0 qa_14_1 qa_14_2 qa_14_3 qhn_14
      subst qhn_14
      refine q_iloadn (pc' := 15) 2 dX7_run_14 rfl rfl ?_
      refine q_iloadn (pc' := 16) 1 dX7_run_15 rfl rfl ?_
      refine q_icmp_ge (tgt := 32) (pc' := 19) dX7_run_16 rfl rfl (by first | assumption | omega) (by first | assumption | omega) (fun qc_16 => ?_) (fun qc_16 => ?_)
      · refine q_aloadn (pc' := 33) 0 dX7_run_32 rfl rfl ?_
        refine q_callVQ (pc' := 36) dX7_run_33 rfl lX7_44 iX7_findTops kc20 rfl (c_X7_findTops (s_F_S FF qa_14_2) ok) rfl rfl (Nat.le_of_ble_eq_true rfl) (Nat.le_of_ble_eq_true rfl) (Nat.le_of_ble_eq_true rfl) (fun vq wq hq => ?_)
        obtain ⟨rfl, qS33, rfl, qo33, qs33, qT33⟩ := hq
        show q_Go Γ mX7_run 10 0 0 36 [(0, q_r Γ 20), (1, q_i (s_p5 (φ 0).toNat)), (2, q_i i)] [] (KC, qS33) (fun v9 w9 => v9 = none ∧ ∃ S2, w9 = (KC, S2) ∧ s_offS S S2 ∧ s_smk φ S2 10 ∧ s_bst φ (s_p5 (φ 0).toNat) (S2 20 3))
        refine q_iconst (pc' := 37) dX7_run_36 rfl ?_
        refine q_istoren (pc' := 38) (L' := [(2, q_i 0), (0, q_r Γ 20), (1, q_i (s_p5 (φ 0).toNat))]) dX7_run_37 rfl rfl (by decide) rfl ?_
        have qlp_38 : ∀ (qn_38 : Nat) (S3 : q_S) (k : Int), (0 ≤ k) → (k ≤ 10) → (s_offS S S3) → (∀ r, 0 ≤ r → r < φ 0 → S3 22 r = s_tp φ r) → (s_smk φ S3 k.toNat) → ((10 - k).toNat) = qn_38 → q_Go Γ mX7_run 10 0 0 38 [(0, q_r Γ 20), (1, q_i (s_p5 (φ 0).toNat)), (2, q_i k)] [] (KC, S3) (fun v9 w9 => v9 = none ∧ ∃ S2, w9 = (KC, S2) ∧ s_offS S S2 ∧ s_smk φ S2 10 ∧ s_bst φ (s_p5 (φ 0).toNat) (S2 20 3)) := by
          intro qn_38
          induction qn_38 using Nat.strongRecOn with
          | ind qn_38 qih_38 =>
            intro S3 k qa_38_0 qa_38_1 qa_38_2 qa_38_3 qa_38_4 qhn_38
            subst qhn_38
            have FF3 : s_F S3 1 φ := s_F_S FF qa_38_2
            refine q_iloadn (pc' := 39) 2 dX7_run_38 rfl rfl ?_
            refine q_bipush (pc' := 41) dX7_run_39 rfl rfl ?_
            refine q_icmp_ge (tgt := 79) (pc' := 44) dX7_run_41 rfl rfl (by first | assumption | omega) (by decide) (fun qc_41 => ?_) (fun qc_41 => ?_)
            · refine q_aloadn (pc' := 80) 0 dX7_run_79 rfl rfl ?_
              refine q_iconst (pc' := 81) dX7_run_80 rfl ?_
              refine p_putJ (pc' := 84) (kz := 3) dX7_run_81 rfl fX7_15 kc20 rfl rfl (rfl) (rfl) (by first | assumption | omega) ?_
              refine q_iconst (pc' := 85) dX7_run_84 rfl ?_
              refine q_istoren (pc' := 86) (L' := [(2, q_i 1), (0, q_r Γ 20), (1, q_i (s_p5 (φ 0).toNat))]) dX7_run_85 rfl rfl (by decide) rfl ?_
              have qlp_86 : ∀ (qn_86 : Nat) (S4 : q_S) (i b : Int), (1 ≤ i) → (i ≤ s_p5 (φ 0).toNat) → (s_offS S S4) → (s_smk φ S4 10) → (S4 20 3 = b) → (s_bst φ i b) → ((s_p5 (φ 0).toNat - i).toNat) = qn_86 → q_Go Γ mX7_run 10 0 0 86 [(0, q_r Γ 20), (1, q_i (s_p5 (φ 0).toNat)), (2, q_i i)] [] (KC, S4) (fun v9 w9 => v9 = none ∧ ∃ S2, w9 = (KC, S2) ∧ s_offS S S2 ∧ s_smk φ S2 10 ∧ s_bst φ (s_p5 (φ 0).toNat) (S2 20 3)) := by
                intro qn_86
                induction qn_86 using Nat.strongRecOn with
                | ind qn_86 qih_86 =>
                  intro S4 i b qa_86_0 qa_86_1 qa_86_2 qa_86_3 qa_86_4 qa_86_5 qhn_86
                  subst qhn_86
                  refine q_iloadn (pc' := 87) 2 dX7_run_86 rfl rfl ?_
                  refine q_iloadn (pc' := 88) 1 dX7_run_87 rfl rfl ?_
                  refine q_icmp_ge (tgt := 120) (pc' := 91) dX7_run_88 rfl rfl (by first | assumption | omega) (by first | assumption | omega) (fun qc_88 => ?_) (fun qc_88 => ?_)
                  · exact q_vret dX7_run_120 rfl ⟨rfl, _, rfl, qa_86_2, qa_86_3, by rw [qa_86_4, show s_p5 (φ 0).toNat = i by omega]; exact qa_86_5⟩
                  · refine q_aloadn (pc' := 92) 0 dX7_run_91 rfl rfl ?_
                    refine p_getR (pc' := 95) (f := 21) dX7_run_92 rfl fX7_9 kc20 rfl ?_
                    refine q_iloadn (pc' := 96) 2 dX7_run_95 rfl rfl ?_
                    refine p_iald (pc' := 97) dX7_run_96 rfl kc21 (by first | assumption | omega) (by first | assumption | omega) (by decide) (fun qy_96 eqy_96 rqy_96 => ?_)
                    have hbi := qa_86_5
                    have hbn := s_bst_n ok qa_86_5 qa_86_3 (by omega) (by omega)
                    have sib := s_smk_b ok (Nat.le_refl _) qa_86_3 (i := i) (by omega) (by omega)
                    have e96 : qy_96 = S4 21 i := eqy_96
                    refine q_aloadn (pc' := 98) 0 dX7_run_97 rfl rfl ?_
                    refine p_getR (pc' := 101) (f := 21) dX7_run_98 rfl fX7_9 kc20 rfl ?_
                    refine q_aloadn (pc' := 102) 0 dX7_run_101 rfl rfl ?_
                    refine p_getJ (pc' := 105) (kz := 3) dX7_run_102 rfl fX7_15 kc20 rfl rfl (fun qy_102 eqy_102 rqy_102 => ?_)
                    have e102 : qy_102 = b := eqy_102.trans qa_86_4
                    rw [e102]
                    have b01 : 0 ≤ b ∧ b < i := ⟨hbi.1, hbi.2.1⟩
                    have sbb := s_smk_b ok (Nat.le_refl _) qa_86_3 (i := b) (by omega) (by omega)
                    refine p_iald (pc' := 106) dX7_run_105 rfl kc21 (by first | assumption | omega) (by first | assumption | omega) (by decide) (fun qy_105 eqy_105 rqy_105 => ?_)
                    refine q_icmp_le (tgt := 114) (pc' := 109) dX7_run_106 rfl rfl (by first | assumption | omega) (by first | assumption | omega) (fun qc_106 => ?_) (fun qc_106 => ?_)
                    · refine q_iinc (pc' := 117) 2 (L' := [(2, q_i (i + 1)), (0, q_r Γ 20), (1, q_i (s_p5 (φ 0).toNat))]) dX7_run_114 rfl rfl (by decide) rfl ?_
                      refine q_goto (pc' := 86) dX7_run_117 rfl ?_
                      refine p_sub [1, 2, 0] rfl ?_
                      exact qih_86 _ (by omega) _ _ b (by first | assumption | omega) (by first | assumption | omega) (by first | exact s_offS_u qa_86_2 (by decide) (by decide) | assumption) (by first | assumption | (intro j x y; rw [q_up_ne (by decide)]; exact qa_86_3 j x y)) (by first | assumption | exact q_up_eq) (by first | exact hbn.2 (by omega) | exact hbn.1 (by omega)) rfl
                    · refine q_aloadn (pc' := 110) 0 dX7_run_109 rfl rfl ?_
                      refine q_iloadn (pc' := 111) 2 dX7_run_110 rfl rfl ?_
                      refine p_putJ (pc' := 114) (kz := 3) dX7_run_111 rfl fX7_15 kc20 rfl rfl (rfl) (rfl) (by first | assumption | omega) ?_
                      refine q_iinc (pc' := 117) 2 (L' := [(2, q_i (i + 1)), (0, q_r Γ 20), (1, q_i (s_p5 (φ 0).toNat))]) dX7_run_114 rfl rfl (by decide) rfl ?_
                      refine q_goto (pc' := 86) dX7_run_117 rfl ?_
                      refine p_sub [1, 2, 0] rfl ?_
                      exact qih_86 _ (by omega) _ _ i (by first | assumption | omega) (by first | assumption | omega) (by first | exact s_offS_u qa_86_2 (by decide) (by decide) | assumption) (by first | assumption | (intro j x y; rw [q_up_ne (by decide)]; exact qa_86_3 j x y)) (by first | assumption | exact q_up_eq) (by first | exact hbn.2 (by omega) | exact hbn.1 (by omega)) rfl
              refine p_sub [1, 2, 0] rfl ?_
              exact qlp_86 _ _ _ 0 (by first | assumption | omega) (by first | assumption | omega) (by exact s_offS_u qa_38_2 (by decide) (by decide)) (by intro j x y; rw [q_up_ne (by decide)]; have q := qa_38_4; rw [show k = 10 by omega] at q; exact q j x y) (by exact q_up_eq) (by exact s_bst_1 ok) rfl
            · refine q_aloadn (pc' := 45) 0 dX7_run_44 rfl rfl ?_
              refine p_getR (pc' := 48) (f := 14) dX7_run_45 rfl fX7_32 kc20 rfl ?_
              refine q_iloadn (pc' := 49) 2 dX7_run_48 rfl rfl ?_
              refine q_callVQ (pc' := 52) dX7_run_49 rfl lX7_47 iX2_look kc14 rfl (c_X2_look FF3 ok (by omega) (by omega)) rfl rfl (Nat.le_of_ble_eq_true rfl) (Nat.le_of_ble_eq_true rfl) (Nat.le_of_ble_eq_true rfl) (fun vq wq hq => ?_)
              obtain ⟨rfl, qS49, rfl, qo49, qk49⟩ := hq
              have ql49 := s_offK_L qo49
              have qF49 : s_F qS49 1 φ := s_F_K (by assumption) qo49
              have qh49 := qk49.1
              show q_Go Γ mX7_run 10 0 0 52 [(0, q_r Γ 20), (1, q_i (s_p5 (φ 0).toNat)), (2, q_i k)] [] (KC, qS49) (fun v9 w9 => v9 = none ∧ ∃ S2, w9 = (KC, S2) ∧ s_offS S S2 ∧ s_smk φ S2 10 ∧ s_bst φ (s_p5 (φ 0).toNat) (S2 20 3))
              refine q_aloadn (pc' := 53) 0 dX7_run_52 rfl rfl ?_
              refine p_getR (pc' := 56) (f := 14) dX7_run_53 rfl fX7_32 kc20 rfl ?_
              refine q_callVI (pc' := 59) dX7_run_56 rfl lX7_53 iX2_isFlat kc14 rfl (c_X2_isFlat qF49 ok qh49 (by omega) (by omega)) rfl rfl (Nat.le_of_ble_eq_true rfl) (Nat.le_of_ble_eq_true rfl) (Nat.le_of_ble_eq_true rfl) ?_
              refine q_if_ne_B (tgt := 73) (pc' := 62) dX7_run_59 rfl rfl (fun qc_59 => ?_) (fun qc_59 => ?_)
              · first | (have hof70 : s_offS qS49 qS70 := fun a ha => (qL70.1 a (by omega) (by omega)).trans (qo63 a (by omega))) | skip
                refine q_iinc (pc' := 76) 2 (L' := [(2, q_i (k + 1)), (0, q_r Γ 20), (1, q_i (s_p5 (φ 0).toNat))]) dX7_run_73 rfl rfl (by decide) rfl ?_
                refine q_goto (pc' := 38) dX7_run_76 rfl ?_
                refine p_sub [1, 2, 0] rfl ?_
                exact qih_38 _ (by omega) _ _ (by first | assumption | omega) (by first | assumption | omega) (by first | exact s_offS_t (s_offS_t qa_38_2 (s_offS_K qo49)) hof70 | exact s_offS_t qa_38_2 (s_offS_K qo49)) (by first | (intro r x y; rw [qL70.1 22 (by decide) (by decide)]; exact hT63 r x y) | (intro r x y; rw [qo49 22 (by decide)]; exact qa_38_3 r x y)) (by first | exact s_smk_lay (by omega) qa_38_4 hs63 qT63 qL70 | exact s_smk_flat ok (by omega) (by omega) qa_38_4 (qo49 21 (by decide)) qc_59) rfl
              · refine q_aloadn (pc' := 63) 0 dX7_run_62 rfl rfl ?_
                refine q_callVQ (pc' := 66) dX7_run_63 rfl lX7_57 iX7_sortRows kc20 rfl (c_X7_sortRows qF49 ok qh49 (by omega) (by omega)) rfl rfl (Nat.le_of_ble_eq_true rfl) (Nat.le_of_ble_eq_true rfl) (Nat.le_of_ble_eq_true rfl) (fun vq wq hq => ?_)
                obtain ⟨rfl, qS63, rfl, qo63, qT63⟩ := hq
                show q_Go Γ mX7_run 10 0 0 66 [(0, q_r Γ 20), (1, q_i (s_p5 (φ 0).toNat)), (2, q_i k)] [] (KC, qS63) (fun v9 w9 => v9 = none ∧ ∃ S2, w9 = (KC, S2) ∧ s_offS S S2 ∧ s_smk φ S2 10 ∧ s_bst φ (s_p5 (φ 0).toNat) (S2 20 3))
                have hT63 : ∀ r, 0 ≤ r → r < φ 0 → qS63 22 r = s_tp φ r := fun r x y => by rw [qo63 22 (by decide), qo49 22 (by decide)]; exact qa_38_3 r x y
                have hs63 : qS63 21 = S3 21 := (qo63 21 (by decide)).trans (qo49 21 (by decide))
                have hF63 : s_F qS63 1 φ := s_F_o qF49 (fun a h1 h2 _ => qo63 a (by omega))
                have hl63 : s_lk qS63 φ k := by have q := qk49; unfold s_lk at q ⊢; rw [qo63 14 (by decide), qo63 15 (by decide), qo63 16 (by decide), qo63 17 (by decide)]; exact q
                have hL := s_layH_0 ok (show k.toNat ≤ 10 by omega) hF63 hl63 qT63 hT63 qa_38_4 hs63
                refine q_aloadn (pc' := 67) 0 dX7_run_66 rfl rfl ?_
                refine q_iconst (pc' := 68) dX7_run_67 rfl ?_
                refine q_iconst (pc' := 69) dX7_run_68 rfl ?_
                refine q_iconst (pc' := 70) dX7_run_69 rfl ?_
                refine q_callSQ (pc' := 73) dX7_run_70 rfl lX7_60 iX7_layRows (q_Go_d (d := (φ 0 - 0).toNat + 3) (d' := 9) (by omega) (c_X7_layRows ok (show 0 ≤ k by omega) (show k < 10 by omega) (φ 0 - 0).toNat qS63 0 0 0 hL rfl)) rfl rfl (Nat.le_of_ble_eq_true rfl) (Nat.le_of_ble_eq_true rfl) (Nat.le_of_ble_eq_true rfl) (fun vq wq hq => ?_)
                obtain ⟨rfl, qS70, rfl, qL70⟩ := hq
                show q_Go Γ mX7_run 10 0 0 73 [(0, q_r Γ 20), (1, q_i (s_p5 (φ 0).toNat)), (2, q_i k)] [] (KC, qS70) (fun v9 w9 => v9 = none ∧ ∃ S2, w9 = (KC, S2) ∧ s_offS S S2 ∧ s_smk φ S2 10 ∧ s_bst φ (s_p5 (φ 0).toNat) (S2 20 3))
                first | (have hof70 : s_offS qS49 qS70 := fun a ha => (qL70.1 a (by omega) (by omega)).trans (qo63 a (by omega))) | skip
                refine q_iinc (pc' := 76) 2 (L' := [(2, q_i (k + 1)), (0, q_r Γ 20), (1, q_i (s_p5 (φ 0).toNat))]) dX7_run_73 rfl rfl (by decide) rfl ?_
                refine q_goto (pc' := 38) dX7_run_76 rfl ?_
                refine p_sub [1, 2, 0] rfl ?_
                exact qih_38 _ (by omega) _ _ (by first | assumption | omega) (by first | assumption | omega) (by first | exact s_offS_t (s_offS_t qa_38_2 (s_offS_K qo49)) hof70 | exact s_offS_t qa_38_2 (s_offS_K qo49)) (by first | (intro r x y; rw [qL70.1 22 (by decide) (by decide)]; exact hT63 r x y) | (intro r x y; rw [qo49 22 (by decide)]; exact qa_38_3 r x y)) (by first | exact s_smk_lay (by omega) qa_38_4 hs63 qT63 qL70 | exact s_smk_flat ok (by omega) (by omega) qa_38_4 (qo49 21 (by decide)) qc_59) rfl
        refine p_sub [1, 2, 0] rfl ?_
        exact qlp_38 _ _ _ (by first | assumption | omega) (by first | assumption | omega) (by exact s_offS_t qa_14_2 qo33) (by exact qT33) (by intro j x y; rw [qs33, qa_14_3 j x (by omega)]; by_cases g : s_vd φ j; (rw [q_if_t g]; rfl); (rw [q_if_f g])) rfl
      · refine q_aloadn (pc' := 20) 0 dX7_run_19 rfl rfl ?_
        refine p_getR (pc' := 23) (f := 21) dX7_run_20 rfl fX7_9 kc20 rfl ?_
        refine q_iloadn (pc' := 24) 2 dX7_run_23 rfl rfl ?_
        refine q_iconst (pc' := 25) dX7_run_24 rfl ?_
        refine p_iast (pc' := 26) dX7_run_25 rfl kc21 (by first | assumption | omega) (by first | assumption | omega) (by decide) (by first | assumption | omega) ?_
        refine q_iinc (pc' := 29) 2 (L' := [(2, q_i (i + 1)), (0, q_r Γ 20), (1, q_i (s_p5 (φ 0).toNat))]) dX7_run_26 rfl rfl (by decide) rfl ?_
        refine q_goto (pc' := 14) dX7_run_29 rfl ?_
        refine p_sub [1, 2, 0] rfl ?_
        exact qih_14 _ (by omega) _ _ (by first | assumption | omega) (by first | assumption | omega) (by exact s_offS_u qa_14_2 (by decide) (by decide)) (by intro j x y; rcases (show j < i ∨ j = i by omega) with g | g; (rw [q_up_nz (by omega)]; exact qa_14_3 j x g); (subst g; rw [q_up_eq])) rfl
  refine p_sub [2, 1, 0] rfl ?_
  exact qlp_14 _ _ _ (by first | assumption | omega) (by first | assumption | omega) (by exact s_offS_r) (by intro j x y; omega) rfl
set_option maxRecDepth 20000 in
set_option maxHeartbeats 4000000 in
theorem c_X7_bestTiltOf {Γ : q_G} {S : q_S} {φ : Int → Int} {r b : Int} (FF : s_F S 1 φ) (ok : s_ok φ) (r0 : 0 ≤ r) (r1 : r < φ 0) (hB : S 20 3 = b) (b0 : 0 ≤ b) (b1 : b ≤ 15625) : q_Sp Γ mX7_bestTiltOf 1 0 0 [q_r Γ 20, q_i r] (KC, S) (q_ev (some (q_i (s_dg (φ 0) b r))) (KC, S)) := by
  show q_Go Γ mX7_bestTiltOf 1 0 0 0 [(0, q_r Γ 20), (1, q_i r)] [] (KC, S) (q_ev (some (q_i (s_dg (φ 0) b r))) (KC, S))
  have rw0 := s_rows_b ok
  have p5b := s_p5_b (k := φ 0 - 1 - r) (by omega) (by omega)
  refine q_aloadn (pc' := 1) 0 dX7_bestTiltOf_0 rfl rfl ?_
  refine p_getJ (pc' := 4) (kz := 3) dX7_bestTiltOf_1 rfl fX7_15 kc20 rfl rfl (fun qy_1 eqy_1 rqy_1 => ?_)
  have vqy_1 : qy_1 = b := eqy_1.trans (by first | assumption | (simp [q_up]; done) | (simp [q_up]; assumption))
  rw [vqy_1]
  refine q_aloadn (pc' := 5) 0 dX7_bestTiltOf_4 rfl rfl ?_
  refine q_iloadn (pc' := 6) 1 dX7_bestTiltOf_5 rfl rfl ?_
  refine q_callVI (pc' := 9) dX7_bestTiltOf_6 rfl lX7_64 iX7_stepOf kc20 rfl (c_X7_stepOf FF ok r0 r1) rfl rfl (Nat.le_of_ble_eq_true rfl) (Nat.le_of_ble_eq_true rfl) (Nat.le_of_ble_eq_true rfl) ?_
  refine q_idiv (pc' := 10) dX7_bestTiltOf_9 rfl (by first | assumption | omega) (by first | assumption | omega) (by first | assumption | omega) (by first | assumption | omega) ?_
  have qb0 : 0 ≤ b / s_p5 (φ 0 - 1 - r).toNat := Int.ediv_nonneg b0 (by omega)
  have qb1 : b / s_p5 (φ 0 - 1 - r).toNat ≤ b := Int.ediv_le_self _ b0
  refine q_iconst (pc' := 11) dX7_bestTiltOf_10 rfl ?_
  refine q_irem (pc' := 12) dX7_bestTiltOf_11 rfl (by first | assumption | omega) (by first | assumption | omega) (by first | assumption | omega) (by first | assumption | omega) ?_
  refine p_iret dX7_bestTiltOf_12 rfl ?_ ?_
  · rfl
  · rfl
set_option maxRecDepth 20000 in
set_option maxHeartbeats 4000000 in
theorem c_X7_bestYields {Γ : q_G} {S : q_S} {φ : Int → Int} {b : Int} (FF : s_F S 1 φ) (ok : s_ok φ) (hB : S 20 3 = b) (b0 : 0 ≤ b) (b1 : b < s_p5 (φ 0).toNat) : q_Sp Γ mX7_bestYields 0 0 0 [q_r Γ 20] (KC, S) (q_ev (some (q_i (S 21 b + 10 * s_len φ))) (KC, S)) := by
  show q_Go Γ mX7_bestYields 0 0 0 0 [(0, q_r Γ 20)] [] (KC, S) (q_ev (some (q_i (S 21 b + 10 * s_len φ))) (KC, S))
  have rw0 := s_rows_b ok
  have p5b := s_p5_b (k := φ 0) rw0.1 rw0.2
  refine q_aloadn (pc' := 1) 0 dX7_bestYields_0 rfl rfl ?_
  refine p_getR (pc' := 4) (f := 21) dX7_bestYields_1 rfl fX7_9 kc20 rfl ?_
  refine q_aloadn (pc' := 5) 0 dX7_bestYields_4 rfl rfl ?_
  refine p_getJ (pc' := 8) (kz := 3) dX7_bestYields_5 rfl fX7_15 kc20 rfl rfl (fun qy_5 eqy_5 rqy_5 => ?_)
  have vqy_5 : qy_5 = b := eqy_5.trans (by first | assumption | (simp [q_up]; done) | (simp [q_up]; assumption))
  rw [vqy_5]
  refine p_iald (pc' := 9) dX7_bestYields_8 rfl kc21 (by first | assumption | omega) (by first | assumption | omega) (by decide) (fun qy_8 eqy_8 rqy_8 => ?_)
  refine q_istoren (pc' := 10) (L' := [(1, q_i qy_8), (0, q_r Γ 20)]) dX7_bestYields_9 rfl rfl (by decide) rfl ?_
  refine q_iconst (pc' := 11) dX7_bestYields_10 rfl ?_
  refine q_istoren (pc' := 12) (L' := [(2, q_i 0), (1, q_i qy_8), (0, q_r Γ 20)]) dX7_bestYields_11 rfl rfl (by decide) rfl ?_
  have qlp_12 : ∀ (qn_12 : Nat) (y r : Int), (0 ≤ r) → (r ≤ φ 0) → (y = S 21 b + 10 * q_sum (fun r => s_pt φ r 1) r.toNat) → ((6 - r).toNat) = qn_12 → q_Go Γ mX7_bestYields 0 0 0 12 [(0, q_r Γ 20), (1, q_i y), (2, q_i r)] [] (KC, S) (q_ev (some (q_i (S 21 b + 10 * s_len φ))) (KC, S)) := by
    intro qn_12
    induction qn_12 using Nat.strongRecOn with
    | ind qn_12 qih_12 =>
      intro y r qa_12_0 qa_12_1 qa_12_2 qhn_12
      subst qhn_12
      refine q_iloadn (pc' := 13) 2 dX7_bestYields_12 rfl rfl ?_
      refine q_aloadn (pc' := 14) 0 dX7_bestYields_13 rfl rfl ?_
      refine p_getR (pc' := 17) (f := 1) dX7_bestYields_14 rfl fX7_28 kc20 rfl ?_
      refine p_getJ (pc' := 20) (kz := 0) dX7_bestYields_17 rfl fX7_39 kc1 rfl rfl (fun qy_17 eqy_17 rqy_17 => ?_)
      have vqy_17 : qy_17 = φ 0 := eqy_17.trans (s_F_0 FF)
      rw [vqy_17]
      refine q_icmp_ge (tgt := 44) (pc' := 23) dX7_bestYields_20 rfl rfl (by first | assumption | omega) (by first | assumption | omega) (fun qc_20 => ?_) (fun qc_20 => ?_)
      · refine q_iloadn (pc' := 45) 1 dX7_bestYields_44 rfl rfl ?_
        refine p_iret dX7_bestYields_45 rfl ?_ ?_
        · rw [qa_12_2, show r = φ 0 by omega]; rfl
        · rfl
      · refine q_iloadn (pc' := 24) 1 dX7_bestYields_23 rfl rfl ?_
        refine q_bipush (pc' := 26) dX7_bestYields_24 rfl rfl ?_
        refine q_aloadn (pc' := 27) 0 dX7_bestYields_26 rfl rfl ?_
        refine p_getR (pc' := 30) (f := 1) dX7_bestYields_27 rfl fX7_28 kc20 rfl ?_
        refine p_getR (pc' := 33) (f := 3) dX7_bestYields_30 rfl fX7_68 kc1 rfl ?_
        refine q_iloadn (pc' := 34) 2 dX7_bestYields_33 rfl rfl ?_
        refine p_iald (pc' := 35) dX7_bestYields_34 rfl kc3 (by first | assumption | omega) (by first | assumption | omega) (by decide) (fun qy_34 eqy_34 rqy_34 => ?_)
        have vqy_34 : qy_34 = s_pt φ (r) 1 := eqy_34.trans (s_F_3 FF (by first | assumption | omega) (by first | assumption | omega))
        rw [vqy_34]
        refine q_imul (pc' := 36) dX7_bestYields_35 rfl ?_
        refine q_iadd (pc' := 37) dX7_bestYields_36 rfl ?_
        refine q_istoren (pc' := 38) (L' := [(1, q_i (y + (10 * (s_pt φ (r) 1)))), (0, q_r Γ 20), (2, q_i r)]) dX7_bestYields_37 rfl rfl (by decide) rfl ?_
        refine q_iinc (pc' := 41) 2 (L' := [(2, q_i (r + 1)), (1, q_i (y + (10 * (s_pt φ (r) 1)))), (0, q_r Γ 20)]) dX7_bestYields_38 rfl rfl (by decide) rfl ?_
        refine q_goto (pc' := 12) dX7_bestYields_41 rfl ?_
        refine p_sub [2, 1, 0] rfl ?_
        exact qih_12 _ (by omega) _ _ (by first | assumption | omega) (by first | assumption | omega) (by rw [q_sum_s (by omega), qa_12_2]; omega) rfl
  refine p_sub [2, 1, 0] rfl ?_
  exact qlp_12 _ _ _ (by first | assumption | omega) (by first | assumption | omega) (by rw [eqy_8]; show S 21 b = S 21 b + 10 * 0; omega) rfl
set_option maxRecDepth 20000 in
set_option maxHeartbeats 4000000 in
theorem c_X8_bestTilts {Γ : q_G} {S A : q_S} {w : Int} (J : s_Jc S A) (hw : q_rg w) : q_Sp Γ mX8_bestTilts 11 0 0 [q_r Γ 0, q_i w] (KC, S) (fun v9 w9 => v9 = some (q_i (s_best (A 151) w)) ∧ ∃ S2, w9 = (KC, S2) ∧ s_Jc S2 (A) ∧ s_offM S S2) := by
  show q_Go Γ mX8_bestTilts 11 0 0 0 [(0, q_r Γ 0), (1, q_i w)] [] (KC, S) (fun v9 w9 => v9 = some (q_i (s_best (A 151) w)) ∧ ∃ S2, w9 = (KC, S2) ∧ s_Jc S2 (A) ∧ s_offM S S2)
  have ok := J.F.2.1
  have pz := J.F.2.2
  have rw0 := s_rows_b ok
  have c3 := ok.2.2.1
  have c4 := ok.2.2.2.1
  have FF := J.F.1
  refine q_iloadn (pc' := 1) 1 dX8_bestTilts_0 rfl rfl ?_
  refine q_bipush (pc' := 3) dX8_bestTilts_1 rfl rfl ?_
  refine q_icmp_eq (tgt := 20) (pc' := 6) dX8_bestTilts_3 rfl rfl (by first | assumption | omega) (by decide) (fun qc_3 => ?_) (fun qc_3 => ?_)
  · refine q_aloadn (pc' := 21) 0 dX8_bestTilts_20 rfl rfl ?_
    refine p_getR (pc' := 24) (f := 20) dX8_bestTilts_21 rfl fX8_37 kc0 rfl ?_
    refine q_callVQ (pc' := 27) dX8_bestTilts_24 rfl lX8_227 iX7_run kc20 rfl (c_X7_run FF ok) rfl rfl (Nat.le_of_ble_eq_true rfl) (Nat.le_of_ble_eq_true rfl) (Nat.le_of_ble_eq_true rfl) (fun vq wq hq => ?_)
    obtain ⟨rfl, qS24, rfl, qoB, qmB, qbB⟩ := hq
    have FB : s_F qS24 1 (A 151) := s_F_S FF qoB
    have p5b := s_p5_b (k := (A 151) 0) rw0.1 rw0.2
    have bb : 0 ≤ qS24 20 3 ∧ qS24 20 3 < s_p5 ((A 151) 0).toNat := ⟨qbB.1, qbB.2.1⟩
    show q_Go Γ mX8_bestTilts 11 0 0 27 [(0, q_r Γ 0), (1, q_i w)] [] (KC, qS24) (fun v9 w9 => v9 = some (q_i (s_best (A 151) w)) ∧ ∃ S2, w9 = (KC, S2) ∧ s_Jc S2 (A) ∧ s_offM S S2)
    refine q_iloadn (pc' := 28) 1 dX8_bestTilts_27 rfl rfl ?_
    refine q_bipush (pc' := 30) dX8_bestTilts_28 rfl rfl ?_
    refine q_icmp_ne (tgt := 43) (pc' := 33) dX8_bestTilts_30 rfl rfl (by first | assumption | omega) (by decide) (fun qc_30 => ?_) (fun qc_30 => ?_)
    · refine q_aloadn (pc' := 44) 0 dX8_bestTilts_43 rfl rfl ?_
      refine p_getR (pc' := 47) (f := 20) dX8_bestTilts_44 rfl fX8_37 kc0 rfl ?_
      refine q_iloadn (pc' := 48) 1 dX8_bestTilts_47 rfl rfl ?_
      refine q_callVI (pc' := 51) dX8_bestTilts_48 rfl lX8_233 iX7_bestTiltOf kc20 rfl (c_X7_bestTiltOf FB ok (by omega) (by omega) rfl bb.1 (by omega)) rfl rfl (Nat.le_of_ble_eq_true rfl) (Nat.le_of_ble_eq_true rfl) (Nat.le_of_ble_eq_true rfl) ?_
      first | (exfalso; omega) | exact q_iret dX8_bestTilts_51 rfl rfl ⟨congrArg (fun z => some (q_i z)) (by rw [s_best_9 (by omega), qbB.2.2.2.2, qmB _ bb.1 bb.2, q_if_t qbB.2.2.1]), _, rfl, J.o FB (s_offX_S qoB), s_offM_X (s_offX_S qoB)⟩ | exact q_iret dX8_bestTilts_51 rfl rfl ⟨congrArg (fun z => some (q_i z)) (by rw [s_best_w (by omega) (by omega), ← qbB.2.2.2.1]), _, rfl, J.o FB (s_offX_S qoB), s_offM_X (s_offX_S qoB)⟩
    · refine q_aloadn (pc' := 34) 0 dX8_bestTilts_33 rfl rfl ?_
      refine p_getR (pc' := 37) (f := 20) dX8_bestTilts_34 rfl fX8_37 kc0 rfl ?_
      refine q_callVI (pc' := 40) dX8_bestTilts_37 rfl lX8_230 iX7_bestYields kc20 rfl (c_X7_bestYields FB ok rfl bb.1 bb.2) rfl rfl (Nat.le_of_ble_eq_true rfl) (Nat.le_of_ble_eq_true rfl) (Nat.le_of_ble_eq_true rfl) ?_
      refine q_goto (pc' := 51) dX8_bestTilts_40 rfl ?_
      first | (exfalso; omega) | exact q_iret dX8_bestTilts_51 rfl rfl ⟨congrArg (fun z => some (q_i z)) (by rw [s_best_9 (by omega), qbB.2.2.2.2, qmB _ bb.1 bb.2, q_if_t qbB.2.2.1]), _, rfl, J.o FB (s_offX_S qoB), s_offM_X (s_offX_S qoB)⟩ | exact q_iret dX8_bestTilts_51 rfl rfl ⟨congrArg (fun z => some (q_i z)) (by rw [s_best_w (by omega) (by omega), ← qbB.2.2.2.1]), _, rfl, J.o FB (s_offX_S qoB), s_offM_X (s_offX_S qoB)⟩
  · refine q_aloadn (pc' := 7) 0 dX8_bestTilts_6 rfl rfl ?_
    refine p_getR (pc' := 10) (f := 1) dX8_bestTilts_7 rfl fX8_10 kc0 rfl ?_
    refine q_iloadn (pc' := 11) 1 dX8_bestTilts_10 rfl rfl ?_
    refine q_callVI (pc' := 14) dX8_bestTilts_11 rfl lX8_121 iX0_hasRow kc1 rfl (c_X0_hasRow FF ok hw) rfl rfl (Nat.le_of_ble_eq_true rfl) (Nat.le_of_ble_eq_true rfl) (Nat.le_of_ble_eq_true rfl) ?_
    refine q_if_ne_B (tgt := 20) (pc' := 17) dX8_bestTilts_14 rfl rfl (fun qc_14 => ?_) (fun qc_14 => ?_)
    · refine q_aloadn (pc' := 21) 0 dX8_bestTilts_20 rfl rfl ?_
      refine p_getR (pc' := 24) (f := 20) dX8_bestTilts_21 rfl fX8_37 kc0 rfl ?_
      refine q_callVQ (pc' := 27) dX8_bestTilts_24 rfl lX8_227 iX7_run kc20 rfl (c_X7_run FF ok) rfl rfl (Nat.le_of_ble_eq_true rfl) (Nat.le_of_ble_eq_true rfl) (Nat.le_of_ble_eq_true rfl) (fun vq wq hq => ?_)
      obtain ⟨rfl, qS24_1, rfl, qoB, qmB, qbB⟩ := hq
      have FB : s_F qS24_1 1 (A 151) := s_F_S FF qoB
      have p5b := s_p5_b (k := (A 151) 0) rw0.1 rw0.2
      have bb : 0 ≤ qS24_1 20 3 ∧ qS24_1 20 3 < s_p5 ((A 151) 0).toNat := ⟨qbB.1, qbB.2.1⟩
      show q_Go Γ mX8_bestTilts 11 0 0 27 [(0, q_r Γ 0), (1, q_i w)] [] (KC, qS24_1) (fun v9 w9 => v9 = some (q_i (s_best (A 151) w)) ∧ ∃ S2, w9 = (KC, S2) ∧ s_Jc S2 (A) ∧ s_offM S S2)
      refine q_iloadn (pc' := 28) 1 dX8_bestTilts_27 rfl rfl ?_
      refine q_bipush (pc' := 30) dX8_bestTilts_28 rfl rfl ?_
      refine q_icmp_ne (tgt := 43) (pc' := 33) dX8_bestTilts_30 rfl rfl (by first | assumption | omega) (by decide) (fun qc_30_1 => ?_) (fun qc_30_1 => ?_)
      · refine q_aloadn (pc' := 44) 0 dX8_bestTilts_43 rfl rfl ?_
        refine p_getR (pc' := 47) (f := 20) dX8_bestTilts_44 rfl fX8_37 kc0 rfl ?_
        refine q_iloadn (pc' := 48) 1 dX8_bestTilts_47 rfl rfl ?_
        refine q_callVI (pc' := 51) dX8_bestTilts_48 rfl lX8_233 iX7_bestTiltOf kc20 rfl (c_X7_bestTiltOf FB ok (by omega) (by omega) rfl bb.1 (by omega)) rfl rfl (Nat.le_of_ble_eq_true rfl) (Nat.le_of_ble_eq_true rfl) (Nat.le_of_ble_eq_true rfl) ?_
        first | (exfalso; omega) | exact q_iret dX8_bestTilts_51 rfl rfl ⟨congrArg (fun z => some (q_i z)) (by rw [s_best_9 (by omega), qbB.2.2.2.2, qmB _ bb.1 bb.2, q_if_t qbB.2.2.1]), _, rfl, J.o FB (s_offX_S qoB), s_offM_X (s_offX_S qoB)⟩ | exact q_iret dX8_bestTilts_51 rfl rfl ⟨congrArg (fun z => some (q_i z)) (by rw [s_best_w (by omega) (by omega), ← qbB.2.2.2.1]), _, rfl, J.o FB (s_offX_S qoB), s_offM_X (s_offX_S qoB)⟩
      · refine q_aloadn (pc' := 34) 0 dX8_bestTilts_33 rfl rfl ?_
        refine p_getR (pc' := 37) (f := 20) dX8_bestTilts_34 rfl fX8_37 kc0 rfl ?_
        refine q_callVI (pc' := 40) dX8_bestTilts_37 rfl lX8_230 iX7_bestYields kc20 rfl (c_X7_bestYields FB ok rfl bb.1 bb.2) rfl rfl (Nat.le_of_ble_eq_true rfl) (Nat.le_of_ble_eq_true rfl) (Nat.le_of_ble_eq_true rfl) ?_
        refine q_goto (pc' := 51) dX8_bestTilts_40 rfl ?_
        first | (exfalso; omega) | exact q_iret dX8_bestTilts_51 rfl rfl ⟨congrArg (fun z => some (q_i z)) (by rw [s_best_9 (by omega), qbB.2.2.2.2, qmB _ bb.1 bb.2, q_if_t qbB.2.2.1]), _, rfl, J.o FB (s_offX_S qoB), s_offM_X (s_offX_S qoB)⟩ | exact q_iret dX8_bestTilts_51 rfl rfl ⟨congrArg (fun z => some (q_i z)) (by rw [s_best_w (by omega) (by omega), ← qbB.2.2.2.1]), _, rfl, J.o FB (s_offX_S qoB), s_offM_X (s_offX_S qoB)⟩
    · refine q_bipush (pc' := 19) dX8_bestTilts_17 rfl rfl ?_
      exact q_iret dX8_bestTilts_19 rfl rfl ⟨congrArg (fun z => some (q_i z)) (by exact (s_best_e ⟨by omega, by omega⟩).symm), _, rfl, J, fun _ _ => rfl⟩
