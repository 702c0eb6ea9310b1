set_option maxRecDepth 20000 in
set_option maxHeartbeats 8000000 in
theorem c_L_same {Γ : q_G} {S A : q_S} (J : s_Jc S A) (H : w_R S (A 151)) : q_Sp Γ mL_same 7 0 0 [q_r Γ 0, q_r Γ 150, q_r Γ 151, q_r Γ 152, q_r Γ 153, q_r Γ 154, q_r Γ 155] (KC, S) (fun v9 w9 => v9 = some (q_i 1) ∧ ∃ S2, w9 = (KC, S2) ∧ s_Jc S2 A ∧ s_offM S S2) := by
  show q_Go Γ mL_same 7 0 0 0 [(0, q_r Γ 0), (1, q_r Γ 150), (2, q_r Γ 151), (3, q_r Γ 152), (4, q_r Γ 153), (5, q_r Γ 154), (6, q_r Γ 155)] [] (KC, S) (fun v9 w9 => v9 = some (q_i 1) ∧ ∃ S2, w9 = (KC, S2) ∧ s_Jc S2 A ∧ s_offM S S2)
  have ok : s_ok (A 151) := J.F.2.1
  have h4 : (A 151) 0 = 4 := H.1
  have c3 := ok.2.2.1
  have c4 := ok.2.2.2.1
  have qt0 : s_offM S S := fun _ _ => rfl
  refine q_iconst (pc' := 1) dL_same_0 rfl ?_
  refine q_istore (pc' := 3) (L' := [(7, q_i 0), (0, q_r Γ 0), (1, q_r Γ 150), (2, q_r Γ 151), (3, q_r Γ 152), (4, q_r Γ 153), (5, q_r Γ 154), (6, q_r Γ 155)]) dL_same_1 rfl (by decide) rfl ?_
  have qlp_3 : ∀ (qn_3 : Nat) (S2 : q_S) (r : Int), (0 ≤ r) → (r ≤ 4) → (s_Jc S2 A) → (s_offM S S2) → ((4 - r).toNat) = qn_3 → q_Go Γ mL_same 7 0 0 3 [(0, q_r Γ 0), (1, q_r Γ 150), (2, q_r Γ 151), (3, q_r Γ 152), (4, q_r Γ 153), (5, q_r Γ 154), (6, q_r Γ 155), (7, q_i r)] [] (KC, S2) (fun v9 w9 => v9 = some (q_i 1) ∧ ∃ S2, w9 = (KC, S2) ∧ s_Jc S2 A ∧ s_offM S S2) := by
    intro qn_3
    induction qn_3 using Nat.strongRecOn with
    | ind qn_3 qih_3 =>
      intro S2 r qa_3_0 qa_3_1 qa_3_2 qa_3_3 qhn_3
      subst qhn_3
      have HR2 : w_R S2 (A 151) := w_R_off H qa_3_3
      refine q_iload (pc' := 5) 7 dL_same_3 rfl rfl ?_
      refine q_iconst (pc' := 6) dL_same_5 rfl ?_
      refine q_icmp_ge (tgt := 391) (pc' := 9) dL_same_6 rfl rfl (by first | assumption | omega) (by decide) (fun qc_6 => ?_) (fun qc_6 => ?_)
      · refine q_iconst (pc' := 392) dL_same_391 rfl ?_
        refine q_istore (pc' := 394) (L' := [(7, q_i 0), (0, q_r Γ 0), (1, q_r Γ 150), (2, q_r Γ 151), (3, q_r Γ 152), (4, q_r Γ 153), (5, q_r Γ 154), (6, q_r Γ 155)]) dL_same_392 rfl (by decide) rfl ?_
        have qlp_394 : ∀ (qn_394 : Nat) (S5 : q_S) (k : Int), (0 ≤ k) → (k ≤ (A 151) 3) → (s_Jc S5 A) → (s_offM S S5) → ((10 - k).toNat) = qn_394 → q_Go Γ mL_same 7 0 0 394 [(0, q_r Γ 0), (1, q_r Γ 150), (2, q_r Γ 151), (3, q_r Γ 152), (4, q_r Γ 153), (5, q_r Γ 154), (6, q_r Γ 155), (7, q_i k)] [] (KC, S5) (fun v9 w9 => v9 = some (q_i 1) ∧ ∃ S2, w9 = (KC, S2) ∧ s_Jc S2 A ∧ s_offM S S2) := by
          intro qn_394
          induction qn_394 using Nat.strongRecOn with
          | ind qn_394 qih_394 =>
            intro S5 k qa_394_0 qa_394_1 qa_394_2 qa_394_3 qhn_394
            subst qhn_394
            have HR5 : w_R S5 (A 151) := w_R_off H qa_394_3
            refine q_iload (pc' := 396) 7 dL_same_394 rfl rfl ?_
            refine q_aloadn (pc' := 397) 1 dL_same_396 rfl rfl ?_
            refine q_iconst (pc' := 398) dL_same_397 rfl ?_
            refine p_iald (pc' := 399) dL_same_398 rfl kc150 (by first | assumption | omega) (by first | assumption | omega) (by decide) (fun qy_398 eqy_398 rqy_398 => ?_)
            have vqy_398 : qy_398 = (A 151) 3 := eqy_398.trans (w_q0 HR5)
            rw [vqy_398]
            refine q_icmp_ge (tgt := 504) (pc' := 402) dL_same_399 rfl rfl (by first | assumption | omega) (by first | assumption | omega) (fun qc_399 => ?_) (fun qc_399 => ?_)
            · refine q_iconst (pc' := 505) dL_same_504 rfl ?_
              refine q_istore (pc' := 507) (L' := [(7, q_i 0), (0, q_r Γ 0), (1, q_r Γ 150), (2, q_r Γ 151), (3, q_r Γ 152), (4, q_r Γ 153), (5, q_r Γ 154), (6, q_r Γ 155)]) dL_same_505 rfl (by decide) rfl ?_
              have qlp_507 : ∀ (qn_507 : Nat) (S6 : q_S) (k : Int), (0 ≤ k) → (k ≤ (A 151) 4) → (s_Jc S6 A) → (s_offM S S6) → ((10 - k).toNat) = qn_507 → q_Go Γ mL_same 7 0 0 507 [(0, q_r Γ 0), (1, q_r Γ 150), (2, q_r Γ 151), (3, q_r Γ 152), (4, q_r Γ 153), (5, q_r Γ 154), (6, q_r Γ 155), (7, q_i k)] [] (KC, S6) (fun v9 w9 => v9 = some (q_i 1) ∧ ∃ S2, w9 = (KC, S2) ∧ s_Jc S2 A ∧ s_offM S S2) := by
                intro qn_507
                induction qn_507 using Nat.strongRecOn with
                | ind qn_507 qih_507 =>
                  intro S6 k qa_507_0 qa_507_1 qa_507_2 qa_507_3 qhn_507
                  subst qhn_507
                  have HR6 : w_R S6 (A 151) := w_R_off H qa_507_3
                  refine q_iload (pc' := 509) 7 dL_same_507 rfl rfl ?_
                  refine q_aloadn (pc' := 510) 1 dL_same_509 rfl rfl ?_
                  refine q_iconst (pc' := 511) dL_same_510 rfl ?_
                  refine p_iald (pc' := 512) dL_same_511 rfl kc150 (by first | assumption | omega) (by first | assumption | omega) (by decide) (fun qy_511 eqy_511 rqy_511 => ?_)
                  have vqy_511 : qy_511 = (A 151) 4 := eqy_511.trans (w_q1 HR6)
                  rw [vqy_511]
                  refine q_icmp_ge (tgt := 624) (pc' := 515) dL_same_512 rfl rfl (by first | assumption | omega) (by first | assumption | omega) (fun qc_512 => ?_) (fun qc_512 => ?_)
                  · refine q_iconst (pc' := 625) dL_same_624 rfl ?_
                    refine q_istore (pc' := 627) (L' := [(7, q_i 0), (0, q_r Γ 0), (1, q_r Γ 150), (2, q_r Γ 151), (3, q_r Γ 152), (4, q_r Γ 153), (5, q_r Γ 154), (6, q_r Γ 155)]) dL_same_625 rfl (by decide) rfl ?_
                    refine q_iconst (pc' := 628) dL_same_627 rfl ?_
                    refine q_istore (pc' := 630) (L' := [(8, q_i 0), (7, q_i 0), (0, q_r Γ 0), (1, q_r Γ 150), (2, q_r Γ 151), (3, q_r Γ 152), (4, q_r Γ 153), (5, q_r Γ 154), (6, q_r Γ 155)]) dL_same_628 rfl (by decide) rfl ?_
                    have qlp_630 : ∀ (qn_630 : Nat) (S7 : q_S) (al r : Int), (0 ≤ r) → (r ≤ 4) → (s_Jc S7 A) → (s_offM S S7) → (al = q_sum (s_yo (A 151)) r.toNat) → ((4 - r).toNat) = qn_630 → q_Go Γ mL_same 7 0 0 630 [(0, q_r Γ 0), (1, q_r Γ 150), (2, q_r Γ 151), (3, q_r Γ 152), (4, q_r Γ 153), (5, q_r Γ 154), (6, q_r Γ 155), (7, q_i al), (8, q_i r)] [] (KC, S7) (fun v9 w9 => v9 = some (q_i 1) ∧ ∃ S2, w9 = (KC, S2) ∧ s_Jc S2 A ∧ s_offM S S2) := by
                      intro qn_630
                      induction qn_630 using Nat.strongRecOn with
                      | ind qn_630 qih_630 =>
                        intro S7 al r qa_630_0 qa_630_1 qa_630_2 qa_630_3 qa_630_4 qhn_630
                        subst qhn_630
                        have HR7 : w_R S7 (A 151) := w_R_off H qa_630_3
                        refine q_iload (pc' := 632) 8 dL_same_630 rfl rfl ?_
                        refine q_iconst (pc' := 633) dL_same_632 rfl ?_
                        refine q_icmp_ge (tgt := 654) (pc' := 636) dL_same_633 rfl rfl (by first | assumption | omega) (by decide) (fun qc_633 => ?_) (fun qc_633 => ?_)
                        · refine q_aloadn (pc' := 655) 0 dL_same_654 rfl rfl ?_
                          refine q_iconst (pc' := 656) dL_same_655 rfl ?_
                          refine q_callVQ (pc' := 659) dL_same_656 rfl lL_49 iX8_count kc0 rfl (c_X8_count (A := A) (by assumption) (by decide)) rfl rfl (Nat.le_of_ble_eq_true rfl) (Nat.le_of_ble_eq_true rfl) (Nat.le_of_ble_eq_true rfl) (fun vq wq hq => ?_)
                          obtain ⟨rfl, qS656, rfl, qJ656, qo656⟩ := hq
                          have qt656 : s_offM S qS656 := s_offM_t (by assumption) qo656
                          have qR656 : w_R qS656 (A 151) := w_R_off H qt656
                          show q_Go Γ mL_same 7 0 0 659 [(0, q_r Γ 0), (1, q_r Γ 150), (2, q_r Γ 151), (3, q_r Γ 152), (4, q_r Γ 153), (5, q_r Γ 154), (6, q_r Γ 155), (7, q_i al), (8, q_i r)] [q_i (s_count (A 151) (A 150 6) (A 150 2) 0)] (KC, qS656) (fun v9 w9 => v9 = some (q_i 1) ∧ ∃ S2, w9 = (KC, S2) ∧ s_Jc S2 A ∧ s_offM S S2)
                          refine p_eq (y := 4) ((w_cn _ _).1.trans h4) ?_
                          refine q_iconst (pc' := 660) dL_same_659 rfl ?_
                          refine q_icmp_ne (tgt := 735) (pc' := 663) dL_same_660 rfl rfl (by decide) (by decide) (fun qc_660 => absurd qc_660 (by decide)) (fun qc_660 => ?_)
                          refine q_aloadn (pc' := 664) 0 dL_same_663 rfl rfl ?_
                          refine q_iconst (pc' := 665) dL_same_664 rfl ?_
                          refine q_callVQ (pc' := 668) dL_same_665 rfl lL_49 iX8_count kc0 rfl (c_X8_count (A := A) (by assumption) (by decide)) rfl rfl (Nat.le_of_ble_eq_true rfl) (Nat.le_of_ble_eq_true rfl) (Nat.le_of_ble_eq_true rfl) (fun vq wq hq => ?_)
                          obtain ⟨rfl, qS665, rfl, qJ665, qo665⟩ := hq
                          have qt665 : s_offM S qS665 := s_offM_t (by assumption) qo665
                          have qR665 : w_R qS665 (A 151) := w_R_off H qt665
                          show q_Go Γ mL_same 7 0 0 668 [(0, q_r Γ 0), (1, q_r Γ 150), (2, q_r Γ 151), (3, q_r Γ 152), (4, q_r Γ 153), (5, q_r Γ 154), (6, q_r Γ 155), (7, q_i al), (8, q_i r)] [q_i (s_count (A 151) (A 150 6) (A 150 2) 1)] (KC, qS665) (fun v9 w9 => v9 = some (q_i 1) ∧ ∃ S2, w9 = (KC, S2) ∧ s_Jc S2 A ∧ s_offM S S2)
                          refine p_eq (y := (A 151) 3) ((w_cn _ _).2.1) ?_
                          refine q_aloadn (pc' := 669) 1 dL_same_668 rfl rfl ?_
                          refine q_iconst (pc' := 670) dL_same_669 rfl ?_
                          refine p_iald (pc' := 671) dL_same_670 rfl kc150 (by first | assumption | omega) (by first | assumption | omega) (by decide) (fun qy_670 eqy_670 rqy_670 => ?_)
                          have vqy_670 : qy_670 = (A 151) 3 := eqy_670.trans (w_q0 qR665)
                          rw [vqy_670]
                          refine w_icmp_ne (tgt := 735) (pc' := 674) dL_same_671 rfl rfl ?_
                          refine q_aloadn (pc' := 675) 0 dL_same_674 rfl rfl ?_
                          refine q_iconst (pc' := 676) dL_same_675 rfl ?_
                          refine q_callVQ (pc' := 679) dL_same_676 rfl lL_49 iX8_count kc0 rfl (c_X8_count (A := A) (by assumption) (by decide)) rfl rfl (Nat.le_of_ble_eq_true rfl) (Nat.le_of_ble_eq_true rfl) (Nat.le_of_ble_eq_true rfl) (fun vq wq hq => ?_)
                          obtain ⟨rfl, qS676, rfl, qJ676, qo676⟩ := hq
                          have qt676 : s_offM S qS676 := s_offM_t (by assumption) qo676
                          have qR676 : w_R qS676 (A 151) := w_R_off H qt676
                          show q_Go Γ mL_same 7 0 0 679 [(0, q_r Γ 0), (1, q_r Γ 150), (2, q_r Γ 151), (3, q_r Γ 152), (4, q_r Γ 153), (5, q_r Γ 154), (6, q_r Γ 155), (7, q_i al), (8, q_i r)] [q_i (s_count (A 151) (A 150 6) (A 150 2) 2)] (KC, qS676) (fun v9 w9 => v9 = some (q_i 1) ∧ ∃ S2, w9 = (KC, S2) ∧ s_Jc S2 A ∧ s_offM S S2)
                          refine p_eq (y := (A 151) 4) ((w_cn _ _).2.2.1) ?_
                          refine q_aloadn (pc' := 680) 1 dL_same_679 rfl rfl ?_
                          refine q_iconst (pc' := 681) dL_same_680 rfl ?_
                          refine p_iald (pc' := 682) dL_same_681 rfl kc150 (by first | assumption | omega) (by first | assumption | omega) (by decide) (fun qy_681 eqy_681 rqy_681 => ?_)
                          have vqy_681 : qy_681 = (A 151) 4 := eqy_681.trans (w_q1 qR676)
                          rw [vqy_681]
                          refine w_icmp_ne (tgt := 735) (pc' := 685) dL_same_682 rfl rfl ?_
                          refine q_aloadn (pc' := 686) 0 dL_same_685 rfl rfl ?_
                          refine q_iconst (pc' := 687) dL_same_686 rfl ?_
                          refine q_callVQ (pc' := 690) dL_same_687 rfl lL_49 iX8_count kc0 rfl (c_X8_count (A := A) (by assumption) (by decide)) rfl rfl (Nat.le_of_ble_eq_true rfl) (Nat.le_of_ble_eq_true rfl) (Nat.le_of_ble_eq_true rfl) (fun vq wq hq => ?_)
                          obtain ⟨rfl, qS687, rfl, qJ687, qo687⟩ := hq
                          have qt687 : s_offM S qS687 := s_offM_t (by assumption) qo687
                          have qR687 : w_R qS687 (A 151) := w_R_off H qt687
                          show q_Go Γ mL_same 7 0 0 690 [(0, q_r Γ 0), (1, q_r Γ 150), (2, q_r Γ 151), (3, q_r Γ 152), (4, q_r Γ 153), (5, q_r Γ 154), (6, q_r Γ 155), (7, q_i al), (8, q_i r)] [q_i (s_count (A 151) (A 150 6) (A 150 2) 3)] (KC, qS687) (fun v9 w9 => v9 = some (q_i 1) ∧ ∃ S2, w9 = (KC, S2) ∧ s_Jc S2 A ∧ s_offM S S2)
                          refine p_eq (y := s_all (A 151)) ((w_cn _ _).2.2.2.1) ?_
                          refine q_iload (pc' := 692) 7 dL_same_690 rfl rfl ?_
                          refine p_eq (show al = s_all (A 151) by rw [qa_630_4, w_all4 h4, show r = 4 by omega]; rfl) ?_
                          refine w_icmp_ne (tgt := 735) (pc' := 695) dL_same_692 rfl rfl ?_
                          refine q_aloadn (pc' := 696) 0 dL_same_695 rfl rfl ?_
                          refine q_iconst (pc' := 697) dL_same_696 rfl ?_
                          refine q_callVQ (pc' := 700) dL_same_697 rfl lL_49 iX8_count kc0 rfl (c_X8_count (A := A) (by assumption) (by decide)) rfl rfl (Nat.le_of_ble_eq_true rfl) (Nat.le_of_ble_eq_true rfl) (Nat.le_of_ble_eq_true rfl) (fun vq wq hq => ?_)
                          obtain ⟨rfl, qS697, rfl, qJ697, qo697⟩ := hq
                          have qt697 : s_offM S qS697 := s_offM_t (by assumption) qo697
                          have qR697 : w_R qS697 (A 151) := w_R_off H qt697
                          show q_Go Γ mL_same 7 0 0 700 [(0, q_r Γ 0), (1, q_r Γ 150), (2, q_r Γ 151), (3, q_r Γ 152), (4, q_r Γ 153), (5, q_r Γ 154), (6, q_r Γ 155), (7, q_i al), (8, q_i r)] [q_i (s_count (A 151) (A 150 6) (A 150 2) 4)] (KC, qS697) (fun v9 w9 => v9 = some (q_i 1) ∧ ∃ S2, w9 = (KC, S2) ∧ s_Jc S2 A ∧ s_offM S S2)
                          refine p_eq (y := (A 151) 2) ((w_cn _ _).2.2.2.2.1) ?_
                          refine q_aloadn (pc' := 701) 1 dL_same_700 rfl rfl ?_
                          refine q_iconst (pc' := 702) dL_same_701 rfl ?_
                          refine p_iald (pc' := 703) dL_same_702 rfl kc150 (by first | assumption | omega) (by first | assumption | omega) (by decide) (fun qy_702 eqy_702 rqy_702 => ?_)
                          have vqy_702 : qy_702 = (A 151) 2 := eqy_702.trans (w_q2 qR697)
                          rw [vqy_702]
                          refine w_icmp_ne (tgt := 735) (pc' := 706) dL_same_703 rfl rfl ?_
                          refine q_aloadn (pc' := 707) 0 dL_same_706 rfl rfl ?_
                          refine q_iconst (pc' := 708) dL_same_707 rfl ?_
                          refine q_callVQ (pc' := 711) dL_same_708 rfl lL_49 iX8_count kc0 rfl (c_X8_count (A := A) (by assumption) (by decide)) rfl rfl (Nat.le_of_ble_eq_true rfl) (Nat.le_of_ble_eq_true rfl) (Nat.le_of_ble_eq_true rfl) (fun vq wq hq => ?_)
                          obtain ⟨rfl, qS708, rfl, qJ708, qo708⟩ := hq
                          have qt708 : s_offM S qS708 := s_offM_t (by assumption) qo708
                          have qR708 : w_R qS708 (A 151) := w_R_off H qt708
                          show q_Go Γ mL_same 7 0 0 711 [(0, q_r Γ 0), (1, q_r Γ 150), (2, q_r Γ 151), (3, q_r Γ 152), (4, q_r Γ 153), (5, q_r Γ 154), (6, q_r Γ 155), (7, q_i al), (8, q_i r)] [q_i (s_count (A 151) (A 150 6) (A 150 2) 5)] (KC, qS708) (fun v9 w9 => v9 = some (q_i 1) ∧ ∃ S2, w9 = (KC, S2) ∧ s_Jc S2 A ∧ s_offM S S2)
                          refine p_eq (y := (A 151) 1) ((w_cn _ _).2.2.2.2.2) ?_
                          refine q_aload (pc' := 713) 4 dL_same_711 rfl rfl ?_
                          refine q_iconst (pc' := 714) dL_same_713 rfl ?_
                          refine p_iald (pc' := 715) dL_same_714 rfl kc153 (by first | assumption | omega) (by first | assumption | omega) (by decide) (fun qy_714 eqy_714 rqy_714 => ?_)
                          have vqy_714 : qy_714 = (A 151) 1 := eqy_714.trans (w_w3 qR708)
                          rw [vqy_714]
                          refine w_icmp_ne (tgt := 735) (pc' := 718) dL_same_715 rfl rfl ?_
                          refine q_aloadn (pc' := 719) 0 dL_same_718 rfl rfl ?_
                          refine q_iconst (pc' := 720) dL_same_719 rfl ?_
                          refine q_aloadn (pc' := 721) 1 dL_same_720 rfl rfl ?_
                          refine q_iconst (pc' := 722) dL_same_721 rfl ?_
                          refine p_iald (pc' := 723) dL_same_722 rfl kc150 (by first | assumption | omega) (by first | assumption | omega) (by decide) (fun qy_722 eqy_722 rqy_722 => ?_)
                          have vqy_722 : qy_722 = (A 151) 3 := eqy_722.trans (w_q0 qR708)
                          rw [vqy_722]
                          refine q_iconst (pc' := 724) dL_same_723 rfl ?_
                          refine q_callVQ (pc' := 727) dL_same_724 rfl lL_46 iX8_offer kc0 rfl (c_X8_offer (A := A) (by assumption) (by decide) (by first | assumption | omega) (by decide)) rfl rfl (Nat.le_of_ble_eq_true rfl) (Nat.le_of_ble_eq_true rfl) (Nat.le_of_ble_eq_true rfl) (fun vq wq hq => ?_)
                          obtain ⟨rfl, qS724, rfl, qJ724, qo724⟩ := hq
                          have qt724 : s_offM S qS724 := s_offM_t (by assumption) qo724
                          have qR724 : w_R qS724 (A 151) := w_R_off H qt724
                          show q_Go Γ mL_same 7 0 0 727 [(0, q_r Γ 0), (1, q_r Γ 150), (2, q_r Γ 151), (3, q_r Γ 152), (4, q_r Γ 153), (5, q_r Γ 154), (6, q_r Γ 155), (7, q_i al), (8, q_i r)] [q_i (s_offer (A 151) 0 ((A 151) 3) 0)] (KC, qS724) (fun v9 w9 => v9 = some (q_i 1) ∧ ∃ S2, w9 = (KC, S2) ∧ s_Jc S2 A ∧ s_offM S S2)
                          refine p_eq (y := -1) (w_ofN) ?_
                          refine q_iconst (pc' := 728) dL_same_727 rfl ?_
                          refine q_icmp_ne (tgt := 735) (pc' := 731) dL_same_728 rfl rfl (by decide) (by decide) (fun qc_728 => absurd qc_728 (by decide)) (fun qc_728 => ?_)
                          refine q_iconst (pc' := 732) dL_same_731 rfl ?_
                          refine q_goto (pc' := 736) dL_same_732 rfl ?_
                          exact q_iret dL_same_736 rfl rfl ⟨rfl, _, rfl, by assumption, by assumption⟩
                        · refine q_iload (pc' := 638) 7 dL_same_636 rfl rfl ?_
                          refine q_aloadn (pc' := 639) 0 dL_same_638 rfl rfl ?_
                          refine q_iload (pc' := 641) 8 dL_same_639 rfl rfl ?_
                          refine q_iconst (pc' := 642) dL_same_641 rfl ?_
                          refine q_callVQ (pc' := 645) dL_same_642 rfl lL_24 iX8_ofRow kc0 rfl (c_X8_ofRow (A := A) (by assumption) (by first | assumption | omega) (by decide)) rfl rfl (Nat.le_of_ble_eq_true rfl) (Nat.le_of_ble_eq_true rfl) (Nat.le_of_ble_eq_true rfl) (fun vq wq hq => ?_)
                          obtain ⟨rfl, qS642, rfl, qJ642, qo642⟩ := hq
                          have qt642 : s_offM S qS642 := s_offM_t (by assumption) qo642
                          have qR642 : w_R qS642 (A 151) := w_R_off H qt642
                          show q_Go Γ mL_same 7 0 0 645 [(0, q_r Γ 0), (1, q_r Γ 150), (2, q_r Γ 151), (3, q_r Γ 152), (4, q_r Γ 153), (5, q_r Γ 154), (6, q_r Γ 155), (7, q_i al), (8, q_i r)] [q_i (s_ofRow (A 151) r 4), q_i al] (KC, qS642) (fun v9 w9 => v9 = some (q_i 1) ∧ ∃ S2, w9 = (KC, S2) ∧ s_Jc S2 A ∧ s_offM S S2)
                          refine p_eq (y := s_yo (A 151) r) ((w_of h4 (by omega) (by omega)).2.2.2.2) ?_
                          refine q_iadd (pc' := 646) dL_same_645 rfl ?_
                          refine q_istore (pc' := 648) (L' := [(7, q_i (al + (s_yo (A 151) r))), (0, q_r Γ 0), (1, q_r Γ 150), (2, q_r Γ 151), (3, q_r Γ 152), (4, q_r Γ 153), (5, q_r Γ 154), (6, q_r Γ 155), (8, q_i r)]) dL_same_646 rfl (by decide) rfl ?_
                          refine q_iinc (pc' := 651) 8 (L' := [(8, q_i (r + 1)), (7, q_i (al + (s_yo (A 151) r))), (0, q_r Γ 0), (1, q_r Γ 150), (2, q_r Γ 151), (3, q_r Γ 152), (4, q_r Γ 153), (5, q_r Γ 154), (6, q_r Γ 155)]) dL_same_648 rfl rfl (by decide) rfl ?_
                          refine q_goto (pc' := 630) dL_same_651 rfl ?_
                          refine p_sub [2, 3, 4, 5, 6, 7, 8, 1, 0] rfl ?_
                          exact qih_630 _ (by omega) _ _ _ (by first | assumption | omega) (by first | assumption | omega) (by first | assumption | omega) (by first | assumption | omega) (by rw [q_sum_s (by omega), ← qa_630_4]) rfl
                    refine p_sub [2, 3, 4, 5, 6, 7, 8, 1, 0] rfl ?_
                    exact qlp_630 _ _ _ _ (by first | assumption | omega) (by first | assumption | omega) (by first | assumption | omega) (by first | assumption | omega) (by rfl) rfl
                  · have wfb := w_ofB (φ := (A 151)) (k := k) (by omega) (by omega)
                    refine q_aloadn (pc' := 516) 0 dL_same_515 rfl rfl ?_
                    refine q_iconst (pc' := 517) dL_same_516 rfl ?_
                    refine q_iload (pc' := 519) 7 dL_same_517 rfl rfl ?_
                    refine q_iconst (pc' := 520) dL_same_519 rfl ?_
                    refine q_callVQ (pc' := 523) dL_same_520 rfl lL_46 iX8_offer kc0 rfl (c_X8_offer (A := A) (by assumption) (by decide) (by first | assumption | omega) (by decide)) rfl rfl (Nat.le_of_ble_eq_true rfl) (Nat.le_of_ble_eq_true rfl) (Nat.le_of_ble_eq_true rfl) (fun vq wq hq => ?_)
                    obtain ⟨rfl, qS520, rfl, qJ520, qo520⟩ := hq
                    have qt520 : s_offM S qS520 := s_offM_t (by assumption) qo520
                    have qR520 : w_R qS520 (A 151) := w_R_off H qt520
                    show q_Go Γ mL_same 7 0 0 523 [(0, q_r Γ 0), (1, q_r Γ 150), (2, q_r Γ 151), (3, q_r Γ 152), (4, q_r Γ 153), (5, q_r Γ 154), (6, q_r Γ 155), (7, q_i k)] [q_i (s_offer (A 151) 1 k 0)] (KC, qS520) (fun v9 w9 => v9 = some (q_i 1) ∧ ∃ S2, w9 = (KC, S2) ∧ s_Jc S2 A ∧ s_offM S S2)
                    refine p_eq (y := s_bd (A 151) k 0) (wfb.1) ?_
                    refine q_aload (pc' := 525) 6 dL_same_523 rfl rfl ?_
                    refine q_iconst (pc' := 526) dL_same_525 rfl ?_
                    refine q_iload (pc' := 528) 7 dL_same_526 rfl rfl ?_
                    refine q_imul (pc' := 529) dL_same_528 rfl ?_
                    refine p_iald (pc' := 530) dL_same_529 rfl kc155 (by first | assumption | omega) (by first | assumption | omega) (by decide) (fun qy_529 eqy_529 rqy_529 => ?_)
                    have vqy_529 : qy_529 = s_bd (A 151) k 0 := eqy_529.trans (w_bd0 qR520 (by first | assumption | omega) (by first | assumption | omega))
                    rw [vqy_529]
                    refine w_icmp_ne (tgt := 616) (pc' := 533) dL_same_530 rfl rfl ?_
                    refine q_aloadn (pc' := 534) 0 dL_same_533 rfl rfl ?_
                    refine q_iconst (pc' := 535) dL_same_534 rfl ?_
                    refine q_iload (pc' := 537) 7 dL_same_535 rfl rfl ?_
                    refine q_iconst (pc' := 538) dL_same_537 rfl ?_
                    refine q_callVQ (pc' := 541) dL_same_538 rfl lL_46 iX8_offer kc0 rfl (c_X8_offer (A := A) (by assumption) (by decide) (by first | assumption | omega) (by decide)) rfl rfl (Nat.le_of_ble_eq_true rfl) (Nat.le_of_ble_eq_true rfl) (Nat.le_of_ble_eq_true rfl) (fun vq wq hq => ?_)
                    obtain ⟨rfl, qS538, rfl, qJ538, qo538⟩ := hq
                    have qt538 : s_offM S qS538 := s_offM_t (by assumption) qo538
                    have qR538 : w_R qS538 (A 151) := w_R_off H qt538
                    show q_Go Γ mL_same 7 0 0 541 [(0, q_r Γ 0), (1, q_r Γ 150), (2, q_r Γ 151), (3, q_r Γ 152), (4, q_r Γ 153), (5, q_r Γ 154), (6, q_r Γ 155), (7, q_i k)] [q_i (s_offer (A 151) 1 k 1)] (KC, qS538) (fun v9 w9 => v9 = some (q_i 1) ∧ ∃ S2, w9 = (KC, S2) ∧ s_Jc S2 A ∧ s_offM S S2)
                    refine p_eq (y := s_bd (A 151) k 1) (wfb.2.1) ?_
                    refine q_aload (pc' := 543) 6 dL_same_541 rfl rfl ?_
                    refine q_iconst (pc' := 544) dL_same_543 rfl ?_
                    refine q_iload (pc' := 546) 7 dL_same_544 rfl rfl ?_
                    refine q_imul (pc' := 547) dL_same_546 rfl ?_
                    refine q_iconst (pc' := 548) dL_same_547 rfl ?_
                    refine q_iadd (pc' := 549) dL_same_548 rfl ?_
                    refine p_iald (pc' := 550) dL_same_549 rfl kc155 (by first | assumption | omega) (by first | assumption | omega) (by decide) (fun qy_549 eqy_549 rqy_549 => ?_)
                    have wb1 := (w_bd (φ := (A 151)) (S := qS538) (k := k) (by assumption) (by omega) (by omega)).2.1
                    rw [← eqy_549] at wb1
                    refine q_callSI (pc' := 553) dL_same_550 rfl lL_31 iL_hour (c_L_hour (by first | assumption | omega) (by first | assumption | omega)) rfl rfl (Nat.le_of_ble_eq_true rfl) (Nat.le_of_ble_eq_true rfl) (Nat.le_of_ble_eq_true rfl) ?_
                    refine p_eq wb1.2.2 ?_
                    refine w_icmp_ne (tgt := 616) (pc' := 556) dL_same_553 rfl rfl ?_
                    refine q_aloadn (pc' := 557) 0 dL_same_556 rfl rfl ?_
                    refine q_iconst (pc' := 558) dL_same_557 rfl ?_
                    refine q_iload (pc' := 560) 7 dL_same_558 rfl rfl ?_
                    refine q_iconst (pc' := 561) dL_same_560 rfl ?_
                    refine q_callVQ (pc' := 564) dL_same_561 rfl lL_46 iX8_offer kc0 rfl (c_X8_offer (A := A) (by assumption) (by decide) (by first | assumption | omega) (by decide)) rfl rfl (Nat.le_of_ble_eq_true rfl) (Nat.le_of_ble_eq_true rfl) (Nat.le_of_ble_eq_true rfl) (fun vq wq hq => ?_)
                    obtain ⟨rfl, qS561, rfl, qJ561, qo561⟩ := hq
                    have qt561 : s_offM S qS561 := s_offM_t (by assumption) qo561
                    have qR561 : w_R qS561 (A 151) := w_R_off H qt561
                    show q_Go Γ mL_same 7 0 0 564 [(0, q_r Γ 0), (1, q_r Γ 150), (2, q_r Γ 151), (3, q_r Γ 152), (4, q_r Γ 153), (5, q_r Γ 154), (6, q_r Γ 155), (7, q_i k)] [q_i (s_offer (A 151) 1 k 2)] (KC, qS561) (fun v9 w9 => v9 = some (q_i 1) ∧ ∃ S2, w9 = (KC, S2) ∧ s_Jc S2 A ∧ s_offM S S2)
                    refine p_eq (y := s_bd (A 151) k 2) (wfb.2.2.1) ?_
                    refine q_aload (pc' := 566) 6 dL_same_564 rfl rfl ?_
                    refine q_iconst (pc' := 567) dL_same_566 rfl ?_
                    refine q_iload (pc' := 569) 7 dL_same_567 rfl rfl ?_
                    refine q_imul (pc' := 570) dL_same_569 rfl ?_
                    refine q_iconst (pc' := 571) dL_same_570 rfl ?_
                    refine q_iadd (pc' := 572) dL_same_571 rfl ?_
                    refine p_iald (pc' := 573) dL_same_572 rfl kc155 (by first | assumption | omega) (by first | assumption | omega) (by decide) (fun qy_572 eqy_572 rqy_572 => ?_)
                    have vqy_572 : qy_572 = s_bd (A 151) k 2 := eqy_572.trans (w_bd2 qR561 (by first | assumption | omega) (by first | assumption | omega))
                    rw [vqy_572]
                    refine w_icmp_ne (tgt := 616) (pc' := 576) dL_same_573 rfl rfl ?_
                    refine q_aloadn (pc' := 577) 0 dL_same_576 rfl rfl ?_
                    refine q_iconst (pc' := 578) dL_same_577 rfl ?_
                    refine q_iload (pc' := 580) 7 dL_same_578 rfl rfl ?_
                    refine q_iconst (pc' := 581) dL_same_580 rfl ?_
                    refine q_callVQ (pc' := 584) dL_same_581 rfl lL_46 iX8_offer kc0 rfl (c_X8_offer (A := A) (by assumption) (by decide) (by first | assumption | omega) (by decide)) rfl rfl (Nat.le_of_ble_eq_true rfl) (Nat.le_of_ble_eq_true rfl) (Nat.le_of_ble_eq_true rfl) (fun vq wq hq => ?_)
                    obtain ⟨rfl, qS581, rfl, qJ581, qo581⟩ := hq
                    have qt581 : s_offM S qS581 := s_offM_t (by assumption) qo581
                    have qR581 : w_R qS581 (A 151) := w_R_off H qt581
                    show q_Go Γ mL_same 7 0 0 584 [(0, q_r Γ 0), (1, q_r Γ 150), (2, q_r Γ 151), (3, q_r Γ 152), (4, q_r Γ 153), (5, q_r Γ 154), (6, q_r Γ 155), (7, q_i k)] [q_i (s_offer (A 151) 1 k 3)] (KC, qS581) (fun v9 w9 => v9 = some (q_i 1) ∧ ∃ S2, w9 = (KC, S2) ∧ s_Jc S2 A ∧ s_offM S S2)
                    refine p_eq (y := s_bd (A 151) k 3) (wfb.2.2.2.1) ?_
                    refine q_aload (pc' := 586) 6 dL_same_584 rfl rfl ?_
                    refine q_iconst (pc' := 587) dL_same_586 rfl ?_
                    refine q_iload (pc' := 589) 7 dL_same_587 rfl rfl ?_
                    refine q_imul (pc' := 590) dL_same_589 rfl ?_
                    refine q_iconst (pc' := 591) dL_same_590 rfl ?_
                    refine q_iadd (pc' := 592) dL_same_591 rfl ?_
                    refine p_iald (pc' := 593) dL_same_592 rfl kc155 (by first | assumption | omega) (by first | assumption | omega) (by decide) (fun qy_592 eqy_592 rqy_592 => ?_)
                    have vqy_592 : qy_592 = s_bd (A 151) k 3 := eqy_592.trans (w_bd3 qR581 (by first | assumption | omega) (by first | assumption | omega))
                    rw [vqy_592]
                    refine w_icmp_ne (tgt := 616) (pc' := 596) dL_same_593 rfl rfl ?_
                    refine q_aloadn (pc' := 597) 0 dL_same_596 rfl rfl ?_
                    refine q_iconst (pc' := 598) dL_same_597 rfl ?_
                    refine q_iload (pc' := 600) 7 dL_same_598 rfl rfl ?_
                    refine q_iconst (pc' := 601) dL_same_600 rfl ?_
                    refine q_callVQ (pc' := 604) dL_same_601 rfl lL_46 iX8_offer kc0 rfl (c_X8_offer (A := A) (by assumption) (by decide) (by first | assumption | omega) (by decide)) rfl rfl (Nat.le_of_ble_eq_true rfl) (Nat.le_of_ble_eq_true rfl) (Nat.le_of_ble_eq_true rfl) (fun vq wq hq => ?_)
                    obtain ⟨rfl, qS601, rfl, qJ601, qo601⟩ := hq
                    have qt601 : s_offM S qS601 := s_offM_t (by assumption) qo601
                    have qR601 : w_R qS601 (A 151) := w_R_off H qt601
                    show q_Go Γ mL_same 7 0 0 604 [(0, q_r Γ 0), (1, q_r Γ 150), (2, q_r Γ 151), (3, q_r Γ 152), (4, q_r Γ 153), (5, q_r Γ 154), (6, q_r Γ 155), (7, q_i k)] [q_i (s_offer (A 151) 1 k 4)] (KC, qS601) (fun v9 w9 => v9 = some (q_i 1) ∧ ∃ S2, w9 = (KC, S2) ∧ s_Jc S2 A ∧ s_offM S S2)
                    refine p_eq (y := s_bd (A 151) k 4) (wfb.2.2.2.2) ?_
                    refine q_aload (pc' := 606) 6 dL_same_604 rfl rfl ?_
                    refine q_iconst (pc' := 607) dL_same_606 rfl ?_
                    refine q_iload (pc' := 609) 7 dL_same_607 rfl rfl ?_
                    refine q_imul (pc' := 610) dL_same_609 rfl ?_
                    refine q_iconst (pc' := 611) dL_same_610 rfl ?_
                    refine q_iadd (pc' := 612) dL_same_611 rfl ?_
                    refine p_iald (pc' := 613) dL_same_612 rfl kc155 (by first | assumption | omega) (by first | assumption | omega) (by decide) (fun qy_612 eqy_612 rqy_612 => ?_)
                    have vqy_612 : qy_612 = s_bd (A 151) k 4 := eqy_612.trans (w_bd4 qR601 (by first | assumption | omega) (by first | assumption | omega))
                    rw [vqy_612]
                    refine w_icmp_eq (tgt := 618) (pc' := 616) dL_same_613 rfl rfl ?_
                    refine q_iinc (pc' := 621) 7 (L' := [(7, q_i (k + 1)), (0, q_r Γ 0), (1, q_r Γ 150), (2, q_r Γ 151), (3, q_r Γ 152), (4, q_r Γ 153), (5, q_r Γ 154), (6, q_r Γ 155)]) dL_same_618 rfl rfl (by decide) rfl ?_
                    refine q_goto (pc' := 507) dL_same_621 rfl ?_
                    refine p_sub [1, 2, 3, 4, 5, 6, 7, 0] rfl ?_
                    exact qih_507 _ (by omega) _ _ (by first | assumption | omega) (by first | assumption | omega) (by first | assumption | omega) (by first | assumption | omega) rfl
              refine p_sub [1, 2, 3, 4, 5, 6, 7, 0] rfl ?_
              exact qlp_507 _ _ _ (by first | assumption | omega) (by first | assumption | omega) (by first | assumption | omega) (by first | assumption | omega) rfl
            · have wfa := w_ofA (φ := (A 151)) (k := k) (by omega) (by omega)
              refine q_aloadn (pc' := 403) 0 dL_same_402 rfl rfl ?_
              refine q_iconst (pc' := 404) dL_same_403 rfl ?_
              refine q_iload (pc' := 406) 7 dL_same_404 rfl rfl ?_
              refine q_iconst (pc' := 407) dL_same_406 rfl ?_
              refine q_callVQ (pc' := 410) dL_same_407 rfl lL_46 iX8_offer kc0 rfl (c_X8_offer (A := A) (by assumption) (by decide) (by first | assumption | omega) (by decide)) rfl rfl (Nat.le_of_ble_eq_true rfl) (Nat.le_of_ble_eq_true rfl) (Nat.le_of_ble_eq_true rfl) (fun vq wq hq => ?_)
              obtain ⟨rfl, qS407, rfl, qJ407, qo407⟩ := hq
              have qt407 : s_offM S qS407 := s_offM_t (by assumption) qo407
              have qR407 : w_R qS407 (A 151) := w_R_off H qt407
              show q_Go Γ mL_same 7 0 0 410 [(0, q_r Γ 0), (1, q_r Γ 150), (2, q_r Γ 151), (3, q_r Γ 152), (4, q_r Γ 153), (5, q_r Γ 154), (6, q_r Γ 155), (7, q_i k)] [q_i (s_offer (A 151) 0 k 0)] (KC, qS407) (fun v9 w9 => v9 = some (q_i 1) ∧ ∃ S2, w9 = (KC, S2) ∧ s_Jc S2 A ∧ s_offM S S2)
              refine p_eq (y := s_as (A 151) k 0) (wfa.1) ?_
              refine q_aload (pc' := 412) 5 dL_same_410 rfl rfl ?_
              refine q_iconst (pc' := 413) dL_same_412 rfl ?_
              refine q_iload (pc' := 415) 7 dL_same_413 rfl rfl ?_
              refine q_imul (pc' := 416) dL_same_415 rfl ?_
              refine p_iald (pc' := 417) dL_same_416 rfl kc154 (by first | assumption | omega) (by first | assumption | omega) (by decide) (fun qy_416 eqy_416 rqy_416 => ?_)
              have vqy_416 : qy_416 = s_as (A 151) k 0 := eqy_416.trans (w_as0 qR407 (by first | assumption | omega) (by first | assumption | omega))
              rw [vqy_416]
              refine w_icmp_ne (tgt := 496) (pc' := 420) dL_same_417 rfl rfl ?_
              refine q_aloadn (pc' := 421) 0 dL_same_420 rfl rfl ?_
              refine q_iconst (pc' := 422) dL_same_421 rfl ?_
              refine q_iload (pc' := 424) 7 dL_same_422 rfl rfl ?_
              refine q_iconst (pc' := 425) dL_same_424 rfl ?_
              refine q_callVQ (pc' := 428) dL_same_425 rfl lL_46 iX8_offer kc0 rfl (c_X8_offer (A := A) (by assumption) (by decide) (by first | assumption | omega) (by decide)) rfl rfl (Nat.le_of_ble_eq_true rfl) (Nat.le_of_ble_eq_true rfl) (Nat.le_of_ble_eq_true rfl) (fun vq wq hq => ?_)
              obtain ⟨rfl, qS425, rfl, qJ425, qo425⟩ := hq
              have qt425 : s_offM S qS425 := s_offM_t (by assumption) qo425
              have qR425 : w_R qS425 (A 151) := w_R_off H qt425
              show q_Go Γ mL_same 7 0 0 428 [(0, q_r Γ 0), (1, q_r Γ 150), (2, q_r Γ 151), (3, q_r Γ 152), (4, q_r Γ 153), (5, q_r Γ 154), (6, q_r Γ 155), (7, q_i k)] [q_i (s_offer (A 151) 0 k 1)] (KC, qS425) (fun v9 w9 => v9 = some (q_i 1) ∧ ∃ S2, w9 = (KC, S2) ∧ s_Jc S2 A ∧ s_offM S S2)
              refine p_eq (y := s_as (A 151) k 1) (wfa.2.1) ?_
              refine q_aload (pc' := 430) 5 dL_same_428 rfl rfl ?_
              refine q_iconst (pc' := 431) dL_same_430 rfl ?_
              refine q_iload (pc' := 433) 7 dL_same_431 rfl rfl ?_
              refine q_imul (pc' := 434) dL_same_433 rfl ?_
              refine q_iconst (pc' := 435) dL_same_434 rfl ?_
              refine q_iadd (pc' := 436) dL_same_435 rfl ?_
              refine p_iald (pc' := 437) dL_same_436 rfl kc154 (by first | assumption | omega) (by first | assumption | omega) (by decide) (fun qy_436 eqy_436 rqy_436 => ?_)
              have wa1 := (w_as (φ := (A 151)) (S := qS425) (k := k) (by assumption) (by omega) (by omega)).2.1
              rw [← eqy_436] at wa1
              refine q_callSI (pc' := 440) dL_same_437 rfl lL_31 iL_hour (c_L_hour (by first | assumption | omega) (by first | assumption | omega)) rfl rfl (Nat.le_of_ble_eq_true rfl) (Nat.le_of_ble_eq_true rfl) (Nat.le_of_ble_eq_true rfl) ?_
              refine p_eq wa1.2.2 ?_
              refine w_icmp_ne (tgt := 496) (pc' := 443) dL_same_440 rfl rfl ?_
              refine q_aloadn (pc' := 444) 0 dL_same_443 rfl rfl ?_
              refine q_iconst (pc' := 445) dL_same_444 rfl ?_
              refine q_iload (pc' := 447) 7 dL_same_445 rfl rfl ?_
              refine q_iconst (pc' := 448) dL_same_447 rfl ?_
              refine q_callVQ (pc' := 451) dL_same_448 rfl lL_46 iX8_offer kc0 rfl (c_X8_offer (A := A) (by assumption) (by decide) (by first | assumption | omega) (by decide)) rfl rfl (Nat.le_of_ble_eq_true rfl) (Nat.le_of_ble_eq_true rfl) (Nat.le_of_ble_eq_true rfl) (fun vq wq hq => ?_)
              obtain ⟨rfl, qS448, rfl, qJ448, qo448⟩ := hq
              have qt448 : s_offM S qS448 := s_offM_t (by assumption) qo448
              have qR448 : w_R qS448 (A 151) := w_R_off H qt448
              show q_Go Γ mL_same 7 0 0 451 [(0, q_r Γ 0), (1, q_r Γ 150), (2, q_r Γ 151), (3, q_r Γ 152), (4, q_r Γ 153), (5, q_r Γ 154), (6, q_r Γ 155), (7, q_i k)] [q_i (s_offer (A 151) 0 k 2)] (KC, qS448) (fun v9 w9 => v9 = some (q_i 1) ∧ ∃ S2, w9 = (KC, S2) ∧ s_Jc S2 A ∧ s_offM S S2)
              refine p_eq (y := s_as (A 151) k 2) (wfa.2.2.1) ?_
              refine q_aload (pc' := 453) 5 dL_same_451 rfl rfl ?_
              refine q_iconst (pc' := 454) dL_same_453 rfl ?_
              refine q_iload (pc' := 456) 7 dL_same_454 rfl rfl ?_
              refine q_imul (pc' := 457) dL_same_456 rfl ?_
              refine q_iconst (pc' := 458) dL_same_457 rfl ?_
              refine q_iadd (pc' := 459) dL_same_458 rfl ?_
              refine p_iald (pc' := 460) dL_same_459 rfl kc154 (by first | assumption | omega) (by first | assumption | omega) (by decide) (fun qy_459 eqy_459 rqy_459 => ?_)
              have vqy_459 : qy_459 = s_as (A 151) k 2 := eqy_459.trans (w_as2 qR448 (by first | assumption | omega) (by first | assumption | omega))
              rw [vqy_459]
              refine w_icmp_ne (tgt := 496) (pc' := 463) dL_same_460 rfl rfl ?_
              refine q_aloadn (pc' := 464) 0 dL_same_463 rfl rfl ?_
              refine q_iconst (pc' := 465) dL_same_464 rfl ?_
              refine q_iload (pc' := 467) 7 dL_same_465 rfl rfl ?_
              refine q_iconst (pc' := 468) dL_same_467 rfl ?_
              refine q_callVQ (pc' := 471) dL_same_468 rfl lL_46 iX8_offer kc0 rfl (c_X8_offer (A := A) (by assumption) (by decide) (by first | assumption | omega) (by decide)) rfl rfl (Nat.le_of_ble_eq_true rfl) (Nat.le_of_ble_eq_true rfl) (Nat.le_of_ble_eq_true rfl) (fun vq wq hq => ?_)
              obtain ⟨rfl, qS468, rfl, qJ468, qo468⟩ := hq
              have qt468 : s_offM S qS468 := s_offM_t (by assumption) qo468
              have qR468 : w_R qS468 (A 151) := w_R_off H qt468
              show q_Go Γ mL_same 7 0 0 471 [(0, q_r Γ 0), (1, q_r Γ 150), (2, q_r Γ 151), (3, q_r Γ 152), (4, q_r Γ 153), (5, q_r Γ 154), (6, q_r Γ 155), (7, q_i k)] [q_i (s_offer (A 151) 0 k 3)] (KC, qS468) (fun v9 w9 => v9 = some (q_i 1) ∧ ∃ S2, w9 = (KC, S2) ∧ s_Jc S2 A ∧ s_offM S S2)
              refine p_eq (y := s_as (A 151) k 3) (wfa.2.2.2.1) ?_
              refine q_aload (pc' := 473) 5 dL_same_471 rfl rfl ?_
              refine q_iconst (pc' := 474) dL_same_473 rfl ?_
              refine q_iload (pc' := 476) 7 dL_same_474 rfl rfl ?_
              refine q_imul (pc' := 477) dL_same_476 rfl ?_
              refine q_iconst (pc' := 478) dL_same_477 rfl ?_
              refine q_iadd (pc' := 479) dL_same_478 rfl ?_
              refine p_iald (pc' := 480) dL_same_479 rfl kc154 (by first | assumption | omega) (by first | assumption | omega) (by decide) (fun qy_479 eqy_479 rqy_479 => ?_)
              have vqy_479 : qy_479 = s_as (A 151) k 3 := eqy_479.trans (w_as3 qR468 (by first | assumption | omega) (by first | assumption | omega))
              rw [vqy_479]
              refine w_icmp_ne (tgt := 496) (pc' := 483) dL_same_480 rfl rfl ?_
              refine q_aloadn (pc' := 484) 0 dL_same_483 rfl rfl ?_
              refine q_iconst (pc' := 485) dL_same_484 rfl ?_
              refine q_iload (pc' := 487) 7 dL_same_485 rfl rfl ?_
              refine q_iconst (pc' := 488) dL_same_487 rfl ?_
              refine q_callVQ (pc' := 491) dL_same_488 rfl lL_46 iX8_offer kc0 rfl (c_X8_offer (A := A) (by assumption) (by decide) (by first | assumption | omega) (by decide)) rfl rfl (Nat.le_of_ble_eq_true rfl) (Nat.le_of_ble_eq_true rfl) (Nat.le_of_ble_eq_true rfl) (fun vq wq hq => ?_)
              obtain ⟨rfl, qS488, rfl, qJ488, qo488⟩ := hq
              have qt488 : s_offM S qS488 := s_offM_t (by assumption) qo488
              have qR488 : w_R qS488 (A 151) := w_R_off H qt488
              show q_Go Γ mL_same 7 0 0 491 [(0, q_r Γ 0), (1, q_r Γ 150), (2, q_r Γ 151), (3, q_r Γ 152), (4, q_r Γ 153), (5, q_r Γ 154), (6, q_r Γ 155), (7, q_i k)] [q_i (s_offer (A 151) 0 k 4)] (KC, qS488) (fun v9 w9 => v9 = some (q_i 1) ∧ ∃ S2, w9 = (KC, S2) ∧ s_Jc S2 A ∧ s_offM S S2)
              refine p_eq (y := -6) (wfa.2.2.2.2) ?_
              refine q_bipush (pc' := 493) dL_same_491 rfl rfl ?_
              refine q_icmp_eq (tgt := 498) (pc' := 496) dL_same_493 rfl rfl (by decide) (by decide) (fun qc_493 => ?_) (fun qc_493 => absurd qc_493 (by decide))
              refine q_iinc (pc' := 501) 7 (L' := [(7, q_i (k + 1)), (0, q_r Γ 0), (1, q_r Γ 150), (2, q_r Γ 151), (3, q_r Γ 152), (4, q_r Γ 153), (5, q_r Γ 154), (6, q_r Γ 155)]) dL_same_498 rfl rfl (by decide) rfl ?_
              refine q_goto (pc' := 394) dL_same_501 rfl ?_
              refine p_sub [1, 2, 3, 4, 5, 6, 7, 0] rfl ?_
              exact qih_394 _ (by omega) _ _ (by first | assumption | omega) (by first | assumption | omega) (by first | assumption | omega) (by first | assumption | omega) rfl
        refine p_sub [1, 2, 3, 4, 5, 6, 7, 0] rfl ?_
        exact qlp_394 _ _ _ (by first | assumption | omega) (by first | assumption | omega) (by first | assumption | omega) (by first | assumption | omega) rfl
      · have wof := w_of h4 (show 0 ≤ r by omega) (show r < 4 by omega)
        have pr := s_pt_b ok (r := r) (by omega) (by omega)
        refine q_aloadn (pc' := 10) 0 dL_same_9 rfl rfl ?_
        refine q_iload (pc' := 12) 7 dL_same_10 rfl rfl ?_
        refine q_iconst (pc' := 13) dL_same_12 rfl ?_
        refine q_callVQ (pc' := 16) dL_same_13 rfl lL_24 iX8_ofRow kc0 rfl (c_X8_ofRow (A := A) (by assumption) (by first | assumption | omega) (by decide)) rfl rfl (Nat.le_of_ble_eq_true rfl) (Nat.le_of_ble_eq_true rfl) (Nat.le_of_ble_eq_true rfl) (fun vq wq hq => ?_)
        obtain ⟨rfl, qS13, rfl, qJ13, qo13⟩ := hq
        have qt13 : s_offM S qS13 := s_offM_t (by assumption) qo13
        have qR13 : w_R qS13 (A 151) := w_R_off H qt13
        show q_Go Γ mL_same 7 0 0 16 [(0, q_r Γ 0), (1, q_r Γ 150), (2, q_r Γ 151), (3, q_r Γ 152), (4, q_r Γ 153), (5, q_r Γ 154), (6, q_r Γ 155), (7, q_i r)] [q_i (s_ofRow (A 151) r 0)] (KC, qS13) (fun v9 w9 => v9 = some (q_i 1) ∧ ∃ S2, w9 = (KC, S2) ∧ s_Jc S2 A ∧ s_offM S S2)
        refine p_eq (y := s_pt (A 151) r 0) (wof.1) ?_
        refine q_aloadn (pc' := 17) 2 dL_same_16 rfl rfl ?_
        refine q_iconst (pc' := 18) dL_same_17 rfl ?_
        refine q_iload (pc' := 20) 7 dL_same_18 rfl rfl ?_
        refine q_imul (pc' := 21) dL_same_20 rfl ?_
        refine p_iald (pc' := 22) dL_same_21 rfl kc151 (by first | assumption | omega) (by first | assumption | omega) (by decide) (fun qy_21 eqy_21 rqy_21 => ?_)
        have vqy_21 : qy_21 = s_pt (A 151) r 0 := eqy_21.trans (w_pt0 qR13 (by first | assumption | omega) (by first | assumption | omega))
        rw [vqy_21]
        refine w_icmp_ne (tgt := 82) (pc' := 25) dL_same_22 rfl rfl ?_
        refine q_aloadn (pc' := 26) 0 dL_same_25 rfl rfl ?_
        refine q_iload (pc' := 28) 7 dL_same_26 rfl rfl ?_
        refine q_iconst (pc' := 29) dL_same_28 rfl ?_
        refine q_callVQ (pc' := 32) dL_same_29 rfl lL_24 iX8_ofRow kc0 rfl (c_X8_ofRow (A := A) (by assumption) (by first | assumption | omega) (by decide)) rfl rfl (Nat.le_of_ble_eq_true rfl) (Nat.le_of_ble_eq_true rfl) (Nat.le_of_ble_eq_true rfl) (fun vq wq hq => ?_)
        obtain ⟨rfl, qS29, rfl, qJ29, qo29⟩ := hq
        have qt29 : s_offM S qS29 := s_offM_t (by assumption) qo29
        have qR29 : w_R qS29 (A 151) := w_R_off H qt29
        show q_Go Γ mL_same 7 0 0 32 [(0, q_r Γ 0), (1, q_r Γ 150), (2, q_r Γ 151), (3, q_r Γ 152), (4, q_r Γ 153), (5, q_r Γ 154), (6, q_r Γ 155), (7, q_i r)] [q_i (s_ofRow (A 151) r 1)] (KC, qS29) (fun v9 w9 => v9 = some (q_i 1) ∧ ∃ S2, w9 = (KC, S2) ∧ s_Jc S2 A ∧ s_offM S S2)
        refine p_eq (y := s_pt (A 151) r 1) (wof.2.1) ?_
        refine q_aloadn (pc' := 33) 2 dL_same_32 rfl rfl ?_
        refine q_iconst (pc' := 34) dL_same_33 rfl ?_
        refine q_iload (pc' := 36) 7 dL_same_34 rfl rfl ?_
        refine q_imul (pc' := 37) dL_same_36 rfl ?_
        refine q_iconst (pc' := 38) dL_same_37 rfl ?_
        refine q_iadd (pc' := 39) dL_same_38 rfl ?_
        refine p_iald (pc' := 40) dL_same_39 rfl kc151 (by first | assumption | omega) (by first | assumption | omega) (by decide) (fun qy_39 eqy_39 rqy_39 => ?_)
        have vqy_39 : qy_39 = s_pt (A 151) r 1 := eqy_39.trans (w_pt qR29 (by first | assumption | omega) (by first | assumption | omega) (by first | assumption | omega) (by first | assumption | omega))
        rw [vqy_39]
        refine w_icmp_ne (tgt := 82) (pc' := 43) dL_same_40 rfl rfl ?_
        refine q_aloadn (pc' := 44) 0 dL_same_43 rfl rfl ?_
        refine q_iload (pc' := 46) 7 dL_same_44 rfl rfl ?_
        refine q_iconst (pc' := 47) dL_same_46 rfl ?_
        refine q_callVQ (pc' := 50) dL_same_47 rfl lL_24 iX8_ofRow kc0 rfl (c_X8_ofRow (A := A) (by assumption) (by first | assumption | omega) (by decide)) rfl rfl (Nat.le_of_ble_eq_true rfl) (Nat.le_of_ble_eq_true rfl) (Nat.le_of_ble_eq_true rfl) (fun vq wq hq => ?_)
        obtain ⟨rfl, qS47, rfl, qJ47, qo47⟩ := hq
        have qt47 : s_offM S qS47 := s_offM_t (by assumption) qo47
        have qR47 : w_R qS47 (A 151) := w_R_off H qt47
        show q_Go Γ mL_same 7 0 0 50 [(0, q_r Γ 0), (1, q_r Γ 150), (2, q_r Γ 151), (3, q_r Γ 152), (4, q_r Γ 153), (5, q_r Γ 154), (6, q_r Γ 155), (7, q_i r)] [q_i (s_ofRow (A 151) r 2)] (KC, qS47) (fun v9 w9 => v9 = some (q_i 1) ∧ ∃ S2, w9 = (KC, S2) ∧ s_Jc S2 A ∧ s_offM S S2)
        refine p_eq (y := s_pt (A 151) r 2) (wof.2.2.1) ?_
        refine q_aloadn (pc' := 51) 2 dL_same_50 rfl rfl ?_
        refine q_iconst (pc' := 52) dL_same_51 rfl ?_
        refine q_iload (pc' := 54) 7 dL_same_52 rfl rfl ?_
        refine q_imul (pc' := 55) dL_same_54 rfl ?_
        refine q_iconst (pc' := 56) dL_same_55 rfl ?_
        refine q_iadd (pc' := 57) dL_same_56 rfl ?_
        refine p_iald (pc' := 58) dL_same_57 rfl kc151 (by first | assumption | omega) (by first | assumption | omega) (by decide) (fun qy_57 eqy_57 rqy_57 => ?_)
        have vqy_57 : qy_57 = s_pt (A 151) r 2 := eqy_57.trans (w_pt qR47 (by first | assumption | omega) (by first | assumption | omega) (by first | assumption | omega) (by first | assumption | omega))
        rw [vqy_57]
        refine w_icmp_ne (tgt := 82) (pc' := 61) dL_same_58 rfl rfl ?_
        refine q_aloadn (pc' := 62) 0 dL_same_61 rfl rfl ?_
        refine q_iload (pc' := 64) 7 dL_same_62 rfl rfl ?_
        refine q_iconst (pc' := 65) dL_same_64 rfl ?_
        refine q_callVQ (pc' := 68) dL_same_65 rfl lL_24 iX8_ofRow kc0 rfl (c_X8_ofRow (A := A) (by assumption) (by first | assumption | omega) (by decide)) rfl rfl (Nat.le_of_ble_eq_true rfl) (Nat.le_of_ble_eq_true rfl) (Nat.le_of_ble_eq_true rfl) (fun vq wq hq => ?_)
        obtain ⟨rfl, qS65, rfl, qJ65, qo65⟩ := hq
        have qt65 : s_offM S qS65 := s_offM_t (by assumption) qo65
        have qR65 : w_R qS65 (A 151) := w_R_off H qt65
        show q_Go Γ mL_same 7 0 0 68 [(0, q_r Γ 0), (1, q_r Γ 150), (2, q_r Γ 151), (3, q_r Γ 152), (4, q_r Γ 153), (5, q_r Γ 154), (6, q_r Γ 155), (7, q_i r)] [q_i (s_ofRow (A 151) r 3)] (KC, qS65) (fun v9 w9 => v9 = some (q_i 1) ∧ ∃ S2, w9 = (KC, S2) ∧ s_Jc S2 A ∧ s_offM S S2)
        refine p_eq (y := (s_pt (A 151) r 3) + 1000000000) (wof.2.2.2.1) ?_
        refine q_aloadn (pc' := 69) 2 dL_same_68 rfl rfl ?_
        refine q_iconst (pc' := 70) dL_same_69 rfl ?_
        refine q_iload (pc' := 72) 7 dL_same_70 rfl rfl ?_
        refine q_imul (pc' := 73) dL_same_72 rfl ?_
        refine q_iconst (pc' := 74) dL_same_73 rfl ?_
        refine q_iadd (pc' := 75) dL_same_74 rfl ?_
        refine p_iald (pc' := 76) dL_same_75 rfl kc151 (by first | assumption | omega) (by first | assumption | omega) (by decide) (fun qy_75 eqy_75 rqy_75 => ?_)
        have vqy_75 : qy_75 = s_pt (A 151) r 3 := eqy_75.trans (w_pt qR65 (by first | assumption | omega) (by first | assumption | omega) (by first | assumption | omega) (by first | assumption | omega))
        rw [vqy_75]
        refine q_ldc (pc' := 78) dL_same_76 rfl wL_30 ?_
        refine q_iadd (pc' := 79) dL_same_78 rfl ?_
        refine w_icmp_eq (tgt := 84) (pc' := 82) dL_same_79 rfl rfl ?_
        refine q_iconst (pc' := 85) dL_same_84 rfl ?_
        refine q_istore (pc' := 87) (L' := [(8, q_i 0), (0, q_r Γ 0), (1, q_r Γ 150), (2, q_r Γ 151), (3, q_r Γ 152), (4, q_r Γ 153), (5, q_r Γ 154), (6, q_r Γ 155), (7, q_i r)]) dL_same_85 rfl (by decide) rfl ?_
        have qlp_87 : ∀ (qn_87 : Nat) (S3 : q_S) (i : Int), (0 ≤ i) → (i ≤ 3) → (s_Jc S3 A) → (s_offM S S3) → ((3 - i).toNat) = qn_87 → q_Go Γ mL_same 7 0 0 87 [(0, q_r Γ 0), (1, q_r Γ 150), (2, q_r Γ 151), (3, q_r Γ 152), (4, q_r Γ 153), (5, q_r Γ 154), (6, q_r Γ 155), (7, q_i r), (8, q_i i)] [] (KC, S3) (fun v9 w9 => v9 = some (q_i 1) ∧ ∃ S2, w9 = (KC, S2) ∧ s_Jc S2 A ∧ s_offM S S2) := by
          intro qn_87
          induction qn_87 using Nat.strongRecOn with
          | ind qn_87 qih_87 =>
            intro S3 i qa_87_0 qa_87_1 qa_87_2 qa_87_3 qhn_87
            subst qhn_87
            have HR3 : w_R S3 (A 151) := w_R_off H qa_87_3
            refine q_iload (pc' := 89) 8 dL_same_87 rfl rfl ?_
            refine q_iconst (pc' := 90) dL_same_89 rfl ?_
            refine q_icmp_ge (tgt := 385) (pc' := 93) dL_same_90 rfl rfl (by first | assumption | omega) (by decide) (fun qc_90 => ?_) (fun qc_90 => ?_)
            · refine q_iinc (pc' := 388) 7 (L' := [(7, q_i (r + 1)), (0, q_r Γ 0), (1, q_r Γ 150), (2, q_r Γ 151), (3, q_r Γ 152), (4, q_r Γ 153), (5, q_r Γ 154), (6, q_r Γ 155), (8, q_i i)]) dL_same_385 rfl rfl (by decide) rfl ?_
              refine q_goto (pc' := 3) dL_same_388 rfl ?_
              refine p_sub [1, 2, 3, 4, 5, 6, 7, 0] rfl ?_
              exact qih_3 _ (by omega) _ _ (by first | assumption | omega) (by first | assumption | omega) (by first | assumption | omega) (by first | assumption | omega) rfl
            · have wb := w_h_b i
              have win := w_in h4 (show 0 ≤ r by omega) (show r < 4 by omega) wb
              have tb := s_tio_b ok (w_h i) (r := r) (by omega) (by omega)
              refine q_iload (pc' := 95) 8 dL_same_93 rfl rfl ?_
              refine q_callSI (pc' := 98) dL_same_95 rfl lL_31 iL_hour (c_L_hour (by first | assumption | omega) (by first | assumption | omega)) rfl rfl (Nat.le_of_ble_eq_true rfl) (Nat.le_of_ble_eq_true rfl) (Nat.le_of_ble_eq_true rfl) ?_
              refine q_istore (pc' := 100) (L' := [(9, q_i (w_h i)), (0, q_r Γ 0), (1, q_r Γ 150), (2, q_r Γ 151), (3, q_r Γ 152), (4, q_r Γ 153), (5, q_r Γ 154), (6, q_r Γ 155), (7, q_i r), (8, q_i i)]) dL_same_98 rfl (by decide) rfl ?_
              have qlp_120 : ∀ (su : Int), (su = s_sun (w_h i)) → q_Go Γ mL_same 7 0 0 120 [(0, q_r Γ 0), (1, q_r Γ 150), (2, q_r Γ 151), (3, q_r Γ 152), (4, q_r Γ 153), (5, q_r Γ 154), (6, q_r Γ 155), (7, q_i r), (8, q_i i), (9, q_i (w_h i))] [q_i su] (KC, S3) (fun v9 w9 => v9 = some (q_i 1) ∧ ∃ S2, w9 = (KC, S2) ∧ s_Jc S2 A ∧ s_offM S S2) := by
                intro su qa_120_0
                subst qa_120_0
                refine q_istore (pc' := 122) (L' := [(10, q_i (s_sun (w_h i))), (0, q_r Γ 0), (1, q_r Γ 150), (2, q_r Γ 151), (3, q_r Γ 152), (4, q_r Γ 153), (5, q_r Γ 154), (6, q_r Γ 155), (7, q_i r), (8, q_i i), (9, q_i (w_h i))]) dL_same_120 rfl (by decide) rfl ?_
                refine q_iload (pc' := 124) 8 dL_same_122 rfl rfl ?_
                refine q_aloadn (pc' := 125) 3 dL_same_124 rfl rfl ?_
                refine q_iconst (pc' := 126) dL_same_125 rfl ?_
                refine q_iload (pc' := 128) 8 dL_same_126 rfl rfl ?_
                refine q_imul (pc' := 129) dL_same_128 rfl ?_
                refine q_iconst (pc' := 130) dL_same_129 rfl ?_
                refine q_iadd (pc' := 131) dL_same_130 rfl ?_
                refine p_iald (pc' := 132) dL_same_131 rfl kc151 (by first | assumption | omega) (by first | assumption | omega) (by decide) (fun qy_131 eqy_131 rqy_131 => ?_)
                have vqy_131 : qy_131 = s_pt (A 151) r 2 := eqy_131.trans (w_pt HR3 (by first | assumption | omega) (by first | assumption | omega) (by first | assumption | omega) (by first | assumption | omega))
                rw [vqy_131]
                refine q_iload (pc' := 134) 9 dL_same_132 rfl rfl ?_
                refine q_aloadn (pc' := 135) 3 dL_same_134 rfl rfl ?_
                refine q_aloadn (pc' := 136) 4 dL_same_135 rfl rfl ?_
                refine q_aload (pc' := 138) 5 dL_same_136 rfl rfl ?_
                refine q_callSI (pc' := 141) dL_same_138 rfl lL_16 iL_lies (c_L_lies (by first | assumption | omega) (by first | assumption | omega) (by first | assumption | omega) (by first | assumption | omega) (by first | assumption | omega) (by first | assumption | omega) (by first | assumption | omega) (by first | assumption | omega)) rfl rfl (Nat.le_of_ble_eq_true rfl) (Nat.le_of_ble_eq_true rfl) (Nat.le_of_ble_eq_true rfl) ?_
                refine q_istore (pc' := 143) (L' := [(11, q_i (s_ti (A 151) r (s_pt (A 151) r 2) (w_h i))), (10, q_i (s_sun (w_h i))), (0, q_r Γ 0), (1, q_r Γ 150), (2, q_r Γ 151), (3, q_r Γ 152), (4, q_r Γ 153), (5, q_r Γ 154), (6, q_r Γ 155), (7, q_i r), (8, q_i i), (9, q_i (w_h i))]) dL_same_141 rfl (by decide) rfl ?_
                refine q_iload (pc' := 145) 0 dL_same_143 rfl rfl ?_
                refine q_aloadn (pc' := 146) 4 dL_same_145 rfl rfl ?_
                refine q_iconst (pc' := 147) dL_same_146 rfl ?_
                refine q_iload (pc' := 149) 9 dL_same_147 rfl rfl ?_
                refine q_imul (pc' := 150) dL_same_149 rfl ?_
                refine q_iconst (pc' := 151) dL_same_150 rfl ?_
                refine q_iadd (pc' := 152) dL_same_151 rfl ?_
                refine p_iald (pc' := 153) dL_same_152 rfl kc151 (by first | assumption | omega) (by first | assumption | omega) (by decide) (fun qy_152 eqy_152 rqy_152 => ?_)
                have vqy_152 : qy_152 = s_pt (A 151) r 1 := eqy_152.trans (w_pt HR3 (by first | assumption | omega) (by first | assumption | omega) (by first | assumption | omega) (by first | assumption | omega))
                rw [vqy_152]
                refine q_imul (pc' := 154) dL_same_153 rfl ?_
                refine q_istore (pc' := 156) (L' := [(12, q_i ((s_ti (A 151) r (s_pt (A 151) r 2) (w_h i)) * (s_pt (A 151) r 1))), (11, q_i (s_ti (A 151) r (s_pt (A 151) r 2) (w_h i))), (10, q_i (s_sun (w_h i))), (0, q_r Γ 0), (1, q_r Γ 150), (2, q_r Γ 151), (3, q_r Γ 152), (4, q_r Γ 153), (5, q_r Γ 154), (6, q_r Γ 155), (7, q_i r), (8, q_i i), (9, q_i (w_h i))]) dL_same_154 rfl (by decide) rfl ?_
                refine q_iload (pc' := 158) 10 dL_same_156 rfl rfl ?_
                refine q_iload (pc' := 160) 11 dL_same_158 rfl rfl ?_
                refine q_aloadn (pc' := 161) 5 dL_same_160 rfl rfl ?_
                refine q_aloadn (pc' := 162) 6 dL_same_161 rfl rfl ?_
                refine q_aload (pc' := 164) 7 dL_same_162 rfl rfl ?_
                refine q_callSI (pc' := 167) dL_same_164 rfl lL_35 iL_shade (c_L_shade (by first | assumption | omega) (by first | assumption | omega) (by first | assumption | omega) (by first | assumption | omega) (by first | assumption | omega) (by first | assumption | omega)) rfl rfl (Nat.le_of_ble_eq_true rfl) (Nat.le_of_ble_eq_true rfl) (Nat.le_of_ble_eq_true rfl) ?_
                refine q_istore (pc' := 169) (L' := [(13, q_i (s_shd (A 151) r (w_h i))), (12, q_i ((s_ti (A 151) r (s_pt (A 151) r 2) (w_h i)) * (s_pt (A 151) r 1))), (11, q_i (s_ti (A 151) r (s_pt (A 151) r 2) (w_h i))), (10, q_i (s_sun (w_h i))), (0, q_r Γ 0), (1, q_r Γ 150), (2, q_r Γ 151), (3, q_r Γ 152), (4, q_r Γ 153), (5, q_r Γ 154), (6, q_r Γ 155), (7, q_i r), (8, q_i i), (9, q_i (w_h i))]) dL_same_167 rfl (by decide) rfl ?_
                refine q_aloadn (pc' := 170) 4 dL_same_169 rfl rfl ?_
                refine q_iload (pc' := 172) 11 dL_same_170 rfl rfl ?_
                refine q_iload (pc' := 174) 13 dL_same_172 rfl rfl ?_
                refine q_iconst (pc' := 175) dL_same_174 rfl ?_
                refine q_callVQ (pc' := 178) dL_same_175 rfl lL_38 iX8_inHour kc0 rfl (c_X8_inHour (A := A) (by assumption) (by first | assumption | omega) (by first | assumption | omega) (by decide)) rfl rfl (Nat.le_of_ble_eq_true rfl) (Nat.le_of_ble_eq_true rfl) (Nat.le_of_ble_eq_true rfl) (fun vq wq hq => ?_)
                obtain ⟨rfl, qS175, rfl, qJ175, qo175⟩ := hq
                have qt175 : s_offM S qS175 := s_offM_t (by assumption) qo175
                have qR175 : w_R qS175 (A 151) := w_R_off H qt175
                show q_Go Γ mL_same 7 0 0 178 [(13, q_i (s_shd (A 151) r (w_h i))), (12, q_i ((s_ti (A 151) r (s_pt (A 151) r 2) (w_h i)) * (s_pt (A 151) r 1))), (11, q_i (s_ti (A 151) r (s_pt (A 151) r 2) (w_h i))), (10, q_i (s_sun (w_h i))), (0, q_r Γ 0), (1, q_r Γ 150), (2, q_r Γ 151), (3, q_r Γ 152), (4, q_r Γ 153), (5, q_r Γ 154), (6, q_r Γ 155), (7, q_i r), (8, q_i i), (9, q_i (w_h i))] [q_i (s_inHour (A 151) r (w_h i) 0)] (KC, qS175) (fun v9 w9 => v9 = some (q_i 1) ∧ ∃ S2, w9 = (KC, S2) ∧ s_Jc S2 A ∧ s_offM S S2)
                refine p_eq (y := s_ti (A 151) r (s_pt (A 151) r 2) (w_h i)) (win.1) ?_
                refine q_iload (pc' := 180) 2 dL_same_178 rfl rfl ?_
                refine w_icmp_ne (tgt := 263) (pc' := 183) dL_same_180 rfl rfl ?_
                refine q_aloadn (pc' := 184) 4 dL_same_183 rfl rfl ?_
                refine q_iload (pc' := 186) 11 dL_same_184 rfl rfl ?_
                refine q_iload (pc' := 188) 13 dL_same_186 rfl rfl ?_
                refine q_iconst (pc' := 189) dL_same_188 rfl ?_
                refine q_callVQ (pc' := 192) dL_same_189 rfl lL_38 iX8_inHour kc0 rfl (c_X8_inHour (A := A) (by assumption) (by first | assumption | omega) (by first | assumption | omega) (by decide)) rfl rfl (Nat.le_of_ble_eq_true rfl) (Nat.le_of_ble_eq_true rfl) (Nat.le_of_ble_eq_true rfl) (fun vq wq hq => ?_)
                obtain ⟨rfl, qS189, rfl, qJ189, qo189⟩ := hq
                have qt189 : s_offM S qS189 := s_offM_t (by assumption) qo189
                have qR189 : w_R qS189 (A 151) := w_R_off H qt189
                show q_Go Γ mL_same 7 0 0 192 [(13, q_i (s_shd (A 151) r (w_h i))), (12, q_i ((s_ti (A 151) r (s_pt (A 151) r 2) (w_h i)) * (s_pt (A 151) r 1))), (11, q_i (s_ti (A 151) r (s_pt (A 151) r 2) (w_h i))), (10, q_i (s_sun (w_h i))), (0, q_r Γ 0), (1, q_r Γ 150), (2, q_r Γ 151), (3, q_r Γ 152), (4, q_r Γ 153), (5, q_r Γ 154), (6, q_r Γ 155), (7, q_i r), (8, q_i i), (9, q_i (w_h i))] [q_i (s_inHour (A 151) r (w_h i) 1)] (KC, qS189) (fun v9 w9 => v9 = some (q_i 1) ∧ ∃ S2, w9 = (KC, S2) ∧ s_Jc S2 A ∧ s_offM S S2)
                refine p_eq (y := (s_ti (A 151) r (s_pt (A 151) r 2) (w_h i)) * (s_pt (A 151) r 1)) (win.2.1) ?_
                refine q_iload (pc' := 194) 1 dL_same_192 rfl rfl ?_
                refine w_icmp_ne (tgt := 263) (pc' := 197) dL_same_194 rfl rfl ?_
                refine q_aloadn (pc' := 198) 4 dL_same_197 rfl rfl ?_
                refine q_iload (pc' := 200) 11 dL_same_198 rfl rfl ?_
                refine q_iload (pc' := 202) 13 dL_same_200 rfl rfl ?_
                refine q_iconst (pc' := 203) dL_same_202 rfl ?_
                refine q_callVQ (pc' := 206) dL_same_203 rfl lL_38 iX8_inHour kc0 rfl (c_X8_inHour (A := A) (by assumption) (by first | assumption | omega) (by first | assumption | omega) (by decide)) rfl rfl (Nat.le_of_ble_eq_true rfl) (Nat.le_of_ble_eq_true rfl) (Nat.le_of_ble_eq_true rfl) (fun vq wq hq => ?_)
                obtain ⟨rfl, qS203, rfl, qJ203, qo203⟩ := hq
                have qt203 : s_offM S qS203 := s_offM_t (by assumption) qo203
                have qR203 : w_R qS203 (A 151) := w_R_off H qt203
                show q_Go Γ mL_same 7 0 0 206 [(13, q_i (s_shd (A 151) r (w_h i))), (12, q_i ((s_ti (A 151) r (s_pt (A 151) r 2) (w_h i)) * (s_pt (A 151) r 1))), (11, q_i (s_ti (A 151) r (s_pt (A 151) r 2) (w_h i))), (10, q_i (s_sun (w_h i))), (0, q_r Γ 0), (1, q_r Γ 150), (2, q_r Γ 151), (3, q_r Γ 152), (4, q_r Γ 153), (5, q_r Γ 154), (6, q_r Γ 155), (7, q_i r), (8, q_i i), (9, q_i (w_h i))] [q_i (s_inHour (A 151) r (w_h i) 2)] (KC, qS203) (fun v9 w9 => v9 = some (q_i 1) ∧ ∃ S2, w9 = (KC, S2) ∧ s_Jc S2 A ∧ s_offM S S2)
                refine p_eq (y := s_shd (A 151) r (w_h i)) (win.2.2.1) ?_
                refine q_iload (pc' := 208) 0 dL_same_206 rfl rfl ?_
                refine w_icmp_ne (tgt := 263) (pc' := 211) dL_same_208 rfl rfl ?_
                refine q_aloadn (pc' := 212) 4 dL_same_211 rfl rfl ?_
                refine q_iload (pc' := 214) 11 dL_same_212 rfl rfl ?_
                refine q_iload (pc' := 216) 13 dL_same_214 rfl rfl ?_
                refine q_iconst (pc' := 217) dL_same_216 rfl ?_
                refine q_callVQ (pc' := 220) dL_same_217 rfl lL_38 iX8_inHour kc0 rfl (c_X8_inHour (A := A) (by assumption) (by first | assumption | omega) (by first | assumption | omega) (by decide)) rfl rfl (Nat.le_of_ble_eq_true rfl) (Nat.le_of_ble_eq_true rfl) (Nat.le_of_ble_eq_true rfl) (fun vq wq hq => ?_)
                obtain ⟨rfl, qS217, rfl, qJ217, qo217⟩ := hq
                have qt217 : s_offM S qS217 := s_offM_t (by assumption) qo217
                have qR217 : w_R qS217 (A 151) := w_R_off H qt217
                show q_Go Γ mL_same 7 0 0 220 [(13, q_i (s_shd (A 151) r (w_h i))), (12, q_i ((s_ti (A 151) r (s_pt (A 151) r 2) (w_h i)) * (s_pt (A 151) r 1))), (11, q_i (s_ti (A 151) r (s_pt (A 151) r 2) (w_h i))), (10, q_i (s_sun (w_h i))), (0, q_r Γ 0), (1, q_r Γ 150), (2, q_r Γ 151), (3, q_r Γ 152), (4, q_r Γ 153), (5, q_r Γ 154), (6, q_r Γ 155), (7, q_i r), (8, q_i i), (9, q_i (w_h i))] [q_i (s_inHour (A 151) r (w_h i) 3)] (KC, qS217) (fun v9 w9 => v9 = some (q_i 1) ∧ ∃ S2, w9 = (KC, S2) ∧ s_Jc S2 A ∧ s_offM S S2)
                refine p_eq (y := s_bl (A 151) r (w_h i)) (win.2.2.2.1) ?_
                refine q_iload (pc' := 222) 11 dL_same_220 rfl rfl ?_
                refine q_iload (pc' := 224) 12 dL_same_222 rfl rfl ?_
                refine q_aloadn (pc' := 225) 6 dL_same_224 rfl rfl ?_
                refine q_aloadn (pc' := 226) 7 dL_same_225 rfl rfl ?_
                refine q_aload (pc' := 228) 8 dL_same_226 rfl rfl ?_
                refine q_callSI (pc' := 231) dL_same_228 rfl lL_20 iL_blamed (c_L_blamed (by first | assumption | omega) (by first | assumption | omega) (by first | assumption | omega) (by first | assumption | omega) (by first | assumption | omega) (by first | assumption | omega)) rfl rfl (Nat.le_of_ble_eq_true rfl) (Nat.le_of_ble_eq_true rfl) (Nat.le_of_ble_eq_true rfl) ?_
                refine w_icmp_ne (tgt := 263) (pc' := 234) dL_same_231 rfl rfl ?_
                refine q_aloadn (pc' := 235) 4 dL_same_234 rfl rfl ?_
                refine q_iload (pc' := 237) 11 dL_same_235 rfl rfl ?_
                refine q_iload (pc' := 239) 13 dL_same_237 rfl rfl ?_
                refine q_iconst (pc' := 240) dL_same_239 rfl ?_
                refine q_callVQ (pc' := 243) dL_same_240 rfl lL_38 iX8_inHour kc0 rfl (c_X8_inHour (A := A) (by assumption) (by first | assumption | omega) (by first | assumption | omega) (by decide)) rfl rfl (Nat.le_of_ble_eq_true rfl) (Nat.le_of_ble_eq_true rfl) (Nat.le_of_ble_eq_true rfl) (fun vq wq hq => ?_)
                obtain ⟨rfl, qS240, rfl, qJ240, qo240⟩ := hq
                have qt240 : s_offM S qS240 := s_offM_t (by assumption) qo240
                have qR240 : w_R qS240 (A 151) := w_R_off H qt240
                show q_Go Γ mL_same 7 0 0 243 [(13, q_i (s_shd (A 151) r (w_h i))), (12, q_i ((s_ti (A 151) r (s_pt (A 151) r 2) (w_h i)) * (s_pt (A 151) r 1))), (11, q_i (s_ti (A 151) r (s_pt (A 151) r 2) (w_h i))), (10, q_i (s_sun (w_h i))), (0, q_r Γ 0), (1, q_r Γ 150), (2, q_r Γ 151), (3, q_r Γ 152), (4, q_r Γ 153), (5, q_r Γ 154), (6, q_r Γ 155), (7, q_i r), (8, q_i i), (9, q_i (w_h i))] [q_i (s_inHour (A 151) r (w_h i) 4)] (KC, qS240) (fun v9 w9 => v9 = some (q_i 1) ∧ ∃ S2, w9 = (KC, S2) ∧ s_Jc S2 A ∧ s_offM S S2)
                refine p_eq (y := ((((s_ti (A 151) r (s_pt (A 151) r 2) (w_h i)) * (s_pt (A 151) r 1)) - (s_shd (A 151) r (w_h i))) * (s_sun (w_h i))) + (s_pt (A 151) r 1)) (win.2.2.2.2) ?_
                refine q_iload (pc' := 245) 1 dL_same_243 rfl rfl ?_
                refine q_iload (pc' := 247) 0 dL_same_245 rfl rfl ?_
                refine q_isub (pc' := 248) dL_same_247 rfl ?_
                refine q_iload (pc' := 250) 3 dL_same_248 rfl rfl ?_
                refine q_imul (pc' := 251) dL_same_250 rfl ?_
                refine q_aloadn (pc' := 252) 6 dL_same_251 rfl rfl ?_
                refine q_iconst (pc' := 253) dL_same_252 rfl ?_
                refine q_iload (pc' := 255) 11 dL_same_253 rfl rfl ?_
                refine q_imul (pc' := 256) dL_same_255 rfl ?_
                refine q_iconst (pc' := 257) dL_same_256 rfl ?_
                refine q_iadd (pc' := 258) dL_same_257 rfl ?_
                refine p_iald (pc' := 259) dL_same_258 rfl kc151 (by first | assumption | omega) (by first | assumption | omega) (by decide) (fun qy_258 eqy_258 rqy_258 => ?_)
                have vqy_258 : qy_258 = s_pt (A 151) r 1 := eqy_258.trans (w_pt qR240 (by first | assumption | omega) (by first | assumption | omega) (by first | assumption | omega) (by first | assumption | omega))
                rw [vqy_258]
                refine q_iadd (pc' := 260) dL_same_259 rfl ?_
                refine w_icmp_eq (tgt := 265) (pc' := 263) dL_same_260 rfl rfl ?_
                refine q_iconst (pc' := 266) dL_same_265 rfl ?_
                refine q_istore (pc' := 268) (L' := [(14, q_i 0), (13, q_i (s_shd (A 151) r (w_h i))), (12, q_i ((s_ti (A 151) r (s_pt (A 151) r 2) (w_h i)) * (s_pt (A 151) r 1))), (11, q_i (s_ti (A 151) r (s_pt (A 151) r 2) (w_h i))), (10, q_i (s_sun (w_h i))), (0, q_r Γ 0), (1, q_r Γ 150), (2, q_r Γ 151), (3, q_r Γ 152), (4, q_r Γ 153), (5, q_r Γ 154), (6, q_r Γ 155), (7, q_i r), (8, q_i i), (9, q_i (w_h i))]) dL_same_266 rfl (by decide) rfl ?_
                have qlp_268 : ∀ (qn_268 : Nat) (S4 : q_S) (b : Int), (0 ≤ b) → (b ≤ 4) → (s_Jc S4 A) → (s_offM S S4) → ((4 - b).toNat) = qn_268 → q_Go Γ mL_same 7 0 0 268 [(0, q_r Γ 0), (1, q_r Γ 150), (2, q_r Γ 151), (3, q_r Γ 152), (4, q_r Γ 153), (5, q_r Γ 154), (6, q_r Γ 155), (7, q_i r), (8, q_i i), (9, q_i (w_h i)), (11, q_i (s_ti (A 151) r (s_pt (A 151) r 2) (w_h i))), (14, q_i b)] [] (KC, S4) (fun v9 w9 => v9 = some (q_i 1) ∧ ∃ S2, w9 = (KC, S2) ∧ s_Jc S2 A ∧ s_offM S S2) := by
                  intro qn_268
                  induction qn_268 using Nat.strongRecOn with
                  | ind qn_268 qih_268 =>
                    intro S4 b qa_268_0 qa_268_1 qa_268_2 qa_268_3 qhn_268
                    subst qhn_268
                    have HR4 : w_R S4 (A 151) := w_R_off H qa_268_3
                    refine q_iload (pc' := 270) 11 dL_same_268 rfl rfl ?_
                    refine q_iconst (pc' := 271) dL_same_270 rfl ?_
                    refine q_icmp_ge (tgt := 379) (pc' := 274) dL_same_271 rfl rfl (by first | assumption | omega) (by decide) (fun qc_271 => ?_) (fun qc_271 => ?_)
                    · refine q_iinc (pc' := 382) 8 (L' := [(8, q_i (i + 1)), (0, q_r Γ 0), (1, q_r Γ 150), (2, q_r Γ 151), (3, q_r Γ 152), (4, q_r Γ 153), (5, q_r Γ 154), (6, q_r Γ 155), (7, q_i r), (9, q_i (w_h i)), (11, q_i (s_ti (A 151) r (s_pt (A 151) r 2) (w_h i))), (14, q_i b)]) dL_same_379 rfl rfl (by decide) rfl ?_
                      refine q_goto (pc' := 87) dL_same_382 rfl ?_
                      refine p_sub [1, 2, 3, 4, 5, 6, 7, 8, 0] rfl ?_
                      exact qih_87 _ (by omega) _ _ (by first | assumption | omega) (by first | assumption | omega) (by first | assumption | omega) (by first | assumption | omega) rfl
                    · refine q_iload (pc' := 276) 11 dL_same_274 rfl rfl ?_
                      refine q_iload (pc' := 278) 7 dL_same_276 rfl rfl ?_
                      refine q_icmp_ne (tgt := 284) (pc' := 281) dL_same_278 rfl rfl (by first | assumption | omega) (by first | assumption | omega) (fun qc_278 => ?_) (fun qc_278 => ?_)
                      · have wov := w_ov h4 (a := r) (b := b) (by omega) (by omega) (by omega) (by omega) qc_278 wb
                        refine q_aloadn (pc' := 285) 0 dL_same_284 rfl rfl ?_
                        refine q_iload (pc' := 287) 7 dL_same_285 rfl rfl ?_
                        refine q_iload (pc' := 289) 11 dL_same_287 rfl rfl ?_
                        refine q_iload (pc' := 291) 9 dL_same_289 rfl rfl ?_
                        refine q_iconst (pc' := 292) dL_same_291 rfl ?_
                        refine q_callVQ (pc' := 295) dL_same_292 rfl lL_42 iX8_over kc0 rfl (c_X8_over (A := A) (by assumption) (by first | assumption | omega) (by first | assumption | omega) (by first | assumption | omega) (by decide)) rfl rfl (Nat.le_of_ble_eq_true rfl) (Nat.le_of_ble_eq_true rfl) (Nat.le_of_ble_eq_true rfl) (fun vq wq hq => ?_)
                        obtain ⟨rfl, qS292, rfl, qJ292, qo292⟩ := hq
                        have qt292 : s_offM S qS292 := s_offM_t (by assumption) qo292
                        have qR292 : w_R qS292 (A 151) := w_R_off H qt292
                        show q_Go Γ mL_same 7 0 0 295 [(0, q_r Γ 0), (1, q_r Γ 150), (2, q_r Γ 151), (3, q_r Γ 152), (4, q_r Γ 153), (5, q_r Γ 154), (6, q_r Γ 155), (7, q_i r), (8, q_i i), (9, q_i (w_h i)), (11, q_i (s_ti (A 151) r (s_pt (A 151) r 2) (w_h i))), (14, q_i b)] [q_i (s_over (A 151) r b (w_h i) 0)] (KC, qS292) (fun v9 w9 => v9 = some (q_i 1) ∧ ∃ S2, w9 = (KC, S2) ∧ s_Jc S2 A ∧ s_offM S S2)
                        refine p_eq (y := s_rt (A 151) r b (w_h i)) (wov.1) ?_
                        refine q_aloadn (pc' := 296) 3 dL_same_295 rfl rfl ?_
                        refine q_bipush (pc' := 298) dL_same_296 rfl rfl ?_
                        refine q_iload (pc' := 300) 8 dL_same_298 rfl rfl ?_
                        refine q_imul (pc' := 301) dL_same_300 rfl ?_
                        refine q_iconst (pc' := 302) dL_same_301 rfl ?_
                        refine q_iload (pc' := 304) 7 dL_same_302 rfl rfl ?_
                        refine q_imul (pc' := 305) dL_same_304 rfl ?_
                        refine q_iadd (pc' := 306) dL_same_305 rfl ?_
                        refine q_iload (pc' := 308) 11 dL_same_306 rfl rfl ?_
                        refine q_iadd (pc' := 309) dL_same_308 rfl ?_
                        refine p_iald (pc' := 310) dL_same_309 rfl kc152 (by first | assumption | omega) (by first | assumption | omega) (by decide) (fun qy_309 eqy_309 rqy_309 => ?_)
                        have vqy_309 : qy_309 = s_rt (A 151) r b (w_h i) := eqy_309.trans (w_rt qR292 (by first | assumption | omega) (by first | assumption | omega) (by first | assumption | omega) (by first | assumption | omega) (by first | assumption | omega) (by first | assumption | omega))
                        rw [vqy_309]
                        refine w_icmp_ne (tgt := 371) (pc' := 313) dL_same_310 rfl rfl ?_
                        refine q_aloadn (pc' := 314) 0 dL_same_313 rfl rfl ?_
                        refine q_iload (pc' := 316) 7 dL_same_314 rfl rfl ?_
                        refine q_iload (pc' := 318) 11 dL_same_316 rfl rfl ?_
                        refine q_iload (pc' := 320) 9 dL_same_318 rfl rfl ?_
                        refine q_iconst (pc' := 321) dL_same_320 rfl ?_
                        refine q_callVQ (pc' := 324) dL_same_321 rfl lL_42 iX8_over kc0 rfl (c_X8_over (A := A) (by assumption) (by first | assumption | omega) (by first | assumption | omega) (by first | assumption | omega) (by decide)) rfl rfl (Nat.le_of_ble_eq_true rfl) (Nat.le_of_ble_eq_true rfl) (Nat.le_of_ble_eq_true rfl) (fun vq wq hq => ?_)
                        obtain ⟨rfl, qS321, rfl, qJ321, qo321⟩ := hq
                        have qt321 : s_offM S qS321 := s_offM_t (by assumption) qo321
                        have qR321 : w_R qS321 (A 151) := w_R_off H qt321
                        show q_Go Γ mL_same 7 0 0 324 [(0, q_r Γ 0), (1, q_r Γ 150), (2, q_r Γ 151), (3, q_r Γ 152), (4, q_r Γ 153), (5, q_r Γ 154), (6, q_r Γ 155), (7, q_i r), (8, q_i i), (9, q_i (w_h i)), (11, q_i (s_ti (A 151) r (s_pt (A 151) r 2) (w_h i))), (14, q_i b)] [q_i (s_over (A 151) r b (w_h i) 1)] (KC, qS321) (fun v9 w9 => v9 = some (q_i 1) ∧ ∃ S2, w9 = (KC, S2) ∧ s_Jc S2 A ∧ s_offM S S2)
                        refine p_eq (y := s_sh (A 151) r (s_ti (A 151) r (s_pt (A 151) r 2) (w_h i)) b (w_h i)) (wov.2.1) ?_
                        refine q_iload (pc' := 326) 7 dL_same_324 rfl rfl ?_
                        refine q_iload (pc' := 328) 10 dL_same_326 rfl rfl ?_
                        refine q_iload (pc' := 330) 11 dL_same_328 rfl rfl ?_
                        refine q_iload (pc' := 332) 8 dL_same_330 rfl rfl ?_
                        refine q_aloadn (pc' := 333) 2 dL_same_332 rfl rfl ?_
                        refine q_callSI (pc' := 336) dL_same_333 rfl lL_10 iL_shadow (c_L_shadow (by first | assumption | omega) (by first | assumption | omega) (by first | assumption | omega) (by first | assumption | omega) (by first | assumption | omega) (by first | assumption | omega) (by first | assumption | omega) (by first | assumption | omega) (by first | assumption | omega) (by first | assumption | omega)) rfl rfl (Nat.le_of_ble_eq_true rfl) (Nat.le_of_ble_eq_true rfl) (Nat.le_of_ble_eq_true rfl) ?_
                        refine w_icmp_ne (tgt := 371) (pc' := 339) dL_same_336 rfl rfl ?_
                        refine q_aloadn (pc' := 340) 0 dL_same_339 rfl rfl ?_
                        refine q_iload (pc' := 342) 7 dL_same_340 rfl rfl ?_
                        refine q_iload (pc' := 344) 11 dL_same_342 rfl rfl ?_
                        refine q_iload (pc' := 346) 9 dL_same_344 rfl rfl ?_
                        refine q_iconst (pc' := 347) dL_same_346 rfl ?_
                        refine q_callVQ (pc' := 350) dL_same_347 rfl lL_42 iX8_over kc0 rfl (c_X8_over (A := A) (by assumption) (by first | assumption | omega) (by first | assumption | omega) (by first | assumption | omega) (by decide)) rfl rfl (Nat.le_of_ble_eq_true rfl) (Nat.le_of_ble_eq_true rfl) (Nat.le_of_ble_eq_true rfl) (fun vq wq hq => ?_)
                        obtain ⟨rfl, qS347, rfl, qJ347, qo347⟩ := hq
                        have qt347 : s_offM S qS347 := s_offM_t (by assumption) qo347
                        have qR347 : w_R qS347 (A 151) := w_R_off H qt347
                        show q_Go Γ mL_same 7 0 0 350 [(0, q_r Γ 0), (1, q_r Γ 150), (2, q_r Γ 151), (3, q_r Γ 152), (4, q_r Γ 153), (5, q_r Γ 154), (6, q_r Γ 155), (7, q_i r), (8, q_i i), (9, q_i (w_h i)), (11, q_i (s_ti (A 151) r (s_pt (A 151) r 2) (w_h i))), (14, q_i b)] [q_i (s_over (A 151) r b (w_h i) 2)] (KC, qS347) (fun v9 w9 => v9 = some (q_i 1) ∧ ∃ S2, w9 = (KC, S2) ∧ s_Jc S2 A ∧ s_offM S S2)
                        refine p_eq (y := s_sh (A 151) r (s_pt (A 151) r 2) b (w_h i)) (wov.2.2) ?_
                        refine q_iload (pc' := 352) 7 dL_same_350 rfl rfl ?_
                        refine q_aloadn (pc' := 353) 2 dL_same_352 rfl rfl ?_
                        refine q_iconst (pc' := 354) dL_same_353 rfl ?_
                        refine q_iload (pc' := 356) 7 dL_same_354 rfl rfl ?_
                        refine q_imul (pc' := 357) dL_same_356 rfl ?_
                        refine q_iconst (pc' := 358) dL_same_357 rfl ?_
                        refine q_iadd (pc' := 359) dL_same_358 rfl ?_
                        refine p_iald (pc' := 360) dL_same_359 rfl kc151 (by first | assumption | omega) (by first | assumption | omega) (by decide) (fun qy_359 eqy_359 rqy_359 => ?_)
                        have vqy_359 : qy_359 = s_pt (A 151) r 2 := eqy_359.trans (w_pt qR347 (by first | assumption | omega) (by first | assumption | omega) (by first | assumption | omega) (by first | assumption | omega))
                        rw [vqy_359]
                        refine q_iload (pc' := 362) 11 dL_same_360 rfl rfl ?_
                        refine q_iload (pc' := 364) 8 dL_same_362 rfl rfl ?_
                        refine q_aloadn (pc' := 365) 2 dL_same_364 rfl rfl ?_
                        refine q_callSI (pc' := 368) dL_same_365 rfl lL_10 iL_shadow (c_L_shadow (by first | assumption | omega) (by first | assumption | omega) (by first | assumption | omega) (by first | assumption | omega) (by first | assumption | omega) (by first | assumption | omega) (by first | assumption | omega) (by first | assumption | omega) (by first | assumption | omega) (by first | assumption | omega)) rfl rfl (Nat.le_of_ble_eq_true rfl) (Nat.le_of_ble_eq_true rfl) (Nat.le_of_ble_eq_true rfl) ?_
                        refine w_icmp_eq (tgt := 373) (pc' := 371) dL_same_368 rfl rfl ?_
                        refine q_iinc (pc' := 376) 11 (L' := [(14, q_i (b + 1)), (0, q_r Γ 0), (1, q_r Γ 150), (2, q_r Γ 151), (3, q_r Γ 152), (4, q_r Γ 153), (5, q_r Γ 154), (6, q_r Γ 155), (7, q_i r), (8, q_i i), (9, q_i (w_h i)), (11, q_i (s_ti (A 151) r (s_pt (A 151) r 2) (w_h i)))]) dL_same_373 rfl rfl (by decide) rfl ?_
                        refine q_goto (pc' := 268) dL_same_376 rfl ?_
                        refine p_sub [1, 2, 3, 4, 5, 6, 7, 8, 9, 10, 11, 0] rfl ?_
                        exact qih_268 _ (by omega) _ _ (by first | assumption | omega) (by first | assumption | omega) (by first | assumption | omega) (by first | assumption | omega) rfl
                      · refine q_goto (pc' := 373) dL_same_281 rfl ?_
                        refine q_iinc (pc' := 376) 11 (L' := [(14, q_i (b + 1)), (0, q_r Γ 0), (1, q_r Γ 150), (2, q_r Γ 151), (3, q_r Γ 152), (4, q_r Γ 153), (5, q_r Γ 154), (6, q_r Γ 155), (7, q_i r), (8, q_i i), (9, q_i (w_h i)), (11, q_i (s_ti (A 151) r (s_pt (A 151) r 2) (w_h i)))]) dL_same_373 rfl rfl (by decide) rfl ?_
                        refine q_goto (pc' := 268) dL_same_376 rfl ?_
                        refine p_sub [1, 2, 3, 4, 5, 6, 7, 8, 9, 10, 11, 0] rfl ?_
                        exact qih_268 _ (by omega) _ _ (by first | assumption | omega) (by first | assumption | omega) (by first | assumption | omega) (by first | assumption | omega) rfl
                refine p_sub [5, 6, 7, 8, 9, 10, 11, 12, 13, 14, 3, 0] rfl ?_
                exact qlp_268 _ _ _ (by first | assumption | omega) (by first | assumption | omega) (by first | assumption | omega) (by first | assumption | omega) rfl
              refine q_iload (pc' := 102) 9 dL_same_100 rfl rfl ?_
              refine q_if_ne (tgt := 109) (pc' := 105) dL_same_102 rfl rfl (by first | assumption | omega) (fun qc_102 => ?_) (fun qc_102 => ?_)
              · refine q_iload (pc' := 111) 9 dL_same_109 rfl rfl ?_
                refine q_iconst (pc' := 112) dL_same_111 rfl ?_
                refine q_icmp_ne (tgt := 119) (pc' := 115) dL_same_112 rfl rfl (by first | assumption | omega) (by decide) (fun qc_112 => ?_) (fun qc_112 => ?_)
                · refine q_iconst (pc' := 120) dL_same_119 rfl ?_
                  refine p_sub [1, 2, 3, 4, 5, 6, 7, 8, 9, 0] rfl ?_
                  exact qlp_120 _ (by unfold s_sun w_h; omega)
                · refine q_iconst (pc' := 116) dL_same_115 rfl ?_
                  refine q_goto (pc' := 120) dL_same_116 rfl ?_
                  refine p_sub [1, 2, 3, 4, 5, 6, 7, 8, 9, 0] rfl ?_
                  exact qlp_120 _ (by unfold s_sun w_h; omega)
              · refine q_iconst (pc' := 106) dL_same_105 rfl ?_
                refine q_goto (pc' := 120) dL_same_106 rfl ?_
                refine p_sub [1, 2, 3, 4, 5, 6, 7, 8, 9, 0] rfl ?_
                exact qlp_120 _ (by unfold s_sun w_h; omega)
        refine p_sub [1, 2, 3, 4, 5, 6, 7, 8, 0] rfl ?_
        exact qlp_87 _ _ _ (by first | assumption | omega) (by first | assumption | omega) (by first | assumption | omega) (by first | assumption | omega) rfl
  refine p_sub [1, 2, 3, 4, 5, 6, 7, 0] rfl ?_
  exact qlp_3 _ _ _ (by first | assumption | omega) (by first | assumption | omega) (by exact J) (by exact qt0) rfl
