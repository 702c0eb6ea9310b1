theorem w_h_inj {a b : Int} (a0 : 0 ≤ a) (a1 : a < 3) (b0 : 0 ≤ b) (b1 : b < 3) (h : w_h a = w_h b) : a = b := by
  unfold w_h at h
  omega
set_option maxRecDepth 20000 in
set_option maxHeartbeats 8000000 in
theorem c_L_match {Γ : q_G} {S : q_S} {φ : Int → Int} (H : w_R S φ) (ok : s_ok φ) (pz : s_pz φ) : q_Sp Γ mL_match 0 0 0 [q_r Γ 150, q_r Γ 151, q_r Γ 152, q_r Γ 154, q_r Γ 155] (KC, S) (fun v9 w9 => v9 = some (q_i (s_matV φ)) ∧ ∃ S2, w9 = (KC, S2) ∧ w_R S2 (s_matP φ) ∧ w_offT S S2) := by
  show q_Go Γ mL_match 0 0 0 0 [(0, q_r Γ 150), (1, q_r Γ 151), (2, q_r Γ 152), (3, q_r Γ 154), (4, q_r Γ 155)] [] (KC, S) (fun v9 w9 => v9 = some (q_i (s_matV φ)) ∧ ∃ S2, w9 = (KC, S2) ∧ w_R S2 (s_matP φ) ∧ w_offT S S2)
  have c3 := ok.2.2.1
  have c4 := ok.2.2.2.1
  obtain ⟨TB, HB⟩ := w_so_ex (fun k => -s_bd φ k 3) (φ 4).toNat
  rw [Int.toNat_of_nonneg c4.1] at HB
  obtain ⟨TQ, HA⟩ := w_so_ex (fun k => s_as φ k 3) (φ 3).toNat
  rw [Int.toNat_of_nonneg c3.1] at HA
  refine q_iconst (pc' := 1) dL_match_0 rfl ?_
  refine q_istore (pc' := 3) (L' := [(5, q_i 0), (0, q_r Γ 150), (1, q_r Γ 151), (2, q_r Γ 152), (3, q_r Γ 154), (4, q_r Γ 155)]) dL_match_1 rfl (by decide) rfl ?_
  refine q_iconst (pc' := 4) dL_match_3 rfl ?_
  refine q_istore (pc' := 6) (L' := [(6, q_i 0), (5, q_i 0), (0, q_r Γ 150), (1, q_r Γ 151), (2, q_r Γ 152), (3, q_r Γ 154), (4, q_r Γ 155)]) dL_match_4 rfl (by decide) rfl ?_
  refine q_iconst (pc' := 7) dL_match_6 rfl ?_
  refine q_istore (pc' := 9) (L' := [(7, q_i 0), (6, q_i 0), (5, q_i 0), (0, q_r Γ 150), (1, q_r Γ 151), (2, q_r Γ 152), (3, q_r Γ 154), (4, q_r Γ 155)]) dL_match_7 rfl (by decide) rfl ?_
  have qlp_9 : ∀ (qn_9 : Nat) (S2 : q_S) (ps : Int → Int) (su D rd : Int), (0 ≤ rd) → (rd ≤ φ 4) → (w_R S2 ps) → (s_ok ps) → (s_sam φ ps) → (s_mtP (φ, 0) rd.toNat = (ps, su)) → (w_mk D (w_dn TB rd)) → (w_offT S S2) → ((10 - rd).toNat) = qn_9 → q_Go Γ mL_match 0 0 0 9 [(0, q_r Γ 150), (1, q_r Γ 151), (2, q_r Γ 152), (3, q_r Γ 154), (4, q_r Γ 155), (5, q_i su), (6, q_i D), (7, q_i rd)] [] (KC, S2) (fun v9 w9 => v9 = some (q_i (s_matV φ)) ∧ ∃ S2, w9 = (KC, S2) ∧ w_R S2 (s_matP φ) ∧ w_offT S S2) := by
    intro qn_9
    induction qn_9 using Nat.strongRecOn with
    | ind qn_9 qih_9 =>
      intro S2 ps su D rd qa_9_0 qa_9_1 qa_9_2 qa_9_3 qa_9_4 qa_9_5 qa_9_6 qa_9_7 qhn_9
      subst qhn_9
      have p3 := qa_9_3.2.2.1
      have p4 := qa_9_3.2.2.2.1
      have e3 : ps 3 = φ 3 := qa_9_4.1 3 (by decide)
      have e4 : ps 4 = φ 4 := qa_9_4.1 4 (by decide)
      have HT := s_so_sam qa_9_4 c3.2 HA
      refine q_iload (pc' := 11) 7 dL_match_9 rfl rfl ?_
      refine q_aloadn (pc' := 12) 0 dL_match_11 rfl rfl ?_
      refine q_iconst (pc' := 13) dL_match_12 rfl ?_
      refine p_iald (pc' := 14) dL_match_13 rfl kc150 (by first | assumption | omega) (by first | assumption | omega) (by decide) (fun qy_13 eqy_13 rqy_13 => ?_)
      have vqy_13 : qy_13 = ps 4 := eqy_13.trans (w_q1 qa_9_2)
      rw [vqy_13]
      rw [e4]
      refine q_icmp_ge (tgt := 394) (pc' := 17) dL_match_14 rfl rfl (by first | assumption | omega) (by first | assumption | omega) (fun qc_14 => ?_) (fun qc_14 => ?_)
      · have hmt : s_mtP (φ, 0) (φ 4).toNat = (ps, su) := by rw [show φ 4 = rd by omega]; exact qa_9_5
        have suV : s_matV φ = su := by unfold s_matV; rw [hmt]
        have rgs : q_rg su := by rw [← suV]; exact s_rg_mat ok pz
        refine q_iconst (pc' := 395) dL_match_394 rfl ?_
        refine q_istore (pc' := 397) (L' := [(7, q_i 0), (0, q_r Γ 150), (1, q_r Γ 151), (2, q_r Γ 152), (3, q_r Γ 154), (4, q_r Γ 155), (5, q_i su), (6, q_i D)]) dL_match_395 rfl (by decide) rfl ?_
        refine q_iconst (pc' := 398) dL_match_397 rfl ?_
        refine q_istore (pc' := 400) (L' := [(8, q_i 0), (7, q_i 0), (0, q_r Γ 150), (1, q_r Γ 151), (2, q_r Γ 152), (3, q_r Γ 154), (4, q_r Γ 155), (5, q_i su), (6, q_i D)]) dL_match_398 rfl (by decide) rfl ?_
        have qlp_400 : ∀ (qn_400 : Nat) (S5 : q_S) (kept k : Int), (0 ≤ k) → (k ≤ φ 3) → (w_cA S2 S5 k kept) → ((10 - k).toNat) = qn_400 → q_Go Γ mL_match 0 0 0 400 [(0, q_r Γ 150), (1, q_r Γ 151), (2, q_r Γ 152), (3, q_r Γ 154), (4, q_r Γ 155), (5, q_i su), (7, q_i kept), (8, q_i k)] [] (KC, S5) (fun v9 w9 => v9 = some (q_i (s_matV φ)) ∧ ∃ S2, w9 = (KC, S2) ∧ w_R S2 (s_matP φ) ∧ w_offT S S2) := by
          intro qn_400
          induction qn_400 using Nat.strongRecOn with
          | ind qn_400 qih_400 =>
            intro S5 kept k qa_400_0 qa_400_1 qa_400_2 qhn_400
            subst qhn_400
            have kb := w_cA_b qa_400_2 (by omega)
            have uS : S5 154 (4 * k + 2) = S2 154 (4 * k + 2) := qa_400_2.2.2.1 _ (by omega)
            refine q_iload (pc' := 402) 7 dL_match_400 rfl rfl ?_
            refine q_aloadn (pc' := 403) 0 dL_match_402 rfl rfl ?_
            refine q_iconst (pc' := 404) dL_match_403 rfl ?_
            refine p_iald (pc' := 405) dL_match_404 rfl kc150 (by first | assumption | omega) (by first | assumption | omega) (by decide) (fun qy_404 eqy_404 rqy_404 => ?_)
            have eyqy_404 : qy_404 = φ 3 := by rw [eqy_404]; rw [qa_400_2.2.2.2 150 (by decide), w_q0 qa_9_2, e3]
            have ryqy_404 := rqy_404
            rw [eyqy_404] at ryqy_404 ⊢
            refine q_icmp_ge (tgt := 479) (pc' := 408) dL_match_405 rfl rfl (by first | assumption | omega) (by first | assumption | omega) (fun qc_405 => ?_) (fun qc_405 => ?_)
            · have cA : w_cA S2 S5 (ps 3) kept := by rw [e3, show φ 3 = k by omega]; exact qa_400_2
              refine q_aloadn (pc' := 480) 0 dL_match_479 rfl rfl ?_
              refine q_iconst (pc' := 481) dL_match_480 rfl ?_
              refine q_iload (pc' := 483) 6 dL_match_481 rfl rfl ?_
              refine p_iast (pc' := 484) dL_match_483 rfl kc150 (by first | assumption | omega) (by first | assumption | omega) (by decide) (by first | assumption | omega) ?_
              refine q_iconst (pc' := 485) dL_match_484 rfl ?_
              refine q_istore (pc' := 487) (L' := [(7, q_i 0), (0, q_r Γ 150), (1, q_r Γ 151), (2, q_r Γ 152), (3, q_r Γ 154), (4, q_r Γ 155), (5, q_i su), (8, q_i k)]) dL_match_485 rfl (by decide) rfl ?_
              refine q_iconst (pc' := 488) dL_match_487 rfl ?_
              refine q_istore (pc' := 490) (L' := [(8, q_i 0), (7, q_i 0), (0, q_r Γ 150), (1, q_r Γ 151), (2, q_r Γ 152), (3, q_r Γ 154), (4, q_r Γ 155), (5, q_i su)]) dL_match_488 rfl (by decide) rfl ?_
              have qlp_490 : ∀ (qn_490 : Nat) (S6 : q_S) (kb m : Int), (0 ≤ m) → (m ≤ φ 4) → (w_cB (q_up S5 150 0 kept) S6 m kb) → ((10 - m).toNat) = qn_490 → q_Go Γ mL_match 0 0 0 490 [(0, q_r Γ 150), (1, q_r Γ 151), (2, q_r Γ 152), (3, q_r Γ 154), (4, q_r Γ 155), (5, q_i su), (7, q_i kb), (8, q_i m)] [] (KC, S6) (fun v9 w9 => v9 = some (q_i (s_matV φ)) ∧ ∃ S2, w9 = (KC, S2) ∧ w_R S2 (s_matP φ) ∧ w_offT S S2) := by
                intro qn_490
                induction qn_490 using Nat.strongRecOn with
                | ind qn_490 qih_490 =>
                  intro S6 kb m qa_490_0 qa_490_1 qa_490_2 qhn_490
                  subst qhn_490
                  have kc := w_cB_b qa_490_2 (by omega)
                  have uT : S6 155 (5 * m + 2) = q_up S5 150 0 kept 155 (5 * m + 2) := qa_490_2.2.2.1 _ (by omega)
                  refine q_iload (pc' := 492) 7 dL_match_490 rfl rfl ?_
                  refine q_aloadn (pc' := 493) 0 dL_match_492 rfl rfl ?_
                  refine q_iconst (pc' := 494) dL_match_493 rfl ?_
                  refine p_iald (pc' := 495) dL_match_494 rfl kc150 (by first | assumption | omega) (by first | assumption | omega) (by decide) (fun qy_494 eqy_494 rqy_494 => ?_)
                  have eyqy_494 : qy_494 = φ 4 := by rw [eqy_494]; rw [qa_490_2.2.2.2 150 (by decide), q_up_nz (by decide), cA.2.2.2 150 (by decide), w_q1 qa_9_2, e4]
                  have ryqy_494 := rqy_494
                  rw [eyqy_494] at ryqy_494 ⊢
                  refine q_icmp_ge (tgt := 578) (pc' := 498) dL_match_495 rfl rfl (by first | assumption | omega) (by first | assumption | omega) (fun qc_495 => ?_) (fun qc_495 => ?_)
                  · have cB : w_cB (q_up S5 150 0 kept) S6 (ps 4) kb := by rw [e4, show φ 4 = m by omega]; exact qa_490_2
                    refine q_aloadn (pc' := 579) 0 dL_match_578 rfl rfl ?_
                    refine q_iconst (pc' := 580) dL_match_579 rfl ?_
                    refine q_iload (pc' := 582) 6 dL_match_580 rfl rfl ?_
                    refine p_iast (pc' := 583) dL_match_582 rfl kc150 (by first | assumption | omega) (by first | assumption | omega) (by decide) (by first | assumption | omega) ?_
                    refine q_aloadn (pc' := 584) 0 dL_match_583 rfl rfl ?_
                    refine q_iconst (pc' := 585) dL_match_584 rfl ?_
                    refine q_dup2 (pc' := 586) dL_match_585 rfl rfl rfl ?_
                    refine p_iald (pc' := 587) dL_match_586 rfl kc150 (by first | assumption | omega) (by first | assumption | omega) (by decide) (fun qy_586 eqy_586 rqy_586 => ?_)
                    have eyqy_586 : qy_586 = ps 2 := by rw [eqy_586]; rw [q_up_nz (by decide), cB.2.2.2 150 (by decide), q_up_nz (by decide), cA.2.2.2 150 (by decide), w_q2 qa_9_2]
                    have ryqy_586 := rqy_586
                    rw [eyqy_586] at ryqy_586 ⊢
                    refine q_iload (pc' := 589) 5 dL_match_587 rfl rfl ?_
                    refine q_iadd (pc' := 590) dL_match_589 rfl ?_
                    refine p_wr (fun r590 => ?_)
                    refine p_iast (pc' := 591) dL_match_590 rfl kc150 (by first | assumption | omega) (by first | assumption | omega) (by decide) (by first | assumption | omega) ?_
                    refine q_iload (pc' := 593) 5 dL_match_591 rfl rfl ?_
                    exact q_iret dL_match_593 rfl rfl ⟨by rw [suV], _, rfl, w_fin qa_9_2 qa_9_3 hmt e4 cA cB, w_offT_u (w_offT_u (fun a h => by rw [cB.2.2.2 a (by omega), q_up_ne (by omega), cA.2.2.2 a (by omega)]; exact qa_9_7 a h) (by decide)) (by decide)⟩
                  · have qlp_515 : ∀ (st : Int), ((st = 1 ∧ 0 < q_up S5 150 0 kept 155 (5 * m + 2)) ∨ (st = 0 ∧ ¬ 0 < q_up S5 150 0 kept 155 (5 * m + 2))) → q_Go Γ mL_match 0 0 0 515 [(0, q_r Γ 150), (1, q_r Γ 151), (2, q_r Γ 152), (3, q_r Γ 154), (4, q_r Γ 155), (5, q_i su), (7, q_i kb), (8, q_i m)] [q_i st] (KC, S6) (fun v9 w9 => v9 = some (q_i (s_matV φ)) ∧ ∃ S2, w9 = (KC, S2) ∧ w_R S2 (s_matP φ) ∧ w_offT S S2) := by
                      intro st qa_515_0
                      refine q_istore (pc' := 517) (L' := [(9, q_i st), (0, q_r Γ 150), (1, q_r Γ 151), (2, q_r Γ 152), (3, q_r Γ 154), (4, q_r Γ 155), (5, q_i su), (7, q_i kb), (8, q_i m)]) dL_match_515 rfl (by decide) rfl ?_
                      refine q_iconst (pc' := 518) dL_match_517 rfl ?_
                      refine p_eqS (q_cp_0 (S := S6) (src := 155) (dst := 155) (sp := 5 * m) (dp := 5 * kb)).symm ?_
                      refine q_istore (pc' := 520) (L' := [(10, q_i 0), (9, q_i st), (0, q_r Γ 150), (1, q_r Γ 151), (2, q_r Γ 152), (3, q_r Γ 154), (4, q_r Γ 155), (5, q_i su), (7, q_i kb), (8, q_i m)]) dL_match_518 rfl (by decide) rfl ?_
                      have qlp_520 : ∀ (qn_520 : Nat) (i : Int), (0 ≤ i) → (i ≤ 5) → (0 < i → st = 1) → ((5 - i).toNat) = qn_520 → q_Go Γ mL_match 0 0 0 520 [(0, q_r Γ 150), (1, q_r Γ 151), (2, q_r Γ 152), (3, q_r Γ 154), (4, q_r Γ 155), (5, q_i su), (7, q_i kb), (8, q_i m), (9, q_i st), (10, q_i i)] [] (KC, (q_cp S6 155 155 (5 * m) (5 * kb) i)) (fun v9 w9 => v9 = some (q_i (s_matV φ)) ∧ ∃ S2, w9 = (KC, S2) ∧ w_R S2 (s_matP φ) ∧ w_offT S S2) := by
                        intro qn_520
                        induction qn_520 using Nat.strongRecOn with
                        | ind qn_520 qih_520 =>
                          intro i qa_520_0 qa_520_1 qa_520_2 qhn_520
                          subst qhn_520
                          refine q_iload (pc' := 522) 9 dL_match_520 rfl rfl ?_
                          refine q_iconst (pc' := 523) dL_match_522 rfl ?_
                          refine q_icmp_ge (tgt := 557) (pc' := 526) dL_match_523 rfl rfl (by first | assumption | omega) (by decide) (fun qc_523 => ?_) (fun qc_523 => ?_)
                          · refine q_iload (pc' := 559) 6 dL_match_557 rfl rfl ?_
                            refine q_iload (pc' := 561) 8 dL_match_559 rfl rfl ?_
                            refine q_if_eq (tgt := 568) (pc' := 564) dL_match_561 rfl rfl (by first | assumption | omega) (fun qc_561 => ?_) (fun qc_561 => ?_)
                            · refine q_iconst (pc' := 569) dL_match_568 rfl ?_
                              refine q_iadd (pc' := 570) dL_match_569 rfl ?_
                              refine q_istore (pc' := 572) (L' := [(7, q_i (kb + 0)), (0, q_r Γ 150), (1, q_r Γ 151), (2, q_r Γ 152), (3, q_r Γ 154), (4, q_r Γ 155), (5, q_i su), (8, q_i m), (9, q_i st), (10, q_i i)]) dL_match_570 rfl (by decide) rfl ?_
                              refine q_iinc (pc' := 575) 7 (L' := [(8, q_i (m + 1)), (7, q_i (kb + 0)), (0, q_r Γ 150), (1, q_r Γ 151), (2, q_r Γ 152), (3, q_r Γ 154), (4, q_r Γ 155), (5, q_i su), (9, q_i st), (10, q_i i)]) dL_match_572 rfl rfl (by decide) rfl ?_
                              refine q_goto (pc' := 490) dL_match_575 rfl ?_
                              refine p_sub [2, 3, 4, 5, 6, 7, 1, 0] rfl ?_
                              exact qih_490 _ (by omega) _ _ _ (by first | assumption | omega) (by first | assumption | omega) (by first | (rw [show i = 5 by omega]; exact w_cB_t qa_490_2 (by omega) (by omega)) | (rw [show i = 0 by omega, ← q_cp_0, Int.add_zero]; exact w_cB_f qa_490_2 (by omega) (by omega)) | (exfalso; omega)) rfl
                            · refine q_iconst (pc' := 565) dL_match_564 rfl ?_
                              refine q_goto (pc' := 569) dL_match_565 rfl ?_
                              refine q_iadd (pc' := 570) dL_match_569 rfl ?_
                              refine q_istore (pc' := 572) (L' := [(7, q_i (kb + 1)), (0, q_r Γ 150), (1, q_r Γ 151), (2, q_r Γ 152), (3, q_r Γ 154), (4, q_r Γ 155), (5, q_i su), (8, q_i m), (9, q_i st), (10, q_i i)]) dL_match_570 rfl (by decide) rfl ?_
                              refine q_iinc (pc' := 575) 7 (L' := [(8, q_i (m + 1)), (7, q_i (kb + 1)), (0, q_r Γ 150), (1, q_r Γ 151), (2, q_r Γ 152), (3, q_r Γ 154), (4, q_r Γ 155), (5, q_i su), (9, q_i st), (10, q_i i)]) dL_match_572 rfl rfl (by decide) rfl ?_
                              refine q_goto (pc' := 490) dL_match_575 rfl ?_
                              refine p_sub [2, 3, 4, 5, 6, 7, 1, 0] rfl ?_
                              exact qih_490 _ (by omega) _ _ _ (by first | assumption | omega) (by first | assumption | omega) (by first | (rw [show i = 5 by omega]; exact w_cB_t qa_490_2 (by omega) (by omega)) | (rw [show i = 0 by omega, ← q_cp_0, Int.add_zero]; exact w_cB_f qa_490_2 (by omega) (by omega)) | (exfalso; omega)) rfl
                          · refine q_iload (pc' := 528) 8 dL_match_526 rfl rfl ?_
                            refine q_if_eq (tgt := 557) (pc' := 531) dL_match_528 rfl rfl (by first | assumption | omega) (fun qc_528 => ?_) (fun qc_528 => ?_)
                            · refine q_iload (pc' := 559) 6 dL_match_557 rfl rfl ?_
                              refine q_iload (pc' := 561) 8 dL_match_559 rfl rfl ?_
                              refine q_if_eq (tgt := 568) (pc' := 564) dL_match_561 rfl rfl (by first | assumption | omega) (fun qc_561_1 => ?_) (fun qc_561_1 => ?_)
                              · refine q_iconst (pc' := 569) dL_match_568 rfl ?_
                                refine q_iadd (pc' := 570) dL_match_569 rfl ?_
                                refine q_istore (pc' := 572) (L' := [(7, q_i (kb + 0)), (0, q_r Γ 150), (1, q_r Γ 151), (2, q_r Γ 152), (3, q_r Γ 154), (4, q_r Γ 155), (5, q_i su), (8, q_i m), (9, q_i st), (10, q_i i)]) dL_match_570 rfl (by decide) rfl ?_
                                refine q_iinc (pc' := 575) 7 (L' := [(8, q_i (m + 1)), (7, q_i (kb + 0)), (0, q_r Γ 150), (1, q_r Γ 151), (2, q_r Γ 152), (3, q_r Γ 154), (4, q_r Γ 155), (5, q_i su), (9, q_i st), (10, q_i i)]) dL_match_572 rfl rfl (by decide) rfl ?_
                                refine q_goto (pc' := 490) dL_match_575 rfl ?_
                                refine p_sub [2, 3, 4, 5, 6, 7, 1, 0] rfl ?_
                                exact qih_490 _ (by omega) _ _ _ (by first | assumption | omega) (by first | assumption | omega) (by first | (rw [show i = 5 by omega]; exact w_cB_t qa_490_2 (by omega) (by omega)) | (rw [show i = 0 by omega, ← q_cp_0, Int.add_zero]; exact w_cB_f qa_490_2 (by omega) (by omega)) | (exfalso; omega)) rfl
                              · refine q_iconst (pc' := 565) dL_match_564 rfl ?_
                                refine q_goto (pc' := 569) dL_match_565 rfl ?_
                                refine q_iadd (pc' := 570) dL_match_569 rfl ?_
                                refine q_istore (pc' := 572) (L' := [(7, q_i (kb + 1)), (0, q_r Γ 150), (1, q_r Γ 151), (2, q_r Γ 152), (3, q_r Γ 154), (4, q_r Γ 155), (5, q_i su), (8, q_i m), (9, q_i st), (10, q_i i)]) dL_match_570 rfl (by decide) rfl ?_
                                refine q_iinc (pc' := 575) 7 (L' := [(8, q_i (m + 1)), (7, q_i (kb + 1)), (0, q_r Γ 150), (1, q_r Γ 151), (2, q_r Γ 152), (3, q_r Γ 154), (4, q_r Γ 155), (5, q_i su), (9, q_i st), (10, q_i i)]) dL_match_572 rfl rfl (by decide) rfl ?_
                                refine q_goto (pc' := 490) dL_match_575 rfl ?_
                                refine p_sub [2, 3, 4, 5, 6, 7, 1, 0] rfl ?_
                                exact qih_490 _ (by omega) _ _ _ (by first | assumption | omega) (by first | assumption | omega) (by first | (rw [show i = 5 by omega]; exact w_cB_t qa_490_2 (by omega) (by omega)) | (rw [show i = 0 by omega, ← q_cp_0, Int.add_zero]; exact w_cB_f qa_490_2 (by omega) (by omega)) | (exfalso; omega)) rfl
                            · refine q_aload (pc' := 533) 4 dL_match_531 rfl rfl ?_
                              refine q_iconst (pc' := 534) dL_match_533 rfl ?_
                              refine q_iload (pc' := 536) 6 dL_match_534 rfl rfl ?_
                              refine q_imul (pc' := 537) dL_match_536 rfl ?_
                              refine q_iload (pc' := 539) 9 dL_match_537 rfl rfl ?_
                              refine q_iadd (pc' := 540) dL_match_539 rfl ?_
                              refine q_aload (pc' := 542) 4 dL_match_540 rfl rfl ?_
                              refine q_iconst (pc' := 543) dL_match_542 rfl ?_
                              refine q_iload (pc' := 545) 7 dL_match_543 rfl rfl ?_
                              refine q_imul (pc' := 546) dL_match_545 rfl ?_
                              refine q_iload (pc' := 548) 9 dL_match_546 rfl rfl ?_
                              refine q_iadd (pc' := 549) dL_match_548 rfl ?_
                              refine p_iald (pc' := 550) dL_match_549 rfl kc155 (by first | assumption | omega) (by first | assumption | omega) (by decide) (fun qy_549 eqy_549 rqy_549 => ?_)
                              have eyqy_549 : qy_549 = S6 155 (5 * m + i) := by rw [eqy_549]; exact w_cB_r kc.2
                              have ryqy_549 := rqy_549
                              rw [eyqy_549] at ryqy_549 ⊢
                              refine p_iast (pc' := 551) dL_match_550 rfl kc155 (by first | assumption | omega) (by first | assumption | omega) (by decide) (by first | assumption | omega) ?_
                              rw [q_cp_s (by omega)]
                              refine q_iinc (pc' := 554) 9 (L' := [(10, q_i (i + 1)), (0, q_r Γ 150), (1, q_r Γ 151), (2, q_r Γ 152), (3, q_r Γ 154), (4, q_r Γ 155), (5, q_i su), (7, q_i kb), (8, q_i m), (9, q_i st)]) dL_match_551 rfl rfl (by decide) rfl ?_
                              refine q_goto (pc' := 520) dL_match_554 rfl ?_
                              refine p_sub [1, 2, 3, 4, 5, 6, 7, 8, 9, 0] rfl ?_
                              exact qih_520 _ (by omega) (i + 1) (by first | assumption | omega) (by first | assumption | omega) (by first | assumption | omega) rfl
                      refine p_sub [2, 3, 4, 5, 6, 7, 8, 9, 1, 0] rfl ?_
                      exact qlp_520 _ 0 (by first | assumption | omega) (by first | assumption | omega) (by first | assumption | omega) rfl
                    refine q_aload (pc' := 500) 4 dL_match_498 rfl rfl ?_
                    refine q_iconst (pc' := 501) dL_match_500 rfl ?_
                    refine q_iload (pc' := 503) 7 dL_match_501 rfl rfl ?_
                    refine q_imul (pc' := 504) dL_match_503 rfl ?_
                    refine q_iconst (pc' := 505) dL_match_504 rfl ?_
                    refine q_iadd (pc' := 506) dL_match_505 rfl ?_
                    refine p_iald (pc' := 507) dL_match_506 rfl kc155 (by first | assumption | omega) (by first | assumption | omega) (by decide) (fun qy_506 eqy_506 rqy_506 => ?_)
                    have eyqy_506 : qy_506 = q_up S5 150 0 kept 155 (5 * m + 2) := by rw [eqy_506]; exact uT
                    have ryqy_506 := rqy_506
                    rw [eyqy_506] at ryqy_506 ⊢
                    refine q_if_le (tgt := 514) (pc' := 510) dL_match_507 rfl rfl (by first | assumption | omega) (fun qc_507 => ?_) (fun qc_507 => ?_)
                    · refine q_iconst (pc' := 515) dL_match_514 rfl ?_
                      refine p_sub [0, 1, 2, 3, 4, 5, 6, 7] rfl ?_
                      exact qlp_515 _ (by first | assumption | omega)
                    · refine q_iconst (pc' := 511) dL_match_510 rfl ?_
                      refine q_goto (pc' := 515) dL_match_511 rfl ?_
                      refine p_sub [0, 1, 2, 3, 4, 5, 6, 7] rfl ?_
                      exact qlp_515 _ (by first | assumption | omega)
              refine p_sub [2, 3, 4, 5, 6, 7, 1, 0] rfl ?_
              exact qlp_490 _ _ _ _ (by first | assumption | omega) (by first | assumption | omega) (by exact w_cB_0) rfl
            · refine q_iconst (pc' := 409) dL_match_408 rfl ?_
              refine p_eqS (q_cp_0 (S := S5) (src := 154) (dst := 154) (sp := 4 * k) (dp := 4 * kept)).symm ?_
              refine q_istore (pc' := 411) (L' := [(9, q_i 0), (0, q_r Γ 150), (1, q_r Γ 151), (2, q_r Γ 152), (3, q_r Γ 154), (4, q_r Γ 155), (5, q_i su), (7, q_i kept), (8, q_i k)]) dL_match_409 rfl (by decide) rfl ?_
              have qlp_411 : ∀ (qn_411 : Nat) (i : Int), (0 ≤ i) → (i ≤ 4) → (0 < i → 0 < S2 154 (4 * k + 2)) → ((4 - i).toNat) = qn_411 → q_Go Γ mL_match 0 0 0 411 [(0, q_r Γ 150), (1, q_r Γ 151), (2, q_r Γ 152), (3, q_r Γ 154), (4, q_r Γ 155), (5, q_i su), (7, q_i kept), (8, q_i k), (9, q_i i)] [] (KC, (q_cp S5 154 154 (4 * k) (4 * kept) i)) (fun v9 w9 => v9 = some (q_i (s_matV φ)) ∧ ∃ S2, w9 = (KC, S2) ∧ w_R S2 (s_matP φ) ∧ w_offT S S2) := by
                intro qn_411
                induction qn_411 using Nat.strongRecOn with
                | ind qn_411 qih_411 =>
                  intro i qa_411_0 qa_411_1 qa_411_2 qhn_411
                  subst qhn_411
                  refine q_iload (pc' := 413) 8 dL_match_411 rfl rfl ?_
                  refine q_iconst (pc' := 414) dL_match_413 rfl ?_
                  refine q_icmp_ge (tgt := 452) (pc' := 417) dL_match_414 rfl rfl (by first | assumption | omega) (by decide) (fun qc_414 => ?_) (fun qc_414 => ?_)
                  · refine q_iload (pc' := 454) 6 dL_match_452 rfl rfl ?_
                    refine q_aloadn (pc' := 455) 3 dL_match_454 rfl rfl ?_
                    refine q_iconst (pc' := 456) dL_match_455 rfl ?_
                    refine q_iload (pc' := 458) 7 dL_match_456 rfl rfl ?_
                    refine q_imul (pc' := 459) dL_match_458 rfl ?_
                    refine q_iconst (pc' := 460) dL_match_459 rfl ?_
                    refine q_iadd (pc' := 461) dL_match_460 rfl ?_
                    refine p_iald (pc' := 462) dL_match_461 rfl kc154 (by first | assumption | omega) (by first | assumption | omega) (by decide) (fun qy_461 eqy_461 rqy_461 => ?_)
                    have eyqy_461 : qy_461 = S2 154 (4 * k + 2) := by rw [eqy_461]; rw [w_cA_u kb.2 (by omega) (by omega), uS]
                    have ryqy_461 := rqy_461
                    rw [eyqy_461] at ryqy_461 ⊢
                    refine q_if_le (tgt := 469) (pc' := 465) dL_match_462 rfl rfl (by first | assumption | omega) (fun qc_462 => ?_) (fun qc_462 => ?_)
                    · refine q_iconst (pc' := 470) dL_match_469 rfl ?_
                      refine q_iadd (pc' := 471) dL_match_470 rfl ?_
                      refine q_istore (pc' := 473) (L' := [(7, q_i (kept + 0)), (0, q_r Γ 150), (1, q_r Γ 151), (2, q_r Γ 152), (3, q_r Γ 154), (4, q_r Γ 155), (5, q_i su), (8, q_i k), (9, q_i i)]) dL_match_471 rfl (by decide) rfl ?_
                      refine q_iinc (pc' := 476) 7 (L' := [(8, q_i (k + 1)), (7, q_i (kept + 0)), (0, q_r Γ 150), (1, q_r Γ 151), (2, q_r Γ 152), (3, q_r Γ 154), (4, q_r Γ 155), (5, q_i su), (9, q_i i)]) dL_match_473 rfl rfl (by decide) rfl ?_
                      refine q_goto (pc' := 400) dL_match_476 rfl ?_
                      refine p_sub [2, 3, 4, 5, 6, 7, 1, 0] rfl ?_
                      exact qih_400 _ (by omega) _ _ _ (by first | assumption | omega) (by first | assumption | omega) (by first | (rw [show i = 4 by omega]; exact w_cA_t qa_400_2 (by omega) (by omega)) | (rw [show i = 0 by omega, ← q_cp_0, Int.add_zero]; exact w_cA_f qa_400_2 (by omega) (by omega)) | (exfalso; omega)) rfl
                    · refine q_iconst (pc' := 466) dL_match_465 rfl ?_
                      refine q_goto (pc' := 470) dL_match_466 rfl ?_
                      refine q_iadd (pc' := 471) dL_match_470 rfl ?_
                      refine q_istore (pc' := 473) (L' := [(7, q_i (kept + 1)), (0, q_r Γ 150), (1, q_r Γ 151), (2, q_r Γ 152), (3, q_r Γ 154), (4, q_r Γ 155), (5, q_i su), (8, q_i k), (9, q_i i)]) dL_match_471 rfl (by decide) rfl ?_
                      refine q_iinc (pc' := 476) 7 (L' := [(8, q_i (k + 1)), (7, q_i (kept + 1)), (0, q_r Γ 150), (1, q_r Γ 151), (2, q_r Γ 152), (3, q_r Γ 154), (4, q_r Γ 155), (5, q_i su), (9, q_i i)]) dL_match_473 rfl rfl (by decide) rfl ?_
                      refine q_goto (pc' := 400) dL_match_476 rfl ?_
                      refine p_sub [2, 3, 4, 5, 6, 7, 1, 0] rfl ?_
                      exact qih_400 _ (by omega) _ _ _ (by first | assumption | omega) (by first | assumption | omega) (by first | (rw [show i = 4 by omega]; exact w_cA_t qa_400_2 (by omega) (by omega)) | (rw [show i = 0 by omega, ← q_cp_0, Int.add_zero]; exact w_cA_f qa_400_2 (by omega) (by omega)) | (exfalso; omega)) rfl
                  · refine q_aloadn (pc' := 418) 3 dL_match_417 rfl rfl ?_
                    refine q_iconst (pc' := 419) dL_match_418 rfl ?_
                    refine q_iload (pc' := 421) 7 dL_match_419 rfl rfl ?_
                    refine q_imul (pc' := 422) dL_match_421 rfl ?_
                    refine q_iconst (pc' := 423) dL_match_422 rfl ?_
                    refine q_iadd (pc' := 424) dL_match_423 rfl ?_
                    refine p_iald (pc' := 425) dL_match_424 rfl kc154 (by first | assumption | omega) (by first | assumption | omega) (by decide) (fun qy_424 eqy_424 rqy_424 => ?_)
                    have eyqy_424 : qy_424 = S2 154 (4 * k + 2) := by rw [eqy_424]; rw [w_cA_u kb.2 (by omega) (by omega), uS]
                    have ryqy_424 := rqy_424
                    rw [eyqy_424] at ryqy_424 ⊢
                    refine q_if_le (tgt := 452) (pc' := 428) dL_match_425 rfl rfl (by first | assumption | omega) (fun qc_425 => ?_) (fun qc_425 => ?_)
                    · refine q_iload (pc' := 454) 6 dL_match_452 rfl rfl ?_
                      refine q_aloadn (pc' := 455) 3 dL_match_454 rfl rfl ?_
                      refine q_iconst (pc' := 456) dL_match_455 rfl ?_
                      refine q_iload (pc' := 458) 7 dL_match_456 rfl rfl ?_
                      refine q_imul (pc' := 459) dL_match_458 rfl ?_
                      refine q_iconst (pc' := 460) dL_match_459 rfl ?_
                      refine q_iadd (pc' := 461) dL_match_460 rfl ?_
                      refine p_iald (pc' := 462) dL_match_461 rfl kc154 (by first | assumption | omega) (by first | assumption | omega) (by decide) (fun qy_461_1 eqy_461_1 rqy_461_1 => ?_)
                      have eyqy_461_1 : qy_461_1 = S2 154 (4 * k + 2) := by rw [eqy_461_1]; rw [w_cA_u kb.2 (by omega) (by omega), uS]
                      have ryqy_461_1 := rqy_461_1
                      rw [eyqy_461_1] at ryqy_461_1 ⊢
                      refine q_if_le (tgt := 469) (pc' := 465) dL_match_462 rfl rfl (by first | assumption | omega) (fun qc_462_1 => ?_) (fun qc_462_1 => ?_)
                      · refine q_iconst (pc' := 470) dL_match_469 rfl ?_
                        refine q_iadd (pc' := 471) dL_match_470 rfl ?_
                        refine q_istore (pc' := 473) (L' := [(7, q_i (kept + 0)), (0, q_r Γ 150), (1, q_r Γ 151), (2, q_r Γ 152), (3, q_r Γ 154), (4, q_r Γ 155), (5, q_i su), (8, q_i k), (9, q_i i)]) dL_match_471 rfl (by decide) rfl ?_
                        refine q_iinc (pc' := 476) 7 (L' := [(8, q_i (k + 1)), (7, q_i (kept + 0)), (0, q_r Γ 150), (1, q_r Γ 151), (2, q_r Γ 152), (3, q_r Γ 154), (4, q_r Γ 155), (5, q_i su), (9, q_i i)]) dL_match_473 rfl rfl (by decide) rfl ?_
                        refine q_goto (pc' := 400) dL_match_476 rfl ?_
                        refine p_sub [2, 3, 4, 5, 6, 7, 1, 0] rfl ?_
                        exact qih_400 _ (by omega) _ _ _ (by first | assumption | omega) (by first | assumption | omega) (by first | (rw [show i = 4 by omega]; exact w_cA_t qa_400_2 (by omega) (by omega)) | (rw [show i = 0 by omega, ← q_cp_0, Int.add_zero]; exact w_cA_f qa_400_2 (by omega) (by omega)) | (exfalso; omega)) rfl
                      · refine q_iconst (pc' := 466) dL_match_465 rfl ?_
                        refine q_goto (pc' := 470) dL_match_466 rfl ?_
                        refine q_iadd (pc' := 471) dL_match_470 rfl ?_
                        refine q_istore (pc' := 473) (L' := [(7, q_i (kept + 1)), (0, q_r Γ 150), (1, q_r Γ 151), (2, q_r Γ 152), (3, q_r Γ 154), (4, q_r Γ 155), (5, q_i su), (8, q_i k), (9, q_i i)]) dL_match_471 rfl (by decide) rfl ?_
                        refine q_iinc (pc' := 476) 7 (L' := [(8, q_i (k + 1)), (7, q_i (kept + 1)), (0, q_r Γ 150), (1, q_r Γ 151), (2, q_r Γ 152), (3, q_r Γ 154), (4, q_r Γ 155), (5, q_i su), (9, q_i i)]) dL_match_473 rfl rfl (by decide) rfl ?_
                        refine q_goto (pc' := 400) dL_match_476 rfl ?_
                        refine p_sub [2, 3, 4, 5, 6, 7, 1, 0] rfl ?_
                        exact qih_400 _ (by omega) _ _ _ (by first | assumption | omega) (by first | assumption | omega) (by first | (rw [show i = 4 by omega]; exact w_cA_t qa_400_2 (by omega) (by omega)) | (rw [show i = 0 by omega, ← q_cp_0, Int.add_zero]; exact w_cA_f qa_400_2 (by omega) (by omega)) | (exfalso; omega)) rfl
                    · refine q_aloadn (pc' := 429) 3 dL_match_428 rfl rfl ?_
                      refine q_iconst (pc' := 430) dL_match_429 rfl ?_
                      refine q_iload (pc' := 432) 6 dL_match_430 rfl rfl ?_
                      refine q_imul (pc' := 433) dL_match_432 rfl ?_
                      refine q_iload (pc' := 435) 8 dL_match_433 rfl rfl ?_
                      refine q_iadd (pc' := 436) dL_match_435 rfl ?_
                      refine q_aloadn (pc' := 437) 3 dL_match_436 rfl rfl ?_
                      refine q_iconst (pc' := 438) dL_match_437 rfl ?_
                      refine q_iload (pc' := 440) 7 dL_match_438 rfl rfl ?_
                      refine q_imul (pc' := 441) dL_match_440 rfl ?_
                      refine q_iload (pc' := 443) 8 dL_match_441 rfl rfl ?_
                      refine q_iadd (pc' := 444) dL_match_443 rfl ?_
                      refine p_iald (pc' := 445) dL_match_444 rfl kc154 (by first | assumption | omega) (by first | assumption | omega) (by decide) (fun qy_444 eqy_444 rqy_444 => ?_)
                      have eyqy_444 : qy_444 = S5 154 (4 * k + i) := by rw [eqy_444]; exact w_cA_r kb.2
                      have ryqy_444 := rqy_444
                      rw [eyqy_444] at ryqy_444 ⊢
                      refine p_iast (pc' := 446) dL_match_445 rfl kc154 (by first | assumption | omega) (by first | assumption | omega) (by decide) (by first | assumption | omega) ?_
                      rw [q_cp_s (by omega)]
                      refine q_iinc (pc' := 449) 8 (L' := [(9, q_i (i + 1)), (0, q_r Γ 150), (1, q_r Γ 151), (2, q_r Γ 152), (3, q_r Γ 154), (4, q_r Γ 155), (5, q_i su), (7, q_i kept), (8, q_i k)]) dL_match_446 rfl rfl (by decide) rfl ?_
                      refine q_goto (pc' := 411) dL_match_449 rfl ?_
                      refine p_sub [1, 2, 3, 4, 5, 6, 7, 8, 0] rfl ?_
                      exact qih_411 _ (by omega) (i + 1) (by first | assumption | omega) (by first | assumption | omega) (by first | assumption | omega) rfl
              refine p_sub [1, 2, 3, 4, 5, 6, 7, 8, 0] rfl ?_
              exact qlp_411 _ 0 (by first | assumption | omega) (by first | assumption | omega) (by first | assumption | omega) rfl
        refine p_sub [2, 3, 4, 5, 6, 7, 1, 0] rfl ?_
        exact qlp_400 _ _ _ _ (by first | assumption | omega) (by first | assumption | omega) (by exact w_cA_0) rfl
      · refine p_sub [0, 1, 2, 3, 4, 5, 6, 7] rfl ?_
        refine c_L_match_17 qa_9_2 qa_9_3 qa_9_6 (fun b hsb => ?_)
        rw [e4] at hsb
        have hb := w_sel_e (s_so_V HB (fun k k0 k1 => by show -s_bd ps k 3 = -s_bd φ k 3; rw [qa_9_4.2.2 k 3 k0 (by omega) (by decide) (by decide) (by decide)])) (show 0 ≤ rd by omega) (show rd < φ 4 by omega) hsb
        have tb := HB.1 rd (by omega) (by omega)
        have b0 : 0 ≤ b := by omega
        have b4 : b < φ 4 := by omega
        refine q_iload (pc' := 79) 6 dL_match_77 rfl rfl ?_
        refine q_iconst (pc' := 80) dL_match_79 rfl ?_
        refine q_iload (pc' := 82) 8 dL_match_80 rfl rfl ?_
        refine q_ishl (pc' := 83) (z := 2 ^ b.toNat) dL_match_82 rfl (w_shl (by omega) (by omega)) ?_
        refine q_ior (pc' := 84) (z := w_or D b) dL_match_83 rfl (w_or_e qa_9_6.1.1 qa_9_6.1.2 (by omega) (by omega)) ?_
        refine q_istore (pc' := 86) (L' := [(6, q_i (w_or D b)), (0, q_r Γ 150), (1, q_r Γ 151), (2, q_r Γ 152), (3, q_r Γ 154), (4, q_r Γ 155), (5, q_i su), (7, q_i rd), (8, q_i b)]) dL_match_84 rfl (by decide) rfl ?_
        refine q_iconst (pc' := 87) dL_match_86 rfl ?_
        refine q_istore (pc' := 89) (L' := [(9, q_i 0), (6, q_i (w_or D b)), (0, q_r Γ 150), (1, q_r Γ 151), (2, q_r Γ 152), (3, q_r Γ 154), (4, q_r Γ 155), (5, q_i su), (7, q_i rd), (8, q_i b)]) dL_match_87 rfl (by decide) rfl ?_
        refine q_iconst (pc' := 90) dL_match_89 rfl ?_
        refine q_istore (pc' := 92) (L' := [(10, q_i 0), (9, q_i 0), (6, q_i (w_or D b)), (0, q_r Γ 150), (1, q_r Γ 151), (2, q_r Γ 152), (3, q_r Γ 154), (4, q_r Γ 155), (5, q_i su), (7, q_i rd), (8, q_i b)]) dL_match_90 rfl (by decide) rfl ?_
        have qlp_92 : ∀ (qn_92 : Nat) (S3 : q_S) (x : (Int → Int) × Int × Int) (s3 U tn : Int), (0 ≤ tn) → (tn ≤ φ 3) → (w_R S3 (s_cur ps b x)) → (w_offT S S3) → (s_tbI ps b x TQ tn) → (s3 = su + x.2.2) → (w_mk U (w_dn TQ tn)) → ((10 - tn).toNat) = qn_92 → q_Go Γ mL_match 0 0 0 92 [(0, q_r Γ 150), (1, q_r Γ 151), (2, q_r Γ 152), (3, q_r Γ 154), (4, q_r Γ 155), (5, q_i s3), (6, q_i (w_or D b)), (7, q_i rd), (8, q_i b), (9, q_i U), (10, q_i tn)] [] (KC, S3) (fun v9 w9 => v9 = some (q_i (s_matV φ)) ∧ ∃ S2, w9 = (KC, S2) ∧ w_R S2 (s_matP φ) ∧ w_offT S S2) := by
          intro qn_92
          induction qn_92 using Nat.strongRecOn with
          | ind qn_92 qih_92 =>
            intro S3 x s3 U tn qa_92_0 qa_92_1 qa_92_2 qa_92_3 qa_92_4 qa_92_5 qa_92_6 qhn_92
            subst qhn_92
            have okc := s_cur_ok qa_92_4 qa_9_3 b0 (show b < 10 by omega)
            have c33 : s_cur ps b x 3 = φ 3 := (okc.2.1 3 (by decide)).trans e3
            have c44 : s_cur ps b x 4 = φ 4 := (okc.2.1 4 (by decide)).trans e4
            have hri := s_ri_b qa_9_3 b0 (show b < 10 by omega)
            refine q_iload (pc' := 94) 10 dL_match_92 rfl rfl ?_
            refine q_aloadn (pc' := 95) 0 dL_match_94 rfl rfl ?_
            refine q_iconst (pc' := 96) dL_match_95 rfl ?_
            refine p_iald (pc' := 97) dL_match_96 rfl kc150 (by first | assumption | omega) (by first | assumption | omega) (by decide) (fun qy_96 eqy_96 rqy_96 => ?_)
            have vqy_96 : qy_96 = s_cur ps b x 3 := eqy_96.trans (w_q0 qa_92_2)
            rw [vqy_96]
            rw [c33]
            refine q_icmp_ge (tgt := 388) (pc' := 100) dL_match_97 rfl rfl (by first | assumption | omega) (by first | assumption | omega) (fun qc_97 => ?_) (fun qc_97 => ?_)
            · have he := s_tbI_e qa_92_4 b0 (show b < 10 by omega) HT p3.2 (by omega)
              have hsu : s3 = su + s_tbV ps b := by unfold s_tbV; rw [he]; exact qa_92_5
              refine q_iinc (pc' := 391) 7 (L' := [(7, q_i (rd + 1)), (0, q_r Γ 150), (1, q_r Γ 151), (2, q_r Γ 152), (3, q_r Γ 154), (4, q_r Γ 155), (5, q_i s3), (6, q_i (w_or D b)), (8, q_i b), (9, q_i U), (10, q_i tn)]) dL_match_388 rfl rfl (by decide) rfl ?_
              refine q_goto (pc' := 9) dL_match_391 rfl ?_
              refine p_sub [1, 2, 3, 4, 5, 6, 7, 0] rfl ?_
              exact qih_9 _ (by omega) _ (s_tbP ps b) _ _ _ (by first | assumption | omega) (by first | assumption | omega) (by rw [← s_tbP_cur he]; exact qa_92_2) (by exact (s_tbP_k qa_9_3 b0 (by omega)).1) (by exact s_sam_t qa_9_4 (s_tbP_sam qa_9_3 b0 (by omega))) (by rw [hsu, hb]; exact s_mtP_1 ok qa_9_5 qa_9_3 qa_9_4 HB (by omega) (by omega)) (by rw [hb]; exact w_mk_s qa_9_6 (by omega) (by omega) (by omega)) (by exact qa_92_3) rfl
            · refine p_sub [0, 1, 2, 3, 4, 5, 6, 7, 8, 9, 10] rfl ?_
              refine c_L_match_100 qa_92_2 okc.1 qa_92_6 (fun a hsa => ?_)
              rw [c33] at hsa
              have ha := w_sel_e (s_so_V HA (fun k k0 k1 => by show s_as (s_cur ps b x) k 3 = s_as φ k 3; rw [okc.2.2.1 k 3 k0 (by omega) (by decide) (by decide) (by decide), qa_9_4.2.1 k 3 k0 (by omega) (by decide) (by decide) (by decide)])) (show 0 ≤ tn by omega) (show tn < φ 3 by omega) hsa
              have ta := HA.1 tn (by omega) (by omega)
              have a0 : 0 ≤ a := by omega
              have a3 : a < φ 3 := by omega
              refine q_iload (pc' := 160) 9 dL_match_158 rfl rfl ?_
              refine q_iconst (pc' := 161) dL_match_160 rfl ?_
              refine q_iload (pc' := 163) 11 dL_match_161 rfl rfl ?_
              refine q_ishl (pc' := 164) (z := 2 ^ a.toNat) dL_match_163 rfl (w_shl (by omega) (by omega)) ?_
              refine q_ior (pc' := 165) (z := w_or U a) dL_match_164 rfl (w_or_e qa_92_6.1.1 qa_92_6.1.2 (by omega) (by omega)) ?_
              refine q_istore (pc' := 167) (L' := [(9, q_i (w_or U a)), (0, q_r Γ 150), (1, q_r Γ 151), (2, q_r Γ 152), (3, q_r Γ 154), (4, q_r Γ 155), (5, q_i s3), (6, q_i (w_or D b)), (7, q_i rd), (8, q_i b), (10, q_i tn), (11, q_i a)]) dL_match_165 rfl (by decide) rfl ?_
              have hmU : w_mk (w_or U a) (w_dn TQ (tn + 1)) := by rw [ha]; exact w_mk_s qa_92_6 (by omega) (by omega) (by omega)
              refine q_aloadn (pc' := 168) 4 dL_match_167 rfl rfl ?_
              refine q_iconst (pc' := 169) dL_match_168 rfl ?_
              refine q_iload (pc' := 171) 11 dL_match_169 rfl rfl ?_
              refine q_imul (pc' := 172) dL_match_171 rfl ?_
              refine p_iald (pc' := 173) dL_match_172 rfl kc154 (by first | assumption | omega) (by first | assumption | omega) (by decide) (fun qy_172 eqy_172 rqy_172 => ?_)
              have vqy_172 : qy_172 = s_as (s_cur ps b x) a 0 := eqy_172.trans (w_as0 qa_92_2 (by first | assumption | omega) (by first | assumption | omega))
              rw [vqy_172]
              have oa := s_as_b okc.1 a0 (show a < 10 by omega)
              have ob := s_bd_b okc.1 b0 (show b < 10 by omega)
              refine q_aload (pc' := 175) 5 dL_match_173 rfl rfl ?_
              refine q_iconst (pc' := 176) dL_match_175 rfl ?_
              refine q_iload (pc' := 178) 9 dL_match_176 rfl rfl ?_
              refine q_imul (pc' := 179) dL_match_178 rfl ?_
              refine p_iald (pc' := 180) dL_match_179 rfl kc155 (by first | assumption | omega) (by first | assumption | omega) (by decide) (fun qy_179 eqy_179 rqy_179 => ?_)
              have vqy_179 : qy_179 = s_bd (s_cur ps b x) b 0 := eqy_179.trans (w_bd0 qa_92_2 (by first | assumption | omega) (by first | assumption | omega))
              rw [vqy_179]
              refine q_icmp_ne (tgt := 382) (pc' := 183) dL_match_180 rfl rfl (by first | assumption | omega) (by first | assumption | omega) (fun qc_180 => ?_) (fun qc_180 => ?_)
              · refine q_iinc (pc' := 385) 10 (L' := [(10, q_i (tn + 1)), (9, q_i (w_or U a)), (0, q_r Γ 150), (1, q_r Γ 151), (2, q_r Γ 152), (3, q_r Γ 154), (4, q_r Γ 155), (5, q_i s3), (6, q_i (w_or D b)), (7, q_i rd), (8, q_i b), (11, q_i a)]) dL_match_382 rfl rfl (by decide) rfl ?_
                refine q_goto (pc' := 92) dL_match_385 rfl ?_
                refine p_sub [2, 3, 4, 5, 6, 7, 8, 9, 10, 1, 0] rfl ?_
                exact qih_92 _ (by omega) _ x _ _ _ (by first | assumption | omega) (by first | assumption | omega) (by first | exact qF4 | assumption) (by first | exact w_offT_t qa_92_3 ho4 | assumption) (by first | (rw [ha]; exact s_tbI_t qa_92_4 hpx b0 (by omega) HT p3.2 (by omega) (by omega) (by rw [← ha]; exact hs2) rfl) | exact s_tbI_n qa_92_4 (fun q => (fun t => by first | exact qc_180 t.1 | exact qnone_ (w_h_inj wa1.1 wa1.2.1 wb1.1 wb1.2.1 (by rw [wa1.2.2, wb1.2.2]; exact t.2.1)) | (have t3 := t.2.2; omega)) ((s_sui_sam okc.2 b0 (by omega) a0 (by omega)).mpr (by rw [ha]; exact q)))) (by first | (show _ = su + (x.2.2 + (min (min (s_bd x.1 b 2) (s_as x.1 a 2)) x.2.1)); rw [hq.1]; omega) | assumption) (by exact hmU) rfl
              · refine q_aloadn (pc' := 184) 4 dL_match_183 rfl rfl ?_
                refine q_iconst (pc' := 185) dL_match_184 rfl ?_
                refine q_iload (pc' := 187) 11 dL_match_185 rfl rfl ?_
                refine q_imul (pc' := 188) dL_match_187 rfl ?_
                refine q_iconst (pc' := 189) dL_match_188 rfl ?_
                refine q_iadd (pc' := 190) dL_match_189 rfl ?_
                refine p_iald (pc' := 191) dL_match_190 rfl kc154 (by first | assumption | omega) (by first | assumption | omega) (by decide) (fun qy_190 eqy_190 rqy_190 => ?_)
                have wa1 := (w_as qa_92_2 (k := a) a0 (by omega)).2.1
                rw [← eqy_190] at wa1
                refine q_aload (pc' := 193) 5 dL_match_191 rfl rfl ?_
                refine q_iconst (pc' := 194) dL_match_193 rfl ?_
                refine q_iload (pc' := 196) 9 dL_match_194 rfl rfl ?_
                refine q_imul (pc' := 197) dL_match_196 rfl ?_
                refine q_iconst (pc' := 198) dL_match_197 rfl ?_
                refine q_iadd (pc' := 199) dL_match_198 rfl ?_
                refine p_iald (pc' := 200) dL_match_199 rfl kc155 (by first | assumption | omega) (by first | assumption | omega) (by decide) (fun qy_199 eqy_199 rqy_199 => ?_)
                have wb1 := (w_bd qa_92_2 (k := b) b0 (by omega)).2.1
                rw [← eqy_199] at wb1
                refine q_icmp_ne (tgt := 382) (pc' := 203) dL_match_200 rfl rfl (by first | assumption | omega) (by first | assumption | omega) (fun qc_200 => ?_) (fun qc_200 => ?_)
                · refine q_iinc (pc' := 385) 10 (L' := [(10, q_i (tn + 1)), (9, q_i (w_or U a)), (0, q_r Γ 150), (1, q_r Γ 151), (2, q_r Γ 152), (3, q_r Γ 154), (4, q_r Γ 155), (5, q_i s3), (6, q_i (w_or D b)), (7, q_i rd), (8, q_i b), (11, q_i a)]) dL_match_382 rfl rfl (by decide) rfl ?_
                  refine q_goto (pc' := 92) dL_match_385 rfl ?_
                  refine p_sub [2, 3, 4, 5, 6, 7, 8, 9, 10, 1, 0] rfl ?_
                  exact qih_92 _ (by omega) _ x _ _ _ (by first | assumption | omega) (by first | assumption | omega) (by first | exact qF4 | assumption) (by first | exact w_offT_t qa_92_3 ho4 | assumption) (by first | (rw [ha]; exact s_tbI_t qa_92_4 hpx b0 (by omega) HT p3.2 (by omega) (by omega) (by rw [← ha]; exact hs2) rfl) | exact s_tbI_n qa_92_4 (fun q => (fun t => by first | exact qc_180 t.1 | exact qc_200 (w_h_inj wa1.1 wa1.2.1 wb1.1 wb1.2.1 (by rw [wa1.2.2, wb1.2.2]; exact t.2.1)) | (have t3 := t.2.2; omega)) ((s_sui_sam okc.2 b0 (by omega) a0 (by omega)).mpr (by rw [ha]; exact q)))) (by first | (show _ = su + (x.2.2 + (min (min (s_bd x.1 b 2) (s_as x.1 a 2)) x.2.1)); rw [hq.1]; omega) | assumption) (by exact hmU) rfl
                · refine q_aloadn (pc' := 204) 4 dL_match_203 rfl rfl ?_
                  refine q_iconst (pc' := 205) dL_match_204 rfl ?_
                  refine q_iload (pc' := 207) 11 dL_match_205 rfl rfl ?_
                  refine q_imul (pc' := 208) dL_match_207 rfl ?_
                  refine q_iconst (pc' := 209) dL_match_208 rfl ?_
                  refine q_iadd (pc' := 210) dL_match_209 rfl ?_
                  refine p_iald (pc' := 211) dL_match_210 rfl kc154 (by first | assumption | omega) (by first | assumption | omega) (by decide) (fun qy_210 eqy_210 rqy_210 => ?_)
                  have vqy_210 : qy_210 = s_as (s_cur ps b x) a 3 := eqy_210.trans (w_as3 qa_92_2 (by first | assumption | omega) (by first | assumption | omega))
                  rw [vqy_210]
                  refine q_aload (pc' := 213) 5 dL_match_211 rfl rfl ?_
                  refine q_iconst (pc' := 214) dL_match_213 rfl ?_
                  refine q_iload (pc' := 216) 9 dL_match_214 rfl rfl ?_
                  refine q_imul (pc' := 217) dL_match_216 rfl ?_
                  refine q_iconst (pc' := 218) dL_match_217 rfl ?_
                  refine q_iadd (pc' := 219) dL_match_218 rfl ?_
                  refine p_iald (pc' := 220) dL_match_219 rfl kc155 (by first | assumption | omega) (by first | assumption | omega) (by decide) (fun qy_219 eqy_219 rqy_219 => ?_)
                  have vqy_219 : qy_219 = s_bd (s_cur ps b x) b 3 := eqy_219.trans (w_bd3 qa_92_2 (by first | assumption | omega) (by first | assumption | omega))
                  rw [vqy_219]
                  refine q_icmp_le (tgt := 226) (pc' := 223) dL_match_220 rfl rfl (by first | assumption | omega) (by first | assumption | omega) (fun qc_220 => ?_) (fun qc_220 => ?_)
                  · have hs : s_sui (s_cur ps b x) b a := ⟨by omega, by rw [← wa1.2.2, ← wb1.2.2]; exact congrArg w_h (by omega), by omega⟩
                    have hs2 := (s_sui_sam okc.2 b0 (show b < 10 by omega) a0 (show a < 10 by omega)).mp hs
                    refine p_rng (fun hrg => ?_)
                    have hpp : ∀ r, 0 ≤ r → r < 6 → q_rg (s_pt (s_cur ps b x) r 3) := fun r r0 r1 => by
                      rcases (show r < 4 ∨ 4 ≤ r by omega) with g | g
                      · rw [← w_pt qa_92_2 r0 g (by decide) (by decide)]; exact hrg _ _
                      · rw [qa_92_2.2.2.2.2.2.2.2 r g r1]; decide
                    have hpx : ∀ r, 0 ≤ r → r < 6 → q_rg (s_pt x.1 r 3) := fun r y0 y1 => by
                      have e : s_pt (s_cur ps b x) r 3 = s_pt x.1 r 3 := s_set_ne (by omega)
                      rw [← e]; exact hpp r y0 y1
                    refine q_bipush (pc' := 228) dL_match_226 rfl rfl ?_
                    refine q_aload (pc' := 230) 5 dL_match_228 rfl rfl ?_
                    refine q_iconst (pc' := 231) dL_match_230 rfl ?_
                    refine q_iload (pc' := 233) 9 dL_match_231 rfl rfl ?_
                    refine q_imul (pc' := 234) dL_match_233 rfl ?_
                    refine q_iconst (pc' := 235) dL_match_234 rfl ?_
                    refine q_iadd (pc' := 236) dL_match_235 rfl ?_
                    refine p_iald (pc' := 237) dL_match_236 rfl kc155 (by first | assumption | omega) (by first | assumption | omega) (by decide) (fun qy_236 eqy_236 rqy_236 => ?_)
                    have wb2 := (w_bd qa_92_2 (k := b) b0 (by omega)).2.1
                    rw [← eqy_236] at wb2
                    refine q_imul (pc' := 238) dL_match_237 rfl ?_
                    refine q_iconst (pc' := 239) dL_match_238 rfl ?_
                    refine q_aload (pc' := 241) 5 dL_match_239 rfl rfl ?_
                    refine q_iconst (pc' := 242) dL_match_241 rfl ?_
                    refine q_iload (pc' := 244) 9 dL_match_242 rfl rfl ?_
                    refine q_imul (pc' := 245) dL_match_244 rfl ?_
                    refine q_iconst (pc' := 246) dL_match_245 rfl ?_
                    refine q_iadd (pc' := 247) dL_match_246 rfl ?_
                    refine p_iald (pc' := 248) dL_match_247 rfl kc155 (by first | assumption | omega) (by first | assumption | omega) (by decide) (fun qy_247 eqy_247 rqy_247 => ?_)
                    have vqy_247 : qy_247 = s_bd (s_cur ps b x) b 4 := eqy_247.trans (w_bd4 qa_92_2 (by first | assumption | omega) (by first | assumption | omega))
                    rw [vqy_247]
                    refine q_imul (pc' := 249) dL_match_248 rfl ?_
                    refine q_iadd (pc' := 250) dL_match_249 rfl ?_
                    refine q_aload (pc' := 252) 5 dL_match_250 rfl rfl ?_
                    refine q_iconst (pc' := 253) dL_match_252 rfl ?_
                    refine q_iload (pc' := 255) 9 dL_match_253 rfl rfl ?_
                    refine q_imul (pc' := 256) dL_match_255 rfl ?_
                    refine p_iald (pc' := 257) dL_match_256 rfl kc155 (by first | assumption | omega) (by first | assumption | omega) (by decide) (fun qy_256 eqy_256 rqy_256 => ?_)
                    have vqy_256 : qy_256 = s_bd (s_cur ps b x) b 0 := eqy_256.trans (w_bd0 qa_92_2 (by first | assumption | omega) (by first | assumption | omega))
                    rw [vqy_256]
                    refine q_iadd (pc' := 258) dL_match_257 rfl ?_
                    refine q_istore (pc' := 260) (L' := [(12, q_i (((16 * qy_236) + (4 * (s_bd (s_cur ps b x) b 4))) + (s_bd (s_cur ps b x) b 0))), (9, q_i (w_or U a)), (0, q_r Γ 150), (1, q_r Γ 151), (2, q_r Γ 152), (3, q_r Γ 154), (4, q_r Γ 155), (5, q_i s3), (6, q_i (w_or D b)), (7, q_i rd), (8, q_i b), (10, q_i tn), (11, q_i a)]) dL_match_258 rfl (by decide) rfl ?_
                    refine p_sub [2, 3, 4, 5, 6, 7, 8, 9, 10, 1, 11, 12, 0] rfl ?_
                    refine c_L_match_260 qa_92_2 okc.1 hpp b0 (by omega) a0 (by omega) wb2.1 wb2.2.1 wb2.2.2 (fun S4 hR4 ho4 => ?_)
                    have hq := s_tr1_cur (k := a) qa_92_4 qa_9_3 b0 (show b < 10 by omega) a0 (show a < 10 by omega)
                    have qF4 : w_R S4 (s_cur ps b (s_x1 x b a (min (min (s_bd x.1 b 2) (s_as x.1 a 2)) x.2.1))) := by rw [← hq.2]; exact hR4
                    refine q_iinc (pc' := 385) 10 (L' := [(10, q_i (tn + 1)), (0, q_r Γ 150), (1, q_r Γ 151), (2, q_r Γ 152), (3, q_r Γ 154), (4, q_r Γ 155), (5, q_i (s3 + s_tu1 (s_cur ps b x) b a)), (6, q_i (w_or D b)), (7, q_i rd), (8, q_i b), (9, q_i (w_or U a)), (11, q_i a)]) dL_match_382 rfl rfl (by decide) rfl ?_
                    refine q_goto (pc' := 92) dL_match_385 rfl ?_
                    refine p_sub [1, 2, 3, 4, 5, 6, 7, 8, 9, 10, 0] rfl ?_
                    exact qih_92 _ (by omega) _ (s_x1 x b a (min (min (s_bd x.1 b 2) (s_as x.1 a 2)) x.2.1)) _ _ _ (by first | assumption | omega) (by first | assumption | omega) (by first | exact qF4 | assumption) (by first | exact w_offT_t qa_92_3 ho4 | assumption) (by first | (rw [ha]; exact s_tbI_t qa_92_4 hpx b0 (by omega) HT p3.2 (by omega) (by omega) (by rw [← ha]; exact hs2) rfl) | exact s_tbI_n qa_92_4 (fun q => (fun t => by first | exact qc_180 t.1 | exact qc_200 (w_h_inj wa1.1 wa1.2.1 wb1.1 wb1.2.1 (by rw [wa1.2.2, wb1.2.2]; exact t.2.1)) | (have t3 := t.2.2; omega)) ((s_sui_sam okc.2 b0 (by omega) a0 (by omega)).mpr (by rw [ha]; exact q)))) (by first | (show _ = su + (x.2.2 + (min (min (s_bd x.1 b 2) (s_as x.1 a 2)) x.2.1)); rw [hq.1]; omega) | assumption) (by exact hmU) rfl
                  · refine q_goto (pc' := 382) dL_match_223 rfl ?_
                    refine q_iinc (pc' := 385) 10 (L' := [(10, q_i (tn + 1)), (9, q_i (w_or U a)), (0, q_r Γ 150), (1, q_r Γ 151), (2, q_r Γ 152), (3, q_r Γ 154), (4, q_r Γ 155), (5, q_i s3), (6, q_i (w_or D b)), (7, q_i rd), (8, q_i b), (11, q_i a)]) dL_match_382 rfl rfl (by decide) rfl ?_
                    refine q_goto (pc' := 92) dL_match_385 rfl ?_
                    refine p_sub [2, 3, 4, 5, 6, 7, 8, 9, 10, 1, 0] rfl ?_
                    exact qih_92 _ (by omega) _ x _ _ _ (by first | assumption | omega) (by first | assumption | omega) (by first | exact qF4 | assumption) (by first | exact w_offT_t qa_92_3 ho4 | assumption) (by first | (rw [ha]; exact s_tbI_t qa_92_4 hpx b0 (by omega) HT p3.2 (by omega) (by omega) (by rw [← ha]; exact hs2) rfl) | exact s_tbI_n qa_92_4 (fun q => (fun t => by first | exact qc_180 t.1 | exact qc_200 (w_h_inj wa1.1 wa1.2.1 wb1.1 wb1.2.1 (by rw [wa1.2.2, wb1.2.2]; exact t.2.1)) | (have t3 := t.2.2; omega)) ((s_sui_sam okc.2 b0 (by omega) a0 (by omega)).mpr (by rw [ha]; exact q)))) (by first | (show _ = su + (x.2.2 + (min (min (s_bd x.1 b 2) (s_as x.1 a 2)) x.2.1)); rw [hq.1]; omega) | assumption) (by exact hmU) rfl
        refine p_sub [3, 4, 5, 6, 7, 8, 2, 9, 10, 1, 0] rfl ?_
        exact qlp_92 _ _ (s_x0 ps b) _ _ _ (by first | assumption | omega) (by first | assumption | omega) (by rw [s_cur_0]; exact qa_9_2) (by exact qa_9_7) (by exact s_tbI_0 qa_9_3 b0 (by omega) _) (by exact (Int.add_zero _).symm) (by exact w_mk_0) rfl
  refine p_sub [3, 4, 5, 6, 7, 2, 1, 0] rfl ?_
  exact qlp_9 _ _ φ _ _ _ (by first | assumption | omega) (by first | assumption | omega) (by exact H) (by exact ok) (by exact s_sam_r) (by rfl) (by exact w_mk_0) (by exact w_offT_r) rfl
