set_option maxRecDepth 20000 in
set_option maxHeartbeats 4000000 in
theorem c_X6_countSigns {Γ : q_G} {K : List q_K} {S : q_S} {N0 : Nat} (hN : N0 < 18446744073709551616) : q_Sp Γ mX6_countSigns 0 0 0 [.long (s_lo N0)] (K, S) (q_ev (some (q_i (s_cn N0))) (K, S)) := by
  show q_Go Γ mX6_countSigns 0 0 0 0 [(0, .long (s_lo N0))] [] (K, S) (q_ev (some (q_i (s_cn N0))) (K, S))
  refine q_lloadn (pc' := 1) 0 dX6_countSigns_0 rfl rfl ?_
  refine q_lstoren (pc' := 2) (L' := [(2, .long (s_lo N0)), (0, .long (s_lo N0))]) dX6_countSigns_1 rfl rfl (by decide) rfl ?_
  refine q_iconst (pc' := 3) dX6_countSigns_2 rfl ?_
  refine q_istore (pc' := 5) (L' := [(4, q_i 0), (2, .long (s_lo N0)), (0, .long (s_lo N0))]) dX6_countSigns_3 rfl (by decide) rfl ?_
  have qlp_5 : ∀ (qn_5 : Nat) (n : Int) (m : Nat), (0 ≤ n) → (n ≤ 8) → (m = N0 / 256 ^ n.toNat) → (((s_sc (8 - n).toNat m : Nat) : Int) + n = (s_sc 8 N0 : Nat)) → (s_fine N0 n) → (m < 18446744073709551616) → ((8 - n).toNat) = qn_5 → q_Go Γ mX6_countSigns 0 0 0 5 [(0, .long (s_lo N0)), (2, .long (s_lo m)), (4, q_i n)] [] (K, S) (q_ev (some (q_i (s_cn N0))) (K, S)) := by
    intro qn_5
    induction qn_5 using Nat.strongRecOn with
    | ind qn_5 qih_5 =>
      intro n m qa_5_0 qa_5_1 qa_5_2 qa_5_3 qa_5_4 qa_5_5 qhn_5
      subst qhn_5
      have by0 : s_by N0 n = ((m % 256 : Nat) : Int) := by unfold s_by; rw [← qa_5_2]
      refine q_lloadn (pc' := 6) 1 dX6_countSigns_5 rfl rfl ?_
      refine q_lconst (pc' := 7) (x := 0) dX6_countSigns_6 rfl rfl ?_
      refine q_lcmp (pc' := 8) (z := s_lz (s_lo m)) dX6_countSigns_7 rfl (s_lz_e) ?_
      have lz := s_lz_b (m := m) (by omega)
      refine q_if_eq (tgt := 56) (pc' := 11) dX6_countSigns_8 rfl rfl (by first | assumption | omega) (fun qc_8 => ?_) (fun qc_8 => ?_)
      · refine q_iload (pc' := 58) 2 dX6_countSigns_56 rfl rfl ?_
        refine p_iret dX6_countSigns_58 rfl ?_ ?_
        · first | exact s_cn_0 qa_5_0 (by omega) qa_5_2 qa_5_3 (by omega) (by omega) | exact s_cn_n hN qa_5_0 qa_5_1 qa_5_2 qa_5_3 qa_5_4 (by omega)
        · rfl
      · refine q_iload (pc' := 13) 2 dX6_countSigns_11 rfl rfl ?_
        refine q_bipush (pc' := 15) dX6_countSigns_13 rfl rfl ?_
        refine q_icmp_ge (tgt := 56) (pc' := 18) dX6_countSigns_15 rfl rfl (by first | assumption | omega) (by decide) (fun qc_15 => ?_) (fun qc_15 => ?_)
        · refine q_iload (pc' := 58) 2 dX6_countSigns_56 rfl rfl ?_
          refine p_iret dX6_countSigns_58 rfl ?_ ?_
          · first | exact s_cn_0 qa_5_0 (by omega) qa_5_2 qa_5_3 (by omega) (by omega) | exact s_cn_n hN qa_5_0 qa_5_1 qa_5_2 qa_5_3 qa_5_4 (by omega)
          · rfl
        · refine q_lloadn (pc' := 19) 1 dX6_countSigns_18 rfl rfl ?_
          refine q_ldc2 (pc' := 22) dX6_countSigns_19 rfl wX6_23 ?_
          refine q_land (pc' := 23) dX6_countSigns_22 rfl ?_
          rw [s_lo_and (by omega)]
          refine q_lstore (pc' := 25) (L' := [(5, .long (s_lo (m % 256))), (0, .long (s_lo N0)), (2, .long (s_lo m)), (4, q_i n)]) dX6_countSigns_23 rfl (by decide) rfl ?_
          refine q_lload (pc' := 27) 0 dX6_countSigns_25 rfl rfl ?_
          refine q_ldc2 (pc' := 30) dX6_countSigns_27 rfl wX6_25 ?_
          refine q_lcmp (pc' := 31) (z := s_cz (m % 256) 33) dX6_countSigns_30 rfl (s_lo_c33 (by omega)) ?_
          have z33 := s_cz_b (m % 256) 33
          refine q_if_lt (tgt := 43) (pc' := 34) dX6_countSigns_31 rfl rfl (by first | assumption | omega) (fun qc_31 => ?_) (fun qc_31 => ?_)
          · refine q_iconst (pc' := 44) dX6_countSigns_43 rfl ?_
            refine p_iret dX6_countSigns_44 rfl ?_ ?_
            · first | exact s_cn_0 qa_5_0 (by omega) qa_5_2 qa_5_3 (by omega) (by omega) | exact s_cn_n hN qa_5_0 qa_5_1 qa_5_2 qa_5_3 qa_5_4 (by omega)
            · rfl
          · refine q_lload (pc' := 36) 0 dX6_countSigns_34 rfl rfl ?_
            refine q_ldc2 (pc' := 39) dX6_countSigns_36 rfl wX6_27 ?_
            refine q_lcmp (pc' := 40) (z := s_cz (m % 256) 126) dX6_countSigns_39 rfl (s_lo_c126 (by omega)) ?_
            have z126 := s_cz_b (m % 256) 126
            refine q_if_le (tgt := 45) (pc' := 43) dX6_countSigns_40 rfl rfl (by first | assumption | omega) (fun qc_40 => ?_) (fun qc_40 => ?_)
            · refine q_iinc (pc' := 48) 3 (L' := [(4, q_i (n + 1)), (5, .long (s_lo (m % 256))), (0, .long (s_lo N0)), (2, .long (s_lo m))]) dX6_countSigns_45 rfl rfl (by decide) rfl ?_
              refine q_lloadn (pc' := 49) 3 dX6_countSigns_48 rfl rfl ?_
              refine q_bipush (pc' := 51) dX6_countSigns_49 rfl rfl ?_
              refine q_lushr (pc' := 52) (z := s_lo (m / 256)) dX6_countSigns_51 rfl (by have q := s_lo_shr (m := m) (k := 1) (y := Int32.ofInt 8) (by omega) (by decide) (by decide); rw [Nat.pow_one] at q; exact q) ?_
              refine q_lstoren (pc' := 53) (L' := [(2, .long (s_lo (m / 256))), (4, q_i (n + 1)), (5, .long (s_lo (m % 256))), (0, .long (s_lo N0))]) dX6_countSigns_52 rfl rfl (by decide) rfl ?_
              refine q_goto (pc' := 5) dX6_countSigns_53 rfl ?_
              refine p_sub [3, 0, 1] rfl ?_
              exact qih_5 _ (by omega) _ (m / 256) (by first | assumption | omega) (by first | assumption | omega) (by exact s_dv qa_5_2 (by omega)) (by have q := qa_5_3; rw [s_sc_s (by omega) (by omega) (by omega)] at q; omega) (by exact (s_fine_s (by omega)).mpr ⟨qa_5_4, by omega, by omega⟩) (by omega) rfl
            · refine q_iconst (pc' := 44) dX6_countSigns_43 rfl ?_
              refine p_iret dX6_countSigns_44 rfl ?_ ?_
              · first | exact s_cn_0 qa_5_0 (by omega) qa_5_2 qa_5_3 (by omega) (by omega) | exact s_cn_n hN qa_5_0 qa_5_1 qa_5_2 qa_5_3 qa_5_4 (by omega)
              · rfl
  refine p_sub [2, 1, 0] rfl ?_
  exact qlp_5 _ _ N0 (by first | assumption | omega) (by first | assumption | omega) (by rw [show (0 : Int).toNat = 0 from rfl, Nat.pow_zero, Nat.div_one]) (by exact Int.add_zero _) (by exact fun k k0 k1 => by omega) (by exact hN) rfl
set_option maxRecDepth 20000 in
set_option maxHeartbeats 4000000 in
theorem c_X6_append {Γ : q_G} {S : q_S} {N0 : Nat} (hN : N0 < 18446744073709551616) (p0 : 0 ≤ S 25 1) (p1 : S 25 1 ≤ 80) : q_Sp Γ mX6_append 1 0 0 [q_r Γ 25, .long (s_lo N0)] (KC, S) (q_ev (some (q_i (s_putV (S 25 1) N0))) (KC, s_putC S N0)) := by
  show q_Go Γ mX6_append 1 0 0 0 [(0, q_r Γ 25), (1, .long (s_lo N0))] [] (KC, S) (q_ev (some (q_i (s_putV (S 25 1) N0))) (KC, s_putC S N0))
  have cb := s_cn_b N0
  refine q_lloadn (pc' := 1) 1 dX6_append_0 rfl rfl ?_
  refine q_callSI (pc' := 4) dX6_append_1 rfl lX6_19 iX6_countSigns (c_X6_countSigns hN) rfl rfl (Nat.le_of_ble_eq_true rfl) (Nat.le_of_ble_eq_true rfl) (Nat.le_of_ble_eq_true rfl) ?_
  refine q_istoren (pc' := 5) (L' := [(3, q_i (s_cn N0)), (0, q_r Γ 25), (1, .long (s_lo N0))]) dX6_append_4 rfl rfl (by decide) rfl ?_
  refine q_iloadn (pc' := 6) 0 dX6_append_5 rfl rfl ?_
  refine q_if_ne (tgt := 12) (pc' := 9) dX6_append_6 rfl rfl (by first | assumption | omega) (fun qc_6 => ?_) (fun qc_6 => ?_)
  · refine q_aloadn (pc' := 13) 1 dX6_append_12 rfl rfl ?_
    refine p_getJ (pc' := 16) (kz := 1) dX6_append_13 rfl fX6_15 kc25 rfl rfl (fun qy_13 eqy_13 rqy_13 => ?_)
    refine q_iloadn (pc' := 17) 0 dX6_append_16 rfl rfl ?_
    refine q_iadd (pc' := 18) dX6_append_17 rfl ?_
    refine q_bipush (pc' := 20) dX6_append_18 rfl rfl ?_
    refine q_icmp_le (tgt := 26) (pc' := 23) dX6_append_20 rfl rfl (by first | assumption | omega) (by decide) (fun qc_20 => ?_) (fun qc_20 => ?_)
    · refine q_lloadn (pc' := 27) 2 dX6_append_26 rfl rfl ?_
      refine q_lstore (pc' := 29) (L' := [(4, .long (s_lo N0)), (3, q_i (s_cn N0)), (0, q_r Γ 25), (1, .long (s_lo N0))]) dX6_append_27 rfl (by decide) rfl ?_
      refine q_aloadn (pc' := 30) 2 dX6_append_29 rfl rfl ?_
      refine p_getJ (pc' := 33) (kz := 1) dX6_append_30 rfl fX6_15 kc25 rfl rfl (fun qy_30 eqy_30 rqy_30 => ?_)
      rw [eqy_30]
      refine q_iloadn (pc' := 34) 1 dX6_append_33 rfl rfl ?_
      refine q_iadd (pc' := 35) dX6_append_34 rfl ?_
      refine q_iconst (pc' := 36) dX6_append_35 rfl ?_
      refine q_isub (pc' := 37) dX6_append_36 rfl ?_
      refine p_eqS (s_apC_0 (p := S 25 1) (N0 := N0) (n := s_cn N0)) ?_
      refine q_istore (pc' := 39) (L' := [(6, q_i (((S 25 1) + (s_cn N0)) - 1)), (4, .long (s_lo N0)), (3, q_i (s_cn N0)), (0, q_r Γ 25), (1, .long (s_lo N0))]) dX6_append_37 rfl (by decide) rfl ?_
      have qlp_39 : ∀ (qn_39 : Nat) (j z : Int) (m : Nat), (0 ≤ j) → (j ≤ s_cn N0) → (m = N0 / 256 ^ j.toNat) → (z = S 25 1 + s_cn N0 - 1 - j) → (m < 18446744073709551616) → ((8 - j).toNat) = qn_39 → q_Go Γ mX6_append 1 0 0 39 [(0, q_r Γ 25), (1, .long (s_lo N0)), (3, q_i (s_cn N0)), (4, .long (s_lo m)), (6, q_i z)] [] (KC, (s_apC S (S 25 1) N0 (s_cn N0) j)) (q_ev (some (q_i (s_putV (S 25 1) N0))) (KC, s_putC S N0)) := by
        intro qn_39
        induction qn_39 using Nat.strongRecOn with
        | ind qn_39 qih_39 =>
          intro j z m qa_39_0 qa_39_1 qa_39_2 qa_39_3 qa_39_4 qhn_39
          subst qhn_39
          have by0 : s_by N0 j = ((m % 256 : Nat) : Int) := by unfold s_by; rw [← qa_39_2]
          refine q_iload (pc' := 41) 4 dX6_append_39 rfl rfl ?_
          refine q_aloadn (pc' := 42) 0 dX6_append_41 rfl rfl ?_
          refine p_getJ (pc' := 45) (kz := 1) dX6_append_42 rfl fX6_15 kc25 rfl rfl (fun qy_42 eqy_42 rqy_42 => ?_)
          have e42 : qy_42 = S 25 1 := by rw [eqy_42, s_apC_ne (by decide)]
          rw [e42]
          refine q_icmp_lt (tgt := 76) (pc' := 48) dX6_append_45 rfl rfl (by first | assumption | omega) (by first | assumption | omega) (fun qc_45 => ?_) (fun qc_45 => ?_)
          · refine q_aloadn (pc' := 77) 0 dX6_append_76 rfl rfl ?_
            refine q_dup (pc' := 78) dX6_append_77 rfl rfl ?_
            refine p_getJ (pc' := 81) (kz := 1) dX6_append_78 rfl fX6_15 kc25 rfl rfl (fun qy_78 eqy_78 rqy_78 => ?_)
            have e78 : qy_78 = S 25 1 := by rw [eqy_78, s_apC_ne (by decide)]
            rw [e78]
            refine q_iloadn (pc' := 82) 2 dX6_append_81 rfl rfl ?_
            refine q_iadd (pc' := 83) dX6_append_82 rfl ?_
            refine p_putJ (pc' := 86) (kz := 1) dX6_append_83 rfl fX6_15 kc25 rfl rfl (rfl) (rfl) (by first | assumption | omega) ?_
            refine q_aloadn (pc' := 87) 0 dX6_append_86 rfl rfl ?_
            refine p_getJ (pc' := 90) (kz := 1) dX6_append_87 rfl fX6_15 kc25 rfl rfl (fun qy_87 eqy_87 rqy_87 => ?_)
            have e87 : qy_87 = S 25 1 + s_cn N0 := by rw [eqy_87, q_up_eq]
            refine p_iret dX6_append_90 rfl ?_ ?_
            · rw [s_putV_2 (by omega), if_pos (by omega), e87]
            · unfold s_putC; rw [if_pos (by omega), show j = s_cn N0 by omega]
          · refine q_aloadn (pc' := 49) 0 dX6_append_48 rfl rfl ?_
            refine p_getR (pc' := 52) (f := 26) dX6_append_49 rfl fX6_9 kc25 rfl ?_
            refine q_iload (pc' := 54) 4 dX6_append_52 rfl rfl ?_
            refine q_lload (pc' := 56) 3 dX6_append_54 rfl rfl ?_
            refine q_ldc2 (pc' := 59) dX6_append_56 rfl wX6_23 ?_
            refine q_land (pc' := 60) dX6_append_59 rfl ?_
            rw [s_lo_and (by omega)]
            refine q_l2i (pc' := 61) (z := ((m % 256 : Nat) : Int)) dX6_append_60 rfl (s_lo_int (by omega)) ?_
            refine q_i2c (pc' := 62) (z := ((m % 256 : Nat) : Int)) dX6_append_61 rfl (s_i2c (by omega)) ?_
            refine p_cast (pc' := 63) dX6_append_62 rfl kc26 (by omega) (by omega) (by decide) (by omega) (by omega) ?_
            rw [s_apC_s (v := ((m % 256 : Nat) : Int)) (by omega) qa_39_3 by0.symm]
            refine q_lload (pc' := 65) 3 dX6_append_63 rfl rfl ?_
            refine q_bipush (pc' := 67) dX6_append_65 rfl rfl ?_
            refine q_lushr (pc' := 68) (z := s_lo (m / 256)) dX6_append_67 rfl (by have q := s_lo_shr (m := m) (k := 1) (y := Int32.ofInt 8) (by omega) (by decide) (by decide); rw [Nat.pow_one] at q; exact q) ?_
            refine q_lstore (pc' := 70) (L' := [(4, .long (s_lo (m / 256))), (0, q_r Γ 25), (1, .long (s_lo N0)), (3, q_i (s_cn N0)), (6, q_i z)]) dX6_append_68 rfl (by decide) rfl ?_
            refine q_iinc (pc' := 73) 4 (L' := [(6, q_i (z + (-1))), (4, .long (s_lo (m / 256))), (0, q_r Γ 25), (1, .long (s_lo N0)), (3, q_i (s_cn N0))]) dX6_append_70 rfl rfl (by decide) rfl ?_
            refine q_goto (pc' := 39) dX6_append_73 rfl ?_
            refine p_sub [2, 3, 4, 1, 0] rfl ?_
            exact qih_39 _ (by omega) (j + 1) _ (m / 256) (by first | assumption | omega) (by first | assumption | omega) (by exact s_dv qa_39_2 (by omega)) (by first | assumption | omega) (by omega) rfl
      refine p_sub [3, 4, 2, 1, 0] rfl ?_
      exact qlp_39 _ 0 _ N0 (by first | assumption | omega) (by first | assumption | omega) (by rw [show (0 : Int).toNat = 0 from rfl, Nat.pow_zero, Nat.div_one]) (by first | assumption | omega) (by exact hN) rfl
    · refine q_bipush (pc' := 25) dX6_append_23 rfl rfl ?_
      refine p_iret dX6_append_25 rfl ?_ ?_
      · rw [s_putV_2 (by omega), if_neg (by omega)]
      · unfold s_putC; rw [if_neg (by omega)]
  · refine q_bipush (pc' := 11) dX6_append_9 rfl rfl ?_
    refine p_iret dX6_append_11 rfl ?_ ?_
    · rw [s_putV_1 (by omega)]
    · unfold s_putC; rw [if_neg (by omega)]
set_option maxRecDepth 20000 in
set_option maxHeartbeats 4000000 in
theorem c_X6_clear {Γ : q_G} {S : q_S}  : q_Sp Γ mX6_clear 0 0 0 [q_r Γ 25] (KC, S) (q_ev (some (q_i (S 25 1))) (KC, q_up S 25 1 0)) := by
  show q_Go Γ mX6_clear 0 0 0 0 [(0, q_r Γ 25)] [] (KC, S) (q_ev (some (q_i (S 25 1))) (KC, q_up S 25 1 0))
  refine q_aloadn (pc' := 1) 0 dX6_clear_0 rfl rfl ?_
  refine p_getJ (pc' := 4) (kz := 1) dX6_clear_1 rfl fX6_15 kc25 rfl rfl (fun qy_1 eqy_1 rqy_1 => ?_)
  refine q_istoren (pc' := 5) (L' := [(1, q_i qy_1), (0, q_r Γ 25)]) dX6_clear_4 rfl rfl (by decide) rfl ?_
  refine q_aloadn (pc' := 6) 1 dX6_clear_5 rfl rfl ?_
  refine q_iconst (pc' := 7) dX6_clear_6 rfl ?_
  refine p_putJ (pc' := 10) (kz := 1) dX6_clear_7 rfl fX6_15 kc25 rfl rfl (rfl) (rfl) (by first | assumption | omega) ?_
  refine q_iloadn (pc' := 11) 0 dX6_clear_10 rfl rfl ?_
  refine p_iret dX6_clear_11 rfl ?_ ?_
  · assumption
  · rfl
