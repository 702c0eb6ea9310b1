set_option maxRecDepth 20000 in
set_option maxHeartbeats 4000000 in
theorem c_X2_isFlat {Γ : q_G} {S : q_S} {φ : Int → Int} {h : Int}  (FF : s_F S 1 φ) (ok : s_ok φ) (hH : S 14 1 = h) (h0 : 0 ≤ h) (h1 : h < 10) : q_Sp Γ mX2_isFlat 0 0 0 [q_r Γ 14] (KC, S) (q_ev (some (q_i (q_B (s_flat φ h)))) (KC, S)) := by
  show q_Go Γ mX2_isFlat 0 0 0 0 [(0, q_r Γ 14)] [] (KC, S) (q_ev (some (q_i (q_B (s_flat φ h)))) (KC, S))
  refine q_aloadn (pc' := 1) 0 dX2_isFlat_0 rfl rfl ?_
  refine p_getR (pc' := 4) (f := 1) dX2_isFlat_1 rfl fX2_28 kc14 rfl ?_
  refine p_getR (pc' := 7) (f := 6) dX2_isFlat_4 rfl fX2_51 kc1 rfl ?_
  refine q_aloadn (pc' := 8) 0 dX2_isFlat_7 rfl rfl ?_
  refine p_getJ (pc' := 11) (kz := 1) dX2_isFlat_8 rfl fX2_9 kc14 rfl rfl (fun qy_8 eqy_8 rqy_8 => ?_)
  have vqy_8 : qy_8 = h := eqy_8.trans (by first | assumption | (simp [q_up]; done) | (simp [q_up]; assumption))
  rw [vqy_8]
  refine p_iald (pc' := 12) dX2_isFlat_11 rfl kc6 (by first | assumption | omega) (by first | assumption | omega) (by decide) (fun qy_11 eqy_11 rqy_11 => ?_)
  have vqy_11 : qy_11 = φ (5 + (h)) := eqy_11.trans (s_F_w FF (by first | assumption | omega) (by first | assumption | omega))
  rw [vqy_11]
  refine q_aloadn (pc' := 13) 0 dX2_isFlat_12 rfl rfl ?_
  refine p_getR (pc' := 16) (f := 1) dX2_isFlat_13 rfl fX2_28 kc14 rfl ?_
  refine p_getJ (pc' := 19) (kz := 6) dX2_isFlat_16 rfl fX2_54 kc1 rfl rfl (fun qy_16 eqy_16 rqy_16 => ?_)
  have vqy_16 : qy_16 = φ 1 := eqy_16.trans (s_F_6 FF)
  rw [vqy_16]
  have w1 := ok.2.1
  have w5 := ok.2.2.2.2.1 h h0 h1
  refine q_icmp_lt (tgt := 26) (pc' := 22) dX2_isFlat_19 rfl rfl (by first | assumption | omega) (by first | assumption | omega) (fun qc_19 => ?_) (fun qc_19 => ?_)
  · refine q_iconst (pc' := 27) dX2_isFlat_26 rfl ?_
    refine p_zret dX2_isFlat_27 rfl ?_ ?_
    · first | exact q_B_1 (by unfold s_flat; omega) | exact q_B_0 (by unfold s_flat; omega)
    · rfl
  · refine q_iconst (pc' := 23) dX2_isFlat_22 rfl ?_
    refine q_goto (pc' := 27) dX2_isFlat_23 rfl ?_
    refine p_zret dX2_isFlat_27 rfl ?_ ?_
    · first | exact q_B_1 (by unfold s_flat; omega) | exact q_B_0 (by unfold s_flat; omega)
    · rfl
set_option maxRecDepth 20000 in
set_option maxHeartbeats 4000000 in
theorem c_X2_sun {Γ : q_G} {S : q_S} {φ : Int → Int} {h : Int}  (FF : s_F S 1 φ) (ok : s_ok φ) (hH : S 14 1 = h) (h0 : 0 ≤ h) (h1 : h < 10) : q_Sp Γ mX2_sun 0 0 0 [q_r Γ 14] (KC, S) (q_ev (some (q_i (s_sun h))) (KC, S)) := by
  show q_Go Γ mX2_sun 0 0 0 0 [(0, q_r Γ 14)] [] (KC, S) (q_ev (some (q_i (s_sun h))) (KC, S))
  refine q_gets (pc' := 3) dX2_sun_0 rfl (i := 1) (by decide) wX2_57 ?_
  refine q_aloadn (pc' := 4) 0 dX2_sun_3 rfl rfl ?_
  refine p_getJ (pc' := 7) (kz := 1) dX2_sun_4 rfl fX2_9 kc14 rfl rfl (fun qy_4 eqy_4 rqy_4 => ?_)
  have vqy_4 : qy_4 = h := eqy_4.trans (by first | assumption | (simp [q_up]; done) | (simp [q_up]; assumption))
  rw [vqy_4]
  refine p_tald (pc' := 8) dX2_sun_7 rfl (by decide) (by first | assumption | omega) (by show h < 10; omega) (by first | assumption | omega) (fun qy_7 eqy_7 => ?_)
  refine p_iret dX2_sun_8 rfl ?_ ?_
  · exact eqy_7.trans (s_tab1 h0 h1)
  · rfl
set_option maxRecDepth 20000 in
set_option maxHeartbeats 4000000 in
theorem c_X2_ahead {Γ : q_G} {S : q_S} {φ : Int → Int} {h : Int} {a b : Int} (FF : s_F S 1 φ) (ok : s_ok φ) (hH : S 14 1 = h) (h0 : 0 ≤ h) (h1 : h < 10) (a0 : 0 ≤ a) (a1 : a < 6) (b0 : 0 ≤ b) (b1 : b < 6) : q_Sp Γ mX2_ahead 0 0 0 [q_r Γ 14, q_i a, q_i b] (KC, S) (q_ev (some (q_i (s_dist φ a b h))) (KC, S)) := by
  show q_Go Γ mX2_ahead 0 0 0 0 [(0, q_r Γ 14), (1, q_i a), (2, q_i b)] [] (KC, S) (q_ev (some (q_i (s_dist φ a b h))) (KC, S))
  have pa := s_pt_b ok a0 a1
  have pb := s_pt_b ok b0 b1
  refine q_aloadn (pc' := 1) 0 dX2_ahead_0 rfl rfl ?_
  refine p_getR (pc' := 4) (f := 1) dX2_ahead_1 rfl fX2_28 kc14 rfl ?_
  refine p_getR (pc' := 7) (f := 2) dX2_ahead_4 rfl fX2_60 kc1 rfl ?_
  refine q_iloadn (pc' := 8) 2 dX2_ahead_7 rfl rfl ?_
  refine p_iald (pc' := 9) dX2_ahead_8 rfl kc2 (by first | assumption | omega) (by first | assumption | omega) (by decide) (fun qy_8 eqy_8 rqy_8 => ?_)
  have vqy_8 : qy_8 = s_pt φ (b) 0 := eqy_8.trans (s_F_2 FF (by first | assumption | omega) (by first | assumption | omega))
  rw [vqy_8]
  refine q_aloadn (pc' := 10) 0 dX2_ahead_9 rfl rfl ?_
  refine p_getR (pc' := 13) (f := 1) dX2_ahead_10 rfl fX2_28 kc14 rfl ?_
  refine p_getR (pc' := 16) (f := 2) dX2_ahead_13 rfl fX2_60 kc1 rfl ?_
  refine q_iloadn (pc' := 17) 1 dX2_ahead_16 rfl rfl ?_
  refine p_iald (pc' := 18) dX2_ahead_17 rfl kc2 (by first | assumption | omega) (by first | assumption | omega) (by decide) (fun qy_17 eqy_17 rqy_17 => ?_)
  have vqy_17 : qy_17 = s_pt φ (a) 0 := eqy_17.trans (s_F_2 FF (by first | assumption | omega) (by first | assumption | omega))
  rw [vqy_17]
  refine q_isub (pc' := 19) dX2_ahead_18 rfl ?_
  refine q_istoren (pc' := 20) (L' := [(3, q_i ((s_pt φ (b) 0) - (s_pt φ (a) 0))), (0, q_r Γ 14), (1, q_i a), (2, q_i b)]) dX2_ahead_19 rfl rfl (by decide) rfl ?_
  refine q_aloadn (pc' := 21) 1 dX2_ahead_20 rfl rfl ?_
  refine p_getJ (pc' := 24) (kz := 1) dX2_ahead_21 rfl fX2_9 kc14 rfl rfl (fun qy_21 eqy_21 rqy_21 => ?_)
  have vqy_21 : qy_21 = h := eqy_21.trans (by first | assumption | (simp [q_up]; done) | (simp [q_up]; assumption))
  rw [vqy_21]
  refine q_iconst (pc' := 25) dX2_ahead_24 rfl ?_
  refine q_icmp_ge (tgt := 32) (pc' := 28) dX2_ahead_25 rfl rfl (by first | assumption | omega) (by decide) (fun qc_25 => ?_) (fun qc_25 => ?_)
  · refine q_iloadn (pc' := 33) 0 dX2_ahead_32 rfl rfl ?_
    refine q_ineg (pc' := 34) dX2_ahead_33 rfl ?_
    refine p_iret dX2_ahead_34 rfl ?_ ?_
    · unfold s_dist; omega
    · rfl
  · refine q_iloadn (pc' := 29) 0 dX2_ahead_28 rfl rfl ?_
    refine q_goto (pc' := 34) dX2_ahead_29 rfl ?_
    refine p_iret dX2_ahead_34 rfl ?_ ?_
    · unfold s_dist; omega
    · rfl
set_option maxRecDepth 20000 in
set_option maxHeartbeats 4000000 in
theorem c_X2_lossBetween {Γ : q_G} {S : q_S} {φ : Int → Int} {h : Int} {a b : Int} (FF : s_F S 1 φ) (ok : s_ok φ) (hH : S 14 1 = h) (h0 : 0 ≤ h) (h1 : h < 10) (a0 : 0 ≤ a) (a1 : a < 6) (b0 : 0 ≤ b) (b1 : b < 6) : q_Sp Γ mX2_lossBetween 1 0 0 [q_r Γ 14, q_i a, q_i b] (KC, S) (q_ev (some (q_i (s_lss φ a b h))) (KC, S)) := by
  show q_Go Γ mX2_lossBetween 1 0 0 0 [(0, q_r Γ 14), (1, q_i a), (2, q_i b)] [] (KC, S) (q_ev (some (q_i (s_lss φ a b h))) (KC, S))
  have db := s_dist_b ok h a0 a1 b0 b1
  have sb := s_slope_b h0 h1
  refine q_aloadn (pc' := 1) 0 dX2_lossBetween_0 rfl rfl ?_
  refine q_iloadn (pc' := 2) 1 dX2_lossBetween_1 rfl rfl ?_
  refine q_iloadn (pc' := 3) 2 dX2_lossBetween_2 rfl rfl ?_
  refine q_callVI (pc' := 6) dX2_lossBetween_3 rfl lX2_63 iX2_ahead kc14 rfl (c_X2_ahead (by first | assumption | omega) (by first | assumption | omega) (by first | assumption | omega) (by first | assumption | omega) (by first | assumption | omega) (by first | assumption | omega) (by first | assumption | omega) (by first | assumption | omega) (by first | assumption | omega)) rfl rfl (Nat.le_of_ble_eq_true rfl) (Nat.le_of_ble_eq_true rfl) (Nat.le_of_ble_eq_true rfl) ?_
  refine q_istoren (pc' := 7) (L' := [(3, q_i (s_dist φ a b h)), (0, q_r Γ 14), (1, q_i a), (2, q_i b)]) dX2_lossBetween_6 rfl rfl (by decide) rfl ?_
  refine q_gets (pc' := 10) dX2_lossBetween_7 rfl (i := 0) (by decide) wX2_66 ?_
  refine q_aloadn (pc' := 11) 1 dX2_lossBetween_10 rfl rfl ?_
  refine p_getJ (pc' := 14) (kz := 1) dX2_lossBetween_11 rfl fX2_9 kc14 rfl rfl (fun qy_11 eqy_11 rqy_11 => ?_)
  have vqy_11 : qy_11 = h := eqy_11.trans (by first | assumption | (simp [q_up]; done) | (simp [q_up]; assumption))
  rw [vqy_11]
  refine p_tald (pc' := 15) dX2_lossBetween_14 rfl (by decide) (by first | assumption | omega) (by show h < 10; omega) (by first | assumption | omega) (fun qy_14 eqy_14 => ?_)
  have es : qy_14 = s_slope h := eqy_14.trans (s_tab0 h0 h1)
  rw [es]
  refine q_istore (pc' := 17) (L' := [(4, q_i (s_slope h)), (3, q_i (s_dist φ a b h)), (0, q_r Γ 14), (1, q_i a), (2, q_i b)]) dX2_lossBetween_15 rfl (by decide) rfl ?_
  refine q_iloadn (pc' := 18) 1 dX2_lossBetween_17 rfl rfl ?_
  refine q_if_le (tgt := 35) (pc' := 21) dX2_lossBetween_18 rfl rfl (by first | assumption | omega) (fun qc_18 => ?_) (fun qc_18 => ?_)
  · refine q_sipush (pc' := 38) dX2_lossBetween_35 rfl rfl ?_
    refine p_iret dX2_lossBetween_38 rfl ?_ ?_
    · unfold s_lss s_loss; first | (rw [if_pos (by omega)]; done) | (rw [if_neg (by omega)]; done)
    · rfl
  · refine q_iconst (pc' := 22) dX2_lossBetween_21 rfl ?_
    refine q_iloadn (pc' := 23) 1 dX2_lossBetween_22 rfl rfl ?_
    refine q_imul (pc' := 24) dX2_lossBetween_23 rfl ?_
    refine q_iload (pc' := 26) 0 dX2_lossBetween_24 rfl rfl ?_
    refine q_iadd (pc' := 27) dX2_lossBetween_26 rfl ?_
    refine q_iconst (pc' := 28) dX2_lossBetween_27 rfl ?_
    refine q_isub (pc' := 29) dX2_lossBetween_28 rfl ?_
    refine q_iload (pc' := 31) 0 dX2_lossBetween_29 rfl rfl ?_
    refine q_idiv (pc' := 32) dX2_lossBetween_31 rfl (by first | assumption | omega) (by first | assumption | omega) (by first | assumption | omega) (by first | assumption | omega) ?_
    refine q_goto (pc' := 38) dX2_lossBetween_32 rfl ?_
    refine p_iret dX2_lossBetween_38 rfl ?_ ?_
    · unfold s_lss s_loss; first | (rw [if_pos (by omega)]; done) | (rw [if_neg (by omega)]; done)
    · rfl
set_option maxRecDepth 20000 in
set_option maxHeartbeats 4000000 in
theorem c_X2_limitOf {Γ : q_G} {S : q_S} {φ : Int → Int} {h : Int} {r : Int} (FF : s_F S 1 φ) (ok : s_ok φ) (hH : S 14 1 = h) (h0 : 0 ≤ h) (h1 : h < 10) (r0 : 0 ≤ r) (r1 : r < 6) (HL : ∀ b, 0 ≤ b → b < φ 0 → S 15 (6 * r + b) = s_lss φ r b h) : q_Sp Γ mX2_limitOf 1 0 0 [q_r Γ 14, q_i r] (KC, S) (q_ev (some (q_i (s_lim φ r h))) (KC, S)) := by
  show q_Go Γ mX2_limitOf 1 0 0 0 [(0, q_r Γ 14), (1, q_i r)] [] (KC, S) (q_ev (some (q_i (s_lim φ r h))) (KC, S))
  have rw0 := s_rows_b ok
  have pr := (s_pt_b ok r0 r1).2.1
  refine q_aloadn (pc' := 1) 0 dX2_limitOf_0 rfl rfl ?_
  refine q_callVI (pc' := 4) dX2_limitOf_1 rfl lX2_69 iX2_isFlat kc14 rfl (c_X2_isFlat (by first | assumption | omega) (by first | assumption | omega) (by first | assumption | omega) (by first | assumption | omega) (by first | assumption | omega)) rfl rfl (Nat.le_of_ble_eq_true rfl) (Nat.le_of_ble_eq_true rfl) (Nat.le_of_ble_eq_true rfl) ?_
  refine q_if_eq_B (tgt := 9) (pc' := 7) dX2_limitOf_4 rfl rfl (fun qc_4 => ?_) (fun qc_4 => ?_)
  · have hfl : ¬ s_flat φ h := by first | exact qc_4 | omega
    refine q_sipush (pc' := 12) dX2_limitOf_9 rfl rfl ?_
    refine q_istoren (pc' := 13) (L' := [(2, q_i 1000), (0, q_r Γ 14), (1, q_i r)]) dX2_limitOf_12 rfl rfl (by decide) rfl ?_
    refine q_iconst (pc' := 14) dX2_limitOf_13 rfl ?_
    refine q_istoren (pc' := 15) (L' := [(3, q_i 0), (2, q_i 1000), (0, q_r Γ 14), (1, q_i r)]) dX2_limitOf_14 rfl rfl (by decide) rfl ?_
    have qlp_15 : ∀ (qn_15 : Nat) (al k : Int), (0 ≤ k) → (k ≤ φ 0) → (al = s_alN φ r h k.toNat) → ((6 - k).toNat) = qn_15 → q_Go Γ mX2_limitOf 1 0 0 15 [(0, q_r Γ 14), (1, q_i r), (2, q_i al), (3, q_i k)] [] (KC, S) (q_ev (some (q_i (s_lim φ r h))) (KC, S)) := by
      intro qn_15
      induction qn_15 using Nat.strongRecOn with
      | ind qn_15 qih_15 =>
        intro al k qa_15_0 qa_15_1 qa_15_2 qhn_15
        subst qhn_15
        have ab := s_alN_b ok r0 r1 h0 h1 k.toNat (by omega)
        rw [← qa_15_2] at ab
        refine q_iloadn (pc' := 16) 3 dX2_limitOf_15 rfl rfl ?_
        refine q_aloadn (pc' := 17) 0 dX2_limitOf_16 rfl rfl ?_
        refine p_getR (pc' := 20) (f := 1) dX2_limitOf_17 rfl fX2_28 kc14 rfl ?_
        refine p_getJ (pc' := 23) (kz := 0) dX2_limitOf_20 rfl fX2_32 kc1 rfl rfl (fun qy_20 eqy_20 rqy_20 => ?_)
        have vqy_20 : qy_20 = φ 0 := eqy_20.trans (s_F_0 FF)
        rw [vqy_20]
        refine q_icmp_ge (tgt := 75) (pc' := 26) dX2_limitOf_23 rfl rfl (by first | assumption | omega) (by first | assumption | omega) (fun qc_23 => ?_) (fun qc_23 => ?_)
        · refine q_iconst (pc' := 76) dX2_limitOf_75 rfl ?_
          refine q_istoren (pc' := 77) (L' := [(3, q_i 4), (0, q_r Γ 14), (1, q_i r), (2, q_i al)]) dX2_limitOf_76 rfl rfl (by decide) rfl ?_
          have qlp_77 : ∀ (qn_77 : Nat) (u : Int), (0 ≤ u) → (u ≤ 4) → (s_lim φ r h = s_dn (fun t => s_pt φ r 1 * t ≤ al) u.toNat) → (u.toNat) = qn_77 → q_Go Γ mX2_limitOf 1 0 0 77 [(0, q_r Γ 14), (1, q_i r), (2, q_i al), (3, q_i u)] [] (KC, S) (q_ev (some (q_i (s_lim φ r h))) (KC, S)) := by
            intro qn_77
            induction qn_77 using Nat.strongRecOn with
            | ind qn_77 qih_77 =>
              intro u qa_77_0 qa_77_1 qa_77_2 qhn_77
              subst qhn_77
              refine q_iloadn (pc' := 78) 3 dX2_limitOf_77 rfl rfl ?_
              refine q_if_le (tgt := 102) (pc' := 81) dX2_limitOf_78 rfl rfl (by first | assumption | omega) (fun qc_78 => ?_) (fun qc_78 => ?_)
              · refine q_iloadn (pc' := 103) 3 dX2_limitOf_102 rfl rfl ?_
                refine p_iret dX2_limitOf_103 rfl ?_ ?_
                · first | exact (q_if_t hfl).symm | (rw [qa_77_2, show u = 0 by omega]; rfl) | (rw [qa_77_2]; exact (s_dn_t (P := fun t => s_pt φ r 1 * t ≤ al) (by omega) (show s_pt φ r 1 * u ≤ al by omega)).symm)
                · rfl
              · refine q_aloadn (pc' := 82) 0 dX2_limitOf_81 rfl rfl ?_
                refine p_getR (pc' := 85) (f := 1) dX2_limitOf_82 rfl fX2_28 kc14 rfl ?_
                refine p_getR (pc' := 88) (f := 3) dX2_limitOf_85 rfl fX2_45 kc1 rfl ?_
                refine q_iloadn (pc' := 89) 1 dX2_limitOf_88 rfl rfl ?_
                refine p_iald (pc' := 90) dX2_limitOf_89 rfl kc3 (by first | assumption | omega) (by first | assumption | omega) (by decide) (fun qy_89 eqy_89 rqy_89 => ?_)
                have vqy_89 : qy_89 = s_pt φ (r) 1 := eqy_89.trans (s_F_3 FF (by first | assumption | omega) (by first | assumption | omega))
                rw [vqy_89]
                refine q_iloadn (pc' := 91) 3 dX2_limitOf_90 rfl rfl ?_
                have mb := q_mulb pr.1 pr.2 (show 0 ≤ u by omega) (show u ≤ 4 by omega)
                refine q_imul (pc' := 92) dX2_limitOf_91 rfl ?_
                refine q_iloadn (pc' := 93) 2 dX2_limitOf_92 rfl rfl ?_
                refine q_icmp_le (tgt := 102) (pc' := 96) dX2_limitOf_93 rfl rfl (by first | assumption | omega) (by first | assumption | omega) (fun qc_93 => ?_) (fun qc_93 => ?_)
                · refine q_iloadn (pc' := 103) 3 dX2_limitOf_102 rfl rfl ?_
                  refine p_iret dX2_limitOf_103 rfl ?_ ?_
                  · first | exact (q_if_t hfl).symm | (rw [qa_77_2, show u = 0 by omega]; rfl) | (rw [qa_77_2]; exact (s_dn_t (P := fun t => s_pt φ r 1 * t ≤ al) (by omega) (show s_pt φ r 1 * u ≤ al by omega)).symm)
                  · rfl
                · refine q_iinc (pc' := 99) 3 (L' := [(3, q_i (u + (-1))), (0, q_r Γ 14), (1, q_i r), (2, q_i al)]) dX2_limitOf_96 rfl rfl (by decide) rfl ?_
                  refine q_goto (pc' := 77) dX2_limitOf_99 rfl ?_
                  refine p_sub [1, 2, 3, 0] rfl ?_
                  exact qih_77 _ (by omega) _ (by first | assumption | omega) (by first | assumption | omega) (by rw [qa_77_2, s_dn_f (P := fun t => s_pt φ r 1 * t ≤ al) (by omega) (show ¬ s_pt φ r 1 * u ≤ al by omega)]; rfl) rfl
          refine p_sub [1, 2, 3, 0] rfl ?_
          exact qlp_77 _ _ (by first | assumption | omega) (by first | assumption | omega) (by rw [show s_lim φ r h = s_dn (fun t => s_pt φ r 1 * t ≤ s_alN φ r h (φ 0).toNat) 4 from q_if_f hfl, qa_15_2, show k = φ 0 by omega]; rfl) rfl
        · refine q_iloadn (pc' := 27) 3 dX2_limitOf_26 rfl rfl ?_
          refine q_iloadn (pc' := 28) 1 dX2_limitOf_27 rfl rfl ?_
          refine q_icmp_eq (tgt := 69) (pc' := 31) dX2_limitOf_28 rfl rfl (by first | assumption | omega) (by first | assumption | omega) (fun qc_28 => ?_) (fun qc_28 => ?_)
          · refine q_iinc (pc' := 72) 3 (L' := [(3, q_i (k + 1)), (0, q_r Γ 14), (1, q_i r), (2, q_i al)]) dX2_limitOf_69 rfl rfl (by decide) rfl ?_
            refine q_goto (pc' := 15) dX2_limitOf_72 rfl ?_
            refine p_sub [1, 2, 3, 0] rfl ?_
            exact qih_15 _ (by omega) _ _ (by first | assumption | omega) (by first | assumption | omega) (by first | (rw [s_alN_t (by omega) (by omega), ← qa_15_2]; done) | (rw [s_alN_f (by omega) (by omega), ← qa_15_2]; omega)) rfl
          · refine q_aloadn (pc' := 32) 0 dX2_limitOf_31 rfl rfl ?_
            refine p_getR (pc' := 35) (f := 1) dX2_limitOf_32 rfl fX2_28 kc14 rfl ?_
            refine p_getR (pc' := 38) (f := 7) dX2_limitOf_35 rfl fX2_73 kc1 rfl ?_
            refine q_iloadn (pc' := 39) 1 dX2_limitOf_38 rfl rfl ?_
            refine q_iloadn (pc' := 40) 3 dX2_limitOf_39 rfl rfl ?_
            refine q_aloadn (pc' := 41) 0 dX2_limitOf_40 rfl rfl ?_
            refine p_getJ (pc' := 44) (kz := 1) dX2_limitOf_41 rfl fX2_9 kc14 rfl rfl (fun qy_41 eqy_41 rqy_41 => ?_)
            have vqy_41 : qy_41 = h := eqy_41.trans (by first | assumption | (simp [q_up]; done) | (simp [q_up]; assumption))
            rw [vqy_41]
            refine q_callSI (pc' := 47) dX2_limitOf_44 rfl lX2_76 iX0_rightAt (c_X0_rightAt ) rfl rfl (Nat.le_of_ble_eq_true rfl) (Nat.le_of_ble_eq_true rfl) (Nat.le_of_ble_eq_true rfl) ?_
            refine p_iald (pc' := 48) dX2_limitOf_47 rfl kc7 (by first | assumption | omega) (by first | assumption | omega) (by decide) (fun qy_47 eqy_47 rqy_47 => ?_)
            have vqy_47 : qy_47 = s_rt φ r k h := eqy_47.trans (s_F_rt FF (by first | assumption | omega) (by first | assumption | omega) (by first | assumption | omega) (by first | assumption | omega) (by first | assumption | omega) (by first | assumption | omega))
            rw [vqy_47]
            refine q_istore (pc' := 50) (L' := [(4, q_i (s_rt φ r k h)), (0, q_r Γ 14), (1, q_i r), (2, q_i al), (3, q_i k)]) dX2_limitOf_48 rfl (by decide) rfl ?_
            refine q_iloadn (pc' := 51) 3 dX2_limitOf_50 rfl rfl ?_
            refine q_iload (pc' := 53) 0 dX2_limitOf_51 rfl rfl ?_
            refine q_aloadn (pc' := 54) 1 dX2_limitOf_53 rfl rfl ?_
            refine p_getR (pc' := 57) (f := 15) dX2_limitOf_54 rfl fX2_15 kc14 rfl ?_
            refine q_iloadn (pc' := 58) 2 dX2_limitOf_57 rfl rfl ?_
            refine q_bipush (pc' := 60) dX2_limitOf_58 rfl rfl ?_
            refine q_imul (pc' := 61) dX2_limitOf_60 rfl ?_
            refine q_iloadn (pc' := 62) 4 dX2_limitOf_61 rfl rfl ?_
            refine q_iadd (pc' := 63) dX2_limitOf_62 rfl ?_
            refine p_iald (pc' := 64) dX2_limitOf_63 rfl kc15 (by first | assumption | omega) (by first | assumption | omega) (by decide) (fun qy_63 eqy_63 rqy_63 => ?_)
            have el : qy_63 = s_lss φ r k h := by rw [eqy_63, show r * 6 + k = 6 * r + k by omega]; exact HL k (by omega) (by omega)
            have lb := s_lss_b ok r0 r1 (b := k) (by omega) (by omega) h0 h1
            have rb := s_rt_b ok r0 r1 (b := k) (by omega) (by omega) h0 h1
            rw [el]
            refine q_iadd (pc' := 65) dX2_limitOf_64 rfl ?_
            refine p_min (pc' := 68) dX2_limitOf_65 rfl wX2_80 (Nat.le_of_ble_eq_true rfl) (Nat.le_of_ble_eq_true rfl) (by first | assumption | omega) (by first | assumption | omega) (fun qy_65 eqy_65 => ?_)
            refine q_istoren (pc' := 69) (L' := [(2, q_i qy_65), (4, q_i (s_rt φ r k h)), (0, q_r Γ 14), (1, q_i r), (3, q_i k)]) dX2_limitOf_68 rfl rfl (by decide) rfl ?_
            refine q_iinc (pc' := 72) 4 (L' := [(3, q_i (k + 1)), (2, q_i qy_65), (4, q_i (s_rt φ r k h)), (0, q_r Γ 14), (1, q_i r)]) dX2_limitOf_69 rfl rfl (by decide) rfl ?_
            refine q_goto (pc' := 15) dX2_limitOf_72 rfl ?_
            refine p_sub [3, 4, 1, 0] rfl ?_
            exact qih_15 _ (by omega) _ _ (by first | assumption | omega) (by first | assumption | omega) (by first | (rw [s_alN_t (by omega) (by omega), ← qa_15_2]; done) | (rw [s_alN_f (by omega) (by omega), ← qa_15_2]; omega)) rfl
    refine p_sub [2, 3, 1, 0] rfl ?_
    exact qlp_15 _ _ _ (by first | assumption | omega) (by first | assumption | omega) (by rfl) rfl
  · have hfl : s_flat φ h := by first | exact qc_4 | omega
    refine q_iconst (pc' := 8) dX2_limitOf_7 rfl ?_
    refine p_iret dX2_limitOf_8 rfl ?_ ?_
    · first | exact (q_if_t hfl).symm | (rw [qnone_, show u = 0 by omega]; rfl) | (rw [qnone_]; exact (s_dn_t (P := fun t => s_pt φ r 1 * t ≤ al) (by omega) (show s_pt φ r 1 * u ≤ al by omega)).symm)
    · rfl
