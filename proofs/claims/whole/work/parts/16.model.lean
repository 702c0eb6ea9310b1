set_option maxRecDepth 20000 in
set_option maxHeartbeats 4000000 in
theorem c_X9_yieldsBy {Γ : q_G} {S : q_S} (tl : Int → Int) (ok : s_ok (S 151)) (FH : s_FH (S 151) S (50 * S 151 0)) (ht : ∀ r, 0 ≤ r → r < S 151 0 → S 158 r = tl r) (hb : ∀ r, 0 ≤ tl r ∧ tl r < 5) : q_Sp Γ mX9_yieldsBy 1 0 0 [q_r Γ 150] (KC, S) (q_ev (some (q_i (s_tot (S 151) tl))) (KC, S)) := by
  show q_Go Γ mX9_yieldsBy 1 0 0 0 [(0, q_r Γ 150)] [] (KC, S) (q_ev (some (q_i (s_tot (S 151) tl))) (KC, S))
  have rw0 := s_rows_b ok
  refine q_iconst (pc' := 1) dX9_yieldsBy_0 rfl ?_
  refine q_istoren (pc' := 2) (L' := [(1, q_i 0), (0, q_r Γ 150)]) dX9_yieldsBy_1 rfl rfl (by decide) rfl ?_
  refine q_iconst (pc' := 3) dX9_yieldsBy_2 rfl ?_
  refine q_istoren (pc' := 4) (L' := [(2, q_i 0), (1, q_i 0), (0, q_r Γ 150)]) dX9_yieldsBy_3 rfl rfl (by decide) rfl ?_
  have qlp_4 : ∀ (qn_4 : Nat) (sum h : Int), (0 ≤ h) → (h ≤ 10) → (sum = q_sum (fun h => q_sum (s_g1 (S 151) tl h) (S 151 0).toNat) h.toNat) → ((10 - h).toNat) = qn_4 → q_Go Γ mX9_yieldsBy 1 0 0 4 [(0, q_r Γ 150), (1, q_i sum), (2, q_i h)] [] (KC, S) (q_ev (some (q_i (s_tot (S 151) tl))) (KC, S)) := by
    intro qn_4
    induction qn_4 using Nat.strongRecOn with
    | ind qn_4 qih_4 =>
      intro sum h qa_4_0 qa_4_1 qa_4_2 qhn_4
      subst qhn_4
      refine q_iloadn (pc' := 5) 2 dX9_yieldsBy_4 rfl rfl ?_
      refine q_bipush (pc' := 7) dX9_yieldsBy_5 rfl rfl ?_
      refine q_icmp_ge (tgt := 159) (pc' := 10) dX9_yieldsBy_7 rfl rfl (by first | assumption | omega) (by decide) (fun qc_7 => ?_) (fun qc_7 => ?_)
      · refine q_iloadn (pc' := 160) 1 dX9_yieldsBy_159 rfl rfl ?_
        refine p_iret dX9_yieldsBy_160 rfl ?_ ?_
        · rw [qa_4_2, show h = 10 by omega]; rfl
        · rfl
      · refine q_iconst (pc' := 11) dX9_yieldsBy_10 rfl ?_
        refine q_istoren (pc' := 12) (L' := [(3, q_i 0), (0, q_r Γ 150), (1, q_i sum), (2, q_i h)]) dX9_yieldsBy_11 rfl rfl (by decide) rfl ?_
        have qlp_12 : ∀ (qn_12 : Nat) (sum2 r : Int), (0 ≤ r) → (r ≤ S 151 0) → (sum2 = sum + q_sum (s_g1 (S 151) tl h) r.toNat) → ((6 - r).toNat) = qn_12 → q_Go Γ mX9_yieldsBy 1 0 0 12 [(0, q_r Γ 150), (1, q_i sum2), (2, q_i h), (3, q_i r)] [] (KC, S) (q_ev (some (q_i (s_tot (S 151) tl))) (KC, S)) := by
          intro qn_12
          induction qn_12 using Nat.strongRecOn with
          | ind qn_12 qih_12 =>
            intro sum2 r qa_12_0 qa_12_1 qa_12_2 qhn_12
            subst qhn_12
            refine q_iloadn (pc' := 13) 3 dX9_yieldsBy_12 rfl rfl ?_
            refine q_aloadn (pc' := 14) 0 dX9_yieldsBy_13 rfl rfl ?_
            refine p_getR (pc' := 17) (f := 151) dX9_yieldsBy_14 rfl fX9_7 kc150 rfl ?_
            refine q_iconst (pc' := 18) dX9_yieldsBy_17 rfl ?_
            refine p_iald (pc' := 19) dX9_yieldsBy_18 rfl kc151 (by first | assumption | omega) (by first | assumption | omega) (by decide) (fun qy_18 eqy_18 rqy_18 => ?_)
            refine q_icmp_ge (tgt := 153) (pc' := 22) dX9_yieldsBy_19 rfl rfl (by first | assumption | omega) (by first | assumption | omega) (fun qc_19 => ?_) (fun qc_19 => ?_)
            · refine q_iinc (pc' := 156) 2 (L' := [(2, q_i (h + 1)), (0, q_r Γ 150), (1, q_i sum2), (3, q_i r)]) dX9_yieldsBy_153 rfl rfl (by decide) rfl ?_
              refine q_goto (pc' := 4) dX9_yieldsBy_156 rfl ?_
              refine p_sub [1, 2, 0] rfl ?_
              exact qih_4 _ (by omega) _ _ (by first | assumption | omega) (by first | assumption | omega) (by rw [q_sum_s (by omega), ← qa_4_2, qa_12_2, show r = S 151 0 by omega]) rfl
            · refine q_iconst (pc' := 23) dX9_yieldsBy_22 rfl ?_
              refine q_istore (pc' := 25) (L' := [(4, q_i 0), (0, q_r Γ 150), (1, q_i sum2), (2, q_i h), (3, q_i r)]) dX9_yieldsBy_23 rfl (by decide) rfl ?_
              refine q_iconst (pc' := 26) dX9_yieldsBy_25 rfl ?_
              refine q_istore (pc' := 28) (L' := [(5, q_i 0), (4, q_i 0), (0, q_r Γ 150), (1, q_i sum2), (2, q_i h), (3, q_i r)]) dX9_yieldsBy_26 rfl (by decide) rfl ?_
              have qlp_28 : ∀ (qn_28 : Nat) (up a : Int), (0 ≤ a) → (a ≤ S 151 0) → (up = s_mx (S 151) tl r h a.toNat) → ((6 - a).toNat) = qn_28 → q_Go Γ mX9_yieldsBy 1 0 0 28 [(0, q_r Γ 150), (1, q_i sum2), (2, q_i h), (3, q_i r), (4, q_i up), (5, q_i a)] [] (KC, S) (q_ev (some (q_i (s_tot (S 151) tl))) (KC, S)) := by
                intro qn_28
                induction qn_28 using Nat.strongRecOn with
                | ind qn_28 qih_28 =>
                  intro up a qa_28_0 qa_28_1 qa_28_2 qhn_28
                  subst qhn_28
                  have ub := s_mx_b ok hb (r := r) (h := h) (by omega) (by omega) (by omega) (by omega) a.toNat (by omega)
                  rw [← qa_28_2] at ub
                  refine q_iload (pc' := 30) 5 dX9_yieldsBy_28 rfl rfl ?_
                  refine q_aloadn (pc' := 31) 0 dX9_yieldsBy_30 rfl rfl ?_
                  refine p_getR (pc' := 34) (f := 151) dX9_yieldsBy_31 rfl fX9_7 kc150 rfl ?_
                  refine q_iconst (pc' := 35) dX9_yieldsBy_34 rfl ?_
                  refine p_iald (pc' := 36) dX9_yieldsBy_35 rfl kc151 (by first | assumption | omega) (by first | assumption | omega) (by decide) (fun qy_35 eqy_35 rqy_35 => ?_)
                  refine q_icmp_ge (tgt := 93) (pc' := 39) dX9_yieldsBy_36 rfl rfl (by first | assumption | omega) (by first | assumption | omega) (fun qc_36 => ?_) (fun qc_36 => ?_)
                  · refine q_aloadn (pc' := 94) 0 dX9_yieldsBy_93 rfl rfl ?_
                    refine q_iloadn (pc' := 95) 3 dX9_yieldsBy_94 rfl rfl ?_
                    refine q_iconst (pc' := 96) dX9_yieldsBy_95 rfl ?_
                    refine q_callVI (pc' := 99) dX9_yieldsBy_96 rfl lX9_46 iX9_part kc150 rfl (c_X9_part (by first | assumption | omega) (by first | assumption | omega)) rfl rfl (Nat.le_of_ble_eq_true rfl) (Nat.le_of_ble_eq_true rfl) (Nat.le_of_ble_eq_true rfl) ?_
                    refine q_aloadn (pc' := 100) 0 dX9_yieldsBy_99 rfl rfl ?_
                    refine p_getR (pc' := 103) (f := 156) dX9_yieldsBy_100 rfl fX9_25 kc150 rfl ?_
                    refine q_iloadn (pc' := 104) 3 dX9_yieldsBy_103 rfl rfl ?_
                    refine q_aloadn (pc' := 105) 0 dX9_yieldsBy_104 rfl rfl ?_
                    refine p_getR (pc' := 108) (f := 158) dX9_yieldsBy_105 rfl fX9_31 kc150 rfl ?_
                    refine q_iloadn (pc' := 109) 3 dX9_yieldsBy_108 rfl rfl ?_
                    refine p_iald (pc' := 110) dX9_yieldsBy_109 rfl kc158 (by first | assumption | omega) (by first | assumption | omega) (by decide) (fun qy_109 eqy_109 rqy_109 => ?_)
                    have e109 : qy_109 = tl r := by rw [eqy_109]; exact ht r (by omega) (by omega)
                    have br := hb r
                    refine q_iloadn (pc' := 111) 2 dX9_yieldsBy_110 rfl rfl ?_
                    refine q_callSI (pc' := 114) dX9_yieldsBy_111 rfl lX9_187 iX9_lyingAt (c_X9_lyingAt ) rfl rfl (Nat.le_of_ble_eq_true rfl) (Nat.le_of_ble_eq_true rfl) (Nat.le_of_ble_eq_true rfl) ?_
                    refine p_iald (pc' := 115) dX9_yieldsBy_114 rfl kc156 (by first | assumption | omega) (by first | assumption | omega) (by decide) (fun qy_114 eqy_114 rqy_114 => ?_)
                    have e114 : qy_114 = s_ti (S 151) r (tl r) h := by rw [eqy_114, e109]; exact (FH r (tl r) h (by omega) (by omega) (by omega) (by omega) (by omega) (by omega) (by omega)).1
                    have b114 := s_ti_b (φ := S 151) (r := r) (h := h) br.1
                    have pr := s_pt_b ok (r := r) (by omega) (by omega)
                    have mb := q_mulb pr.2.1.1 pr.2.1.2 (show 0 ≤ qy_114 by omega) (show qy_114 ≤ 4 by omega)
                    refine q_imul (pc' := 116) dX9_yieldsBy_115 rfl ?_
                    refine q_iload (pc' := 118) 4 dX9_yieldsBy_116 rfl rfl ?_
                    refine q_isub (pc' := 119) dX9_yieldsBy_118 rfl ?_
                    refine q_istore (pc' := 121) (L' := [(5, q_i (((s_pt (S 151) r 1) * qy_114) - up)), (0, q_r Γ 150), (1, q_i sum2), (2, q_i h), (3, q_i r), (4, q_i up)]) dX9_yieldsBy_119 rfl (by decide) rfl ?_
                    refine q_iloadn (pc' := 122) 2 dX9_yieldsBy_121 rfl rfl ?_
                    refine q_aloadn (pc' := 123) 1 dX9_yieldsBy_122 rfl rfl ?_
                    refine q_iloadn (pc' := 124) 4 dX9_yieldsBy_123 rfl rfl ?_
                    refine q_iconst (pc' := 125) dX9_yieldsBy_124 rfl ?_
                    refine q_callVI (pc' := 128) dX9_yieldsBy_125 rfl lX9_46 iX9_part kc150 rfl (c_X9_part (by first | assumption | omega) (by first | assumption | omega)) rfl rfl (Nat.le_of_ble_eq_true rfl) (Nat.le_of_ble_eq_true rfl) (Nat.le_of_ble_eq_true rfl) ?_
                    refine q_iload (pc' := 130) 0 dX9_yieldsBy_128 rfl rfl ?_
                    refine q_if_le (tgt := 143) (pc' := 133) dX9_yieldsBy_130 rfl rfl (by first | assumption | omega) (fun qc_130 => ?_) (fun qc_130 => ?_)
                    · refine q_iconst (pc' := 144) dX9_yieldsBy_143 rfl ?_
                      refine q_iadd (pc' := 145) dX9_yieldsBy_144 rfl ?_
                      have hmx : up = s_mx (S 151) tl r h (S 151 0).toNat := by rw [qa_28_2, show a = S 151 0 by omega]
                      have hg : ((s_pt (S 151) r 1) + 0) = s_g1 (S 151) tl h r := by unfold s_g1; rw [← e114, ← hmx]; first | (rw [Int.max_eq_right (by omega)]; done) | (rw [Int.max_eq_left (by omega), Int.zero_mul]; done)
                      refine q_iadd (pc' := 146) dX9_yieldsBy_145 rfl ?_
                      refine q_istoren (pc' := 147) (L' := [(1, q_i (sum2 + ((s_pt (S 151) r 1) + 0))), (5, q_i (((s_pt (S 151) r 1) * qy_114) - up)), (0, q_r Γ 150), (2, q_i h), (3, q_i r), (4, q_i up)]) dX9_yieldsBy_146 rfl rfl (by decide) rfl ?_
                      refine q_iinc (pc' := 150) 4 (L' := [(3, q_i (r + 1)), (1, q_i (sum2 + ((s_pt (S 151) r 1) + 0))), (5, q_i (((s_pt (S 151) r 1) * qy_114) - up)), (0, q_r Γ 150), (2, q_i h), (4, q_i up)]) dX9_yieldsBy_147 rfl rfl (by decide) rfl ?_
                      refine q_goto (pc' := 12) dX9_yieldsBy_150 rfl ?_
                      refine p_sub [3, 1, 4, 0] rfl ?_
                      exact qih_12 _ (by omega) _ _ (by first | assumption | omega) (by first | assumption | omega) (by rw [q_sum_s (by omega), ← hg]; omega) rfl
                    · refine q_iload (pc' := 135) 0 dX9_yieldsBy_133 rfl rfl ?_
                      refine q_iloadn (pc' := 136) 3 dX9_yieldsBy_135 rfl rfl ?_
                      refine q_callSI (pc' := 139) dX9_yieldsBy_136 rfl lX9_87 iX9_sunOf (c_X9_sunOf (by first | assumption | omega) (by first | assumption | omega)) rfl rfl (Nat.le_of_ble_eq_true rfl) (Nat.le_of_ble_eq_true rfl) (Nat.le_of_ble_eq_true rfl) ?_
                      refine q_imul (pc' := 140) dX9_yieldsBy_139 rfl ?_
                      refine q_goto (pc' := 144) dX9_yieldsBy_140 rfl ?_
                      refine q_iadd (pc' := 145) dX9_yieldsBy_144 rfl ?_
                      have hmx : up = s_mx (S 151) tl r h (S 151 0).toNat := by rw [qa_28_2, show a = S 151 0 by omega]
                      have hg : ((s_pt (S 151) r 1) + ((((s_pt (S 151) r 1) * qy_114) - up) * (s_sun h))) = s_g1 (S 151) tl h r := by unfold s_g1; rw [← e114, ← hmx]; first | (rw [Int.max_eq_right (by omega)]; done) | (rw [Int.max_eq_left (by omega), Int.zero_mul]; done)
                      refine q_iadd (pc' := 146) dX9_yieldsBy_145 rfl ?_
                      refine p_top (fun qx_146 hqx_146 => ?_)
                      refine q_istoren (pc' := 147) (L' := [(1, q_i qx_146), (5, q_i (((s_pt (S 151) r 1) * qy_114) - up)), (0, q_r Γ 150), (2, q_i h), (3, q_i r), (4, q_i up)]) dX9_yieldsBy_146 rfl rfl (by decide) rfl ?_
                      refine q_iinc (pc' := 150) 4 (L' := [(3, q_i (r + 1)), (1, q_i qx_146), (5, q_i (((s_pt (S 151) r 1) * qy_114) - up)), (0, q_r Γ 150), (2, q_i h), (4, q_i up)]) dX9_yieldsBy_147 rfl rfl (by decide) rfl ?_
                      refine q_goto (pc' := 12) dX9_yieldsBy_150 rfl ?_
                      refine p_sub [3, 1, 4, 0] rfl ?_
                      exact qih_12 _ (by omega) _ _ (by first | assumption | omega) (by first | assumption | omega) (by rw [q_sum_s (by omega), ← hg]; omega) rfl
                  · refine q_aloadn (pc' := 40) 0 dX9_yieldsBy_39 rfl rfl ?_
                    refine p_getR (pc' := 43) (f := 157) dX9_yieldsBy_40 rfl fX9_28 kc150 rfl ?_
                    refine q_iload (pc' := 45) 5 dX9_yieldsBy_43 rfl rfl ?_
                    refine q_aloadn (pc' := 46) 0 dX9_yieldsBy_45 rfl rfl ?_
                    refine p_getR (pc' := 49) (f := 156) dX9_yieldsBy_46 rfl fX9_25 kc150 rfl ?_
                    refine q_iload (pc' := 51) 5 dX9_yieldsBy_49 rfl rfl ?_
                    refine q_aloadn (pc' := 52) 0 dX9_yieldsBy_51 rfl rfl ?_
                    refine p_getR (pc' := 55) (f := 158) dX9_yieldsBy_52 rfl fX9_31 kc150 rfl ?_
                    refine q_iload (pc' := 57) 5 dX9_yieldsBy_55 rfl rfl ?_
                    refine p_iald (pc' := 58) dX9_yieldsBy_57 rfl kc158 (by first | assumption | omega) (by first | assumption | omega) (by decide) (fun qy_57 eqy_57 rqy_57 => ?_)
                    have e57 : qy_57 = tl a := by rw [eqy_57]; exact ht a (by omega) (by omega)
                    have ba := hb a
                    refine q_iloadn (pc' := 59) 2 dX9_yieldsBy_58 rfl rfl ?_
                    refine q_callSI (pc' := 62) dX9_yieldsBy_59 rfl lX9_187 iX9_lyingAt (c_X9_lyingAt ) rfl rfl (Nat.le_of_ble_eq_true rfl) (Nat.le_of_ble_eq_true rfl) (Nat.le_of_ble_eq_true rfl) ?_
                    refine p_iald (pc' := 63) dX9_yieldsBy_62 rfl kc156 (by first | assumption | omega) (by first | assumption | omega) (by decide) (fun qy_62 eqy_62 rqy_62 => ?_)
                    have e62 : qy_62 = s_ti (S 151) a (tl a) h := by rw [eqy_62, e57]; exact (FH a (tl a) h (by omega) (by omega) (by omega) (by omega) (by omega) (by omega) (by omega)).1
                    have b62 := s_ti_b (φ := S 151) (r := a) (h := h) ba.1
                    refine q_iloadn (pc' := 64) 3 dX9_yieldsBy_63 rfl rfl ?_
                    refine q_iloadn (pc' := 65) 2 dX9_yieldsBy_64 rfl rfl ?_
                    refine q_callSI (pc' := 68) dX9_yieldsBy_65 rfl lX9_190 iX9_heightAt (c_X9_heightAt ) rfl rfl (Nat.le_of_ble_eq_true rfl) (Nat.le_of_ble_eq_true rfl) (Nat.le_of_ble_eq_true rfl) ?_
                    refine p_iald (pc' := 69) dX9_yieldsBy_68 rfl kc157 (by first | assumption | omega) (by first | assumption | omega) (by decide) (fun qy_68 eqy_68 rqy_68 => ?_)
                    have e68 : qy_68 = s_hx (S 151) a (s_ti (S 151) a (tl a) h) r h := by rw [eqy_68, e62]; exact (FH a (s_ti (S 151) a (tl a) h) h (by omega) (by omega) (by omega) (by omega) (by omega) (by omega) (by omega)).2 r (by omega) (by omega)
                    refine q_istore (pc' := 71) (L' := [(6, q_i qy_68), (0, q_r Γ 150), (1, q_i sum2), (2, q_i h), (3, q_i r), (4, q_i up), (5, q_i a)]) dX9_yieldsBy_69 rfl (by decide) rfl ?_
                    refine q_iload (pc' := 73) 0 dX9_yieldsBy_71 rfl rfl ?_
                    refine q_iload (pc' := 75) 5 dX9_yieldsBy_73 rfl rfl ?_
                    refine q_icmp_le (tgt := 83) (pc' := 78) dX9_yieldsBy_75 rfl rfl (by first | assumption | omega) (by first | assumption | omega) (fun qc_75 => ?_) (fun qc_75 => ?_)
                    · refine q_iload (pc' := 85) 5 dX9_yieldsBy_83 rfl rfl ?_
                      refine q_istore (pc' := 87) (L' := [(4, q_i up), (6, q_i qy_68), (0, q_r Γ 150), (1, q_i sum2), (2, q_i h), (3, q_i r), (5, q_i a)]) dX9_yieldsBy_85 rfl (by decide) rfl ?_
                      refine q_iinc (pc' := 90) 6 (L' := [(5, q_i (a + 1)), (4, q_i up), (6, q_i qy_68), (0, q_r Γ 150), (1, q_i sum2), (2, q_i h), (3, q_i r)]) dX9_yieldsBy_87 rfl rfl (by decide) rfl ?_
                      refine q_goto (pc' := 28) dX9_yieldsBy_90 rfl ?_
                      refine p_sub [3, 4, 5, 6, 1, 0] rfl ?_
                      exact qih_28 _ (by omega) _ _ (by first | assumption | omega) (by first | assumption | omega) (by rw [s_mx_s (by omega), ← qa_28_2, ← e68]; omega) rfl
                    · refine q_iload (pc' := 80) 0 dX9_yieldsBy_78 rfl rfl ?_
                      refine q_goto (pc' := 85) dX9_yieldsBy_80 rfl ?_
                      refine q_istore (pc' := 87) (L' := [(4, q_i qy_68), (6, q_i qy_68), (0, q_r Γ 150), (1, q_i sum2), (2, q_i h), (3, q_i r), (5, q_i a)]) dX9_yieldsBy_85 rfl (by decide) rfl ?_
                      refine q_iinc (pc' := 90) 6 (L' := [(5, q_i (a + 1)), (4, q_i qy_68), (6, q_i qy_68), (0, q_r Γ 150), (1, q_i sum2), (2, q_i h), (3, q_i r)]) dX9_yieldsBy_87 rfl rfl (by decide) rfl ?_
                      refine q_goto (pc' := 28) dX9_yieldsBy_90 rfl ?_
                      refine p_sub [3, 4, 5, 6, 1, 0] rfl ?_
                      exact qih_28 _ (by omega) _ _ (by first | assumption | omega) (by first | assumption | omega) (by rw [s_mx_s (by omega), ← qa_28_2, ← e68]; omega) rfl
              refine p_sub [2, 3, 4, 5, 1, 0] rfl ?_
              exact qlp_28 _ _ _ (by first | assumption | omega) (by first | assumption | omega) (by rfl) rfl
        refine p_sub [1, 2, 3, 0] rfl ?_
        exact qlp_12 _ _ _ (by first | assumption | omega) (by first | assumption | omega) (by simp [q_sum]) rfl
  refine p_sub [2, 1, 0] rfl ?_
  exact qlp_4 _ _ _ (by first | assumption | omega) (by first | assumption | omega) (by rfl) rfl
set_option maxRecDepth 20000 in
set_option maxHeartbeats 4000000 in
theorem c_X9_bestTilts {Γ : q_G} {S : q_S} {w : Int} (ok : s_ok (S 151)) (wr : q_rg w) : q_Sp Γ mX9_bestTilts 5 0 0 [q_r Γ 150, q_i w] (KC, S) (fun v wq => v = some (q_i (s_best (S 151) w)) ∧ ∃ S2, wq = (KC, S2) ∧ s_off S S2 (fun a => a = 156 ∨ a = 157 ∨ a = 158)) := by
  show q_Go Γ mX9_bestTilts 5 0 0 0 [(0, q_r Γ 150), (1, q_i w)] [] (KC, S) (fun v wq => v = some (q_i (s_best (S 151) w)) ∧ ∃ S2, wq = (KC, S2) ∧ s_off S S2 (fun a => a = 156 ∨ a = 157 ∨ a = 158))
  have rw0 := s_rows_b ok
  refine q_aloadn (pc' := 1) 0 dX9_bestTilts_0 rfl rfl ?_
  refine p_getR (pc' := 4) (f := 151) dX9_bestTilts_1 rfl fX9_7 kc150 rfl ?_
  refine q_iconst (pc' := 5) dX9_bestTilts_4 rfl ?_
  refine p_iald (pc' := 6) dX9_bestTilts_5 rfl kc151 (by first | assumption | omega) (by first | assumption | omega) (by decide) (fun qy_5 eqy_5 rqy_5 => ?_)
  refine q_istoren (pc' := 7) (L' := [(2, q_i qy_5), (0, q_r Γ 150), (1, q_i w)]) dX9_bestTilts_6 rfl rfl (by decide) rfl ?_
  have qlp_27 : (w = 9 ∨ (0 ≤ w ∧ w < S 151 0)) → q_Go Γ mX9_bestTilts 5 0 0 27 [(0, q_r Γ 150), (1, q_i w), (2, q_i qy_5)] [] (KC, S) (fun v wq => v = some (q_i (s_best (S 151) w)) ∧ ∃ S2, wq = (KC, S2) ∧ s_off S S2 (fun a => a = 156 ∨ a = 157 ∨ a = 158)) := by
    intro qa_27_0
    refine q_aloadn (pc' := 28) 0 dX9_bestTilts_27 rfl rfl ?_
    refine q_callVQ (pc' := 31) dX9_bestTilts_28 rfl lX9_193 iX9_findHeights kc150 rfl (c_X9_findHeights (by first | assumption | omega)) rfl rfl (Nat.le_of_ble_eq_true rfl) (Nat.le_of_ble_eq_true rfl) (Nat.le_of_ble_eq_true rfl) (fun vq wq hq => ?_)
    obtain ⟨rfl, S28, rfl, of28, fh28⟩ := hq
    show q_Go Γ mX9_bestTilts 5 0 0 31 [(0, q_r Γ 150), (1, q_i w), (2, q_i qy_5)] [] (KC, S28) (fun v wq => v = some (q_i (s_best (S 151) w)) ∧ ∃ S2, wq = (KC, S2) ∧ s_off S S2 (fun a => a = 156 ∨ a = 157 ∨ a = 158))
    have e28 : S28 151 = S 151 := of28 151 (by simp)
    have of3 : s_off S S28 (fun a => a = 156 ∨ a = 157 ∨ a = 158) := fun a ha => of28 a (fun q => ha (q.elim Or.inl (fun q => Or.inr (Or.inl q))))
    have p5b := s_p5_b (k := S 151 0) (by omega) (by omega)
    refine q_iconst (pc' := 32) dX9_bestTilts_31 rfl ?_
    refine q_istoren (pc' := 33) (L' := [(3, q_i 1), (0, q_r Γ 150), (1, q_i w), (2, q_i qy_5)]) dX9_bestTilts_32 rfl rfl (by decide) rfl ?_
    refine q_iconst (pc' := 34) dX9_bestTilts_33 rfl ?_
    refine q_istore (pc' := 36) (L' := [(4, q_i 0), (3, q_i 1), (0, q_r Γ 150), (1, q_i w), (2, q_i qy_5)]) dX9_bestTilts_34 rfl (by decide) rfl ?_
    have qlp_36 : ∀ (qn_36 : Nat) (z k : Int), (0 ≤ k) → (k ≤ S 151 0) → (z = s_p5 k.toNat) → ((6 - k).toNat) = qn_36 → q_Go Γ mX9_bestTilts 5 0 0 36 [(0, q_r Γ 150), (1, q_i w), (2, q_i qy_5), (3, q_i z), (4, q_i k)] [] (KC, S28) (fun v wq => v = some (q_i (s_best (S 151) w)) ∧ ∃ S2, wq = (KC, S2) ∧ s_off S S2 (fun a => a = 156 ∨ a = 157 ∨ a = 158)) := by
      intro qn_36
      induction qn_36 using Nat.strongRecOn with
      | ind qn_36 qih_36 =>
        intro z k qa_36_0 qa_36_1 qa_36_2 qhn_36
        subst qhn_36
        have zb := s_p5_b (k := k) (by omega) (by omega)
        refine q_iload (pc' := 38) 4 dX9_bestTilts_36 rfl rfl ?_
        refine q_iloadn (pc' := 39) 2 dX9_bestTilts_38 rfl rfl ?_
        refine q_icmp_ge (tgt := 52) (pc' := 42) dX9_bestTilts_39 rfl rfl (by first | assumption | omega) (by first | assumption | omega) (fun qc_39 => ?_) (fun qc_39 => ?_)
        · refine q_iconst (pc' := 53) dX9_bestTilts_52 rfl ?_
          refine q_istore (pc' := 55) (L' := [(4, q_i 0), (0, q_r Γ 150), (1, q_i w), (2, q_i qy_5), (3, q_i z)]) dX9_bestTilts_53 rfl (by decide) rfl ?_
          refine q_iconst (pc' := 56) dX9_bestTilts_55 rfl ?_
          refine q_istore (pc' := 58) (L' := [(5, q_i (-1)), (4, q_i 0), (0, q_r Γ 150), (1, q_i w), (2, q_i qy_5), (3, q_i z)]) dX9_bestTilts_56 rfl (by decide) rfl ?_
          refine q_iconst (pc' := 59) dX9_bestTilts_58 rfl ?_
          refine q_istore (pc' := 61) (L' := [(6, q_i 0), (5, q_i (-1)), (4, q_i 0), (0, q_r Γ 150), (1, q_i w), (2, q_i qy_5), (3, q_i z)]) dX9_bestTilts_59 rfl (by decide) rfl ?_
          have hz : z = s_p5 (S 151 0).toNat := by rw [qa_36_2, show k = S 151 0 by omega]
          have qlp_61 : ∀ (qn_61 : Nat) (S6 : q_S) (best most way : Int), (0 ≤ way) → (way ≤ z) → (best = (s_bwN (S 151) way.toNat).1) → (most = (s_bwN (S 151) way.toNat).2) → (s_off S S6 (fun a => a = 156 ∨ a = 157 ∨ a = 158)) → (s_FH (S 151) S6 (50 * S 151 0)) → ((z - way).toNat) = qn_61 → q_Go Γ mX9_bestTilts 5 0 0 61 [(0, q_r Γ 150), (1, q_i w), (2, q_i qy_5), (3, q_i z), (4, q_i best), (5, q_i most), (6, q_i way)] [] (KC, S6) (fun v wq => v = some (q_i (s_best (S 151) w)) ∧ ∃ S2, wq = (KC, S2) ∧ s_off S S2 (fun a => a = 156 ∨ a = 157 ∨ a = 158)) := by
            intro qn_61
            induction qn_61 using Nat.strongRecOn with
            | ind qn_61 qih_61 =>
              intro S6 best most way qa_61_0 qa_61_1 qa_61_2 qa_61_3 qa_61_4 qa_61_5 qhn_61
              subst qhn_61
              have bb := s_bwN_b ok way.toNat
              rw [← qa_61_2, ← qa_61_3] at bb
              refine q_iload (pc' := 63) 6 dX9_bestTilts_61 rfl rfl ?_
              refine q_iloadn (pc' := 64) 3 dX9_bestTilts_63 rfl rfl ?_
              refine q_icmp_ge (tgt := 148) (pc' := 67) dX9_bestTilts_64 rfl rfl (by first | assumption | omega) (by first | assumption | omega) (fun qc_64 => ?_) (fun qc_64 => ?_)
              · have ew : way = s_p5 (S 151 0).toNat := by omega
                have hm : most = (s_bwN (S 151) (s_p5 (S 151 0).toNat).toNat).2 := by rw [← ew]; exact qa_61_3
                have hbst : best = (s_bwN (S 151) (s_p5 (S 151 0).toNat).toNat).1 := by rw [← ew]; exact qa_61_2
                refine q_iloadn (pc' := 149) 2 dX9_bestTilts_148 rfl rfl ?_
                refine q_iconst (pc' := 150) dX9_bestTilts_149 rfl ?_
                refine q_isub (pc' := 151) dX9_bestTilts_150 rfl ?_
                refine q_istore (pc' := 153) (L' := [(6, q_i (qy_5 - 1)), (0, q_r Γ 150), (1, q_i w), (2, q_i qy_5), (3, q_i z), (4, q_i best), (5, q_i most)]) dX9_bestTilts_151 rfl (by decide) rfl ?_
                have qlp_153 : ∀ (qn_153 : Nat) (bb r : Int), (-1 ≤ r) → (r ≤ S 151 0 - 1) → ((0 ≤ bb ∧ bb ≤ 15625) ∧ bb = best / s_p5 (S 151 0 - 1 - r).toNat) → (w = 9 ∨ w ≤ r) → ((r + 1).toNat) = qn_153 → q_Go Γ mX9_bestTilts 5 0 0 153 [(0, q_r Γ 150), (1, q_i w), (2, q_i qy_5), (4, q_i bb), (5, q_i most), (6, q_i r)] [] (KC, S6) (fun v wq => v = some (q_i (s_best (S 151) w)) ∧ ∃ S2, wq = (KC, S2) ∧ s_off S S2 (fun a => a = 156 ∨ a = 157 ∨ a = 158)) := by
                  intro qn_153
                  induction qn_153 using Nat.strongRecOn with
                  | ind qn_153 qih_153 =>
                    intro bb r qa_153_0 qa_153_1 qa_153_2 qa_153_3 qhn_153
                    subst qhn_153
                    refine q_iload (pc' := 155) 5 dX9_bestTilts_153 rfl rfl ?_
                    refine q_iloadn (pc' := 156) 1 dX9_bestTilts_155 rfl rfl ?_
                    refine q_icmp_le (tgt := 177) (pc' := 159) dX9_bestTilts_156 rfl rfl (by first | assumption | omega) (by first | assumption | omega) (fun qc_156 => ?_) (fun qc_156 => ?_)
                    · refine q_iloadn (pc' := 178) 1 dX9_bestTilts_177 rfl rfl ?_
                      refine q_bipush (pc' := 180) dX9_bestTilts_178 rfl rfl ?_
                      refine q_icmp_ne (tgt := 188) (pc' := 183) dX9_bestTilts_180 rfl rfl (by first | assumption | omega) (by decide) (fun qc_180 => ?_) (fun qc_180 => ?_)
                      · refine q_iload (pc' := 190) 3 dX9_bestTilts_188 rfl rfl ?_
                        refine q_iconst (pc' := 191) dX9_bestTilts_190 rfl ?_
                        refine q_irem (pc' := 192) dX9_bestTilts_191 rfl (by first | assumption | omega) (by first | assumption | omega) (by first | assumption | omega) (by first | assumption | omega) ?_
                        first | exact q_iret dX9_bestTilts_192 rfl rfl ⟨congrArg (fun z => some (q_i z)) (s_best_e (by omega)).symm, _, rfl, s_off_r⟩ | exact q_iret dX9_bestTilts_192 rfl rfl ⟨congrArg (fun z => some (q_i z)) (hm.trans (s_best_9 (by omega)).symm), _, rfl, by assumption⟩ | exact q_iret dX9_bestTilts_192 rfl rfl ⟨congrArg (fun z => some (q_i z)) (by rw [s_best_w (by omega) (by omega), ← hbst, qa_153_2.2, show r = w by omega]; rfl), _, rfl, by assumption⟩
                      · refine q_iload (pc' := 185) 4 dX9_bestTilts_183 rfl rfl ?_
                        refine q_goto (pc' := 192) dX9_bestTilts_185 rfl ?_
                        first | exact q_iret dX9_bestTilts_192 rfl rfl ⟨congrArg (fun z => some (q_i z)) (s_best_e (by omega)).symm, _, rfl, s_off_r⟩ | exact q_iret dX9_bestTilts_192 rfl rfl ⟨congrArg (fun z => some (q_i z)) (hm.trans (s_best_9 (by omega)).symm), _, rfl, by assumption⟩ | exact q_iret dX9_bestTilts_192 rfl rfl ⟨congrArg (fun z => some (q_i z)) (by rw [s_best_w (by omega) (by omega), ← hbst, qa_153_2.2, show r = w by omega]; rfl), _, rfl, by assumption⟩
                    · refine q_iloadn (pc' := 160) 1 dX9_bestTilts_159 rfl rfl ?_
                      refine q_bipush (pc' := 162) dX9_bestTilts_160 rfl rfl ?_
                      refine q_icmp_eq (tgt := 177) (pc' := 165) dX9_bestTilts_162 rfl rfl (by first | assumption | omega) (by decide) (fun qc_162 => ?_) (fun qc_162 => ?_)
                      · refine q_iloadn (pc' := 178) 1 dX9_bestTilts_177 rfl rfl ?_
                        refine q_bipush (pc' := 180) dX9_bestTilts_178 rfl rfl ?_
                        refine q_icmp_ne (tgt := 188) (pc' := 183) dX9_bestTilts_180 rfl rfl (by first | assumption | omega) (by decide) (fun qc_180_1 => ?_) (fun qc_180_1 => ?_)
                        · refine q_iload (pc' := 190) 3 dX9_bestTilts_188 rfl rfl ?_
                          refine q_iconst (pc' := 191) dX9_bestTilts_190 rfl ?_
                          refine q_irem (pc' := 192) dX9_bestTilts_191 rfl (by first | assumption | omega) (by first | assumption | omega) (by first | assumption | omega) (by first | assumption | omega) ?_
                          first | exact q_iret dX9_bestTilts_192 rfl rfl ⟨congrArg (fun z => some (q_i z)) (s_best_e (by omega)).symm, _, rfl, s_off_r⟩ | exact q_iret dX9_bestTilts_192 rfl rfl ⟨congrArg (fun z => some (q_i z)) (hm.trans (s_best_9 (by omega)).symm), _, rfl, by assumption⟩ | exact q_iret dX9_bestTilts_192 rfl rfl ⟨congrArg (fun z => some (q_i z)) (by rw [s_best_w (by omega) (by omega), ← hbst, qa_153_2.2, show r = w by omega]; rfl), _, rfl, by assumption⟩
                        · refine q_iload (pc' := 185) 4 dX9_bestTilts_183 rfl rfl ?_
                          refine q_goto (pc' := 192) dX9_bestTilts_185 rfl ?_
                          first | exact q_iret dX9_bestTilts_192 rfl rfl ⟨congrArg (fun z => some (q_i z)) (s_best_e (by omega)).symm, _, rfl, s_off_r⟩ | exact q_iret dX9_bestTilts_192 rfl rfl ⟨congrArg (fun z => some (q_i z)) (hm.trans (s_best_9 (by omega)).symm), _, rfl, by assumption⟩ | exact q_iret dX9_bestTilts_192 rfl rfl ⟨congrArg (fun z => some (q_i z)) (by rw [s_best_w (by omega) (by omega), ← hbst, qa_153_2.2, show r = w by omega]; rfl), _, rfl, by assumption⟩
                      · refine q_iload (pc' := 167) 3 dX9_bestTilts_165 rfl rfl ?_
                        refine q_iconst (pc' := 168) dX9_bestTilts_167 rfl ?_
                        refine q_idiv (pc' := 169) dX9_bestTilts_168 rfl (by first | assumption | omega) (by first | assumption | omega) (by first | assumption | omega) (by first | assumption | omega) ?_
                        refine q_istore (pc' := 171) (L' := [(4, q_i (bb / 5)), (0, q_r Γ 150), (1, q_i w), (2, q_i qy_5), (5, q_i most), (6, q_i r)]) dX9_bestTilts_169 rfl (by decide) rfl ?_
                        refine q_iinc (pc' := 174) 5 (L' := [(6, q_i (r + (-1))), (4, q_i (bb / 5)), (0, q_r Γ 150), (1, q_i w), (2, q_i qy_5), (5, q_i most)]) dX9_bestTilts_171 rfl rfl (by decide) rfl ?_
                        refine q_goto (pc' := 153) dX9_bestTilts_174 rfl ?_
                        refine p_sub [2, 3, 4, 1, 5, 0] rfl ?_
                        exact qih_153 _ (by omega) _ _ (by first | assumption | omega) (by first | assumption | omega) (by exact ⟨by omega, by rw [qa_153_2.2, s_div5 (by omega), show S 151 0 - 1 - r + 1 = S 151 0 - 1 - (r + (-1)) by omega]⟩) (by first | assumption | omega) rfl
                refine p_sub [1, 2, 3, 5, 6, 0] rfl ?_
                exact qlp_153 _ _ _ (by first | assumption | omega) (by first | assumption | omega) (by exact ⟨by omega, by rw [show (S 151 0 - 1 - (qy_5 - 1)).toNat = 0 by omega]; exact (Int.ediv_one _).symm⟩) (by first | assumption | omega) rfl
              · refine q_iload (pc' := 69) 6 dX9_bestTilts_67 rfl rfl ?_
                refine q_istore (pc' := 71) (L' := [(7, q_i way), (0, q_r Γ 150), (1, q_i w), (2, q_i qy_5), (3, q_i z), (4, q_i best), (5, q_i most), (6, q_i way)]) dX9_bestTilts_69 rfl (by decide) rfl ?_
                refine q_iloadn (pc' := 72) 3 dX9_bestTilts_71 rfl rfl ?_
                refine q_iconst (pc' := 73) dX9_bestTilts_72 rfl ?_
                refine q_isub (pc' := 74) dX9_bestTilts_73 rfl ?_
                refine q_istore (pc' := 76) (L' := [(8, q_i (qy_5 - 1)), (7, q_i way), (0, q_r Γ 150), (1, q_i w), (2, q_i qy_5), (3, q_i z), (4, q_i best), (5, q_i most), (6, q_i way)]) dX9_bestTilts_74 rfl (by decide) rfl ?_
                have qlp_76 : ∀ (qn_76 : Nat) (S7 : q_S) (rest r : Int), (-1 ≤ r) → (r ≤ S 151 0 - 1) → ((0 ≤ rest ∧ rest ≤ way) ∧ rest = way / s_p5 (S 151 0 - 1 - r).toNat) → (s_off S S7 (fun a => a = 156 ∨ a = 157 ∨ a = 158)) → (s_FH (S 151) S7 (50 * S 151 0)) → (∀ q, r < q → q < S 151 0 → S7 158 q = s_dg (S 151 0) way q) → ((r + 1).toNat) = qn_76 → q_Go Γ mX9_bestTilts 5 0 0 76 [(0, q_r Γ 150), (1, q_i w), (2, q_i qy_5), (3, q_i z), (4, q_i best), (5, q_i most), (6, q_i way), (7, q_i rest), (8, q_i r)] [] (KC, S7) (fun v wq => v = some (q_i (s_best (S 151) w)) ∧ ∃ S2, wq = (KC, S2) ∧ s_off S S2 (fun a => a = 156 ∨ a = 157 ∨ a = 158)) := by
                  intro qn_76
                  induction qn_76 using Nat.strongRecOn with
                  | ind qn_76 qih_76 =>
                    intro S7 rest r qa_76_0 qa_76_1 qa_76_2 qa_76_3 qa_76_4 qa_76_5 qhn_76
                    subst qhn_76
                    refine q_iload (pc' := 78) 8 dX9_bestTilts_76 rfl rfl ?_
                    refine q_if_lt (tgt := 104) (pc' := 81) dX9_bestTilts_78 rfl rfl (by first | assumption | omega) (fun qc_78 => ?_) (fun qc_78 => ?_)
                    · refine q_aloadn (pc' := 105) 0 dX9_bestTilts_104 rfl rfl ?_
                      have e151 : S7 151 = S 151 := qa_76_3 151 (by simp)
                      have ok7 : s_ok (S7 151) := by rw [e151]; exact ok
                      have tb := s_tot_b ok (tl := s_dg (S 151 0) way) (fun r => s_dg_b)
                      refine q_callVI (pc' := 108) dX9_bestTilts_105 rfl lX9_196 iX9_yieldsBy kc150 rfl (c_X9_yieldsBy (s_dg (S 151 0) way) ok7 (by rw [e151]; exact qa_76_4) (by rw [e151]; intro q x y; exact qa_76_5 q (by omega) (by omega)) (fun r => s_dg_b)) rfl rfl (Nat.le_of_ble_eq_true rfl) (Nat.le_of_ble_eq_true rfl) (Nat.le_of_ble_eq_true rfl) ?_
                      rw [show s_tot (S7 151) (s_dg (S 151 0) way) = s_tot (S 151) (s_dg (S 151 0) way) by rw [e151]]
                      refine q_istore (pc' := 110) (L' := [(8, q_i (s_tot (S 151) (s_dg (S 151 0) way))), (0, q_r Γ 150), (1, q_i w), (2, q_i qy_5), (3, q_i z), (4, q_i best), (5, q_i most), (6, q_i way), (7, q_i rest)]) dX9_bestTilts_108 rfl (by decide) rfl ?_
                      refine q_iload (pc' := 112) 0 dX9_bestTilts_110 rfl rfl ?_
                      refine q_iload (pc' := 114) 6 dX9_bestTilts_112 rfl rfl ?_
                      refine q_icmp_le (tgt := 122) (pc' := 117) dX9_bestTilts_114 rfl rfl (by first | assumption | omega) (by first | assumption | omega) (fun qc_114 => ?_) (fun qc_114 => ?_)
                      · refine q_iload (pc' := 124) 5 dX9_bestTilts_122 rfl rfl ?_
                        refine q_istore (pc' := 126) (L' := [(4, q_i best), (8, q_i (s_tot (S 151) (s_dg (S 151 0) way))), (0, q_r Γ 150), (1, q_i w), (2, q_i qy_5), (3, q_i z), (5, q_i most), (6, q_i way), (7, q_i rest)]) dX9_bestTilts_124 rfl (by decide) rfl ?_
                        refine q_iload (pc' := 128) 1 dX9_bestTilts_126 rfl rfl ?_
                        refine q_iload (pc' := 130) 6 dX9_bestTilts_128 rfl rfl ?_
                        refine q_icmp_le (tgt := 138) (pc' := 133) dX9_bestTilts_130 rfl rfl (by first | assumption | omega) (by first | assumption | omega) (fun qc_130 => ?_) (fun qc_130 => ?_)
                        · refine q_iload (pc' := 140) 6 dX9_bestTilts_138 rfl rfl ?_
                          refine q_istore (pc' := 142) (L' := [(5, q_i most), (4, q_i best), (8, q_i (s_tot (S 151) (s_dg (S 151 0) way))), (0, q_r Γ 150), (1, q_i w), (2, q_i qy_5), (3, q_i z), (6, q_i way), (7, q_i rest)]) dX9_bestTilts_140 rfl (by decide) rfl ?_
                          refine q_iinc (pc' := 145) 7 (L' := [(6, q_i (way + 1)), (5, q_i most), (4, q_i best), (8, q_i (s_tot (S 151) (s_dg (S 151 0) way))), (0, q_r Γ 150), (1, q_i w), (2, q_i qy_5), (3, q_i z), (7, q_i rest)]) dX9_bestTilts_142 rfl rfl (by decide) rfl ?_
                          refine q_goto (pc' := 61) dX9_bestTilts_145 rfl ?_
                          refine p_sub [4, 5, 6, 7, 2, 1, 0] rfl ?_
                          exact qih_61 _ (by omega) _ _ _ _ (by first | assumption | omega) (by first | assumption | omega) (by rw [s_bwN_s (by omega), ← qa_61_2, ← qa_61_3]; first | exact (q_if_t (by omega)).symm | exact (q_if_f (by omega)).symm) (by rw [s_bwN_s (by omega), ← qa_61_2, ← qa_61_3]; first | exact (q_if_t (by omega)).symm | exact (q_if_f (by omega)).symm) (by assumption) (by assumption) rfl
                        · refine q_iload (pc' := 135) 1 dX9_bestTilts_133 rfl rfl ?_
                          refine q_goto (pc' := 140) dX9_bestTilts_135 rfl ?_
                          refine q_istore (pc' := 142) (L' := [(5, q_i (s_tot (S 151) (s_dg (S 151 0) way))), (4, q_i best), (8, q_i (s_tot (S 151) (s_dg (S 151 0) way))), (0, q_r Γ 150), (1, q_i w), (2, q_i qy_5), (3, q_i z), (6, q_i way), (7, q_i rest)]) dX9_bestTilts_140 rfl (by decide) rfl ?_
                          refine q_iinc (pc' := 145) 7 (L' := [(6, q_i (way + 1)), (5, q_i (s_tot (S 151) (s_dg (S 151 0) way))), (4, q_i best), (8, q_i (s_tot (S 151) (s_dg (S 151 0) way))), (0, q_r Γ 150), (1, q_i w), (2, q_i qy_5), (3, q_i z), (7, q_i rest)]) dX9_bestTilts_142 rfl rfl (by decide) rfl ?_
                          refine q_goto (pc' := 61) dX9_bestTilts_145 rfl ?_
                          refine p_sub [4, 5, 6, 7, 2, 1, 0] rfl ?_
                          exact qih_61 _ (by omega) _ _ _ _ (by first | assumption | omega) (by first | assumption | omega) (by rw [s_bwN_s (by omega), ← qa_61_2, ← qa_61_3]; first | exact (q_if_t (by omega)).symm | exact (q_if_f (by omega)).symm) (by rw [s_bwN_s (by omega), ← qa_61_2, ← qa_61_3]; first | exact (q_if_t (by omega)).symm | exact (q_if_f (by omega)).symm) (by assumption) (by assumption) rfl
                      · refine q_iload (pc' := 119) 7 dX9_bestTilts_117 rfl rfl ?_
                        refine q_goto (pc' := 124) dX9_bestTilts_119 rfl ?_
                        refine q_istore (pc' := 126) (L' := [(4, q_i way), (8, q_i (s_tot (S 151) (s_dg (S 151 0) way))), (0, q_r Γ 150), (1, q_i w), (2, q_i qy_5), (3, q_i z), (5, q_i most), (6, q_i way), (7, q_i rest)]) dX9_bestTilts_124 rfl (by decide) rfl ?_
                        refine q_iload (pc' := 128) 1 dX9_bestTilts_126 rfl rfl ?_
                        refine q_iload (pc' := 130) 6 dX9_bestTilts_128 rfl rfl ?_
                        refine q_icmp_le (tgt := 138) (pc' := 133) dX9_bestTilts_130 rfl rfl (by first | assumption | omega) (by first | assumption | omega) (fun qc_130_1 => ?_) (fun qc_130_1 => ?_)
                        · refine q_iload (pc' := 140) 6 dX9_bestTilts_138 rfl rfl ?_
                          refine q_istore (pc' := 142) (L' := [(5, q_i most), (4, q_i way), (8, q_i (s_tot (S 151) (s_dg (S 151 0) way))), (0, q_r Γ 150), (1, q_i w), (2, q_i qy_5), (3, q_i z), (6, q_i way), (7, q_i rest)]) dX9_bestTilts_140 rfl (by decide) rfl ?_
                          refine q_iinc (pc' := 145) 7 (L' := [(6, q_i (way + 1)), (5, q_i most), (4, q_i way), (8, q_i (s_tot (S 151) (s_dg (S 151 0) way))), (0, q_r Γ 150), (1, q_i w), (2, q_i qy_5), (3, q_i z), (7, q_i rest)]) dX9_bestTilts_142 rfl rfl (by decide) rfl ?_
                          refine q_goto (pc' := 61) dX9_bestTilts_145 rfl ?_
                          refine p_sub [4, 5, 6, 7, 2, 1, 0] rfl ?_
                          exact qih_61 _ (by omega) _ _ _ _ (by first | assumption | omega) (by first | assumption | omega) (by rw [s_bwN_s (by omega), ← qa_61_2, ← qa_61_3]; first | exact (q_if_t (by omega)).symm | exact (q_if_f (by omega)).symm) (by rw [s_bwN_s (by omega), ← qa_61_2, ← qa_61_3]; first | exact (q_if_t (by omega)).symm | exact (q_if_f (by omega)).symm) (by assumption) (by assumption) rfl
                        · refine q_iload (pc' := 135) 1 dX9_bestTilts_133 rfl rfl ?_
                          refine q_goto (pc' := 140) dX9_bestTilts_135 rfl ?_
                          refine q_istore (pc' := 142) (L' := [(5, q_i (s_tot (S 151) (s_dg (S 151 0) way))), (4, q_i way), (8, q_i (s_tot (S 151) (s_dg (S 151 0) way))), (0, q_r Γ 150), (1, q_i w), (2, q_i qy_5), (3, q_i z), (6, q_i way), (7, q_i rest)]) dX9_bestTilts_140 rfl (by decide) rfl ?_
                          refine q_iinc (pc' := 145) 7 (L' := [(6, q_i (way + 1)), (5, q_i (s_tot (S 151) (s_dg (S 151 0) way))), (4, q_i way), (8, q_i (s_tot (S 151) (s_dg (S 151 0) way))), (0, q_r Γ 150), (1, q_i w), (2, q_i qy_5), (3, q_i z), (7, q_i rest)]) dX9_bestTilts_142 rfl rfl (by decide) rfl ?_
                          refine q_goto (pc' := 61) dX9_bestTilts_145 rfl ?_
                          refine p_sub [4, 5, 6, 7, 2, 1, 0] rfl ?_
                          exact qih_61 _ (by omega) _ _ _ _ (by first | assumption | omega) (by first | assumption | omega) (by rw [s_bwN_s (by omega), ← qa_61_2, ← qa_61_3]; first | exact (q_if_t (by omega)).symm | exact (q_if_f (by omega)).symm) (by rw [s_bwN_s (by omega), ← qa_61_2, ← qa_61_3]; first | exact (q_if_t (by omega)).symm | exact (q_if_f (by omega)).symm) (by assumption) (by assumption) rfl
                    · refine q_aloadn (pc' := 82) 0 dX9_bestTilts_81 rfl rfl ?_
                      refine p_getR (pc' := 85) (f := 158) dX9_bestTilts_82 rfl fX9_31 kc150 rfl ?_
                      refine q_iload (pc' := 87) 8 dX9_bestTilts_85 rfl rfl ?_
                      refine q_iload (pc' := 89) 7 dX9_bestTilts_87 rfl rfl ?_
                      refine q_iconst (pc' := 90) dX9_bestTilts_89 rfl ?_
                      refine q_irem (pc' := 91) dX9_bestTilts_90 rfl (by first | assumption | omega) (by first | assumption | omega) (by first | assumption | omega) (by first | assumption | omega) ?_
                      refine p_iast (pc' := 92) dX9_bestTilts_91 rfl kc158 (by first | assumption | omega) (by first | assumption | omega) (by decide) (by first | assumption | omega) ?_
                      refine q_iload (pc' := 94) 7 dX9_bestTilts_92 rfl rfl ?_
                      refine q_iconst (pc' := 95) dX9_bestTilts_94 rfl ?_
                      refine q_idiv (pc' := 96) dX9_bestTilts_95 rfl (by first | assumption | omega) (by first | assumption | omega) (by first | assumption | omega) (by first | assumption | omega) ?_
                      refine q_istore (pc' := 98) (L' := [(7, q_i (rest / 5)), (0, q_r Γ 150), (1, q_i w), (2, q_i qy_5), (3, q_i z), (4, q_i best), (5, q_i most), (6, q_i way), (8, q_i r)]) dX9_bestTilts_96 rfl (by decide) rfl ?_
                      refine q_iinc (pc' := 101) 8 (L' := [(8, q_i (r + (-1))), (7, q_i (rest / 5)), (0, q_r Γ 150), (1, q_i w), (2, q_i qy_5), (3, q_i z), (4, q_i best), (5, q_i most), (6, q_i way)]) dX9_bestTilts_98 rfl rfl (by decide) rfl ?_
                      refine q_goto (pc' := 76) dX9_bestTilts_101 rfl ?_
                      refine p_sub [2, 3, 4, 5, 6, 7, 8, 1, 0] rfl ?_
                      exact qih_76 _ (by omega) _ _ _ (by first | assumption | omega) (by first | assumption | omega) (by exact ⟨by omega, by rw [qa_76_2.2, s_div5 (by omega), show S 151 0 - 1 - r + 1 = S 151 0 - 1 - (r + (-1)) by omega]⟩) (by exact s_off_u (by assumption) (Or.inr (Or.inr rfl))) (by exact s_FH_o (by decide) (by decide) (by assumption)) (by intro q x y; rcases (show r < q ∨ q = r by omega) with h | h; (rw [q_up_nz (by omega)]; exact qa_76_5 q h y); (subst h; rw [q_up_eq, qa_76_2.2]; rfl)) rfl
                refine p_sub [2, 3, 4, 5, 6, 7, 8, 1, 0] rfl ?_
                exact qlp_76 _ _ _ _ (by first | assumption | omega) (by first | assumption | omega) (by exact ⟨by omega, by rw [show (S 151 0 - 1 - (qy_5 - 1)).toNat = 0 by omega]; exact (Int.ediv_one _).symm⟩) (by assumption) (by assumption) (by intro q x y; omega) rfl
          refine p_sub [3, 4, 5, 6, 2, 1, 0] rfl ?_
          exact qlp_61 _ _ _ _ _ (by first | assumption | omega) (by first | assumption | omega) (by rfl) (by rfl) (by assumption) (by assumption) rfl
        · refine q_iloadn (pc' := 43) 3 dX9_bestTilts_42 rfl rfl ?_
          refine q_iconst (pc' := 44) dX9_bestTilts_43 rfl ?_
          refine q_imul (pc' := 45) dX9_bestTilts_44 rfl ?_
          refine q_istoren (pc' := 46) (L' := [(3, q_i (z * 5)), (0, q_r Γ 150), (1, q_i w), (2, q_i qy_5), (4, q_i k)]) dX9_bestTilts_45 rfl rfl (by decide) rfl ?_
          refine q_iinc (pc' := 49) 4 (L' := [(4, q_i (k + 1)), (3, q_i (z * 5)), (0, q_r Γ 150), (1, q_i w), (2, q_i qy_5)]) dX9_bestTilts_46 rfl rfl (by decide) rfl ?_
          refine q_goto (pc' := 36) dX9_bestTilts_49 rfl ?_
          refine p_sub [2, 3, 4, 1, 0] rfl ?_
          exact qih_36 _ (by omega) _ _ (by first | assumption | omega) (by first | assumption | omega) (by rw [s_p5_s (by omega), ← qa_36_2]) rfl
    refine p_sub [2, 3, 4, 1, 0] rfl ?_
    exact qlp_36 _ _ _ (by first | assumption | omega) (by first | assumption | omega) (by rfl) rfl
  refine q_iloadn (pc' := 8) 2 dX9_bestTilts_7 rfl rfl ?_
  refine q_bipush (pc' := 10) dX9_bestTilts_8 rfl rfl ?_
  refine q_icmp_eq (tgt := 27) (pc' := 13) dX9_bestTilts_10 rfl rfl (by first | assumption | omega) (by decide) (fun qc_10 => ?_) (fun qc_10 => ?_)
  · refine p_sub [1, 2, 0] rfl ?_
    exact qlp_27  (by first | assumption | omega)
  · refine q_iloadn (pc' := 14) 2 dX9_bestTilts_13 rfl rfl ?_
    refine q_iconst (pc' := 15) dX9_bestTilts_14 rfl ?_
    refine q_iloadn (pc' := 16) 0 dX9_bestTilts_15 rfl rfl ?_
    refine q_iconst (pc' := 17) dX9_bestTilts_16 rfl ?_
    refine q_isub (pc' := 18) dX9_bestTilts_17 rfl ?_
    refine q_callSI (pc' := 21) dX9_bestTilts_18 rfl lX9_42 iX9_within (c_X9_within (by first | assumption | omega) (by first | assumption | omega) (by first | assumption | omega)) rfl rfl (Nat.le_of_ble_eq_true rfl) (Nat.le_of_ble_eq_true rfl) (Nat.le_of_ble_eq_true rfl) ?_
    refine q_if_ne_B (tgt := 27) (pc' := 24) dX9_bestTilts_21 rfl rfl (fun qc_21 => ?_) (fun qc_21 => ?_)
    · refine p_sub [1, 2, 0] rfl ?_
      exact qlp_27  (by first | assumption | omega)
    · refine q_bipush (pc' := 26) dX9_bestTilts_24 rfl rfl ?_
      first | exact q_iret dX9_bestTilts_26 rfl rfl ⟨congrArg (fun z => some (q_i z)) (s_best_e (by omega)).symm, _, rfl, s_off_r⟩ | exact q_iret dX9_bestTilts_26 rfl rfl ⟨congrArg (fun z => some (q_i z)) (hm.trans (s_best_9 (by omega)).symm), _, rfl, by assumption⟩ | exact q_iret dX9_bestTilts_26 rfl rfl ⟨congrArg (fun z => some (q_i z)) (by rw [s_best_w (by omega) (by omega), ← hbst, qnone_.2, show r = w by omega]; rfl), _, rfl, by assumption⟩
