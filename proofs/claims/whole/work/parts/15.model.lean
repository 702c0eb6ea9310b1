set_option maxRecDepth 20000 in
set_option maxHeartbeats 4000000 in
theorem c_X9_worth {Γ : q_G} {S : q_S} {a b h u w : Int} (ok : s_ok (S 151)) (ar : q_rg a) (br : q_rg b) (hr : q_rg h) (ur : q_rg u) (wr : q_rg w) : q_Sp Γ mX9_worth 10 0 0 [q_r Γ 150, q_i a, q_i b, q_i h, q_i u, q_i w] (KC, S) (q_ev (some (q_i (s_worth (S 151) a b h u w))) (KC, S)) := by
  show q_Go Γ mX9_worth 10 0 0 0 [(0, q_r Γ 150), (1, q_i a), (2, q_i b), (3, q_i h), (4, q_i u), (5, q_i w)] [] (KC, S) (q_ev (some (q_i (s_worth (S 151) a b h u w))) (KC, S))
  have rw0 := s_rows_b ok
  have q151 : q_up S 151 (39 + 10 * (6 * a + b) + h) u 151 = s_set (S 151) (39 + 10 * (6 * a + b) + h) u := q_up_fn
  have hq : -2 ≤ s_wGrant (S 151) a b h u ∧ s_wGrant (S 151) a b h u ≤ 0 := by unfold s_wGrant; omega
  have hw : s_wGrant (S 151) a b h u < 0 ∨ ((0 ≤ a ∧ a < S 151 0) ∧ (0 ≤ b ∧ b < S 151 0) ∧ (0 ≤ h ∧ h < 10) ∧ (0 ≤ u ∧ u ≤ 999)) := by unfold s_wGrant; omega
  refine q_aloadn (pc' := 1) 0 dX9_worth_0 rfl rfl ?_
  refine q_iloadn (pc' := 2) 1 dX9_worth_1 rfl rfl ?_
  refine q_iloadn (pc' := 3) 2 dX9_worth_2 rfl rfl ?_
  refine q_iloadn (pc' := 4) 3 dX9_worth_3 rfl rfl ?_
  refine q_iload (pc' := 6) 4 dX9_worth_4 rfl rfl ?_
  refine q_callVI (pc' := 9) dX9_worth_6 rfl lX9_114 iX9_whyNotGranted kc150 rfl (c_X9_whyNotGranted (by first | assumption | omega) (by first | assumption | omega) (by first | assumption | omega) (by first | assumption | omega) (by first | assumption | omega)) rfl rfl (Nat.le_of_ble_eq_true rfl) (Nat.le_of_ble_eq_true rfl) (Nat.le_of_ble_eq_true rfl) ?_
  refine q_istore (pc' := 11) (L' := [(6, q_i (s_wGrant (S 151) a b h u)), (0, q_r Γ 150), (1, q_i a), (2, q_i b), (3, q_i h), (4, q_i u), (5, q_i w)]) dX9_worth_9 rfl (by decide) rfl ?_
  refine q_iload (pc' := 13) 0 dX9_worth_11 rfl rfl ?_
  refine q_if_lt (tgt := 26) (pc' := 16) dX9_worth_13 rfl rfl (by first | assumption | omega) (fun qc_13 => ?_) (fun qc_13 => ?_)
  · refine q_iload (pc' := 28) 0 dX9_worth_26 rfl rfl ?_
    refine q_if_ge (tgt := 36) (pc' := 31) dX9_worth_28 rfl rfl (by first | assumption | omega) (fun qc_28 => ?_) (fun qc_28 => ?_)
    · refine q_bipush (pc' := 38) dX9_worth_36 rfl rfl ?_
      refine p_iret dX9_worth_38 rfl ?_ ?_
      · unfold s_worth s_wv; rw [← q151]; omega
      · first | rfl | exact congrArg (Prod.mk KC) q_up_back
    · refine q_iload (pc' := 33) 0 dX9_worth_31 rfl rfl ?_
      refine q_goto (pc' := 38) dX9_worth_33 rfl ?_
      refine p_iret dX9_worth_38 rfl ?_ ?_
      · unfold s_worth s_wv; rw [← q151]; omega
      · first | rfl | exact congrArg (Prod.mk KC) q_up_back
  · refine q_iload (pc' := 18) 6 dX9_worth_16 rfl rfl ?_
    refine q_iconst (pc' := 19) dX9_worth_18 rfl ?_
    refine q_iconst (pc' := 20) dX9_worth_19 rfl ?_
    refine q_callSI (pc' := 23) dX9_worth_20 rfl lX9_42 iX9_within (c_X9_within (by first | assumption | omega) (by first | assumption | omega) (by first | assumption | omega)) rfl rfl (Nat.le_of_ble_eq_true rfl) (Nat.le_of_ble_eq_true rfl) (Nat.le_of_ble_eq_true rfl) ?_
    refine q_if_ne_B (tgt := 39) (pc' := 26) dX9_worth_23 rfl rfl (fun qc_23 => ?_) (fun qc_23 => ?_)
    · refine q_aloadn (pc' := 40) 1 dX9_worth_39 rfl rfl ?_
      refine q_iloadn (pc' := 41) 2 dX9_worth_40 rfl rfl ?_
      refine q_iloadn (pc' := 42) 3 dX9_worth_41 rfl rfl ?_
      refine q_iloadn (pc' := 43) 4 dX9_worth_42 rfl rfl ?_
      refine q_callVI (pc' := 46) dX9_worth_43 rfl lX9_58 iX9_rightOf kc150 rfl (c_X9_rightOf (by first | assumption | omega) (by first | assumption | omega)) rfl rfl (Nat.le_of_ble_eq_true rfl) (Nat.le_of_ble_eq_true rfl) (Nat.le_of_ble_eq_true rfl) ?_
      refine q_istore (pc' := 48) (L' := [(7, q_i (s_rt (S 151) a b h)), (6, q_i (s_wGrant (S 151) a b h u)), (0, q_r Γ 150), (1, q_i a), (2, q_i b), (3, q_i h), (4, q_i u), (5, q_i w)]) dX9_worth_46 rfl (by decide) rfl ?_
      refine q_iload (pc' := 50) 7 dX9_worth_48 rfl rfl ?_
      refine q_if_ne (tgt := 61) (pc' := 53) dX9_worth_50 rfl rfl (by first | assumption | omega) (fun qc_50 => ?_) (fun qc_50 => ?_)
      · refine q_iload (pc' := 63) 7 dX9_worth_61 rfl rfl ?_
        refine q_iconst (pc' := 64) dX9_worth_63 rfl ?_
        refine q_icmp_ne (tgt := 75) (pc' := 67) dX9_worth_64 rfl rfl (by first | assumption | omega) (by decide) (fun qc_64 => ?_) (fun qc_64 => ?_)
        · refine q_aloadn (pc' := 76) 2 dX9_worth_75 rfl rfl ?_
          refine q_callVI (pc' := 79) dX9_worth_76 rfl lX9_180 iX9_allYields kc150 rfl (c_X9_allYields (by first | assumption | omega)) rfl rfl (Nat.le_of_ble_eq_true rfl) (Nat.le_of_ble_eq_true rfl) (Nat.le_of_ble_eq_true rfl) ?_
          refine q_istore (pc' := 81) (L' := [(8, q_i (s_all (S 151))), (7, q_i (s_rt (S 151) a b h)), (6, q_i (s_wGrant (S 151) a b h u)), (0, q_r Γ 150), (1, q_i a), (2, q_i b), (3, q_i h), (4, q_i u), (5, q_i w)]) dX9_worth_79 rfl (by decide) rfl ?_
          refine q_aloadn (pc' := 82) 3 dX9_worth_81 rfl rfl ?_
          refine q_iloadn (pc' := 83) 4 dX9_worth_82 rfl rfl ?_
          refine q_iloadn (pc' := 84) 5 dX9_worth_83 rfl rfl ?_
          refine q_iloadn (pc' := 85) 6 dX9_worth_84 rfl rfl ?_
          refine q_iload (pc' := 87) 7 dX9_worth_85 rfl rfl ?_
          refine q_callVV (pc' := 90) dX9_worth_87 rfl lX9_117 iX9_setRight kc150 rfl (c_X9_setRight (by first | assumption | omega) (by first | assumption | omega) (by first | assumption | omega) (by first | assumption | omega) (by first | assumption | omega) (by first | assumption | omega) (by first | assumption | omega)) rfl rfl (Nat.le_of_ble_eq_true rfl) (Nat.le_of_ble_eq_true rfl) (Nat.le_of_ble_eq_true rfl) ?_
          have rb := s_rt_b ok (a := a) (b := b) (h := h) (by omega) (by omega) (by omega) (by omega) (by omega) (by omega)
          have ok2 : s_ok (q_up S 151 (39 + 10 * (6 * a + b) + h) u 151) := by rw [q151]; exact s_ok_rt ok (by omega) (by omega) (by omega) (by omega) (by omega) (by omega) (by omega) (by omega)
          refine q_iload (pc' := 92) 8 dX9_worth_90 rfl rfl ?_
          refine q_if_ne (tgt := 103) (pc' := 95) dX9_worth_92 rfl rfl (by first | assumption | omega) (fun qc_92 => ?_) (fun qc_92 => ?_)
          · refine q_iload (pc' := 105) 8 dX9_worth_103 rfl rfl ?_
            refine q_iconst (pc' := 106) dX9_worth_105 rfl ?_
            refine q_icmp_ne (tgt := 117) (pc' := 109) dX9_worth_106 rfl rfl (by first | assumption | omega) (by decide) (fun qc_106 => ?_) (fun qc_106 => ?_)
            · refine q_aloadn (pc' := 118) 3 dX9_worth_117 rfl rfl ?_
              refine q_callVI (pc' := 121) dX9_worth_118 rfl lX9_180 iX9_allYields kc150 rfl (c_X9_allYields (by first | assumption | omega)) rfl rfl (Nat.le_of_ble_eq_true rfl) (Nat.le_of_ble_eq_true rfl) (Nat.le_of_ble_eq_true rfl) ?_
              refine q_istore (pc' := 123) (L' := [(9, q_i (s_all ((q_up S 151 (39 + 10 * (6 * a + b) + h) u) 151))), (8, q_i (s_all (S 151))), (7, q_i (s_rt (S 151) a b h)), (6, q_i (s_wGrant (S 151) a b h u)), (0, q_r Γ 150), (1, q_i a), (2, q_i b), (3, q_i h), (4, q_i u), (5, q_i w)]) dX9_worth_121 rfl (by decide) rfl ?_
              refine q_aloadn (pc' := 124) 4 dX9_worth_123 rfl rfl ?_
              refine q_iloadn (pc' := 125) 5 dX9_worth_124 rfl rfl ?_
              refine q_iloadn (pc' := 126) 6 dX9_worth_125 rfl rfl ?_
              refine q_iloadn (pc' := 127) 7 dX9_worth_126 rfl rfl ?_
              refine q_iload (pc' := 129) 2 dX9_worth_127 rfl rfl ?_
              refine q_callVV (pc' := 132) dX9_worth_129 rfl lX9_117 iX9_setRight kc150 rfl (c_X9_setRight (by first | assumption | omega) (by first | assumption | omega) (by first | assumption | omega) (by first | assumption | omega) (by first | assumption | omega) (by first | assumption | omega) (by first | assumption | omega)) rfl rfl (Nat.le_of_ble_eq_true rfl) (Nat.le_of_ble_eq_true rfl) (Nat.le_of_ble_eq_true rfl) ?_
              refine q_ldc (pc' := 134) dX9_worth_132 rfl wX9_186 ?_
              refine q_iload (pc' := 136) 9 dX9_worth_134 rfl rfl ?_
              refine q_iconst (pc' := 137) dX9_worth_136 rfl ?_
              refine q_icmp_ne (tgt := 148) (pc' := 140) dX9_worth_137 rfl rfl (by first | assumption | omega) (by decide) (fun qc_137 => ?_) (fun qc_137 => ?_)
              · refine q_iload (pc' := 150) 0 dX9_worth_148 rfl rfl ?_
                refine q_iload (pc' := 152) 1 dX9_worth_150 rfl rfl ?_
                refine q_isub (pc' := 153) dX9_worth_152 rfl ?_
                refine q_iadd (pc' := 154) dX9_worth_153 rfl ?_
                refine p_iret dX9_worth_154 rfl ?_ ?_
                · unfold s_worth s_wv; rw [← q151]; omega
                · first | rfl | exact congrArg (Prod.mk KC) q_up_back
              · refine q_iload (pc' := 142) 1 dX9_worth_140 rfl rfl ?_
                refine q_iload (pc' := 144) 0 dX9_worth_142 rfl rfl ?_
                refine q_isub (pc' := 145) dX9_worth_144 rfl ?_
                refine q_goto (pc' := 153) dX9_worth_145 rfl ?_
                refine q_iadd (pc' := 154) dX9_worth_153 rfl ?_
                refine p_iret dX9_worth_154 rfl ?_ ?_
                · unfold s_worth s_wv; rw [← q151]; omega
                · first | rfl | exact congrArg (Prod.mk KC) q_up_back
            · refine q_aloadn (pc' := 110) 3 dX9_worth_109 rfl rfl ?_
              refine q_iloadn (pc' := 111) 5 dX9_worth_110 rfl rfl ?_
              refine q_callVI (pc' := 114) dX9_worth_111 rfl lX9_93 iX9_yieldOf kc150 rfl (c_X9_yieldOf (by first | assumption | omega) (by first | assumption | omega) (by first | assumption | omega)) rfl rfl (Nat.le_of_ble_eq_true rfl) (Nat.le_of_ble_eq_true rfl) (Nat.le_of_ble_eq_true rfl) ?_
              refine q_goto (pc' := 121) dX9_worth_114 rfl ?_
              refine q_istore (pc' := 123) (L' := [(9, q_i (s_yo ((q_up S 151 (39 + 10 * (6 * a + b) + h) u) 151) b)), (8, q_i (s_all (S 151))), (7, q_i (s_rt (S 151) a b h)), (6, q_i (s_wGrant (S 151) a b h u)), (0, q_r Γ 150), (1, q_i a), (2, q_i b), (3, q_i h), (4, q_i u), (5, q_i w)]) dX9_worth_121 rfl (by decide) rfl ?_
              refine q_aloadn (pc' := 124) 4 dX9_worth_123 rfl rfl ?_
              refine q_iloadn (pc' := 125) 5 dX9_worth_124 rfl rfl ?_
              refine q_iloadn (pc' := 126) 6 dX9_worth_125 rfl rfl ?_
              refine q_iloadn (pc' := 127) 7 dX9_worth_126 rfl rfl ?_
              refine q_iload (pc' := 129) 2 dX9_worth_127 rfl rfl ?_
              refine q_callVV (pc' := 132) dX9_worth_129 rfl lX9_117 iX9_setRight kc150 rfl (c_X9_setRight (by first | assumption | omega) (by first | assumption | omega) (by first | assumption | omega) (by first | assumption | omega) (by first | assumption | omega) (by first | assumption | omega) (by first | assumption | omega)) rfl rfl (Nat.le_of_ble_eq_true rfl) (Nat.le_of_ble_eq_true rfl) (Nat.le_of_ble_eq_true rfl) ?_
              refine q_ldc (pc' := 134) dX9_worth_132 rfl wX9_186 ?_
              refine q_iload (pc' := 136) 9 dX9_worth_134 rfl rfl ?_
              refine q_iconst (pc' := 137) dX9_worth_136 rfl ?_
              refine q_icmp_ne (tgt := 148) (pc' := 140) dX9_worth_137 rfl rfl (by first | assumption | omega) (by decide) (fun qc_137_1 => ?_) (fun qc_137_1 => ?_)
              · refine q_iload (pc' := 150) 0 dX9_worth_148 rfl rfl ?_
                refine q_iload (pc' := 152) 1 dX9_worth_150 rfl rfl ?_
                refine q_isub (pc' := 153) dX9_worth_152 rfl ?_
                refine q_iadd (pc' := 154) dX9_worth_153 rfl ?_
                refine p_iret dX9_worth_154 rfl ?_ ?_
                · unfold s_worth s_wv; rw [← q151]; omega
                · first | rfl | exact congrArg (Prod.mk KC) q_up_back
              · refine q_iload (pc' := 142) 1 dX9_worth_140 rfl rfl ?_
                refine q_iload (pc' := 144) 0 dX9_worth_142 rfl rfl ?_
                refine q_isub (pc' := 145) dX9_worth_144 rfl ?_
                refine q_goto (pc' := 153) dX9_worth_145 rfl ?_
                refine q_iadd (pc' := 154) dX9_worth_153 rfl ?_
                refine p_iret dX9_worth_154 rfl ?_ ?_
                · unfold s_worth s_wv; rw [← q151]; omega
                · first | rfl | exact congrArg (Prod.mk KC) q_up_back
          · refine q_aloadn (pc' := 96) 3 dX9_worth_95 rfl rfl ?_
            refine q_iloadn (pc' := 97) 4 dX9_worth_96 rfl rfl ?_
            refine q_callVI (pc' := 100) dX9_worth_97 rfl lX9_93 iX9_yieldOf kc150 rfl (c_X9_yieldOf (by first | assumption | omega) (by first | assumption | omega) (by first | assumption | omega)) rfl rfl (Nat.le_of_ble_eq_true rfl) (Nat.le_of_ble_eq_true rfl) (Nat.le_of_ble_eq_true rfl) ?_
            refine q_goto (pc' := 121) dX9_worth_100 rfl ?_
            refine q_istore (pc' := 123) (L' := [(9, q_i (s_yo ((q_up S 151 (39 + 10 * (6 * a + b) + h) u) 151) a)), (8, q_i (s_all (S 151))), (7, q_i (s_rt (S 151) a b h)), (6, q_i (s_wGrant (S 151) a b h u)), (0, q_r Γ 150), (1, q_i a), (2, q_i b), (3, q_i h), (4, q_i u), (5, q_i w)]) dX9_worth_121 rfl (by decide) rfl ?_
            refine q_aloadn (pc' := 124) 4 dX9_worth_123 rfl rfl ?_
            refine q_iloadn (pc' := 125) 5 dX9_worth_124 rfl rfl ?_
            refine q_iloadn (pc' := 126) 6 dX9_worth_125 rfl rfl ?_
            refine q_iloadn (pc' := 127) 7 dX9_worth_126 rfl rfl ?_
            refine q_iload (pc' := 129) 2 dX9_worth_127 rfl rfl ?_
            refine q_callVV (pc' := 132) dX9_worth_129 rfl lX9_117 iX9_setRight kc150 rfl (c_X9_setRight (by first | assumption | omega) (by first | assumption | omega) (by first | assumption | omega) (by first | assumption | omega) (by first | assumption | omega) (by first | assumption | omega) (by first | assumption | omega)) rfl rfl (Nat.le_of_ble_eq_true rfl) (Nat.le_of_ble_eq_true rfl) (Nat.le_of_ble_eq_true rfl) ?_
            refine q_ldc (pc' := 134) dX9_worth_132 rfl wX9_186 ?_
            refine q_iload (pc' := 136) 9 dX9_worth_134 rfl rfl ?_
            refine q_iconst (pc' := 137) dX9_worth_136 rfl ?_
            refine q_icmp_ne (tgt := 148) (pc' := 140) dX9_worth_137 rfl rfl (by first | assumption | omega) (by decide) (fun qc_137_2 => ?_) (fun qc_137_2 => ?_)
            · refine q_iload (pc' := 150) 0 dX9_worth_148 rfl rfl ?_
              refine q_iload (pc' := 152) 1 dX9_worth_150 rfl rfl ?_
              refine q_isub (pc' := 153) dX9_worth_152 rfl ?_
              refine q_iadd (pc' := 154) dX9_worth_153 rfl ?_
              refine p_iret dX9_worth_154 rfl ?_ ?_
              · unfold s_worth s_wv; rw [← q151]; omega
              · first | rfl | exact congrArg (Prod.mk KC) q_up_back
            · refine q_iload (pc' := 142) 1 dX9_worth_140 rfl rfl ?_
              refine q_iload (pc' := 144) 0 dX9_worth_142 rfl rfl ?_
              refine q_isub (pc' := 145) dX9_worth_144 rfl ?_
              refine q_goto (pc' := 153) dX9_worth_145 rfl ?_
              refine q_iadd (pc' := 154) dX9_worth_153 rfl ?_
              refine p_iret dX9_worth_154 rfl ?_ ?_
              · unfold s_worth s_wv; rw [← q151]; omega
              · first | rfl | exact congrArg (Prod.mk KC) q_up_back
        · refine q_aloadn (pc' := 68) 2 dX9_worth_67 rfl rfl ?_
          refine q_iloadn (pc' := 69) 4 dX9_worth_68 rfl rfl ?_
          refine q_callVI (pc' := 72) dX9_worth_69 rfl lX9_93 iX9_yieldOf kc150 rfl (c_X9_yieldOf (by first | assumption | omega) (by first | assumption | omega) (by first | assumption | omega)) rfl rfl (Nat.le_of_ble_eq_true rfl) (Nat.le_of_ble_eq_true rfl) (Nat.le_of_ble_eq_true rfl) ?_
          refine q_goto (pc' := 79) dX9_worth_72 rfl ?_
          refine q_istore (pc' := 81) (L' := [(8, q_i (s_yo (S 151) b)), (7, q_i (s_rt (S 151) a b h)), (6, q_i (s_wGrant (S 151) a b h u)), (0, q_r Γ 150), (1, q_i a), (2, q_i b), (3, q_i h), (4, q_i u), (5, q_i w)]) dX9_worth_79 rfl (by decide) rfl ?_
          refine q_aloadn (pc' := 82) 3 dX9_worth_81 rfl rfl ?_
          refine q_iloadn (pc' := 83) 4 dX9_worth_82 rfl rfl ?_
          refine q_iloadn (pc' := 84) 5 dX9_worth_83 rfl rfl ?_
          refine q_iloadn (pc' := 85) 6 dX9_worth_84 rfl rfl ?_
          refine q_iload (pc' := 87) 7 dX9_worth_85 rfl rfl ?_
          refine q_callVV (pc' := 90) dX9_worth_87 rfl lX9_117 iX9_setRight kc150 rfl (c_X9_setRight (by first | assumption | omega) (by first | assumption | omega) (by first | assumption | omega) (by first | assumption | omega) (by first | assumption | omega) (by first | assumption | omega) (by first | assumption | omega)) rfl rfl (Nat.le_of_ble_eq_true rfl) (Nat.le_of_ble_eq_true rfl) (Nat.le_of_ble_eq_true rfl) ?_
          have rb := s_rt_b ok (a := a) (b := b) (h := h) (by omega) (by omega) (by omega) (by omega) (by omega) (by omega)
          have ok2 : s_ok (q_up S 151 (39 + 10 * (6 * a + b) + h) u 151) := by rw [q151]; exact s_ok_rt ok (by omega) (by omega) (by omega) (by omega) (by omega) (by omega) (by omega) (by omega)
          refine q_iload (pc' := 92) 8 dX9_worth_90 rfl rfl ?_
          refine q_if_ne (tgt := 103) (pc' := 95) dX9_worth_92 rfl rfl (by first | assumption | omega) (fun qc_92_1 => ?_) (fun qc_92_1 => ?_)
          · refine q_iload (pc' := 105) 8 dX9_worth_103 rfl rfl ?_
            refine q_iconst (pc' := 106) dX9_worth_105 rfl ?_
            refine q_icmp_ne (tgt := 117) (pc' := 109) dX9_worth_106 rfl rfl (by first | assumption | omega) (by decide) (fun qc_106_1 => ?_) (fun qc_106_1 => ?_)
            · refine q_aloadn (pc' := 118) 3 dX9_worth_117 rfl rfl ?_
              refine q_callVI (pc' := 121) dX9_worth_118 rfl lX9_180 iX9_allYields kc150 rfl (c_X9_allYields (by first | assumption | omega)) rfl rfl (Nat.le_of_ble_eq_true rfl) (Nat.le_of_ble_eq_true rfl) (Nat.le_of_ble_eq_true rfl) ?_
              refine q_istore (pc' := 123) (L' := [(9, q_i (s_all ((q_up S 151 (39 + 10 * (6 * a + b) + h) u) 151))), (8, q_i (s_yo (S 151) b)), (7, q_i (s_rt (S 151) a b h)), (6, q_i (s_wGrant (S 151) a b h u)), (0, q_r Γ 150), (1, q_i a), (2, q_i b), (3, q_i h), (4, q_i u), (5, q_i w)]) dX9_worth_121 rfl (by decide) rfl ?_
              refine q_aloadn (pc' := 124) 4 dX9_worth_123 rfl rfl ?_
              refine q_iloadn (pc' := 125) 5 dX9_worth_124 rfl rfl ?_
              refine q_iloadn (pc' := 126) 6 dX9_worth_125 rfl rfl ?_
              refine q_iloadn (pc' := 127) 7 dX9_worth_126 rfl rfl ?_
              refine q_iload (pc' := 129) 2 dX9_worth_127 rfl rfl ?_
              refine q_callVV (pc' := 132) dX9_worth_129 rfl lX9_117 iX9_setRight kc150 rfl (c_X9_setRight (by first | assumption | omega) (by first | assumption | omega) (by first | assumption | omega) (by first | assumption | omega) (by first | assumption | omega) (by first | assumption | omega) (by first | assumption | omega)) rfl rfl (Nat.le_of_ble_eq_true rfl) (Nat.le_of_ble_eq_true rfl) (Nat.le_of_ble_eq_true rfl) ?_
              refine q_ldc (pc' := 134) dX9_worth_132 rfl wX9_186 ?_
              refine q_iload (pc' := 136) 9 dX9_worth_134 rfl rfl ?_
              refine q_iconst (pc' := 137) dX9_worth_136 rfl ?_
              refine q_icmp_ne (tgt := 148) (pc' := 140) dX9_worth_137 rfl rfl (by first | assumption | omega) (by decide) (fun qc_137_3 => ?_) (fun qc_137_3 => ?_)
              · refine q_iload (pc' := 150) 0 dX9_worth_148 rfl rfl ?_
                refine q_iload (pc' := 152) 1 dX9_worth_150 rfl rfl ?_
                refine q_isub (pc' := 153) dX9_worth_152 rfl ?_
                refine q_iadd (pc' := 154) dX9_worth_153 rfl ?_
                refine p_iret dX9_worth_154 rfl ?_ ?_
                · unfold s_worth s_wv; rw [← q151]; omega
                · first | rfl | exact congrArg (Prod.mk KC) q_up_back
              · refine q_iload (pc' := 142) 1 dX9_worth_140 rfl rfl ?_
                refine q_iload (pc' := 144) 0 dX9_worth_142 rfl rfl ?_
                refine q_isub (pc' := 145) dX9_worth_144 rfl ?_
                refine q_goto (pc' := 153) dX9_worth_145 rfl ?_
                refine q_iadd (pc' := 154) dX9_worth_153 rfl ?_
                refine p_iret dX9_worth_154 rfl ?_ ?_
                · unfold s_worth s_wv; rw [← q151]; omega
                · first | rfl | exact congrArg (Prod.mk KC) q_up_back
            · refine q_aloadn (pc' := 110) 3 dX9_worth_109 rfl rfl ?_
              refine q_iloadn (pc' := 111) 5 dX9_worth_110 rfl rfl ?_
              refine q_callVI (pc' := 114) dX9_worth_111 rfl lX9_93 iX9_yieldOf kc150 rfl (c_X9_yieldOf (by first | assumption | omega) (by first | assumption | omega) (by first | assumption | omega)) rfl rfl (Nat.le_of_ble_eq_true rfl) (Nat.le_of_ble_eq_true rfl) (Nat.le_of_ble_eq_true rfl) ?_
              refine q_goto (pc' := 121) dX9_worth_114 rfl ?_
              refine q_istore (pc' := 123) (L' := [(9, q_i (s_yo ((q_up S 151 (39 + 10 * (6 * a + b) + h) u) 151) b)), (8, q_i (s_yo (S 151) b)), (7, q_i (s_rt (S 151) a b h)), (6, q_i (s_wGrant (S 151) a b h u)), (0, q_r Γ 150), (1, q_i a), (2, q_i b), (3, q_i h), (4, q_i u), (5, q_i w)]) dX9_worth_121 rfl (by decide) rfl ?_
              refine q_aloadn (pc' := 124) 4 dX9_worth_123 rfl rfl ?_
              refine q_iloadn (pc' := 125) 5 dX9_worth_124 rfl rfl ?_
              refine q_iloadn (pc' := 126) 6 dX9_worth_125 rfl rfl ?_
              refine q_iloadn (pc' := 127) 7 dX9_worth_126 rfl rfl ?_
              refine q_iload (pc' := 129) 2 dX9_worth_127 rfl rfl ?_
              refine q_callVV (pc' := 132) dX9_worth_129 rfl lX9_117 iX9_setRight kc150 rfl (c_X9_setRight (by first | assumption | omega) (by first | assumption | omega) (by first | assumption | omega) (by first | assumption | omega) (by first | assumption | omega) (by first | assumption | omega) (by first | assumption | omega)) rfl rfl (Nat.le_of_ble_eq_true rfl) (Nat.le_of_ble_eq_true rfl) (Nat.le_of_ble_eq_true rfl) ?_
              refine q_ldc (pc' := 134) dX9_worth_132 rfl wX9_186 ?_
              refine q_iload (pc' := 136) 9 dX9_worth_134 rfl rfl ?_
              refine q_iconst (pc' := 137) dX9_worth_136 rfl ?_
              refine q_icmp_ne (tgt := 148) (pc' := 140) dX9_worth_137 rfl rfl (by first | assumption | omega) (by decide) (fun qc_137_4 => ?_) (fun qc_137_4 => ?_)
              · refine q_iload (pc' := 150) 0 dX9_worth_148 rfl rfl ?_
                refine q_iload (pc' := 152) 1 dX9_worth_150 rfl rfl ?_
                refine q_isub (pc' := 153) dX9_worth_152 rfl ?_
                refine q_iadd (pc' := 154) dX9_worth_153 rfl ?_
                refine p_iret dX9_worth_154 rfl ?_ ?_
                · unfold s_worth s_wv; rw [← q151]; omega
                · first | rfl | exact congrArg (Prod.mk KC) q_up_back
              · refine q_iload (pc' := 142) 1 dX9_worth_140 rfl rfl ?_
                refine q_iload (pc' := 144) 0 dX9_worth_142 rfl rfl ?_
                refine q_isub (pc' := 145) dX9_worth_144 rfl ?_
                refine q_goto (pc' := 153) dX9_worth_145 rfl ?_
                refine q_iadd (pc' := 154) dX9_worth_153 rfl ?_
                refine p_iret dX9_worth_154 rfl ?_ ?_
                · unfold s_worth s_wv; rw [← q151]; omega
                · first | rfl | exact congrArg (Prod.mk KC) q_up_back
          · refine q_aloadn (pc' := 96) 3 dX9_worth_95 rfl rfl ?_
            refine q_iloadn (pc' := 97) 4 dX9_worth_96 rfl rfl ?_
            refine q_callVI (pc' := 100) dX9_worth_97 rfl lX9_93 iX9_yieldOf kc150 rfl (c_X9_yieldOf (by first | assumption | omega) (by first | assumption | omega) (by first | assumption | omega)) rfl rfl (Nat.le_of_ble_eq_true rfl) (Nat.le_of_ble_eq_true rfl) (Nat.le_of_ble_eq_true rfl) ?_
            refine q_goto (pc' := 121) dX9_worth_100 rfl ?_
            refine q_istore (pc' := 123) (L' := [(9, q_i (s_yo ((q_up S 151 (39 + 10 * (6 * a + b) + h) u) 151) a)), (8, q_i (s_yo (S 151) b)), (7, q_i (s_rt (S 151) a b h)), (6, q_i (s_wGrant (S 151) a b h u)), (0, q_r Γ 150), (1, q_i a), (2, q_i b), (3, q_i h), (4, q_i u), (5, q_i w)]) dX9_worth_121 rfl (by decide) rfl ?_
            refine q_aloadn (pc' := 124) 4 dX9_worth_123 rfl rfl ?_
            refine q_iloadn (pc' := 125) 5 dX9_worth_124 rfl rfl ?_
            refine q_iloadn (pc' := 126) 6 dX9_worth_125 rfl rfl ?_
            refine q_iloadn (pc' := 127) 7 dX9_worth_126 rfl rfl ?_
            refine q_iload (pc' := 129) 2 dX9_worth_127 rfl rfl ?_
            refine q_callVV (pc' := 132) dX9_worth_129 rfl lX9_117 iX9_setRight kc150 rfl (c_X9_setRight (by first | assumption | omega) (by first | assumption | omega) (by first | assumption | omega) (by first | assumption | omega) (by first | assumption | omega) (by first | assumption | omega) (by first | assumption | omega)) rfl rfl (Nat.le_of_ble_eq_true rfl) (Nat.le_of_ble_eq_true rfl) (Nat.le_of_ble_eq_true rfl) ?_
            refine q_ldc (pc' := 134) dX9_worth_132 rfl wX9_186 ?_
            refine q_iload (pc' := 136) 9 dX9_worth_134 rfl rfl ?_
            refine q_iconst (pc' := 137) dX9_worth_136 rfl ?_
            refine q_icmp_ne (tgt := 148) (pc' := 140) dX9_worth_137 rfl rfl (by first | assumption | omega) (by decide) (fun qc_137_5 => ?_) (fun qc_137_5 => ?_)
            · refine q_iload (pc' := 150) 0 dX9_worth_148 rfl rfl ?_
              refine q_iload (pc' := 152) 1 dX9_worth_150 rfl rfl ?_
              refine q_isub (pc' := 153) dX9_worth_152 rfl ?_
              refine q_iadd (pc' := 154) dX9_worth_153 rfl ?_
              refine p_iret dX9_worth_154 rfl ?_ ?_
              · unfold s_worth s_wv; rw [← q151]; omega
              · first | rfl | exact congrArg (Prod.mk KC) q_up_back
            · refine q_iload (pc' := 142) 1 dX9_worth_140 rfl rfl ?_
              refine q_iload (pc' := 144) 0 dX9_worth_142 rfl rfl ?_
              refine q_isub (pc' := 145) dX9_worth_144 rfl ?_
              refine q_goto (pc' := 153) dX9_worth_145 rfl ?_
              refine q_iadd (pc' := 154) dX9_worth_153 rfl ?_
              refine p_iret dX9_worth_154 rfl ?_ ?_
              · unfold s_worth s_wv; rw [← q151]; omega
              · first | rfl | exact congrArg (Prod.mk KC) q_up_back
      · refine q_aloadn (pc' := 54) 2 dX9_worth_53 rfl rfl ?_
        refine q_iloadn (pc' := 55) 3 dX9_worth_54 rfl rfl ?_
        refine q_callVI (pc' := 58) dX9_worth_55 rfl lX9_93 iX9_yieldOf kc150 rfl (c_X9_yieldOf (by first | assumption | omega) (by first | assumption | omega) (by first | assumption | omega)) rfl rfl (Nat.le_of_ble_eq_true rfl) (Nat.le_of_ble_eq_true rfl) (Nat.le_of_ble_eq_true rfl) ?_
        refine q_goto (pc' := 79) dX9_worth_58 rfl ?_
        refine q_istore (pc' := 81) (L' := [(8, q_i (s_yo (S 151) a)), (7, q_i (s_rt (S 151) a b h)), (6, q_i (s_wGrant (S 151) a b h u)), (0, q_r Γ 150), (1, q_i a), (2, q_i b), (3, q_i h), (4, q_i u), (5, q_i w)]) dX9_worth_79 rfl (by decide) rfl ?_
        refine q_aloadn (pc' := 82) 3 dX9_worth_81 rfl rfl ?_
        refine q_iloadn (pc' := 83) 4 dX9_worth_82 rfl rfl ?_
        refine q_iloadn (pc' := 84) 5 dX9_worth_83 rfl rfl ?_
        refine q_iloadn (pc' := 85) 6 dX9_worth_84 rfl rfl ?_
        refine q_iload (pc' := 87) 7 dX9_worth_85 rfl rfl ?_
        refine q_callVV (pc' := 90) dX9_worth_87 rfl lX9_117 iX9_setRight kc150 rfl (c_X9_setRight (by first | assumption | omega) (by first | assumption | omega) (by first | assumption | omega) (by first | assumption | omega) (by first | assumption | omega) (by first | assumption | omega) (by first | assumption | omega)) rfl rfl (Nat.le_of_ble_eq_true rfl) (Nat.le_of_ble_eq_true rfl) (Nat.le_of_ble_eq_true rfl) ?_
        have rb := s_rt_b ok (a := a) (b := b) (h := h) (by omega) (by omega) (by omega) (by omega) (by omega) (by omega)
        have ok2 : s_ok (q_up S 151 (39 + 10 * (6 * a + b) + h) u 151) := by rw [q151]; exact s_ok_rt ok (by omega) (by omega) (by omega) (by omega) (by omega) (by omega) (by omega) (by omega)
        refine q_iload (pc' := 92) 8 dX9_worth_90 rfl rfl ?_
        refine q_if_ne (tgt := 103) (pc' := 95) dX9_worth_92 rfl rfl (by first | assumption | omega) (fun qc_92_2 => ?_) (fun qc_92_2 => ?_)
        · refine q_iload (pc' := 105) 8 dX9_worth_103 rfl rfl ?_
          refine q_iconst (pc' := 106) dX9_worth_105 rfl ?_
          refine q_icmp_ne (tgt := 117) (pc' := 109) dX9_worth_106 rfl rfl (by first | assumption | omega) (by decide) (fun qc_106_2 => ?_) (fun qc_106_2 => ?_)
          · refine q_aloadn (pc' := 118) 3 dX9_worth_117 rfl rfl ?_
            refine q_callVI (pc' := 121) dX9_worth_118 rfl lX9_180 iX9_allYields kc150 rfl (c_X9_allYields (by first | assumption | omega)) rfl rfl (Nat.le_of_ble_eq_true rfl) (Nat.le_of_ble_eq_true rfl) (Nat.le_of_ble_eq_true rfl) ?_
            refine q_istore (pc' := 123) (L' := [(9, q_i (s_all ((q_up S 151 (39 + 10 * (6 * a + b) + h) u) 151))), (8, q_i (s_yo (S 151) a)), (7, q_i (s_rt (S 151) a b h)), (6, q_i (s_wGrant (S 151) a b h u)), (0, q_r Γ 150), (1, q_i a), (2, q_i b), (3, q_i h), (4, q_i u), (5, q_i w)]) dX9_worth_121 rfl (by decide) rfl ?_
            refine q_aloadn (pc' := 124) 4 dX9_worth_123 rfl rfl ?_
            refine q_iloadn (pc' := 125) 5 dX9_worth_124 rfl rfl ?_
            refine q_iloadn (pc' := 126) 6 dX9_worth_125 rfl rfl ?_
            refine q_iloadn (pc' := 127) 7 dX9_worth_126 rfl rfl ?_
            refine q_iload (pc' := 129) 2 dX9_worth_127 rfl rfl ?_
            refine q_callVV (pc' := 132) dX9_worth_129 rfl lX9_117 iX9_setRight kc150 rfl (c_X9_setRight (by first | assumption | omega) (by first | assumption | omega) (by first | assumption | omega) (by first | assumption | omega) (by first | assumption | omega) (by first | assumption | omega) (by first | assumption | omega)) rfl rfl (Nat.le_of_ble_eq_true rfl) (Nat.le_of_ble_eq_true rfl) (Nat.le_of_ble_eq_true rfl) ?_
            refine q_ldc (pc' := 134) dX9_worth_132 rfl wX9_186 ?_
            refine q_iload (pc' := 136) 9 dX9_worth_134 rfl rfl ?_
            refine q_iconst (pc' := 137) dX9_worth_136 rfl ?_
            refine q_icmp_ne (tgt := 148) (pc' := 140) dX9_worth_137 rfl rfl (by first | assumption | omega) (by decide) (fun qc_137_6 => ?_) (fun qc_137_6 => ?_)
            · refine q_iload (pc' := 150) 0 dX9_worth_148 rfl rfl ?_
              refine q_iload (pc' := 152) 1 dX9_worth_150 rfl rfl ?_
              refine q_isub (pc' := 153) dX9_worth_152 rfl ?_
              refine q_iadd (pc' := 154) dX9_worth_153 rfl ?_
              refine p_iret dX9_worth_154 rfl ?_ ?_
              · unfold s_worth s_wv; rw [← q151]; omega
              · first | rfl | exact congrArg (Prod.mk KC) q_up_back
            · refine q_iload (pc' := 142) 1 dX9_worth_140 rfl rfl ?_
              refine q_iload (pc' := 144) 0 dX9_worth_142 rfl rfl ?_
              refine q_isub (pc' := 145) dX9_worth_144 rfl ?_
              refine q_goto (pc' := 153) dX9_worth_145 rfl ?_
              refine q_iadd (pc' := 154) dX9_worth_153 rfl ?_
              refine p_iret dX9_worth_154 rfl ?_ ?_
              · unfold s_worth s_wv; rw [← q151]; omega
              · first | rfl | exact congrArg (Prod.mk KC) q_up_back
          · refine q_aloadn (pc' := 110) 3 dX9_worth_109 rfl rfl ?_
            refine q_iloadn (pc' := 111) 5 dX9_worth_110 rfl rfl ?_
            refine q_callVI (pc' := 114) dX9_worth_111 rfl lX9_93 iX9_yieldOf kc150 rfl (c_X9_yieldOf (by first | assumption | omega) (by first | assumption | omega) (by first | assumption | omega)) rfl rfl (Nat.le_of_ble_eq_true rfl) (Nat.le_of_ble_eq_true rfl) (Nat.le_of_ble_eq_true rfl) ?_
            refine q_goto (pc' := 121) dX9_worth_114 rfl ?_
            refine q_istore (pc' := 123) (L' := [(9, q_i (s_yo ((q_up S 151 (39 + 10 * (6 * a + b) + h) u) 151) b)), (8, q_i (s_yo (S 151) a)), (7, q_i (s_rt (S 151) a b h)), (6, q_i (s_wGrant (S 151) a b h u)), (0, q_r Γ 150), (1, q_i a), (2, q_i b), (3, q_i h), (4, q_i u), (5, q_i w)]) dX9_worth_121 rfl (by decide) rfl ?_
            refine q_aloadn (pc' := 124) 4 dX9_worth_123 rfl rfl ?_
            refine q_iloadn (pc' := 125) 5 dX9_worth_124 rfl rfl ?_
            refine q_iloadn (pc' := 126) 6 dX9_worth_125 rfl rfl ?_
            refine q_iloadn (pc' := 127) 7 dX9_worth_126 rfl rfl ?_
            refine q_iload (pc' := 129) 2 dX9_worth_127 rfl rfl ?_
            refine q_callVV (pc' := 132) dX9_worth_129 rfl lX9_117 iX9_setRight kc150 rfl (c_X9_setRight (by first | assumption | omega) (by first | assumption | omega) (by first | assumption | omega) (by first | assumption | omega) (by first | assumption | omega) (by first | assumption | omega) (by first | assumption | omega)) rfl rfl (Nat.le_of_ble_eq_true rfl) (Nat.le_of_ble_eq_true rfl) (Nat.le_of_ble_eq_true rfl) ?_
            refine q_ldc (pc' := 134) dX9_worth_132 rfl wX9_186 ?_
            refine q_iload (pc' := 136) 9 dX9_worth_134 rfl rfl ?_
            refine q_iconst (pc' := 137) dX9_worth_136 rfl ?_
            refine q_icmp_ne (tgt := 148) (pc' := 140) dX9_worth_137 rfl rfl (by first | assumption | omega) (by decide) (fun qc_137_7 => ?_) (fun qc_137_7 => ?_)
            · refine q_iload (pc' := 150) 0 dX9_worth_148 rfl rfl ?_
              refine q_iload (pc' := 152) 1 dX9_worth_150 rfl rfl ?_
              refine q_isub (pc' := 153) dX9_worth_152 rfl ?_
              refine q_iadd (pc' := 154) dX9_worth_153 rfl ?_
              refine p_iret dX9_worth_154 rfl ?_ ?_
              · unfold s_worth s_wv; rw [← q151]; omega
              · first | rfl | exact congrArg (Prod.mk KC) q_up_back
            · refine q_iload (pc' := 142) 1 dX9_worth_140 rfl rfl ?_
              refine q_iload (pc' := 144) 0 dX9_worth_142 rfl rfl ?_
              refine q_isub (pc' := 145) dX9_worth_144 rfl ?_
              refine q_goto (pc' := 153) dX9_worth_145 rfl ?_
              refine q_iadd (pc' := 154) dX9_worth_153 rfl ?_
              refine p_iret dX9_worth_154 rfl ?_ ?_
              · unfold s_worth s_wv; rw [← q151]; omega
              · first | rfl | exact congrArg (Prod.mk KC) q_up_back
        · refine q_aloadn (pc' := 96) 3 dX9_worth_95 rfl rfl ?_
          refine q_iloadn (pc' := 97) 4 dX9_worth_96 rfl rfl ?_
          refine q_callVI (pc' := 100) dX9_worth_97 rfl lX9_93 iX9_yieldOf kc150 rfl (c_X9_yieldOf (by first | assumption | omega) (by first | assumption | omega) (by first | assumption | omega)) rfl rfl (Nat.le_of_ble_eq_true rfl) (Nat.le_of_ble_eq_true rfl) (Nat.le_of_ble_eq_true rfl) ?_
          refine q_goto (pc' := 121) dX9_worth_100 rfl ?_
          refine q_istore (pc' := 123) (L' := [(9, q_i (s_yo ((q_up S 151 (39 + 10 * (6 * a + b) + h) u) 151) a)), (8, q_i (s_yo (S 151) a)), (7, q_i (s_rt (S 151) a b h)), (6, q_i (s_wGrant (S 151) a b h u)), (0, q_r Γ 150), (1, q_i a), (2, q_i b), (3, q_i h), (4, q_i u), (5, q_i w)]) dX9_worth_121 rfl (by decide) rfl ?_
          refine q_aloadn (pc' := 124) 4 dX9_worth_123 rfl rfl ?_
          refine q_iloadn (pc' := 125) 5 dX9_worth_124 rfl rfl ?_
          refine q_iloadn (pc' := 126) 6 dX9_worth_125 rfl rfl ?_
          refine q_iloadn (pc' := 127) 7 dX9_worth_126 rfl rfl ?_
          refine q_iload (pc' := 129) 2 dX9_worth_127 rfl rfl ?_
          refine q_callVV (pc' := 132) dX9_worth_129 rfl lX9_117 iX9_setRight kc150 rfl (c_X9_setRight (by first | assumption | omega) (by first | assumption | omega) (by first | assumption | omega) (by first | assumption | omega) (by first | assumption | omega) (by first | assumption | omega) (by first | assumption | omega)) rfl rfl (Nat.le_of_ble_eq_true rfl) (Nat.le_of_ble_eq_true rfl) (Nat.le_of_ble_eq_true rfl) ?_
          refine q_ldc (pc' := 134) dX9_worth_132 rfl wX9_186 ?_
          refine q_iload (pc' := 136) 9 dX9_worth_134 rfl rfl ?_
          refine q_iconst (pc' := 137) dX9_worth_136 rfl ?_
          refine q_icmp_ne (tgt := 148) (pc' := 140) dX9_worth_137 rfl rfl (by first | assumption | omega) (by decide) (fun qc_137_8 => ?_) (fun qc_137_8 => ?_)
          · refine q_iload (pc' := 150) 0 dX9_worth_148 rfl rfl ?_
            refine q_iload (pc' := 152) 1 dX9_worth_150 rfl rfl ?_
            refine q_isub (pc' := 153) dX9_worth_152 rfl ?_
            refine q_iadd (pc' := 154) dX9_worth_153 rfl ?_
            refine p_iret dX9_worth_154 rfl ?_ ?_
            · unfold s_worth s_wv; rw [← q151]; omega
            · first | rfl | exact congrArg (Prod.mk KC) q_up_back
          · refine q_iload (pc' := 142) 1 dX9_worth_140 rfl rfl ?_
            refine q_iload (pc' := 144) 0 dX9_worth_142 rfl rfl ?_
            refine q_isub (pc' := 145) dX9_worth_144 rfl ?_
            refine q_goto (pc' := 153) dX9_worth_145 rfl ?_
            refine q_iadd (pc' := 154) dX9_worth_153 rfl ?_
            refine p_iret dX9_worth_154 rfl ?_ ?_
            · unfold s_worth s_wv; rw [← q151]; omega
            · first | rfl | exact congrArg (Prod.mk KC) q_up_back
    · refine q_iload (pc' := 28) 0 dX9_worth_26 rfl rfl ?_
      refine q_if_ge (tgt := 36) (pc' := 31) dX9_worth_28 rfl rfl (by first | assumption | omega) (fun qc_28_1 => ?_) (fun qc_28_1 => ?_)
      · refine q_bipush (pc' := 38) dX9_worth_36 rfl rfl ?_
        refine p_iret dX9_worth_38 rfl ?_ ?_
        · unfold s_worth s_wv; rw [← q151]; omega
        · first | rfl | exact congrArg (Prod.mk KC) q_up_back
      · refine q_iload (pc' := 33) 0 dX9_worth_31 rfl rfl ?_
        refine q_goto (pc' := 38) dX9_worth_33 rfl ?_
        refine p_iret dX9_worth_38 rfl ?_ ?_
        · unfold s_worth s_wv; rw [← q151]; omega
        · first | rfl | exact congrArg (Prod.mk KC) q_up_back
set_option maxRecDepth 20000 in
set_option maxHeartbeats 4000000 in
theorem c_X9_bestTilt {Γ : q_G} {S : q_S} {r w : Int} (ok : s_ok (S 151)) (rr : q_rg r) (wr : q_rg w) : q_Sp Γ mX9_bestTilt 10 0 0 [q_r Γ 150, q_i r, q_i w] (KC, S) (q_ev (some (q_i (s_best1 (S 151) r w))) (KC, S)) := by
  show q_Go Γ mX9_bestTilt 10 0 0 0 [(0, q_r Γ 150), (1, q_i r), (2, q_i w)] [] (KC, S) (q_ev (some (q_i (s_best1 (S 151) r w))) (KC, S))
  have rw0 := s_rows_b ok
  refine q_aloadn (pc' := 1) 0 dX9_bestTilt_0 rfl rfl ?_
  refine q_iloadn (pc' := 2) 1 dX9_bestTilt_1 rfl rfl ?_
  refine q_callVI (pc' := 5) dX9_bestTilt_2 rfl lX9_102 iX9_isRow kc150 rfl (c_X9_isRow (by first | assumption | omega) (by first | assumption | omega)) rfl rfl (Nat.le_of_ble_eq_true rfl) (Nat.le_of_ble_eq_true rfl) (Nat.le_of_ble_eq_true rfl) ?_
  refine q_if_eq_B (tgt := 17) (pc' := 8) dX9_bestTilt_5 rfl rfl (fun qc_5 => ?_) (fun qc_5 => ?_)
  · refine q_aloadn (pc' := 18) 0 dX9_bestTilt_17 rfl rfl ?_
    refine q_iloadn (pc' := 19) 1 dX9_bestTilt_18 rfl rfl ?_
    refine q_callVI (pc' := 22) dX9_bestTilt_19 rfl lX9_102 iX9_isRow kc150 rfl (c_X9_isRow (by first | assumption | omega) (by first | assumption | omega)) rfl rfl (Nat.le_of_ble_eq_true rfl) (Nat.le_of_ble_eq_true rfl) (Nat.le_of_ble_eq_true rfl) ?_
    refine q_if_eq_B (tgt := 30) (pc' := 25) dX9_bestTilt_22 rfl rfl (fun qc_22 => ?_) (fun qc_22 => ?_)
    · refine q_iconst (pc' := 31) dX9_bestTilt_30 rfl ?_
      refine p_iret dX9_bestTilt_31 rfl ?_ ?_
      · unfold s_best1; first | omega | (rw [if_neg (by omega), if_neg (by omega), if_pos (by omega), qnone_, show k = 5 by omega]; rfl) | (rw [if_neg (by omega), if_neg (by omega), if_neg (by omega), qnone_, show k = 5 by omega]; rfl)
      · first | rfl | exact congrArg (Prod.mk KC) q_up_back
    · refine q_bipush (pc' := 27) dX9_bestTilt_25 rfl rfl ?_
      refine q_goto (pc' := 31) dX9_bestTilt_27 rfl ?_
      refine p_iret dX9_bestTilt_31 rfl ?_ ?_
      · unfold s_best1; first | omega | (rw [if_neg (by omega), if_neg (by omega), if_pos (by omega), qnone_, show k = 5 by omega]; rfl) | (rw [if_neg (by omega), if_neg (by omega), if_neg (by omega), qnone_, show k = 5 by omega]; rfl)
      · first | rfl | exact congrArg (Prod.mk KC) q_up_back
  · refine q_iloadn (pc' := 9) 2 dX9_bestTilt_8 rfl rfl ?_
    refine q_iconst (pc' := 10) dX9_bestTilt_9 rfl ?_
    refine q_iconst (pc' := 11) dX9_bestTilt_10 rfl ?_
    refine q_callSI (pc' := 14) dX9_bestTilt_11 rfl lX9_42 iX9_within (c_X9_within (by first | assumption | omega) (by first | assumption | omega) (by first | assumption | omega)) rfl rfl (Nat.le_of_ble_eq_true rfl) (Nat.le_of_ble_eq_true rfl) (Nat.le_of_ble_eq_true rfl) ?_
    refine q_if_ne_B (tgt := 32) (pc' := 17) dX9_bestTilt_14 rfl rfl (fun qc_14 => ?_) (fun qc_14 => ?_)
    · have pa := s_pt_b ok (r := r) (by omega) (by omega)
      refine q_aloadn (pc' := 33) 0 dX9_bestTilt_32 rfl rfl ?_
      refine q_iloadn (pc' := 34) 1 dX9_bestTilt_33 rfl rfl ?_
      refine q_iconst (pc' := 35) dX9_bestTilt_34 rfl ?_
      refine q_callVI (pc' := 38) dX9_bestTilt_35 rfl lX9_46 iX9_part kc150 rfl (c_X9_part (by first | assumption | omega) (by first | assumption | omega)) rfl rfl (Nat.le_of_ble_eq_true rfl) (Nat.le_of_ble_eq_true rfl) (Nat.le_of_ble_eq_true rfl) ?_
      refine q_istoren (pc' := 39) (L' := [(3, q_i (s_pt (S 151) r 2)), (0, q_r Γ 150), (1, q_i r), (2, q_i w)]) dX9_bestTilt_38 rfl rfl (by decide) rfl ?_
      refine q_iconst (pc' := 40) dX9_bestTilt_39 rfl ?_
      refine q_istore (pc' := 42) (L' := [(4, q_i 0), (3, q_i (s_pt (S 151) r 2)), (0, q_r Γ 150), (1, q_i r), (2, q_i w)]) dX9_bestTilt_40 rfl (by decide) rfl ?_
      refine q_iconst (pc' := 43) dX9_bestTilt_42 rfl ?_
      refine q_istore (pc' := 45) (L' := [(5, q_i (-1)), (4, q_i 0), (3, q_i (s_pt (S 151) r 2)), (0, q_r Γ 150), (1, q_i r), (2, q_i w)]) dX9_bestTilt_43 rfl (by decide) rfl ?_
      refine q_iconst (pc' := 46) dX9_bestTilt_45 rfl ?_
      refine q_istore (pc' := 48) (L' := [(6, q_i 0), (5, q_i (-1)), (4, q_i 0), (3, q_i (s_pt (S 151) r 2)), (0, q_r Γ 150), (1, q_i r), (2, q_i w)]) dX9_bestTilt_46 rfl (by decide) rfl ?_
      have qlp_48 : ∀ (qn_48 : Nat) (S2 : q_S) (best most k : Int), (0 ≤ k) → (k ≤ 5) → (best = (s_btN (S 151) r k.toNat).1) → (most = (s_btN (S 151) r k.toNat).2) → (-1 ≤ most ∧ most ≤ 25200) → (∃ v, S2 = q_up S 151 (15 + 4 * r + 2) v) → ((5 - k).toNat) = qn_48 → q_Go Γ mX9_bestTilt 10 0 0 48 [(0, q_r Γ 150), (1, q_i r), (2, q_i w), (3, q_i (s_pt (S 151) r 2)), (4, q_i best), (5, q_i most), (6, q_i k)] [] (KC, S2) (q_ev (some (q_i (s_best1 (S 151) r w))) (KC, S)) := by
        intro qn_48
        induction qn_48 using Nat.strongRecOn with
        | ind qn_48 qih_48 =>
          intro S2 best most k qa_48_0 qa_48_1 qa_48_2 qa_48_3 qa_48_4 qa_48_5 qhn_48
          subst qhn_48
          obtain ⟨v, rfl⟩ := qa_48_5
          refine q_iload (pc' := 50) 6 dX9_bestTilt_48 rfl rfl ?_
          refine q_iconst (pc' := 51) dX9_bestTilt_50 rfl ?_
          refine q_icmp_ge (tgt := 106) (pc' := 54) dX9_bestTilt_51 rfl rfl (by first | assumption | omega) (by decide) (fun qc_51 => ?_) (fun qc_51 => ?_)
          · refine q_aloadn (pc' := 107) 0 dX9_bestTilt_106 rfl rfl ?_
            refine q_iloadn (pc' := 108) 1 dX9_bestTilt_107 rfl rfl ?_
            refine q_iloadn (pc' := 109) 3 dX9_bestTilt_108 rfl rfl ?_
            refine q_callVI (pc' := 112) dX9_bestTilt_109 rfl lX9_108 iX9_tilted kc150 rfl (c_X9_tilted (by first | assumption | omega) (by first | assumption | omega) (by first | assumption | omega)) rfl rfl (Nat.le_of_ble_eq_true rfl) (Nat.le_of_ble_eq_true rfl) (Nat.le_of_ble_eq_true rfl) ?_
            refine q_pop (pc' := 113) dX9_bestTilt_112 rfl rfl ?_
            refine q_iloadn (pc' := 114) 2 dX9_bestTilt_113 rfl rfl ?_
            refine q_if_ne (tgt := 122) (pc' := 117) dX9_bestTilt_114 rfl rfl (by first | assumption | omega) (fun qc_114 => ?_) (fun qc_114 => ?_)
            · refine q_iload (pc' := 124) 5 dX9_bestTilt_122 rfl rfl ?_
              refine p_iret dX9_bestTilt_124 rfl ?_ ?_
              · unfold s_best1; first | omega | (rw [if_neg (by omega), if_neg (by omega), if_pos (by omega), qa_48_2, show k = 5 by omega]; rfl) | (rw [if_neg (by omega), if_neg (by omega), if_neg (by omega), qa_48_3, show k = 5 by omega]; rfl)
              · first | rfl | exact congrArg (Prod.mk KC) q_up_back
            · refine q_iload (pc' := 119) 4 dX9_bestTilt_117 rfl rfl ?_
              refine q_goto (pc' := 124) dX9_bestTilt_119 rfl ?_
              refine p_iret dX9_bestTilt_124 rfl ?_ ?_
              · unfold s_best1; first | omega | (rw [if_neg (by omega), if_neg (by omega), if_pos (by omega), qa_48_2, show k = 5 by omega]; rfl) | (rw [if_neg (by omega), if_neg (by omega), if_neg (by omega), qa_48_3, show k = 5 by omega]; rfl)
              · first | rfl | exact congrArg (Prod.mk KC) q_up_back
          · have q151 : q_up S 151 (15 + 4 * r + 2) k 151 = s_set (S 151) (15 + 4 * r + 2) k := q_up_fn
            have ok2 : s_ok (q_up S 151 (15 + 4 * r + 2) k 151) := by rw [q151]; exact s_ok_tilt ok (by omega) (by omega) (by omega) (by omega)
            have ab := s_all_b ok2
            refine q_aloadn (pc' := 55) 0 dX9_bestTilt_54 rfl rfl ?_
            refine q_iloadn (pc' := 56) 1 dX9_bestTilt_55 rfl rfl ?_
            refine q_iload (pc' := 58) 6 dX9_bestTilt_56 rfl rfl ?_
            refine q_callVI (pc' := 61) dX9_bestTilt_58 rfl lX9_108 iX9_tilted kc150 rfl (c_X9_tilted (by first | assumption | omega) (by first | assumption | omega) (by first | assumption | omega)) rfl rfl (Nat.le_of_ble_eq_true rfl) (Nat.le_of_ble_eq_true rfl) (Nat.le_of_ble_eq_true rfl) ?_
            rw [q_up_up]
            refine q_pop (pc' := 62) dX9_bestTilt_61 rfl rfl ?_
            refine q_aloadn (pc' := 63) 0 dX9_bestTilt_62 rfl rfl ?_
            refine q_callVI (pc' := 66) dX9_bestTilt_63 rfl lX9_180 iX9_allYields kc150 rfl (c_X9_allYields (by first | assumption | omega)) rfl rfl (Nat.le_of_ble_eq_true rfl) (Nat.le_of_ble_eq_true rfl) (Nat.le_of_ble_eq_true rfl) ?_
            refine q_istore (pc' := 68) (L' := [(7, q_i (s_all ((q_up S 151 (15 + 4 * r + 2) k) 151))), (0, q_r Γ 150), (1, q_i r), (2, q_i w), (3, q_i (s_pt (S 151) r 2)), (4, q_i best), (5, q_i most), (6, q_i k)]) dX9_bestTilt_66 rfl (by decide) rfl ?_
            refine q_iload (pc' := 70) 0 dX9_bestTilt_68 rfl rfl ?_
            refine q_iload (pc' := 72) 6 dX9_bestTilt_70 rfl rfl ?_
            refine q_icmp_le (tgt := 80) (pc' := 75) dX9_bestTilt_72 rfl rfl (by first | assumption | omega) (by first | assumption | omega) (fun qc_72 => ?_) (fun qc_72 => ?_)
            · refine q_iload (pc' := 82) 5 dX9_bestTilt_80 rfl rfl ?_
              refine q_istore (pc' := 84) (L' := [(4, q_i best), (7, q_i (s_all ((q_up S 151 (15 + 4 * r + 2) k) 151))), (0, q_r Γ 150), (1, q_i r), (2, q_i w), (3, q_i (s_pt (S 151) r 2)), (5, q_i most), (6, q_i k)]) dX9_bestTilt_82 rfl (by decide) rfl ?_
              refine q_iload (pc' := 86) 1 dX9_bestTilt_84 rfl rfl ?_
              refine q_iload (pc' := 88) 6 dX9_bestTilt_86 rfl rfl ?_
              refine q_icmp_le (tgt := 96) (pc' := 91) dX9_bestTilt_88 rfl rfl (by first | assumption | omega) (by first | assumption | omega) (fun qc_88 => ?_) (fun qc_88 => ?_)
              · refine q_iload (pc' := 98) 6 dX9_bestTilt_96 rfl rfl ?_
                refine q_istore (pc' := 100) (L' := [(5, q_i most), (4, q_i best), (7, q_i (s_all ((q_up S 151 (15 + 4 * r + 2) k) 151))), (0, q_r Γ 150), (1, q_i r), (2, q_i w), (3, q_i (s_pt (S 151) r 2)), (6, q_i k)]) dX9_bestTilt_98 rfl (by decide) rfl ?_
                refine q_iinc (pc' := 103) 7 (L' := [(6, q_i (k + 1)), (5, q_i most), (4, q_i best), (7, q_i (s_all ((q_up S 151 (15 + 4 * r + 2) k) 151))), (0, q_r Γ 150), (1, q_i r), (2, q_i w), (3, q_i (s_pt (S 151) r 2))]) dX9_bestTilt_100 rfl rfl (by decide) rfl ?_
                refine q_goto (pc' := 48) dX9_bestTilt_103 rfl ?_
                refine p_sub [4, 5, 6, 7, 2, 1, 0] rfl ?_
                exact qih_48 _ (by omega) _ _ _ _ (by first | assumption | omega) (by first | assumption | omega) (by rw [s_btN_s (by omega), ← qa_48_2, ← qa_48_3, ← q151]; first | exact (q_if_t (by omega)).symm | exact (q_if_f (by omega)).symm) (by rw [s_btN_s (by omega), ← qa_48_2, ← qa_48_3, ← q151]; first | exact (q_if_t (by omega)).symm | exact (q_if_f (by omega)).symm) (by first | assumption | omega) (by exact ⟨_, rfl⟩) rfl
              · refine q_iload (pc' := 93) 1 dX9_bestTilt_91 rfl rfl ?_
                refine q_goto (pc' := 98) dX9_bestTilt_93 rfl ?_
                refine q_istore (pc' := 100) (L' := [(5, q_i (s_all ((q_up S 151 (15 + 4 * r + 2) k) 151))), (4, q_i best), (7, q_i (s_all ((q_up S 151 (15 + 4 * r + 2) k) 151))), (0, q_r Γ 150), (1, q_i r), (2, q_i w), (3, q_i (s_pt (S 151) r 2)), (6, q_i k)]) dX9_bestTilt_98 rfl (by decide) rfl ?_
                refine q_iinc (pc' := 103) 7 (L' := [(6, q_i (k + 1)), (5, q_i (s_all ((q_up S 151 (15 + 4 * r + 2) k) 151))), (4, q_i best), (7, q_i (s_all ((q_up S 151 (15 + 4 * r + 2) k) 151))), (0, q_r Γ 150), (1, q_i r), (2, q_i w), (3, q_i (s_pt (S 151) r 2))]) dX9_bestTilt_100 rfl rfl (by decide) rfl ?_
                refine q_goto (pc' := 48) dX9_bestTilt_103 rfl ?_
                refine p_sub [4, 5, 6, 7, 2, 1, 0] rfl ?_
                exact qih_48 _ (by omega) _ _ _ _ (by first | assumption | omega) (by first | assumption | omega) (by rw [s_btN_s (by omega), ← qa_48_2, ← qa_48_3, ← q151]; first | exact (q_if_t (by omega)).symm | exact (q_if_f (by omega)).symm) (by rw [s_btN_s (by omega), ← qa_48_2, ← qa_48_3, ← q151]; first | exact (q_if_t (by omega)).symm | exact (q_if_f (by omega)).symm) (by first | assumption | omega) (by exact ⟨_, rfl⟩) rfl
            · refine q_iload (pc' := 77) 7 dX9_bestTilt_75 rfl rfl ?_
              refine q_goto (pc' := 82) dX9_bestTilt_77 rfl ?_
              refine q_istore (pc' := 84) (L' := [(4, q_i k), (7, q_i (s_all ((q_up S 151 (15 + 4 * r + 2) k) 151))), (0, q_r Γ 150), (1, q_i r), (2, q_i w), (3, q_i (s_pt (S 151) r 2)), (5, q_i most), (6, q_i k)]) dX9_bestTilt_82 rfl (by decide) rfl ?_
              refine q_iload (pc' := 86) 1 dX9_bestTilt_84 rfl rfl ?_
              refine q_iload (pc' := 88) 6 dX9_bestTilt_86 rfl rfl ?_
              refine q_icmp_le (tgt := 96) (pc' := 91) dX9_bestTilt_88 rfl rfl (by first | assumption | omega) (by first | assumption | omega) (fun qc_88_1 => ?_) (fun qc_88_1 => ?_)
              · refine q_iload (pc' := 98) 6 dX9_bestTilt_96 rfl rfl ?_
                refine q_istore (pc' := 100) (L' := [(5, q_i most), (4, q_i k), (7, q_i (s_all ((q_up S 151 (15 + 4 * r + 2) k) 151))), (0, q_r Γ 150), (1, q_i r), (2, q_i w), (3, q_i (s_pt (S 151) r 2)), (6, q_i k)]) dX9_bestTilt_98 rfl (by decide) rfl ?_
                refine q_iinc (pc' := 103) 7 (L' := [(6, q_i (k + 1)), (5, q_i most), (4, q_i k), (7, q_i (s_all ((q_up S 151 (15 + 4 * r + 2) k) 151))), (0, q_r Γ 150), (1, q_i r), (2, q_i w), (3, q_i (s_pt (S 151) r 2))]) dX9_bestTilt_100 rfl rfl (by decide) rfl ?_
                refine q_goto (pc' := 48) dX9_bestTilt_103 rfl ?_
                refine p_sub [4, 5, 6, 7, 2, 1, 0] rfl ?_
                exact qih_48 _ (by omega) _ _ _ _ (by first | assumption | omega) (by first | assumption | omega) (by rw [s_btN_s (by omega), ← qa_48_2, ← qa_48_3, ← q151]; first | exact (q_if_t (by omega)).symm | exact (q_if_f (by omega)).symm) (by rw [s_btN_s (by omega), ← qa_48_2, ← qa_48_3, ← q151]; first | exact (q_if_t (by omega)).symm | exact (q_if_f (by omega)).symm) (by first | assumption | omega) (by exact ⟨_, rfl⟩) rfl
              · refine q_iload (pc' := 93) 1 dX9_bestTilt_91 rfl rfl ?_
                refine q_goto (pc' := 98) dX9_bestTilt_93 rfl ?_
                refine q_istore (pc' := 100) (L' := [(5, q_i (s_all ((q_up S 151 (15 + 4 * r + 2) k) 151))), (4, q_i k), (7, q_i (s_all ((q_up S 151 (15 + 4 * r + 2) k) 151))), (0, q_r Γ 150), (1, q_i r), (2, q_i w), (3, q_i (s_pt (S 151) r 2)), (6, q_i k)]) dX9_bestTilt_98 rfl (by decide) rfl ?_
                refine q_iinc (pc' := 103) 7 (L' := [(6, q_i (k + 1)), (5, q_i (s_all ((q_up S 151 (15 + 4 * r + 2) k) 151))), (4, q_i k), (7, q_i (s_all ((q_up S 151 (15 + 4 * r + 2) k) 151))), (0, q_r Γ 150), (1, q_i r), (2, q_i w), (3, q_i (s_pt (S 151) r 2))]) dX9_bestTilt_100 rfl rfl (by decide) rfl ?_
                refine q_goto (pc' := 48) dX9_bestTilt_103 rfl ?_
                refine p_sub [4, 5, 6, 7, 2, 1, 0] rfl ?_
                exact qih_48 _ (by omega) _ _ _ _ (by first | assumption | omega) (by first | assumption | omega) (by rw [s_btN_s (by omega), ← qa_48_2, ← qa_48_3, ← q151]; first | exact (q_if_t (by omega)).symm | exact (q_if_f (by omega)).symm) (by rw [s_btN_s (by omega), ← qa_48_2, ← qa_48_3, ← q151]; first | exact (q_if_t (by omega)).symm | exact (q_if_f (by omega)).symm) (by first | assumption | omega) (by exact ⟨_, rfl⟩) rfl
      refine p_sub [4, 5, 6, 3, 2, 1, 0] rfl ?_
      exact qlp_48 _ _ _ _ _ (by first | assumption | omega) (by first | assumption | omega) (by rfl) (by rfl) (by first | assumption | omega) (by exact ⟨_, q_up_self.symm⟩) rfl
    · refine q_aloadn (pc' := 18) 0 dX9_bestTilt_17 rfl rfl ?_
      refine q_iloadn (pc' := 19) 1 dX9_bestTilt_18 rfl rfl ?_
      refine q_callVI (pc' := 22) dX9_bestTilt_19 rfl lX9_102 iX9_isRow kc150 rfl (c_X9_isRow (by first | assumption | omega) (by first | assumption | omega)) rfl rfl (Nat.le_of_ble_eq_true rfl) (Nat.le_of_ble_eq_true rfl) (Nat.le_of_ble_eq_true rfl) ?_
      refine q_if_eq_B (tgt := 30) (pc' := 25) dX9_bestTilt_22 rfl rfl (fun qc_22_1 => ?_) (fun qc_22_1 => ?_)
      · refine q_iconst (pc' := 31) dX9_bestTilt_30 rfl ?_
        refine p_iret dX9_bestTilt_31 rfl ?_ ?_
        · unfold s_best1; first | omega | (rw [if_neg (by omega), if_neg (by omega), if_pos (by omega), qnone_, show k = 5 by omega]; rfl) | (rw [if_neg (by omega), if_neg (by omega), if_neg (by omega), qnone_, show k = 5 by omega]; rfl)
        · first | rfl | exact congrArg (Prod.mk KC) q_up_back
      · refine q_bipush (pc' := 27) dX9_bestTilt_25 rfl rfl ?_
        refine q_goto (pc' := 31) dX9_bestTilt_27 rfl ?_
        refine p_iret dX9_bestTilt_31 rfl ?_ ?_
        · unfold s_best1; first | omega | (rw [if_neg (by omega), if_neg (by omega), if_pos (by omega), qnone_, show k = 5 by omega]; rfl) | (rw [if_neg (by omega), if_neg (by omega), if_neg (by omega), qnone_, show k = 5 by omega]; rfl)
        · first | rfl | exact congrArg (Prod.mk KC) q_up_back
set_option maxRecDepth 20000 in
set_option maxHeartbeats 4000000 in
theorem c_X9_lyingAt {Γ : q_G} {S : q_S} {r o h : Int}  : q_Sp Γ mX9_lyingAt 0 0 0 [q_i r, q_i o, q_i h] (KC, S) (q_ev (some (q_i (10 * (5 * r + o) + h))) (KC, S)) := by
  show q_Go Γ mX9_lyingAt 0 0 0 0 [(0, q_i r), (1, q_i o), (2, q_i h)] [] (KC, S) (q_ev (some (q_i (10 * (5 * r + o) + h))) (KC, S))
  refine q_bipush (pc' := 2) dX9_lyingAt_0 rfl rfl ?_
  refine q_iconst (pc' := 3) dX9_lyingAt_2 rfl ?_
  refine q_iloadn (pc' := 4) 0 dX9_lyingAt_3 rfl rfl ?_
  refine q_imul (pc' := 5) dX9_lyingAt_4 rfl ?_
  refine q_iloadn (pc' := 6) 1 dX9_lyingAt_5 rfl rfl ?_
  refine q_iadd (pc' := 7) dX9_lyingAt_6 rfl ?_
  refine q_imul (pc' := 8) dX9_lyingAt_7 rfl ?_
  refine q_iloadn (pc' := 9) 2 dX9_lyingAt_8 rfl rfl ?_
  refine q_iadd (pc' := 10) dX9_lyingAt_9 rfl ?_
  refine p_iret dX9_lyingAt_10 rfl ?_ ?_
  · rfl
  · rfl
set_option maxRecDepth 20000 in
set_option maxHeartbeats 4000000 in
theorem c_X9_heightAt {Γ : q_G} {S : q_S} {a u b h : Int}  : q_Sp Γ mX9_heightAt 0 0 0 [q_i a, q_i u, q_i b, q_i h] (KC, S) (q_ev (some (q_i (10 * (6 * (5 * a + u) + b) + h))) (KC, S)) := by
  show q_Go Γ mX9_heightAt 0 0 0 0 [(0, q_i a), (1, q_i u), (2, q_i b), (3, q_i h)] [] (KC, S) (q_ev (some (q_i (10 * (6 * (5 * a + u) + b) + h))) (KC, S))
  refine q_bipush (pc' := 2) dX9_heightAt_0 rfl rfl ?_
  refine q_bipush (pc' := 4) dX9_heightAt_2 rfl rfl ?_
  refine q_iconst (pc' := 5) dX9_heightAt_4 rfl ?_
  refine q_iloadn (pc' := 6) 0 dX9_heightAt_5 rfl rfl ?_
  refine q_imul (pc' := 7) dX9_heightAt_6 rfl ?_
  refine q_iloadn (pc' := 8) 1 dX9_heightAt_7 rfl rfl ?_
  refine q_iadd (pc' := 9) dX9_heightAt_8 rfl ?_
  refine q_imul (pc' := 10) dX9_heightAt_9 rfl ?_
  refine q_iloadn (pc' := 11) 2 dX9_heightAt_10 rfl rfl ?_
  refine q_iadd (pc' := 12) dX9_heightAt_11 rfl ?_
  refine q_imul (pc' := 13) dX9_heightAt_12 rfl ?_
  refine q_iloadn (pc' := 14) 3 dX9_heightAt_13 rfl rfl ?_
  refine q_iadd (pc' := 15) dX9_heightAt_14 rfl ?_
  refine p_iret dX9_heightAt_15 rfl ?_ ?_
  · rfl
  · rfl
set_option maxRecDepth 20000 in
set_option maxHeartbeats 4000000 in
theorem c_X9_findHeights {Γ : q_G} {S : q_S} (ok : s_ok (S 151)) : q_Sp Γ mX9_findHeights 4 0 0 [q_r Γ 150] (KC, S) (fun v w => v = none ∧ ∃ S2, w = (KC, S2) ∧ s_off S S2 (fun a => a = 156 ∨ a = 157) ∧ s_FH (S 151) S2 (50 * S 151 0)) := by
  show q_Go Γ mX9_findHeights 4 0 0 0 [(0, q_r Γ 150)] [] (KC, S) (fun v w => v = none ∧ ∃ S2, w = (KC, S2) ∧ s_off S S2 (fun a => a = 156 ∨ a = 157) ∧ s_FH (S 151) S2 (50 * S 151 0))
  have rw0 := s_rows_b ok
  have o0 : s_off S S (fun a => a = 156 ∨ a = 157) := s_off_r
  have f0 : s_FH (S 151) S 0 := fun a u h a0 a1 t0 t1 h0 h1 hN => by omega
  refine q_iconst (pc' := 1) dX9_findHeights_0 rfl ?_
  refine q_istoren (pc' := 2) (L' := [(1, q_i 0), (0, q_r Γ 150)]) dX9_findHeights_1 rfl rfl (by decide) rfl ?_
  have qlp_2 : ∀ (qn_2 : Nat) (S2 : q_S) (a : Int), (0 ≤ a) → (a ≤ S 151 0) → (s_off S S2 (fun a => a = 156 ∨ a = 157)) → (s_FH (S 151) S2 (50 * a)) → ((6 - a).toNat) = qn_2 → q_Go Γ mX9_findHeights 4 0 0 2 [(0, q_r Γ 150), (1, q_i a)] [] (KC, S2) (fun v w => v = none ∧ ∃ S2, w = (KC, S2) ∧ s_off S S2 (fun a => a = 156 ∨ a = 157) ∧ s_FH (S 151) S2 (50 * S 151 0)) := by
    intro qn_2
    induction qn_2 using Nat.strongRecOn with
    | ind qn_2 qih_2 =>
      intro S2 a qa_2_0 qa_2_1 qa_2_2 qa_2_3 qhn_2
      subst qhn_2
      have e151 : S2 151 = S 151 := qa_2_2 151 (by simp)
      have ok2 : s_ok (S2 151) := by rw [e151]; exact ok
      refine q_iloadn (pc' := 3) 1 dX9_findHeights_2 rfl rfl ?_
      refine q_aloadn (pc' := 4) 0 dX9_findHeights_3 rfl rfl ?_
      have e0 : S2 151 0 = S 151 0 := by rw [e151]
      refine p_getR (pc' := 7) (f := 151) dX9_findHeights_4 rfl fX9_7 kc150 rfl ?_
      refine q_iconst (pc' := 8) dX9_findHeights_7 rfl ?_
      refine p_iald (pc' := 9) dX9_findHeights_8 rfl kc151 (by first | assumption | omega) (by first | assumption | omega) (by decide) (fun qy_8 eqy_8 rqy_8 => ?_)
      refine q_icmp_ge (tgt := 115) (pc' := 12) dX9_findHeights_9 rfl rfl (by first | assumption | omega) (by first | assumption | omega) (fun qc_9 => ?_) (fun qc_9 => ?_)
      · exact q_vret dX9_findHeights_115 rfl ⟨rfl, _, rfl, by assumption, by rw [show S 151 0 = a by omega]; assumption⟩
      · refine q_iconst (pc' := 13) dX9_findHeights_12 rfl ?_
        refine q_istoren (pc' := 14) (L' := [(2, q_i 0), (0, q_r Γ 150), (1, q_i a)]) dX9_findHeights_13 rfl rfl (by decide) rfl ?_
        have qlp_14 : ∀ (qn_14 : Nat) (S3 : q_S) (u : Int), (0 ≤ u) → (u ≤ 5) → (s_off S S3 (fun a => a = 156 ∨ a = 157)) → (s_FH (S 151) S3 (50 * a + 10 * u)) → ((5 - u).toNat) = qn_14 → q_Go Γ mX9_findHeights 4 0 0 14 [(0, q_r Γ 150), (1, q_i a), (2, q_i u)] [] (KC, S3) (fun v w => v = none ∧ ∃ S2, w = (KC, S2) ∧ s_off S S2 (fun a => a = 156 ∨ a = 157) ∧ s_FH (S 151) S2 (50 * S 151 0)) := by
          intro qn_14
          induction qn_14 using Nat.strongRecOn with
          | ind qn_14 qih_14 =>
            intro S3 u qa_14_0 qa_14_1 qa_14_2 qa_14_3 qhn_14
            subst qhn_14
            refine q_iloadn (pc' := 15) 2 dX9_findHeights_14 rfl rfl ?_
            refine q_iconst (pc' := 16) dX9_findHeights_15 rfl ?_
            refine q_icmp_ge (tgt := 109) (pc' := 19) dX9_findHeights_16 rfl rfl (by first | assumption | omega) (by decide) (fun qc_16 => ?_) (fun qc_16 => ?_)
            · refine q_iinc (pc' := 112) 1 (L' := [(1, q_i (a + 1)), (0, q_r Γ 150), (2, q_i u)]) dX9_findHeights_109 rfl rfl (by decide) rfl ?_
              refine q_goto (pc' := 2) dX9_findHeights_112 rfl ?_
              refine p_sub [1, 0] rfl ?_
              exact qih_2 _ (by omega) _ _ (by first | assumption | omega) (by first | assumption | omega) (by assumption) (by rw [show 50 * (a + 1) = 50 * a + 10 * u by omega]; assumption) rfl
            · refine q_iconst (pc' := 20) dX9_findHeights_19 rfl ?_
              refine q_istoren (pc' := 21) (L' := [(3, q_i 0), (0, q_r Γ 150), (1, q_i a), (2, q_i u)]) dX9_findHeights_20 rfl rfl (by decide) rfl ?_
              have qlp_21 : ∀ (qn_21 : Nat) (S4 : q_S) (h : Int), (0 ≤ h) → (h ≤ 10) → (s_off S S4 (fun a => a = 156 ∨ a = 157)) → (s_FH (S 151) S4 (50 * a + 10 * u + h)) → ((10 - h).toNat) = qn_21 → q_Go Γ mX9_findHeights 4 0 0 21 [(0, q_r Γ 150), (1, q_i a), (2, q_i u), (3, q_i h)] [] (KC, S4) (fun v w => v = none ∧ ∃ S2, w = (KC, S2) ∧ s_off S S2 (fun a => a = 156 ∨ a = 157) ∧ s_FH (S 151) S2 (50 * S 151 0)) := by
                intro qn_21
                induction qn_21 using Nat.strongRecOn with
                | ind qn_21 qih_21 =>
                  intro S4 h qa_21_0 qa_21_1 qa_21_2 qa_21_3 qhn_21
                  subst qhn_21
                  have e151b : S4 151 = S 151 := qa_21_2 151 (by simp)
                  have ok4 : s_ok (S4 151) := by rw [e151b]; exact ok
                  refine q_iloadn (pc' := 22) 3 dX9_findHeights_21 rfl rfl ?_
                  refine q_bipush (pc' := 24) dX9_findHeights_22 rfl rfl ?_
                  refine q_icmp_ge (tgt := 103) (pc' := 27) dX9_findHeights_24 rfl rfl (by first | assumption | omega) (by decide) (fun qc_24 => ?_) (fun qc_24 => ?_)
                  · refine q_iinc (pc' := 106) 2 (L' := [(2, q_i (u + 1)), (0, q_r Γ 150), (1, q_i a), (3, q_i h)]) dX9_findHeights_103 rfl rfl (by decide) rfl ?_
                    refine q_goto (pc' := 14) dX9_findHeights_106 rfl ?_
                    refine p_sub [1, 2, 0] rfl ?_
                    exact qih_14 _ (by omega) _ _ (by first | assumption | omega) (by first | assumption | omega) (by assumption) (by rw [show 50 * a + 10 * (u + 1) = 50 * a + 10 * u + h by omega]; assumption) rfl
                  · refine q_aloadn (pc' := 28) 0 dX9_findHeights_27 rfl rfl ?_
                    refine p_getR (pc' := 31) (f := 156) dX9_findHeights_28 rfl fX9_25 kc150 rfl ?_
                    refine q_iloadn (pc' := 32) 1 dX9_findHeights_31 rfl rfl ?_
                    refine q_iloadn (pc' := 33) 2 dX9_findHeights_32 rfl rfl ?_
                    refine q_iloadn (pc' := 34) 3 dX9_findHeights_33 rfl rfl ?_
                    refine q_callSI (pc' := 37) dX9_findHeights_34 rfl lX9_187 iX9_lyingAt (c_X9_lyingAt ) rfl rfl (Nat.le_of_ble_eq_true rfl) (Nat.le_of_ble_eq_true rfl) (Nat.le_of_ble_eq_true rfl) ?_
                    refine q_aloadn (pc' := 38) 0 dX9_findHeights_37 rfl rfl ?_
                    refine q_iloadn (pc' := 39) 1 dX9_findHeights_38 rfl rfl ?_
                    refine q_iloadn (pc' := 40) 2 dX9_findHeights_39 rfl rfl ?_
                    refine q_iloadn (pc' := 41) 3 dX9_findHeights_40 rfl rfl ?_
                    refine q_callVI (pc' := 44) dX9_findHeights_41 rfl lX9_69 iX9_tiltIn kc150 rfl (c_X9_tiltIn (by first | assumption | omega) (by first | assumption | omega) (by first | assumption | omega) (by first | assumption | omega) (by first | assumption | omega) (by first | assumption | omega) (by first | assumption | omega)) rfl rfl (Nat.le_of_ble_eq_true rfl) (Nat.le_of_ble_eq_true rfl) (Nat.le_of_ble_eq_true rfl) ?_
                    have tb := s_ti_b (φ := S4 151) (r := a) (own := u) (h := h) (by omega)
                    refine p_iast (pc' := 45) dX9_findHeights_44 rfl kc156 (by first | assumption | omega) (by first | assumption | omega) (by decide) (by first | assumption | omega) ?_
                    refine q_iconst (pc' := 46) dX9_findHeights_45 rfl ?_
                    refine q_istore (pc' := 48) (L' := [(4, q_i 0), (0, q_r Γ 150), (1, q_i a), (2, q_i u), (3, q_i h)]) dX9_findHeights_46 rfl (by decide) rfl ?_
                    have qlp_48 : ∀ (qn_48 : Nat) (S5 : q_S) (b : Int), (0 ≤ b) → (b ≤ S 151 0) → (s_off S S5 (fun a => a = 156 ∨ a = 157)) → (s_FH (S 151) S5 (10 * (5 * a + u) + h)) → (S5 156 (10 * (5 * a + u) + h) = s_ti (S 151) a u h) → (∀ b2, 0 ≤ b2 → b2 < b → S5 157 (10 * (6 * (5 * a + u) + b2) + h) = s_hx (S 151) a u b2 h) → ((6 - b).toNat) = qn_48 → q_Go Γ mX9_findHeights 4 0 0 48 [(0, q_r Γ 150), (1, q_i a), (2, q_i u), (3, q_i h), (4, q_i b)] [] (KC, S5) (fun v w => v = none ∧ ∃ S2, w = (KC, S2) ∧ s_off S S2 (fun a => a = 156 ∨ a = 157) ∧ s_FH (S 151) S2 (50 * S 151 0)) := by
                      intro qn_48
                      induction qn_48 using Nat.strongRecOn with
                      | ind qn_48 qih_48 =>
                        intro S5 b qa_48_0 qa_48_1 qa_48_2 qa_48_3 qa_48_4 qa_48_5 qhn_48
                        subst qhn_48
                        have e151c : S5 151 = S 151 := qa_48_2 151 (by simp)
                        have ok5 : s_ok (S5 151) := by rw [e151c]; exact ok
                        refine q_iload (pc' := 50) 4 dX9_findHeights_48 rfl rfl ?_
                        have e0c : S5 151 0 = S 151 0 := by rw [e151c]
                        refine q_aloadn (pc' := 51) 0 dX9_findHeights_50 rfl rfl ?_
                        refine p_getR (pc' := 54) (f := 151) dX9_findHeights_51 rfl fX9_7 kc150 rfl ?_
                        refine q_iconst (pc' := 55) dX9_findHeights_54 rfl ?_
                        refine p_iald (pc' := 56) dX9_findHeights_55 rfl kc151 (by first | assumption | omega) (by first | assumption | omega) (by decide) (fun qy_55 eqy_55 rqy_55 => ?_)
                        refine q_icmp_ge (tgt := 97) (pc' := 59) dX9_findHeights_56 rfl rfl (by first | assumption | omega) (by first | assumption | omega) (fun qc_56 => ?_) (fun qc_56 => ?_)
                        · refine q_iinc (pc' := 100) 3 (L' := [(3, q_i (h + 1)), (0, q_r Γ 150), (1, q_i a), (2, q_i u), (4, q_i b)]) dX9_findHeights_97 rfl rfl (by decide) rfl ?_
                          refine q_goto (pc' := 21) dX9_findHeights_100 rfl ?_
                          refine p_sub [1, 2, 3, 0] rfl ?_
                          exact qih_21 _ (by omega) _ _ (by first | assumption | omega) (by first | assumption | omega) (by assumption) (by rw [show 50 * a + 10 * u + (h + 1) = 10 * (5 * a + u) + h + 1 by omega]; exact s_FH_s (by omega) (by omega) (by omega) (by omega) (by omega) (by omega) (by assumption) (by assumption) (fun b0 x y => qa_48_5 b0 x (by omega))) rfl
                        · refine q_aloadn (pc' := 60) 0 dX9_findHeights_59 rfl rfl ?_
                          refine p_getR (pc' := 63) (f := 157) dX9_findHeights_60 rfl fX9_28 kc150 rfl ?_
                          refine q_iloadn (pc' := 64) 1 dX9_findHeights_63 rfl rfl ?_
                          refine q_iloadn (pc' := 65) 2 dX9_findHeights_64 rfl rfl ?_
                          refine q_iload (pc' := 67) 4 dX9_findHeights_65 rfl rfl ?_
                          refine q_iloadn (pc' := 68) 3 dX9_findHeights_67 rfl rfl ?_
                          refine q_callSI (pc' := 71) dX9_findHeights_68 rfl lX9_190 iX9_heightAt (c_X9_heightAt ) rfl rfl (Nat.le_of_ble_eq_true rfl) (Nat.le_of_ble_eq_true rfl) (Nat.le_of_ble_eq_true rfl) ?_
                          refine q_iloadn (pc' := 72) 1 dX9_findHeights_71 rfl rfl ?_
                          refine q_iload (pc' := 74) 4 dX9_findHeights_72 rfl rfl ?_
                          refine q_icmp_ne (tgt := 81) (pc' := 77) dX9_findHeights_74 rfl rfl (by first | assumption | omega) (by first | assumption | omega) (fun qc_74 => ?_) (fun qc_74 => ?_)
                          · refine q_aloadn (pc' := 82) 0 dX9_findHeights_81 rfl rfl ?_
                            refine q_iloadn (pc' := 83) 1 dX9_findHeights_82 rfl rfl ?_
                            refine q_iloadn (pc' := 84) 2 dX9_findHeights_83 rfl rfl ?_
                            refine q_iload (pc' := 86) 4 dX9_findHeights_84 rfl rfl ?_
                            refine q_iloadn (pc' := 87) 3 dX9_findHeights_86 rfl rfl ?_
                            have sb := s_sh_b ok5 (a := a) (t := u) (b := b) (h := h) (by omega) (by omega) (by omega) (by omega) (by omega) (by omega) (by omega) (by omega)
                            refine q_callVI (pc' := 90) dX9_findHeights_87 rfl lX9_54 iX9_shadow kc150 rfl (c_X9_shadow (by first | assumption | omega) (by first | assumption | omega) (by first | assumption | omega) (by first | assumption | omega) (by first | assumption | omega) (by first | assumption | omega) (by first | assumption | omega) (by first | assumption | omega) (by first | assumption | omega)) rfl rfl (Nat.le_of_ble_eq_true rfl) (Nat.le_of_ble_eq_true rfl) (Nat.le_of_ble_eq_true rfl) ?_
                            refine p_iast (pc' := 91) dX9_findHeights_90 rfl kc157 (by first | assumption | omega) (by first | assumption | omega) (by decide) (by first | assumption | omega) ?_
                            refine q_iinc (pc' := 94) 4 (L' := [(4, q_i (b + 1)), (0, q_r Γ 150), (1, q_i a), (2, q_i u), (3, q_i h)]) dX9_findHeights_91 rfl rfl (by decide) rfl ?_
                            refine q_goto (pc' := 48) dX9_findHeights_94 rfl ?_
                            refine p_sub [1, 2, 3, 4, 0] rfl ?_
                            exact qih_48 _ (by omega) _ _ (by first | assumption | omega) (by first | assumption | omega) (by exact s_off_u (by assumption) (Or.inr rfl)) (by exact s_FH_h (by omega) (by omega) (by omega) (by omega) (by omega) (by assumption)) (by rw [q_up_ne (by decide)]; assumption) (by intro b2 x y; rcases (show b2 < b ∨ b2 = b by omega) with q | q; (rw [q_up_nz (by omega)]; exact qa_48_5 b2 x q); (subst q; rw [q_up_eq]; unfold s_hx; first | (rw [if_pos qc_74]; done) | (rw [if_neg qc_74, e151c]))) rfl
                          · refine q_iconst (pc' := 78) dX9_findHeights_77 rfl ?_
                            refine q_goto (pc' := 90) dX9_findHeights_78 rfl ?_
                            refine p_iast (pc' := 91) dX9_findHeights_90 rfl kc157 (by first | assumption | omega) (by first | assumption | omega) (by decide) (by first | assumption | omega) ?_
                            refine q_iinc (pc' := 94) 4 (L' := [(4, q_i (b + 1)), (0, q_r Γ 150), (1, q_i a), (2, q_i u), (3, q_i h)]) dX9_findHeights_91 rfl rfl (by decide) rfl ?_
                            refine q_goto (pc' := 48) dX9_findHeights_94 rfl ?_
                            refine p_sub [1, 2, 3, 4, 0] rfl ?_
                            exact qih_48 _ (by omega) _ _ (by first | assumption | omega) (by first | assumption | omega) (by exact s_off_u (by assumption) (Or.inr rfl)) (by exact s_FH_h (by omega) (by omega) (by omega) (by omega) (by omega) (by assumption)) (by rw [q_up_ne (by decide)]; assumption) (by intro b2 x y; rcases (show b2 < b ∨ b2 = b by omega) with q | q; (rw [q_up_nz (by omega)]; exact qa_48_5 b2 x q); (subst q; rw [q_up_eq]; unfold s_hx; first | (rw [if_pos qc_74]; done) | (rw [if_neg qc_74, e151c]))) rfl
                    refine p_sub [1, 2, 3, 4, 0] rfl ?_
                    exact qlp_48 _ _ _ (by first | assumption | omega) (by first | assumption | omega) (by exact s_off_u (by assumption) (Or.inl rfl)) (by exact s_FH_l (by rw [show 10 * (5 * a + u) + h = 50 * a + 10 * u + h by omega]; assumption)) (by rw [q_up_eq, e151b]) (by intro b2 x y; omega) rfl
              refine p_sub [1, 2, 3, 0] rfl ?_
              exact qlp_21 _ _ _ (by first | assumption | omega) (by first | assumption | omega) (by assumption) (by rw [show 50 * a + 10 * u + 0 = 50 * a + 10 * u by omega]; assumption) rfl
        refine p_sub [1, 2, 0] rfl ?_
        exact qlp_14 _ _ _ (by first | assumption | omega) (by first | assumption | omega) (by assumption) (by rw [show 50 * a + 10 * 0 = 50 * a by omega]; assumption) rfl
  refine p_sub [1, 0] rfl ?_
  exact qlp_2 _ _ _ (by first | assumption | omega) (by first | assumption | omega) (by exact o0) (by exact f0) rfl
