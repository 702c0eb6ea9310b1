set_option maxRecDepth 20000 in
set_option maxHeartbeats 4000000 in
theorem c_X0_offersOf {Γ : q_G} {S : q_S} {k : Int} (hk : q_rg k) : q_Sp Γ mX0_offersOf 0 0 0 [q_r Γ 1, q_i k] (KC, S) (fun v w => ∃ c : Nat, v = some (q_r Γ c) ∧ w = (KC, S) ∧ s_cO c ∧ ((k = 0 ∧ c = 8) ∨ (k ≠ 0 ∧ c = 11))) := by
  show q_Go Γ mX0_offersOf 0 0 0 0 [(0, q_r Γ 1), (1, q_i k)] [] (KC, S) (fun v w => ∃ c : Nat, v = some (q_r Γ c) ∧ w = (KC, S) ∧ s_cO c ∧ ((k = 0 ∧ c = 8) ∨ (k ≠ 0 ∧ c = 11)))
  refine q_iloadn (pc' := 1) 1 dX0_offersOf_0 rfl rfl ?_
  refine q_if_ne (tgt := 11) (pc' := 4) dX0_offersOf_1 rfl rfl (by first | assumption | omega) (fun qc_1 => ?_) (fun qc_1 => ?_)
  · refine q_aloadn (pc' := 12) 0 dX0_offersOf_11 rfl rfl ?_
    refine p_getR (pc' := 15) (f := 11) dX0_offersOf_12 rfl fX0_44 kc1 rfl ?_
    first | exact q_aret dX0_offersOf_15 rfl ⟨8, rfl, rfl, s_cO8, Or.inl ⟨by assumption, rfl⟩⟩ | exact q_aret dX0_offersOf_15 rfl ⟨11, rfl, rfl, s_cO11, Or.inr ⟨by assumption, rfl⟩⟩ | exact q_aret dX0_offersOf_15 rfl ⟨8, rfl, rfl, s_cO8, Or.inl ⟨by omega, rfl⟩⟩ | exact q_aret dX0_offersOf_15 rfl ⟨11, rfl, rfl, s_cO11, Or.inr ⟨by omega, rfl⟩⟩
  · refine q_aloadn (pc' := 5) 0 dX0_offersOf_4 rfl rfl ?_
    refine p_getR (pc' := 8) (f := 8) dX0_offersOf_5 rfl fX0_40 kc1 rfl ?_
    refine q_goto (pc' := 15) dX0_offersOf_8 rfl ?_
    first | exact q_aret dX0_offersOf_15 rfl ⟨8, rfl, rfl, s_cO8, Or.inl ⟨by assumption, rfl⟩⟩ | exact q_aret dX0_offersOf_15 rfl ⟨11, rfl, rfl, s_cO11, Or.inr ⟨by assumption, rfl⟩⟩ | exact q_aret dX0_offersOf_15 rfl ⟨8, rfl, rfl, s_cO8, Or.inl ⟨by omega, rfl⟩⟩ | exact q_aret dX0_offersOf_15 rfl ⟨11, rfl, rfl, s_cO11, Or.inr ⟨by omega, rfl⟩⟩
set_option maxRecDepth 20000 in
set_option maxHeartbeats 4000000 in
theorem c_X8_ofRow {Γ : q_G} {S A : q_S} {r w : Int} (J : s_Jc S A) (hr : q_rg r) (hw : q_rg w) : q_Sp Γ mX8_ofRow 6 0 0 [q_r Γ 0, q_i r, q_i w] (KC, S) (fun v9 w9 => v9 = some (q_i (s_ofRow (A 151) r w)) ∧ ∃ S2, w9 = (KC, S2) ∧ s_Jc S2 (A) ∧ s_offM S S2) := by
  show q_Go Γ mX8_ofRow 6 0 0 0 [(0, q_r Γ 0), (1, q_i r), (2, q_i w)] [] (KC, S) (fun v9 w9 => v9 = some (q_i (s_ofRow (A 151) r w)) ∧ ∃ S2, w9 = (KC, S2) ∧ s_Jc S2 (A) ∧ s_offM S S2)
  have ok := J.F.2.1
  have pz := J.F.2.2
  have rw0 := s_rows_b ok
  have c3 := ok.2.2.1
  have c4 := ok.2.2.2.1
  have FF := J.F.1
  refine q_aloadn (pc' := 1) 0 dX8_ofRow_0 rfl rfl ?_
  refine p_getR (pc' := 4) (f := 1) dX8_ofRow_1 rfl fX8_10 kc0 rfl ?_
  refine q_iloadn (pc' := 5) 1 dX8_ofRow_4 rfl rfl ?_
  refine q_callVI (pc' := 8) dX8_ofRow_5 rfl lX8_121 iX0_hasRow kc1 rfl (c_X0_hasRow FF ok hr) rfl rfl (Nat.le_of_ble_eq_true rfl) (Nat.le_of_ble_eq_true rfl) (Nat.le_of_ble_eq_true rfl) ?_
  refine q_if_ne_B (tgt := 13) (pc' := 11) dX8_ofRow_8 rfl rfl (fun qc_8 => ?_) (fun qc_8 => ?_)
  · refine q_iloadn (pc' := 14) 2 dX8_ofRow_13 rfl rfl ?_
    by_cases qs_14 : w = 0
    · subst qs_14
      refine q_tableIn (pc' := 64) dX8_ofRow_14 (by decide) (by decide) (by decide) rfl rfl ?_
      refine q_aloadn (pc' := 65) 0 dX8_ofRow_64 rfl rfl ?_
      refine p_getR (pc' := 68) (f := 1) dX8_ofRow_65 rfl fX8_10 kc0 rfl ?_
      refine p_getR (pc' := 71) (f := 2) dX8_ofRow_68 rfl fX8_125 kc1 rfl ?_
      refine q_iloadn (pc' := 72) 1 dX8_ofRow_71 rfl rfl ?_
      refine p_iald (pc' := 73) dX8_ofRow_72 rfl kc2 (by first | assumption | omega) (by first | assumption | omega) (by decide) (fun qy_72 eqy_72 rqy_72 => ?_)
      have vqy_72 : qy_72 = s_pt (A 151) (r) 0 := eqy_72.trans (s_F_2 FF (by first | assumption | omega) (by first | assumption | omega))
      rw [vqy_72]
      exact q_iret dX8_ofRow_73 rfl rfl ⟨congrArg (fun z => some (q_i z)) (by unfold s_ofRow; (repeat (first | rw [if_pos (by omega)] | rw [if_neg (by omega)])); first | done | rfl | omega), _, rfl, J, fun _ _ => rfl⟩
    · by_cases qs_14_1 : w = 1
      · subst qs_14_1
        refine q_tableIn (pc' := 74) dX8_ofRow_14 (by decide) (by decide) (by decide) rfl rfl ?_
        refine q_aloadn (pc' := 75) 0 dX8_ofRow_74 rfl rfl ?_
        refine p_getR (pc' := 78) (f := 1) dX8_ofRow_75 rfl fX8_10 kc0 rfl ?_
        refine p_getR (pc' := 81) (f := 3) dX8_ofRow_78 rfl fX8_129 kc1 rfl ?_
        refine q_iloadn (pc' := 82) 1 dX8_ofRow_81 rfl rfl ?_
        refine p_iald (pc' := 83) dX8_ofRow_82 rfl kc3 (by first | assumption | omega) (by first | assumption | omega) (by decide) (fun qy_82 eqy_82 rqy_82 => ?_)
        have vqy_82 : qy_82 = s_pt (A 151) (r) 1 := eqy_82.trans (s_F_3 FF (by first | assumption | omega) (by first | assumption | omega))
        rw [vqy_82]
        exact q_iret dX8_ofRow_83 rfl rfl ⟨congrArg (fun z => some (q_i z)) (by unfold s_ofRow; (repeat (first | rw [if_pos (by omega)] | rw [if_neg (by omega)])); first | done | rfl | omega), _, rfl, J, fun _ _ => rfl⟩
      · by_cases qs_14_2 : w = 2
        · subst qs_14_2
          refine q_tableIn (pc' := 84) dX8_ofRow_14 (by decide) (by decide) (by decide) rfl rfl ?_
          refine q_aloadn (pc' := 85) 0 dX8_ofRow_84 rfl rfl ?_
          refine p_getR (pc' := 88) (f := 1) dX8_ofRow_85 rfl fX8_10 kc0 rfl ?_
          refine p_getR (pc' := 91) (f := 4) dX8_ofRow_88 rfl fX8_132 kc1 rfl ?_
          refine q_iloadn (pc' := 92) 1 dX8_ofRow_91 rfl rfl ?_
          refine p_iald (pc' := 93) dX8_ofRow_92 rfl kc4 (by first | assumption | omega) (by first | assumption | omega) (by decide) (fun qy_92 eqy_92 rqy_92 => ?_)
          have vqy_92 : qy_92 = s_pt (A 151) (r) 2 := eqy_92.trans (s_F_4 FF (by first | assumption | omega) (by first | assumption | omega))
          rw [vqy_92]
          exact q_iret dX8_ofRow_93 rfl rfl ⟨congrArg (fun z => some (q_i z)) (by unfold s_ofRow; (repeat (first | rw [if_pos (by omega)] | rw [if_neg (by omega)])); first | done | rfl | omega), _, rfl, J, fun _ _ => rfl⟩
        · by_cases qs_14_3 : w = 3
          · subst qs_14_3
            refine q_tableIn (pc' := 94) dX8_ofRow_14 (by decide) (by decide) (by decide) rfl rfl ?_
            refine q_aloadn (pc' := 95) 0 dX8_ofRow_94 rfl rfl ?_
            refine p_getR (pc' := 98) (f := 1) dX8_ofRow_95 rfl fX8_10 kc0 rfl ?_
            refine p_getR (pc' := 101) (f := 5) dX8_ofRow_98 rfl fX8_135 kc1 rfl ?_
            refine q_iloadn (pc' := 102) 1 dX8_ofRow_101 rfl rfl ?_
            refine p_iald (pc' := 103) dX8_ofRow_102 rfl kc5 (by first | assumption | omega) (by first | assumption | omega) (by decide) (fun qy_102 eqy_102 rqy_102 => ?_)
            have vqy_102 : qy_102 = s_pt (A 151) (r) 3 := eqy_102.trans (s_F_5 FF (by first | assumption | omega) (by first | assumption | omega))
            rw [vqy_102]
            refine q_ldc (pc' := 105) dX8_ofRow_103 rfl wX8_138 ?_
            refine q_iadd (pc' := 106) dX8_ofRow_105 rfl ?_
            exact q_iret dX8_ofRow_106 rfl rfl ⟨congrArg (fun z => some (q_i z)) (by unfold s_ofRow; (repeat (first | rw [if_pos (by omega)] | rw [if_neg (by omega)])); first | done | rfl | omega), _, rfl, J, fun _ _ => rfl⟩
          · by_cases qs_14_4 : w = 4
            · subst qs_14_4
              refine q_tableIn (pc' := 107) dX8_ofRow_14 (by decide) (by decide) (by decide) rfl rfl ?_
              refine q_aloadn (pc' := 108) 0 dX8_ofRow_107 rfl rfl ?_
              refine p_getR (pc' := 111) (f := 14) dX8_ofRow_108 rfl fX8_21 kc0 rfl ?_
              refine q_iloadn (pc' := 112) 1 dX8_ofRow_111 rfl rfl ?_
              refine q_callVQ (pc' := 115) dX8_ofRow_112 rfl lX8_139 iX2_yieldOfDay kc14 rfl (c_X2_yieldOfDay FF ok (by omega) (by omega)) rfl rfl (Nat.le_of_ble_eq_true rfl) (Nat.le_of_ble_eq_true rfl) (Nat.le_of_ble_eq_true rfl) (fun vq wq hq => ?_)
              obtain ⟨rfl, qS112, rfl, ql112⟩ := hq
              have qF112 : s_F qS112 1 (A 151) := s_F_L (by assumption) ql112
              show q_Go Γ mX8_ofRow 6 0 0 115 [(0, q_r Γ 0), (1, q_i r), (2, q_i 4)] [q_i (s_yo (A 151) r)] (KC, qS112) (_)
              exact q_iret dX8_ofRow_115 rfl rfl ⟨congrArg (fun z => some (q_i z)) (by unfold s_ofRow; (repeat (first | rw [if_pos (by omega)] | rw [if_neg (by omega)])); first | done | rfl | omega), _, rfl, J.o qF112 (s_offX_L ql112), s_offM_X (s_offX_L ql112)⟩
            · by_cases qs_14_5 : w = 5
              · subst qs_14_5
                refine q_tableIn (pc' := 116) dX8_ofRow_14 (by decide) (by decide) (by decide) rfl rfl ?_
                refine q_aloadn (pc' := 117) 0 dX8_ofRow_116 rfl rfl ?_
                refine p_getR (pc' := 120) (f := 14) dX8_ofRow_117 rfl fX8_21 kc0 rfl ?_
                refine q_iloadn (pc' := 121) 1 dX8_ofRow_120 rfl rfl ?_
                refine q_callVQ (pc' := 124) dX8_ofRow_121 rfl lX8_142 iX2_unshadedYieldOfDay kc14 rfl (c_X2_unshadedYieldOfDay FF ok (by omega) (by omega)) rfl rfl (Nat.le_of_ble_eq_true rfl) (Nat.le_of_ble_eq_true rfl) (Nat.le_of_ble_eq_true rfl) (fun vq wq hq => ?_)
                obtain ⟨rfl, qS121, rfl, ql121⟩ := hq
                have qF121 : s_F qS121 1 (A 151) := s_F_L (by assumption) ql121
                show q_Go Γ mX8_ofRow 6 0 0 124 [(0, q_r Γ 0), (1, q_i r), (2, q_i 5)] [q_i (s_full (A 151) r)] (KC, qS121) (_)
                exact q_iret dX8_ofRow_124 rfl rfl ⟨congrArg (fun z => some (q_i z)) (by unfold s_ofRow; (repeat (first | rw [if_pos (by omega)] | rw [if_neg (by omega)])); first | done | rfl | omega), _, rfl, J.o qF121 (s_offX_L ql121), s_offM_X (s_offX_L ql121)⟩
              · by_cases qs_14_6 : w = 6
                · subst qs_14_6
                  refine q_tableIn (pc' := 125) dX8_ofRow_14 (by decide) (by decide) (by decide) rfl rfl ?_
                  refine q_aloadn (pc' := 126) 0 dX8_ofRow_125 rfl rfl ?_
                  refine p_getR (pc' := 129) (f := 14) dX8_ofRow_126 rfl fX8_21 kc0 rfl ?_
                  refine q_iloadn (pc' := 130) 1 dX8_ofRow_129 rfl rfl ?_
                  refine q_callVQ (pc' := 133) dX8_ofRow_130 rfl lX8_145 iX2_hoursLowered kc14 rfl (c_X2_hoursLowered FF ok (by omega) (by omega)) rfl rfl (Nat.le_of_ble_eq_true rfl) (Nat.le_of_ble_eq_true rfl) (Nat.le_of_ble_eq_true rfl) (fun vq wq hq => ?_)
                  obtain ⟨rfl, qS130, rfl, ql130⟩ := hq
                  have qF130 : s_F qS130 1 (A 151) := s_F_L (by assumption) ql130
                  show q_Go Γ mX8_ofRow 6 0 0 133 [(0, q_r Γ 0), (1, q_i r), (2, q_i 6)] [q_i (s_low (A 151) r)] (KC, qS130) (_)
                  exact q_iret dX8_ofRow_133 rfl rfl ⟨congrArg (fun z => some (q_i z)) (by unfold s_ofRow; (repeat (first | rw [if_pos (by omega)] | rw [if_neg (by omega)])); first | done | rfl | omega), _, rfl, J.o qF130 (s_offX_L ql130), s_offM_X (s_offX_L ql130)⟩
                · by_cases qs_14_7 : w = 7
                  · subst qs_14_7
                    refine q_tableIn (pc' := 134) dX8_ofRow_14 (by decide) (by decide) (by decide) rfl rfl ?_
                    refine q_aloadn (pc' := 135) 0 dX8_ofRow_134 rfl rfl ?_
                    refine p_getR (pc' := 138) (f := 14) dX8_ofRow_135 rfl fX8_21 kc0 rfl ?_
                    refine q_iloadn (pc' := 139) 1 dX8_ofRow_138 rfl rfl ?_
                    refine q_callVQ (pc' := 142) dX8_ofRow_139 rfl lX8_148 iX2_hoursShaded kc14 rfl (c_X2_hoursShaded FF ok (by omega) (by omega)) rfl rfl (Nat.le_of_ble_eq_true rfl) (Nat.le_of_ble_eq_true rfl) (Nat.le_of_ble_eq_true rfl) (fun vq wq hq => ?_)
                    obtain ⟨rfl, qS139, rfl, ql139⟩ := hq
                    have qF139 : s_F qS139 1 (A 151) := s_F_L (by assumption) ql139
                    show q_Go Γ mX8_ofRow 6 0 0 142 [(0, q_r Γ 0), (1, q_i r), (2, q_i 7)] [q_i (s_shh (A 151) r)] (KC, qS139) (_)
                    exact q_iret dX8_ofRow_142 rfl rfl ⟨congrArg (fun z => some (q_i z)) (by unfold s_ofRow; (repeat (first | rw [if_pos (by omega)] | rw [if_neg (by omega)])); first | done | rfl | omega), _, rfl, J.o qF139 (s_offX_L ql139), s_offM_X (s_offX_L ql139)⟩
                  · by_cases qs_14_8 : w = 8
                    · subst qs_14_8
                      refine q_tableIn (pc' := 143) dX8_ofRow_14 (by decide) (by decide) (by decide) rfl rfl ?_
                      refine q_aloadn (pc' := 144) 0 dX8_ofRow_143 rfl rfl ?_
                      refine p_getR (pc' := 147) (f := 14) dX8_ofRow_144 rfl fX8_21 kc0 rfl ?_
                      refine q_iloadn (pc' := 148) 1 dX8_ofRow_147 rfl rfl ?_
                      refine q_callVQ (pc' := 151) dX8_ofRow_148 rfl lX8_151 iX2_mostToBlame kc14 rfl (c_X2_mostToBlame FF ok (by omega) (by omega)) rfl rfl (Nat.le_of_ble_eq_true rfl) (Nat.le_of_ble_eq_true rfl) (Nat.le_of_ble_eq_true rfl) (fun vq wq hq => ?_)
                      obtain ⟨rfl, qS148, rfl, ql148⟩ := hq
                      have qF148 : s_F qS148 1 (A 151) := s_F_L (by assumption) ql148
                      show q_Go Γ mX8_ofRow 6 0 0 151 [(0, q_r Γ 0), (1, q_i r), (2, q_i 8)] [q_i (s_mb (A 151) r)] (KC, qS148) (_)
                      exact q_iret dX8_ofRow_151 rfl rfl ⟨congrArg (fun z => some (q_i z)) (by unfold s_ofRow; (repeat (first | rw [if_pos (by omega)] | rw [if_neg (by omega)])); first | done | rfl | omega), _, rfl, J.o qF148 (s_offX_L ql148), s_offM_X (s_offX_L ql148)⟩
                    · refine q_tableOut (pc' := 152) dX8_ofRow_14 (by first | assumption | omega) (by omega) rfl ?_
                      refine q_bipush (pc' := 154) dX8_ofRow_152 rfl rfl ?_
                      exact q_iret dX8_ofRow_154 rfl rfl ⟨congrArg (fun z => some (q_i z)) (by unfold s_ofRow; (repeat (first | rw [if_pos (by omega)] | rw [if_neg (by omega)])); first | done | rfl | omega), _, rfl, J, fun _ _ => rfl⟩
  · refine q_iconst (pc' := 12) dX8_ofRow_11 rfl ?_
    exact q_iret dX8_ofRow_12 rfl rfl ⟨congrArg (fun z => some (q_i z)) (by unfold s_ofRow; (repeat (first | rw [if_pos (by omega)] | rw [if_neg (by omega)])); first | done | rfl | omega), _, rfl, J, fun _ _ => rfl⟩
set_option maxRecDepth 20000 in
set_option maxHeartbeats 4000000 in
theorem c_X8_inHour {Γ : q_G} {S A : q_S} {r h w : Int} (J : s_Jc S A) (hr : q_rg r) (hh : q_rg h) (hw : q_rg w) : q_Sp Γ mX8_inHour 5 0 0 [q_r Γ 0, q_i r, q_i h, q_i w] (KC, S) (fun v9 w9 => v9 = some (q_i (s_inHour (A 151) r h w)) ∧ ∃ S2, w9 = (KC, S2) ∧ s_Jc S2 (A) ∧ s_offM S S2) := by
  show q_Go Γ mX8_inHour 5 0 0 0 [(0, q_r Γ 0), (1, q_i r), (2, q_i h), (3, q_i w)] [] (KC, S) (fun v9 w9 => v9 = some (q_i (s_inHour (A 151) r h w)) ∧ ∃ S2, w9 = (KC, S2) ∧ s_Jc S2 (A) ∧ s_offM S S2)
  have ok := J.F.2.1
  have pz := J.F.2.2
  have rw0 := s_rows_b ok
  have c3 := ok.2.2.1
  have c4 := ok.2.2.2.1
  have FF := J.F.1
  refine q_aloadn (pc' := 1) 0 dX8_inHour_0 rfl rfl ?_
  refine p_getR (pc' := 4) (f := 1) dX8_inHour_1 rfl fX8_10 kc0 rfl ?_
  refine q_iloadn (pc' := 5) 1 dX8_inHour_4 rfl rfl ?_
  refine q_callVI (pc' := 8) dX8_inHour_5 rfl lX8_121 iX0_hasRow kc1 rfl (c_X0_hasRow FF ok hr) rfl rfl (Nat.le_of_ble_eq_true rfl) (Nat.le_of_ble_eq_true rfl) (Nat.le_of_ble_eq_true rfl) ?_
  refine q_if_eq_B (tgt := 18) (pc' := 11) dX8_inHour_8 rfl rfl (fun qc_8 => ?_) (fun qc_8 => ?_)
  · refine q_iconst (pc' := 19) dX8_inHour_18 rfl ?_
    exact q_iret dX8_inHour_19 rfl rfl ⟨congrArg (fun z => some (q_i z)) (by unfold s_inHour; (repeat (first | rw [if_pos (by omega)] | rw [if_neg (by omega)])); first | done | rfl | omega), _, rfl, J, fun _ _ => rfl⟩
  · refine q_iloadn (pc' := 12) 2 dX8_inHour_11 rfl rfl ?_
    refine q_callSI (pc' := 15) dX8_inHour_12 rfl lX8_154 iX8_isHour (c_X8_isHour (by first | assumption | omega)) rfl rfl (Nat.le_of_ble_eq_true rfl) (Nat.le_of_ble_eq_true rfl) (Nat.le_of_ble_eq_true rfl) ?_
    refine q_if_ne_B (tgt := 20) (pc' := 18) dX8_inHour_15 rfl rfl (fun qc_15 => ?_) (fun qc_15 => ?_)
    · refine q_aloadn (pc' := 21) 0 dX8_inHour_20 rfl rfl ?_
      refine p_getR (pc' := 24) (f := 14) dX8_inHour_21 rfl fX8_21 kc0 rfl ?_
      refine q_iloadn (pc' := 25) 2 dX8_inHour_24 rfl rfl ?_
      refine q_callVQ (pc' := 28) dX8_inHour_25 rfl lX8_157 iX2_look kc14 rfl (c_X2_look FF ok (by omega) (by omega)) rfl rfl (Nat.le_of_ble_eq_true rfl) (Nat.le_of_ble_eq_true rfl) (Nat.le_of_ble_eq_true rfl) (fun vq wq hq => ?_)
      obtain ⟨rfl, qS25, rfl, qo25, qk25⟩ := hq
      have ql25 := s_offK_L qo25
      have qF25 : s_F qS25 1 (A 151) := s_F_K (by assumption) qo25
      have qh25 := qk25.1
      show q_Go Γ mX8_inHour 5 0 0 28 [(0, q_r Γ 0), (1, q_i r), (2, q_i h), (3, q_i w)] [] (KC, qS25) (fun v9 w9 => v9 = some (q_i (s_inHour (A 151) r h w)) ∧ ∃ S2, w9 = (KC, S2) ∧ s_Jc S2 (A) ∧ s_offM S S2)
      refine q_iloadn (pc' := 29) 3 dX8_inHour_28 rfl rfl ?_
      by_cases qs_29 : w = 0
      · subst qs_29
        refine q_tableIn (pc' := 64) dX8_inHour_29 (by decide) (by decide) (by decide) rfl rfl ?_
        refine q_aloadn (pc' := 65) 0 dX8_inHour_64 rfl rfl ?_
        refine p_getR (pc' := 68) (f := 14) dX8_inHour_65 rfl fX8_21 kc0 rfl ?_
        refine q_iloadn (pc' := 69) 1 dX8_inHour_68 rfl rfl ?_
        refine q_callVI (pc' := 72) dX8_inHour_69 rfl lX8_161 iX2_tiltOf kc14 rfl (c_X2_tiltOf (h := h) qF25 ok (by omega) (by omega) (by omega) (by omega) (qk25.2.2 r (by omega) (by omega)).1) rfl rfl (Nat.le_of_ble_eq_true rfl) (Nat.le_of_ble_eq_true rfl) (Nat.le_of_ble_eq_true rfl) ?_
        exact q_iret dX8_inHour_72 rfl rfl ⟨congrArg (fun z => some (q_i z)) (by unfold s_inHour; (repeat (first | rw [if_pos (by omega)] | rw [if_neg (by omega)])); first | done | rfl | omega), _, rfl, J.o qF25 (s_offX_K qo25), s_offM_X (s_offX_K qo25)⟩
      · by_cases qs_29_1 : w = 1
        · subst qs_29_1
          refine q_tableIn (pc' := 73) dX8_inHour_29 (by decide) (by decide) (by decide) rfl rfl ?_
          refine q_aloadn (pc' := 74) 0 dX8_inHour_73 rfl rfl ?_
          refine p_getR (pc' := 77) (f := 14) dX8_inHour_74 rfl fX8_21 kc0 rfl ?_
          refine p_getR (pc' := 80) (f := 17) dX8_inHour_77 rfl fX8_164 kc14 rfl ?_
          refine q_iloadn (pc' := 81) 1 dX8_inHour_80 rfl rfl ?_
          refine p_iald (pc' := 82) dX8_inHour_81 rfl kc17 (by first | assumption | omega) (by first | assumption | omega) (by decide) (fun qy_81 eqy_81 rqy_81 => ?_)
          rw [show qy_81 = s_he (A 151) r h from eqy_81.trans (qk25.2.2 r (by omega) (by omega)).2]
          exact q_iret dX8_inHour_82 rfl rfl ⟨congrArg (fun z => some (q_i z)) (by unfold s_inHour; (repeat (first | rw [if_pos (by omega)] | rw [if_neg (by omega)])); first | done | rfl | omega), _, rfl, J.o qF25 (s_offX_K qo25), s_offM_X (s_offX_K qo25)⟩
        · by_cases qs_29_2 : w = 2
          · subst qs_29_2
            refine q_tableIn (pc' := 83) dX8_inHour_29 (by decide) (by decide) (by decide) rfl rfl ?_
            refine q_aloadn (pc' := 84) 0 dX8_inHour_83 rfl rfl ?_
            refine p_getR (pc' := 87) (f := 14) dX8_inHour_84 rfl fX8_21 kc0 rfl ?_
            refine q_iloadn (pc' := 88) 1 dX8_inHour_87 rfl rfl ?_
            refine q_callVI (pc' := 91) dX8_inHour_88 rfl lX8_167 iX2_shade kc14 rfl (c_X2_shade qF25 ok qk25 (by omega) (by omega) (by omega) (by omega)) rfl rfl (Nat.le_of_ble_eq_true rfl) (Nat.le_of_ble_eq_true rfl) (Nat.le_of_ble_eq_true rfl) ?_
            exact q_iret dX8_inHour_91 rfl rfl ⟨congrArg (fun z => some (q_i z)) (by unfold s_inHour; (repeat (first | rw [if_pos (by omega)] | rw [if_neg (by omega)])); first | done | rfl | omega), _, rfl, J.o qF25 (s_offX_K qo25), s_offM_X (s_offX_K qo25)⟩
          · by_cases qs_29_3 : w = 3
            · subst qs_29_3
              refine q_tableIn (pc' := 92) dX8_inHour_29 (by decide) (by decide) (by decide) rfl rfl ?_
              refine q_aloadn (pc' := 93) 0 dX8_inHour_92 rfl rfl ?_
              refine p_getR (pc' := 96) (f := 14) dX8_inHour_93 rfl fX8_21 kc0 rfl ?_
              refine q_iloadn (pc' := 97) 1 dX8_inHour_96 rfl rfl ?_
              refine q_callVI (pc' := 100) dX8_inHour_97 rfl lX8_170 iX2_toBlame kc14 rfl (c_X2_toBlame qF25 ok qk25 (by omega) (by omega) (by omega) (by omega)) rfl rfl (Nat.le_of_ble_eq_true rfl) (Nat.le_of_ble_eq_true rfl) (Nat.le_of_ble_eq_true rfl) ?_
              exact q_iret dX8_inHour_100 rfl rfl ⟨congrArg (fun z => some (q_i z)) (by unfold s_inHour; (repeat (first | rw [if_pos (by omega)] | rw [if_neg (by omega)])); first | done | rfl | omega), _, rfl, J.o qF25 (s_offX_K qo25), s_offM_X (s_offX_K qo25)⟩
            · by_cases qs_29_4 : w = 4
              · subst qs_29_4
                refine q_tableIn (pc' := 101) dX8_inHour_29 (by decide) (by decide) (by decide) rfl rfl ?_
                refine q_aloadn (pc' := 102) 0 dX8_inHour_101 rfl rfl ?_
                refine p_getR (pc' := 105) (f := 14) dX8_inHour_102 rfl fX8_21 kc0 rfl ?_
                refine q_iloadn (pc' := 106) 1 dX8_inHour_105 rfl rfl ?_
                refine q_callVI (pc' := 109) dX8_inHour_106 rfl lX8_173 iX2_yieldNow kc14 rfl (c_X2_yieldNow qF25 ok qk25 (by omega) (by omega) (by omega) (by omega)) rfl rfl (Nat.le_of_ble_eq_true rfl) (Nat.le_of_ble_eq_true rfl) (Nat.le_of_ble_eq_true rfl) ?_
                exact q_iret dX8_inHour_109 rfl rfl ⟨congrArg (fun z => some (q_i z)) (by unfold s_inHour; (repeat (first | rw [if_pos (by omega)] | rw [if_neg (by omega)])); first | done | rfl | omega), _, rfl, J.o qF25 (s_offX_K qo25), s_offM_X (s_offX_K qo25)⟩
              · refine q_tableOut (pc' := 110) dX8_inHour_29 (by first | assumption | omega) (by omega) rfl ?_
                refine q_bipush (pc' := 112) dX8_inHour_110 rfl rfl ?_
                exact q_iret dX8_inHour_112 rfl rfl ⟨congrArg (fun z => some (q_i z)) (by unfold s_inHour; (repeat (first | rw [if_pos (by omega)] | rw [if_neg (by omega)])); first | done | rfl | omega), _, rfl, J.o qF25 (s_offX_K qo25), s_offM_X (s_offX_K qo25)⟩
    · refine q_iconst (pc' := 19) dX8_inHour_18 rfl ?_
      exact q_iret dX8_inHour_19 rfl rfl ⟨congrArg (fun z => some (q_i z)) (by unfold s_inHour; (repeat (first | rw [if_pos (by omega)] | rw [if_neg (by omega)])); first | done | rfl | omega), _, rfl, J, fun _ _ => rfl⟩
set_option maxRecDepth 20000 in
set_option maxHeartbeats 4000000 in
theorem c_X8_over {Γ : q_G} {S A : q_S} {a b h w : Int} (J : s_Jc S A) (ha : q_rg a) (hb : q_rg b) (hh : q_rg h) (hw : q_rg w) : q_Sp Γ mX8_over 3 0 0 [q_r Γ 0, q_i a, q_i b, q_i h, q_i w] (KC, S) (fun v9 w9 => v9 = some (q_i (s_over (A 151) a b h w)) ∧ ∃ S2, w9 = (KC, S2) ∧ s_Jc S2 (A) ∧ s_offM S S2) := by
  show q_Go Γ mX8_over 3 0 0 0 [(0, q_r Γ 0), (1, q_i a), (2, q_i b), (3, q_i h), (4, q_i w)] [] (KC, S) (fun v9 w9 => v9 = some (q_i (s_over (A 151) a b h w)) ∧ ∃ S2, w9 = (KC, S2) ∧ s_Jc S2 (A) ∧ s_offM S S2)
  have ok := J.F.2.1
  have pz := J.F.2.2
  have rw0 := s_rows_b ok
  have c3 := ok.2.2.1
  have c4 := ok.2.2.2.1
  have FF := J.F.1
  refine q_aloadn (pc' := 1) 0 dX8_over_0 rfl rfl ?_
  refine p_getR (pc' := 4) (f := 1) dX8_over_1 rfl fX8_10 kc0 rfl ?_
  refine q_iloadn (pc' := 5) 1 dX8_over_4 rfl rfl ?_
  refine q_callVI (pc' := 8) dX8_over_5 rfl lX8_121 iX0_hasRow kc1 rfl (c_X0_hasRow FF ok ha) rfl rfl (Nat.le_of_ble_eq_true rfl) (Nat.le_of_ble_eq_true rfl) (Nat.le_of_ble_eq_true rfl) ?_
  refine q_if_eq_B (tgt := 29) (pc' := 11) dX8_over_8 rfl rfl (fun qc_8 => ?_) (fun qc_8 => ?_)
  · refine q_iconst (pc' := 30) dX8_over_29 rfl ?_
    exact q_iret dX8_over_30 rfl rfl ⟨congrArg (fun z => some (q_i z)) (by unfold s_over; (repeat (first | rw [if_pos (by omega)] | rw [if_neg (by omega)])); first | done | rfl | omega), _, rfl, J, fun _ _ => rfl⟩
  · refine q_aloadn (pc' := 12) 0 dX8_over_11 rfl rfl ?_
    refine p_getR (pc' := 15) (f := 1) dX8_over_12 rfl fX8_10 kc0 rfl ?_
    refine q_iloadn (pc' := 16) 2 dX8_over_15 rfl rfl ?_
    refine q_callVI (pc' := 19) dX8_over_16 rfl lX8_121 iX0_hasRow kc1 rfl (c_X0_hasRow FF ok hb) rfl rfl (Nat.le_of_ble_eq_true rfl) (Nat.le_of_ble_eq_true rfl) (Nat.le_of_ble_eq_true rfl) ?_
    refine q_if_eq_B (tgt := 29) (pc' := 22) dX8_over_19 rfl rfl (fun qc_19 => ?_) (fun qc_19 => ?_)
    · refine q_iconst (pc' := 30) dX8_over_29 rfl ?_
      exact q_iret dX8_over_30 rfl rfl ⟨congrArg (fun z => some (q_i z)) (by unfold s_over; (repeat (first | rw [if_pos (by omega)] | rw [if_neg (by omega)])); first | done | rfl | omega), _, rfl, J, fun _ _ => rfl⟩
    · refine q_iloadn (pc' := 23) 3 dX8_over_22 rfl rfl ?_
      refine q_callSI (pc' := 26) dX8_over_23 rfl lX8_154 iX8_isHour (c_X8_isHour (by first | assumption | omega)) rfl rfl (Nat.le_of_ble_eq_true rfl) (Nat.le_of_ble_eq_true rfl) (Nat.le_of_ble_eq_true rfl) ?_
      refine q_if_ne_B (tgt := 31) (pc' := 29) dX8_over_26 rfl rfl (fun qc_26 => ?_) (fun qc_26 => ?_)
      · refine q_iloadn (pc' := 32) 1 dX8_over_31 rfl rfl ?_
        refine q_iloadn (pc' := 33) 2 dX8_over_32 rfl rfl ?_
        refine q_icmp_ne (tgt := 39) (pc' := 36) dX8_over_33 rfl rfl (by first | assumption | omega) (by first | assumption | omega) (fun qc_33 => ?_) (fun qc_33 => ?_)
        · refine q_aloadn (pc' := 40) 0 dX8_over_39 rfl rfl ?_
          refine p_getR (pc' := 43) (f := 14) dX8_over_40 rfl fX8_21 kc0 rfl ?_
          refine q_iloadn (pc' := 44) 3 dX8_over_43 rfl rfl ?_
          refine q_callVQ (pc' := 47) dX8_over_44 rfl lX8_157 iX2_look kc14 rfl (c_X2_look FF ok (by omega) (by omega)) rfl rfl (Nat.le_of_ble_eq_true rfl) (Nat.le_of_ble_eq_true rfl) (Nat.le_of_ble_eq_true rfl) (fun vq wq hq => ?_)
          obtain ⟨rfl, qS44, rfl, qo44, qk44⟩ := hq
          have ql44 := s_offK_L qo44
          have qF44 : s_F qS44 1 (A 151) := s_F_K (by assumption) qo44
          have qh44 := qk44.1
          show q_Go Γ mX8_over 3 0 0 47 [(0, q_r Γ 0), (1, q_i a), (2, q_i b), (3, q_i h), (4, q_i w)] [] (KC, qS44) (fun v9 w9 => v9 = some (q_i (s_over (A 151) a b h w)) ∧ ∃ S2, w9 = (KC, S2) ∧ s_Jc S2 (A) ∧ s_offM S S2)
          refine q_iload (pc' := 49) 4 dX8_over_47 rfl rfl ?_
          by_cases qs_49 : w = 0
          · subst qs_49
            refine q_tableIn (pc' := 76) dX8_over_49 (by decide) (by decide) (by decide) rfl rfl ?_
            refine q_aloadn (pc' := 77) 0 dX8_over_76 rfl rfl ?_
            refine p_getR (pc' := 80) (f := 1) dX8_over_77 rfl fX8_10 kc0 rfl ?_
            refine p_getR (pc' := 83) (f := 7) dX8_over_80 rfl fX8_176 kc1 rfl ?_
            refine q_iloadn (pc' := 84) 1 dX8_over_83 rfl rfl ?_
            refine q_iloadn (pc' := 85) 2 dX8_over_84 rfl rfl ?_
            refine q_iloadn (pc' := 86) 3 dX8_over_85 rfl rfl ?_
            refine q_callSI (pc' := 89) dX8_over_86 rfl lX8_179 iX0_rightAt (c_X0_rightAt ) rfl rfl (Nat.le_of_ble_eq_true rfl) (Nat.le_of_ble_eq_true rfl) (Nat.le_of_ble_eq_true rfl) ?_
            refine p_iald (pc' := 90) dX8_over_89 rfl kc7 (by first | assumption | omega) (by first | assumption | omega) (by decide) (fun qy_89 eqy_89 rqy_89 => ?_)
            have vqy_89 : qy_89 = s_rt (A 151) a b h := eqy_89.trans (s_F_rt qF44 (by first | assumption | omega) (by first | assumption | omega) (by first | assumption | omega) (by first | assumption | omega) (by first | assumption | omega) (by first | assumption | omega))
            rw [vqy_89]
            exact q_iret dX8_over_90 rfl rfl ⟨congrArg (fun z => some (q_i z)) (by unfold s_over; (repeat (first | rw [if_pos (by omega)] | rw [if_neg (by omega)])); first | done | rfl | omega), _, rfl, J.o qF44 (s_offX_K qo44), s_offM_X (s_offX_K qo44)⟩
          · by_cases qs_49_1 : w = 1
            · subst qs_49_1
              refine q_tableIn (pc' := 91) dX8_over_49 (by decide) (by decide) (by decide) rfl rfl ?_
              refine q_aloadn (pc' := 92) 0 dX8_over_91 rfl rfl ?_
              refine p_getR (pc' := 95) (f := 14) dX8_over_92 rfl fX8_21 kc0 rfl ?_
              refine q_iloadn (pc' := 96) 1 dX8_over_95 rfl rfl ?_
              refine q_iloadn (pc' := 97) 2 dX8_over_96 rfl rfl ?_
              refine q_aloadn (pc' := 98) 0 dX8_over_97 rfl rfl ?_
              refine p_getR (pc' := 101) (f := 14) dX8_over_98 rfl fX8_21 kc0 rfl ?_
              refine p_getR (pc' := 104) (f := 17) dX8_over_101 rfl fX8_164 kc14 rfl ?_
              refine q_iloadn (pc' := 105) 1 dX8_over_104 rfl rfl ?_
              refine p_iald (pc' := 106) dX8_over_105 rfl kc17 (by first | assumption | omega) (by first | assumption | omega) (by decide) (fun qy_105 eqy_105 rqy_105 => ?_)
              have hb106 := s_he_b ok h (r := a) (by omega) (by omega)
              rw [show qy_105 = s_he (A 151) a h from eqy_105.trans (qk44.2.2 a (by omega) (by omega)).2]
              refine q_callVI (pc' := 109) dX8_over_106 rfl lX8_182 iX2_shadow kc14 rfl (c_X2_shadow qk44 ok rw0 (by omega) (by omega) (by omega) (by omega) (by omega) (by omega) (by omega) (by omega)) rfl rfl (Nat.le_of_ble_eq_true rfl) (Nat.le_of_ble_eq_true rfl) (Nat.le_of_ble_eq_true rfl) ?_
              refine p_eq (s_si_lss ok (by omega) (by omega)) ?_
              exact q_iret dX8_over_109 rfl rfl ⟨congrArg (fun z => some (q_i z)) (by unfold s_over; (repeat (first | rw [if_pos (by omega)] | rw [if_neg (by omega)])); first | done | rfl | omega), _, rfl, J.o qF44 (s_offX_K qo44), s_offM_X (s_offX_K qo44)⟩
            · by_cases qs_49_2 : w = 2
              · subst qs_49_2
                refine q_tableIn (pc' := 110) dX8_over_49 (by decide) (by decide) (by decide) rfl rfl ?_
                refine q_aloadn (pc' := 111) 0 dX8_over_110 rfl rfl ?_
                refine p_getR (pc' := 114) (f := 14) dX8_over_111 rfl fX8_21 kc0 rfl ?_
                refine q_iloadn (pc' := 115) 1 dX8_over_114 rfl rfl ?_
                refine q_iloadn (pc' := 116) 2 dX8_over_115 rfl rfl ?_
                refine q_aloadn (pc' := 117) 0 dX8_over_116 rfl rfl ?_
                refine p_getR (pc' := 120) (f := 1) dX8_over_117 rfl fX8_10 kc0 rfl ?_
                refine p_getR (pc' := 123) (f := 3) dX8_over_120 rfl fX8_129 kc1 rfl ?_
                refine q_iloadn (pc' := 124) 1 dX8_over_123 rfl rfl ?_
                refine p_iald (pc' := 125) dX8_over_124 rfl kc3 (by first | assumption | omega) (by first | assumption | omega) (by decide) (fun qy_124 eqy_124 rqy_124 => ?_)
                have vqy_124 : qy_124 = s_pt (A 151) a 1 := eqy_124.trans (s_F_3 qF44 (by first | assumption | omega) (by first | assumption | omega))
                rw [vqy_124]
                refine q_aloadn (pc' := 126) 0 dX8_over_125 rfl rfl ?_
                refine p_getR (pc' := 129) (f := 1) dX8_over_126 rfl fX8_10 kc0 rfl ?_
                refine p_getR (pc' := 132) (f := 4) dX8_over_129 rfl fX8_132 kc1 rfl ?_
                refine q_iloadn (pc' := 133) 1 dX8_over_132 rfl rfl ?_
                refine p_iald (pc' := 134) dX8_over_133 rfl kc4 (by first | assumption | omega) (by first | assumption | omega) (by decide) (fun qy_133 eqy_133 rqy_133 => ?_)
                have vqy_133 : qy_133 = s_pt (A 151) a 2 := eqy_133.trans (s_F_4 qF44 (by first | assumption | omega) (by first | assumption | omega))
                rw [vqy_133]
                refine q_imul (pc' := 135) dX8_over_134 rfl ?_
                have pr := s_pt_b ok (r := a) (by omega) (by omega)
                have mb := q_mulb pr.2.1.1 pr.2.1.2 pr.2.2.1 pr.2.2.2
                refine q_callVI (pc' := 138) dX8_over_135 rfl lX8_182 iX2_shadow kc14 rfl (c_X2_shadow qk44 ok rw0 (by omega) (by omega) (by omega) (by omega) (by omega) (by omega) (by omega) (by omega)) rfl rfl (Nat.le_of_ble_eq_true rfl) (Nat.le_of_ble_eq_true rfl) (Nat.le_of_ble_eq_true rfl) ?_
                refine p_eq (s_sh_lss ok (by omega) (by omega) pr.2.2.1 pr.2.2.2).symm ?_
                exact q_iret dX8_over_138 rfl rfl ⟨congrArg (fun z => some (q_i z)) (by unfold s_over; (repeat (first | rw [if_pos (by omega)] | rw [if_neg (by omega)])); first | done | rfl | omega), _, rfl, J.o qF44 (s_offX_K qo44), s_offM_X (s_offX_K qo44)⟩
              · refine q_tableOut (pc' := 139) dX8_over_49 (by first | assumption | omega) (by omega) rfl ?_
                refine q_bipush (pc' := 141) dX8_over_139 rfl rfl ?_
                exact q_iret dX8_over_141 rfl rfl ⟨congrArg (fun z => some (q_i z)) (by unfold s_over; (repeat (first | rw [if_pos (by omega)] | rw [if_neg (by omega)])); first | done | rfl | omega), _, rfl, J.o qF44 (s_offX_K qo44), s_offM_X (s_offX_K qo44)⟩
        · refine q_bipush (pc' := 38) dX8_over_36 rfl rfl ?_
          exact q_iret dX8_over_38 rfl rfl ⟨congrArg (fun z => some (q_i z)) (by unfold s_over; (repeat (first | rw [if_pos (by omega)] | rw [if_neg (by omega)])); first | done | rfl | omega), _, rfl, J, fun _ _ => rfl⟩
      · refine q_iconst (pc' := 30) dX8_over_29 rfl ?_
        exact q_iret dX8_over_30 rfl rfl ⟨congrArg (fun z => some (q_i z)) (by unfold s_over; (repeat (first | rw [if_pos (by omega)] | rw [if_neg (by omega)])); first | done | rfl | omega), _, rfl, J, fun _ _ => rfl⟩
set_option maxRecDepth 20000 in
set_option maxHeartbeats 4000000 in
theorem c_X8_offer {Γ : q_G} {S A : q_S} {k n w : Int} (J : s_Jc S A) (hk : q_rg k) (hn : q_rg n) (hw : q_rg w) : q_Sp Γ mX8_offer 2 0 0 [q_r Γ 0, q_i k, q_i n, q_i w] (KC, S) (fun v9 w9 => v9 = some (q_i (s_offer (A 151) k n w)) ∧ ∃ S2, w9 = (KC, S2) ∧ s_Jc S2 (A) ∧ s_offM S S2) := by
  show q_Go Γ mX8_offer 2 0 0 0 [(0, q_r Γ 0), (1, q_i k), (2, q_i n), (3, q_i w)] [] (KC, S) (fun v9 w9 => v9 = some (q_i (s_offer (A 151) k n w)) ∧ ∃ S2, w9 = (KC, S2) ∧ s_Jc S2 (A) ∧ s_offM S S2)
  have ok := J.F.2.1
  have pz := J.F.2.2
  have rw0 := s_rows_b ok
  have c3 := ok.2.2.1
  have c4 := ok.2.2.2.1
  have FF := J.F.1
  refine q_iloadn (pc' := 1) 1 dX8_offer_0 rfl rfl ?_
  refine q_iconst (pc' := 2) dX8_offer_1 rfl ?_
  refine q_iconst (pc' := 3) dX8_offer_2 rfl ?_
  refine q_callSI (pc' := 6) dX8_offer_3 rfl lX8_104 iX8_outside (c_X8_outside (by first | assumption | omega) (by first | assumption | omega) (by first | assumption | omega)) rfl rfl (Nat.le_of_ble_eq_true rfl) (Nat.le_of_ble_eq_true rfl) (Nat.le_of_ble_eq_true rfl) ?_
  refine q_if_ne_B (tgt := 18) (pc' := 9) dX8_offer_6 rfl rfl (fun qc_6 => ?_) (fun qc_6 => ?_)
  · refine q_bipush (pc' := 20) dX8_offer_18 rfl rfl ?_
    exact q_iret dX8_offer_20 rfl rfl ⟨congrArg (fun z => some (q_i z)) (by unfold s_offer; (repeat (first | rw [if_pos (by omega)] | rw [if_neg (by omega)])); first | done | rfl | omega), _, rfl, J, fun _ _ => rfl⟩
  · refine q_iloadn (pc' := 10) 3 dX8_offer_9 rfl rfl ?_
    refine q_iconst (pc' := 11) dX8_offer_10 rfl ?_
    refine q_iconst (pc' := 12) dX8_offer_11 rfl ?_
    refine q_callSI (pc' := 15) dX8_offer_12 rfl lX8_104 iX8_outside (c_X8_outside (by first | assumption | omega) (by first | assumption | omega) (by first | assumption | omega)) rfl rfl (Nat.le_of_ble_eq_true rfl) (Nat.le_of_ble_eq_true rfl) (Nat.le_of_ble_eq_true rfl) ?_
    refine q_if_eq_B (tgt := 21) (pc' := 18) dX8_offer_15 rfl rfl (fun qc_15 => ?_) (fun qc_15 => ?_)
    · refine q_aloadn (pc' := 22) 0 dX8_offer_21 rfl rfl ?_
      refine p_getR (pc' := 25) (f := 1) dX8_offer_22 rfl fX8_10 kc0 rfl ?_
      refine q_iloadn (pc' := 26) 1 dX8_offer_25 rfl rfl ?_
      refine q_callVQ (pc' := 29) dX8_offer_26 rfl lX8_108 iX0_offersOf kc1 rfl (c_X0_offersOf (by first | assumption | omega)) rfl rfl (Nat.le_of_ble_eq_true rfl) (Nat.le_of_ble_eq_true rfl) (Nat.le_of_ble_eq_true rfl) (fun vq wq hq => ?_)
      obtain ⟨qc26, rfl, rfl, qcO26, qcc26⟩ := hq
      show q_Go Γ mX8_offer 2 0 0 29 [(0, q_r Γ 0), (1, q_i k), (2, q_i n), (3, q_i w)] [q_r Γ qc26] (KC, S) (fun v9 w9 => v9 = some (q_i (s_offer (A 151) k n w)) ∧ ∃ S2, w9 = (KC, S2) ∧ s_Jc S2 (A) ∧ s_offM S S2)
      refine q_astore (pc' := 31) (L' := [(4, q_r Γ qc26), (0, q_r Γ 0), (1, q_i k), (2, q_i n), (3, q_i w)]) dX8_offer_29 rfl (by decide) rfl ?_
      have qn26 : 0 ≤ S qc26 0 ∧ S qc26 0 ≤ 10 := by (rcases qcc26 with ⟨_, rfl⟩ | ⟨_, rfl⟩); (rw [s_F_an FF]; omega); (rw [s_F_bn FF]; omega)
      have qe26 : S qc26 0 = (A 151) (3 + k) := by (rcases qcc26 with ⟨e, rfl⟩ | ⟨e, rfl⟩); (rw [s_F_an FF, e]; rfl); (rw [s_F_bn FF, show k = 1 by omega]; rfl)
      refine q_aload (pc' := 33) 0 dX8_offer_31 rfl rfl ?_
      refine q_iloadn (pc' := 34) 3 dX8_offer_33 rfl rfl ?_
      refine q_callVI (pc' := 37) dX8_offer_34 rfl lX8_185 iX4_has qcO26.1 rfl (c_X4_has qcO26 qn26.1 qn26.2 hn) rfl rfl (Nat.le_of_ble_eq_true rfl) (Nat.le_of_ble_eq_true rfl) (Nat.le_of_ble_eq_true rfl) ?_
      rw [qe26]
      refine q_if_ne_B (tgt := 42) (pc' := 40) dX8_offer_37 rfl rfl (fun qc_37 => ?_) (fun qc_37 => ?_)
      · refine q_aload (pc' := 44) 0 dX8_offer_42 rfl rfl ?_
        refine q_iloadn (pc' := 45) 3 dX8_offer_44 rfl rfl ?_
        refine q_iloadn (pc' := 46) 4 dX8_offer_45 rfl rfl ?_
        refine q_callVI (pc' := 49) dX8_offer_46 rfl lX8_188 iX4_get qcO26.1 rfl (c_X4_get qcO26 (by omega) (by omega) (by omega) (by omega)) rfl rfl (Nat.le_of_ble_eq_true rfl) (Nat.le_of_ble_eq_true rfl) (Nat.le_of_ble_eq_true rfl) ?_
        exact q_iret dX8_offer_49 rfl rfl ⟨congrArg (fun z => some (q_i z)) (by exact s_offer_e FF ok qcc26 (by omega) (by omega) (by omega) (by omega)), _, rfl, J, fun _ _ => rfl⟩
      · refine q_iconst (pc' := 41) dX8_offer_40 rfl ?_
        exact q_iret dX8_offer_41 rfl rfl ⟨congrArg (fun z => some (q_i z)) (by unfold s_offer; rw [if_neg (by omega), if_pos (by omega)]), _, rfl, J, fun _ _ => rfl⟩
    · refine q_bipush (pc' := 20) dX8_offer_18 rfl rfl ?_
      exact q_iret dX8_offer_20 rfl rfl ⟨congrArg (fun z => some (q_i z)) (by unfold s_offer; (repeat (first | rw [if_pos (by omega)] | rw [if_neg (by omega)])); first | done | rfl | omega), _, rfl, J, fun _ _ => rfl⟩
set_option maxRecDepth 20000 in
set_option maxHeartbeats 4000000 in
theorem c_X8_count {Γ : q_G} {S A : q_S} {w : Int} (J : s_Jc S A) (hw : q_rg w) : q_Sp Γ mX8_count 6 0 0 [q_r Γ 0, q_i w] (KC, S) (fun v9 w9 => v9 = some (q_i (s_count (A 151) (A 150 6) (A 150 2) w)) ∧ ∃ S2, w9 = (KC, S2) ∧ s_Jc S2 (A) ∧ s_offM S S2) := by
  show q_Go Γ mX8_count 6 0 0 0 [(0, q_r Γ 0), (1, q_i w)] [] (KC, S) (fun v9 w9 => v9 = some (q_i (s_count (A 151) (A 150 6) (A 150 2) w)) ∧ ∃ S2, w9 = (KC, S2) ∧ s_Jc S2 (A) ∧ s_offM S S2)
  have ok := J.F.2.1
  have pz := J.F.2.2
  have rw0 := s_rows_b ok
  have c3 := ok.2.2.1
  have c4 := ok.2.2.2.1
  have FF := J.F.1
  refine q_iloadn (pc' := 1) 1 dX8_count_0 rfl rfl ?_
  by_cases qs_1 : w = 0
  · subst qs_1
    refine q_tableIn (pc' := 48) dX8_count_1 (by decide) (by decide) (by decide) rfl rfl ?_
    refine q_aloadn (pc' := 49) 0 dX8_count_48 rfl rfl ?_
    refine p_getR (pc' := 52) (f := 1) dX8_count_49 rfl fX8_10 kc0 rfl ?_
    refine p_getJ (pc' := 55) (kz := 0) dX8_count_52 rfl fX8_191 kc1 rfl rfl (fun qy_52 eqy_52 rqy_52 => ?_)
    have vqy_52 : qy_52 = (A 151) 0 := eqy_52.trans (s_F_0 FF)
    rw [vqy_52]
    exact q_iret dX8_count_55 rfl rfl ⟨congrArg (fun z => some (q_i z)) (by unfold s_count; (repeat (first | rw [if_pos (by omega)] | rw [if_neg (by omega)])); first | done | rfl | omega), _, rfl, J, fun _ _ => rfl⟩
  · by_cases qs_1_1 : w = 1
    · subst qs_1_1
      refine q_tableIn (pc' := 56) dX8_count_1 (by decide) (by decide) (by decide) rfl rfl ?_
      refine q_aloadn (pc' := 57) 0 dX8_count_56 rfl rfl ?_
      refine p_getR (pc' := 60) (f := 1) dX8_count_57 rfl fX8_10 kc0 rfl ?_
      refine p_getR (pc' := 63) (f := 8) dX8_count_60 rfl fX8_195 kc1 rfl ?_
      refine p_getJ (pc' := 66) (kz := 0) dX8_count_63 rfl fX8_199 kc8 rfl rfl (fun qy_63 eqy_63 rqy_63 => ?_)
      have vqy_63 : qy_63 = (A 151) 3 := eqy_63.trans (s_F_an FF)
      rw [vqy_63]
      exact q_iret dX8_count_66 rfl rfl ⟨congrArg (fun z => some (q_i z)) (by unfold s_count; (repeat (first | rw [if_pos (by omega)] | rw [if_neg (by omega)])); first | done | rfl | omega), _, rfl, J, fun _ _ => rfl⟩
    · by_cases qs_1_2 : w = 2
      · subst qs_1_2
        refine q_tableIn (pc' := 67) dX8_count_1 (by decide) (by decide) (by decide) rfl rfl ?_
        refine q_aloadn (pc' := 68) 0 dX8_count_67 rfl rfl ?_
        refine p_getR (pc' := 71) (f := 1) dX8_count_68 rfl fX8_10 kc0 rfl ?_
        refine p_getR (pc' := 74) (f := 11) dX8_count_71 rfl fX8_202 kc1 rfl ?_
        refine p_getJ (pc' := 77) (kz := 0) dX8_count_74 rfl fX8_199 kc11 rfl rfl (fun qy_74 eqy_74 rqy_74 => ?_)
        have vqy_74 : qy_74 = (A 151) 4 := eqy_74.trans (s_F_bn FF)
        rw [vqy_74]
        exact q_iret dX8_count_77 rfl rfl ⟨congrArg (fun z => some (q_i z)) (by unfold s_count; (repeat (first | rw [if_pos (by omega)] | rw [if_neg (by omega)])); first | done | rfl | omega), _, rfl, J, fun _ _ => rfl⟩
      · by_cases qs_1_3 : w = 3
        · subst qs_1_3
          refine q_tableIn (pc' := 78) dX8_count_1 (by decide) (by decide) (by decide) rfl rfl ?_
          refine q_aloadn (pc' := 79) 0 dX8_count_78 rfl rfl ?_
          refine p_getR (pc' := 82) (f := 14) dX8_count_79 rfl fX8_21 kc0 rfl ?_
          refine q_callVQ (pc' := 85) dX8_count_82 rfl lX8_205 iX2_yieldOfAll kc14 rfl (c_X2_yieldOfAll FF ok) rfl rfl (Nat.le_of_ble_eq_true rfl) (Nat.le_of_ble_eq_true rfl) (Nat.le_of_ble_eq_true rfl) (fun vq wq hq => ?_)
          obtain ⟨rfl, qS82, rfl, ql82⟩ := hq
          have qF82 : s_F qS82 1 (A 151) := s_F_L (by assumption) ql82
          show q_Go Γ mX8_count 6 0 0 85 [(0, q_r Γ 0), (1, q_i 3)] [q_i (s_all (A 151))] (KC, qS82) (_)
          exact q_iret dX8_count_85 rfl rfl ⟨congrArg (fun z => some (q_i z)) (by unfold s_count; (repeat (first | rw [if_pos (by omega)] | rw [if_neg (by omega)])); first | done | rfl | omega), _, rfl, J.o qF82 (s_offX_L ql82), s_offM_X (s_offX_L ql82)⟩
        · by_cases qs_1_4 : w = 4
          · subst qs_1_4
            refine q_tableIn (pc' := 86) dX8_count_1 (by decide) (by decide) (by decide) rfl rfl ?_
            refine q_aloadn (pc' := 87) 0 dX8_count_86 rfl rfl ?_
            refine p_getR (pc' := 90) (f := 1) dX8_count_87 rfl fX8_10 kc0 rfl ?_
            refine p_getJ (pc' := 93) (kz := 10) dX8_count_90 rfl fX8_208 kc1 rfl rfl (fun qy_90 eqy_90 rqy_90 => ?_)
            have vqy_90 : qy_90 = (A 151) 2 := eqy_90.trans (s_F_10 FF)
            rw [vqy_90]
            exact q_iret dX8_count_93 rfl rfl ⟨congrArg (fun z => some (q_i z)) (by unfold s_count; (repeat (first | rw [if_pos (by omega)] | rw [if_neg (by omega)])); first | done | rfl | omega), _, rfl, J, fun _ _ => rfl⟩
          · by_cases qs_1_5 : w = 5
            · subst qs_1_5
              refine q_tableIn (pc' := 94) dX8_count_1 (by decide) (by decide) (by decide) rfl rfl ?_
              refine q_aloadn (pc' := 95) 0 dX8_count_94 rfl rfl ?_
              refine p_getR (pc' := 98) (f := 1) dX8_count_95 rfl fX8_10 kc0 rfl ?_
              refine p_getJ (pc' := 101) (kz := 6) dX8_count_98 rfl fX8_211 kc1 rfl rfl (fun qy_98 eqy_98 rqy_98 => ?_)
              have vqy_98 : qy_98 = (A 151) 1 := eqy_98.trans (s_F_6 FF)
              rw [vqy_98]
              exact q_iret dX8_count_101 rfl rfl ⟨congrArg (fun z => some (q_i z)) (by unfold s_count; (repeat (first | rw [if_pos (by omega)] | rw [if_neg (by omega)])); first | done | rfl | omega), _, rfl, J, fun _ _ => rfl⟩
            · by_cases qs_1_6 : w = 6
              · subst qs_1_6
                refine q_tableIn (pc' := 102) dX8_count_1 (by decide) (by decide) (by decide) rfl rfl ?_
                refine q_aloadn (pc' := 103) 0 dX8_count_102 rfl rfl ?_
                refine p_getR (pc' := 106) (f := 25) dX8_count_103 rfl fX8_44 kc0 rfl ?_
                refine p_getJ (pc' := 109) (kz := 1) dX8_count_106 rfl fX8_214 kc25 rfl rfl (fun qy_106 eqy_106 rqy_106 => ?_)
                rw [show qy_106 = A 150 6 from eqy_106.trans J.p.1]
                exact q_iret dX8_count_109 rfl rfl ⟨congrArg (fun z => some (q_i z)) (by unfold s_count; (repeat (first | rw [if_pos (by omega)] | rw [if_neg (by omega)])); first | done | rfl | omega), _, rfl, J, fun _ _ => rfl⟩
              · by_cases qs_1_7 : w = 7
                · subst qs_1_7
                  refine q_tableIn (pc' := 110) dX8_count_1 (by decide) (by decide) (by decide) rfl rfl ?_
                  refine q_aloadn (pc' := 111) 0 dX8_count_110 rfl rfl ?_
                  refine p_getR (pc' := 114) (f := 29) dX8_count_111 rfl fX8_60 kc0 rfl ?_
                  refine p_getJ (pc' := 117) (kz := 0) dX8_count_114 rfl fX8_216 kc29 rfl rfl (fun qy_114 eqy_114 rqy_114 => ?_)
                  rw [show qy_114 = A 150 2 from eqy_114.trans J.n]
                  exact q_iret dX8_count_117 rfl rfl ⟨congrArg (fun z => some (q_i z)) (by unfold s_count; (repeat (first | rw [if_pos (by omega)] | rw [if_neg (by omega)])); first | done | rfl | omega), _, rfl, J, fun _ _ => rfl⟩
                · refine q_tableOut (pc' := 118) dX8_count_1 (by first | assumption | omega) (by omega) rfl ?_
                  refine q_iloadn (pc' := 119) 1 dX8_count_118 rfl rfl ?_
                  refine q_bipush (pc' := 121) dX8_count_119 rfl rfl ?_
                  refine q_bipush (pc' := 123) dX8_count_121 rfl rfl ?_
                  refine q_callSI (pc' := 126) dX8_count_123 rfl lX8_104 iX8_outside (c_X8_outside (by first | assumption | omega) (by first | assumption | omega) (by first | assumption | omega)) rfl rfl (Nat.le_of_ble_eq_true rfl) (Nat.le_of_ble_eq_true rfl) (Nat.le_of_ble_eq_true rfl) ?_
                  refine q_if_eq_B (tgt := 132) (pc' := 129) dX8_count_126 rfl rfl (fun qc_126 => ?_) (fun qc_126 => ?_)
                  · refine q_aloadn (pc' := 133) 0 dX8_count_132 rfl rfl ?_
                    refine p_getR (pc' := 136) (f := 1) dX8_count_133 rfl fX8_10 kc0 rfl ?_
                    refine p_getR (pc' := 139) (f := 6) dX8_count_136 rfl fX8_217 kc1 rfl ?_
                    refine q_iloadn (pc' := 140) 1 dX8_count_139 rfl rfl ?_
                    refine q_bipush (pc' := 142) dX8_count_140 rfl rfl ?_
                    refine q_isub (pc' := 143) dX8_count_142 rfl ?_
                    refine p_iald (pc' := 144) dX8_count_143 rfl kc6 (by first | assumption | omega) (by first | assumption | omega) (by decide) (fun qy_143 eqy_143 rqy_143 => ?_)
                    have vqy_143 : qy_143 = (A 151) (5 + (w - 10)) := eqy_143.trans (s_F_w FF (by first | assumption | omega) (by first | assumption | omega))
                    rw [vqy_143]
                    refine p_eq (y := (A 151) (5 + w - 10)) (congrArg _ (by omega)) ?_
                    exact q_iret dX8_count_144 rfl rfl ⟨congrArg (fun z => some (q_i z)) (by unfold s_count; (repeat (first | rw [if_pos (by omega)] | rw [if_neg (by omega)])); first | done | rfl | omega), _, rfl, J, fun _ _ => rfl⟩
                  · refine q_bipush (pc' := 131) dX8_count_129 rfl rfl ?_
                    exact q_iret dX8_count_131 rfl rfl ⟨congrArg (fun z => some (q_i z)) (by unfold s_count; (repeat (first | rw [if_pos (by omega)] | rw [if_neg (by omega)])); first | done | rfl | omega), _, rfl, J, fun _ _ => rfl⟩
set_option maxRecDepth 20000 in
set_option maxHeartbeats 4000000 in
theorem c_X8_gainMeasure {Γ : q_G} {S : q_S} {φ : Int → Int} {a b y : Int} (FF : s_F S 1 φ) (ok : s_ok φ) (a0 : 0 ≤ a) (a1 : a < φ 0) (b0 : 0 ≤ b) (b1 : b < φ 0) (hw : q_rg y) : q_Sp Γ mX8_gainMeasure 6 0 0 [q_r Γ 0, q_i a, q_i b, q_i y] (KC, S) (fun v w => v = some (q_i (s_gm φ a b y)) ∧ ∃ S2, w = (KC, S2) ∧ s_offL S S2) := by
  show q_Go Γ mX8_gainMeasure 6 0 0 0 [(0, q_r Γ 0), (1, q_i a), (2, q_i b), (3, q_i y)] [] (KC, S) (fun v w => v = some (q_i (s_gm φ a b y)) ∧ ∃ S2, w = (KC, S2) ∧ s_offL S S2)
  have rw0 := s_rows_b ok
  refine q_iloadn (pc' := 1) 3 dX8_gainMeasure_0 rfl rfl ?_
  by_cases qs_1 : y = 0
  · subst qs_1
    refine q_lookup (pc' := 28) (off := 27) dX8_gainMeasure_1 (by decide) rfl rfl rfl ?_
    refine q_aloadn (pc' := 29) 0 dX8_gainMeasure_28 rfl rfl ?_
    refine p_getR (pc' := 32) (f := 14) dX8_gainMeasure_29 rfl fX8_21 kc0 rfl ?_
    refine q_iloadn (pc' := 33) 1 dX8_gainMeasure_32 rfl rfl ?_
    refine q_callVQ (pc' := 36) dX8_gainMeasure_33 rfl lX8_139 iX2_yieldOfDay kc14 rfl (c_X2_yieldOfDay FF ok (by omega) (by omega)) rfl rfl (Nat.le_of_ble_eq_true rfl) (Nat.le_of_ble_eq_true rfl) (Nat.le_of_ble_eq_true rfl) (fun vq wq hq => ?_)
    obtain ⟨rfl, qS33, rfl, ql33⟩ := hq
    have qF33 : s_F qS33 1 φ := s_F_L (by assumption) ql33
    show q_Go Γ mX8_gainMeasure 6 0 0 36 [(0, q_r Γ 0), (1, q_i a), (2, q_i b), (3, q_i 0)] [q_i (s_yo φ a)] (KC, qS33) (_)
    exact q_iret dX8_gainMeasure_36 rfl rfl ⟨congrArg (fun z => some (q_i z)) (by unfold s_gm; (repeat (first | rw [if_pos (by omega)] | rw [if_neg (by omega)])); first | done | rfl | omega), _, rfl, ql33⟩
  · by_cases qs_1_1 : y = 1
    · subst qs_1_1
      refine q_lookup (pc' := 37) (off := 36) dX8_gainMeasure_1 (by decide) rfl rfl rfl ?_
      refine q_aloadn (pc' := 38) 0 dX8_gainMeasure_37 rfl rfl ?_
      refine p_getR (pc' := 41) (f := 14) dX8_gainMeasure_38 rfl fX8_21 kc0 rfl ?_
      refine q_iloadn (pc' := 42) 2 dX8_gainMeasure_41 rfl rfl ?_
      refine q_callVQ (pc' := 45) dX8_gainMeasure_42 rfl lX8_139 iX2_yieldOfDay kc14 rfl (c_X2_yieldOfDay FF ok (by omega) (by omega)) rfl rfl (Nat.le_of_ble_eq_true rfl) (Nat.le_of_ble_eq_true rfl) (Nat.le_of_ble_eq_true rfl) (fun vq wq hq => ?_)
      obtain ⟨rfl, qS42, rfl, ql42⟩ := hq
      have qF42 : s_F qS42 1 φ := s_F_L (by assumption) ql42
      show q_Go Γ mX8_gainMeasure 6 0 0 45 [(0, q_r Γ 0), (1, q_i a), (2, q_i b), (3, q_i 1)] [q_i (s_yo φ b)] (KC, qS42) (_)
      refine q_ineg (pc' := 46) dX8_gainMeasure_45 rfl ?_
      exact q_iret dX8_gainMeasure_46 rfl rfl ⟨congrArg (fun z => some (q_i z)) (by unfold s_gm; (repeat (first | rw [if_pos (by omega)] | rw [if_neg (by omega)])); first | done | rfl | omega), _, rfl, ql42⟩
    · refine q_lookup (pc' := 47) (off := 46) dX8_gainMeasure_1 (by first | assumption | omega) rfl (by simp [Op.lookupswitch.offset, Ne.symm qs_1, Ne.symm qs_1_1]) rfl ?_
      refine q_aloadn (pc' := 48) 0 dX8_gainMeasure_47 rfl rfl ?_
      refine p_getR (pc' := 51) (f := 14) dX8_gainMeasure_48 rfl fX8_21 kc0 rfl ?_
      refine q_callVQ (pc' := 54) dX8_gainMeasure_51 rfl lX8_205 iX2_yieldOfAll kc14 rfl (c_X2_yieldOfAll FF ok) rfl rfl (Nat.le_of_ble_eq_true rfl) (Nat.le_of_ble_eq_true rfl) (Nat.le_of_ble_eq_true rfl) (fun vq wq hq => ?_)
      obtain ⟨rfl, qS51, rfl, ql51⟩ := hq
      have qF51 : s_F qS51 1 φ := s_F_L (by assumption) ql51
      show q_Go Γ mX8_gainMeasure 6 0 0 54 [(0, q_r Γ 0), (1, q_i a), (2, q_i b), (3, q_i y)] [q_i (s_all φ)] (KC, qS51) (fun v w => v = some (q_i (s_gm φ a b y)) ∧ ∃ S2, w = (KC, S2) ∧ s_offL S S2)
      exact q_iret dX8_gainMeasure_54 rfl rfl ⟨congrArg (fun z => some (q_i z)) (by unfold s_gm; (repeat (first | rw [if_pos (by omega)] | rw [if_neg (by omega)])); first | done | rfl | omega), _, rfl, ql51⟩
set_option maxRecDepth 20000 in
set_option maxHeartbeats 4000000 in
theorem c_X8_worth {Γ : q_G} {S A : q_S} {a b h u w : Int} (J : s_Jc S A) (ha : q_rg a) (hb : q_rg b) (hh : q_rg h) (hu : q_rg u) (hw : q_rg w) : q_Sp Γ mX8_worth 7 0 0 [q_r Γ 0, q_i a, q_i b, q_i h, q_i u, q_i w] (KC, S) (fun v9 w9 => v9 = some (q_i (s_worth (A 151) a b h u w)) ∧ ∃ S2, w9 = (KC, S2) ∧ s_Jc S2 (A) ∧ s_offM S S2) := by
  show q_Go Γ mX8_worth 7 0 0 0 [(0, q_r Γ 0), (1, q_i a), (2, q_i b), (3, q_i h), (4, q_i u), (5, q_i w)] [] (KC, S) (fun v9 w9 => v9 = some (q_i (s_worth (A 151) a b h u w)) ∧ ∃ S2, w9 = (KC, S2) ∧ s_Jc S2 (A) ∧ s_offM S S2)
  have ok := J.F.2.1
  have pz := J.F.2.2
  have rw0 := s_rows_b ok
  have c3 := ok.2.2.1
  have c4 := ok.2.2.2.1
  have FF := J.F.1
  refine q_aloadn (pc' := 1) 0 dX8_worth_0 rfl rfl ?_
  refine p_getR (pc' := 4) (f := 1) dX8_worth_1 rfl fX8_10 kc0 rfl ?_
  refine q_iloadn (pc' := 5) 1 dX8_worth_4 rfl rfl ?_
  refine q_iloadn (pc' := 6) 2 dX8_worth_5 rfl rfl ?_
  refine q_iloadn (pc' := 7) 3 dX8_worth_6 rfl rfl ?_
  refine q_iload (pc' := 9) 4 dX8_worth_7 rfl rfl ?_
  refine q_callVI (pc' := 12) dX8_worth_9 rfl lX8_220 iX0_rightError kc1 rfl (c_X0_rightError FF ok ha hb hh hu) rfl rfl (Nat.le_of_ble_eq_true rfl) (Nat.le_of_ble_eq_true rfl) (Nat.le_of_ble_eq_true rfl) ?_
  have hq : -2 ≤ s_wGrant (A 151) a b h u ∧ s_wGrant (A 151) a b h u ≤ 0 := by unfold s_wGrant; omega
  refine q_istore (pc' := 14) (L' := [(6, q_i (s_wGrant (A 151) a b h u)), (0, q_r Γ 0), (1, q_i a), (2, q_i b), (3, q_i h), (4, q_i u), (5, q_i w)]) dX8_worth_12 rfl (by decide) rfl ?_
  refine q_iload (pc' := 16) 0 dX8_worth_14 rfl rfl ?_
  refine q_if_eq (tgt := 22) (pc' := 19) dX8_worth_16 rfl rfl (by first | assumption | omega) (fun qc_16 => ?_) (fun qc_16 => ?_)
  · refine q_iload (pc' := 24) 6 dX8_worth_22 rfl rfl ?_
    refine q_iconst (pc' := 25) dX8_worth_24 rfl ?_
    refine q_iconst (pc' := 26) dX8_worth_25 rfl ?_
    refine q_callSI (pc' := 29) dX8_worth_26 rfl lX8_104 iX8_outside (c_X8_outside (by first | assumption | omega) (by first | assumption | omega) (by first | assumption | omega)) rfl rfl (Nat.le_of_ble_eq_true rfl) (Nat.le_of_ble_eq_true rfl) (Nat.le_of_ble_eq_true rfl) ?_
    refine q_if_eq_B (tgt := 35) (pc' := 32) dX8_worth_29 rfl rfl (fun qc_29 => ?_) (fun qc_29 => ?_)
    · have hg : ¬ s_wGrant (A 151) a b h u < 0 := by omega
      have hge : (0 ≤ a ∧ a < (A 151) 0) ∧ (0 ≤ b ∧ b < (A 151) 0) := by unfold s_wGrant at hg; omega
      refine q_aloadn (pc' := 36) 1 dX8_worth_35 rfl rfl ?_
      refine q_iloadn (pc' := 37) 2 dX8_worth_36 rfl rfl ?_
      refine q_iloadn (pc' := 38) 3 dX8_worth_37 rfl rfl ?_
      refine q_iload (pc' := 40) 6 dX8_worth_38 rfl rfl ?_
      refine q_callVQ (pc' := 43) dX8_worth_40 rfl lX8_223 iX8_gainMeasure kc0 rfl (c_X8_gainMeasure FF ok (by omega) (by omega) (by omega) (by omega) hw) rfl rfl (Nat.le_of_ble_eq_true rfl) (Nat.le_of_ble_eq_true rfl) (Nat.le_of_ble_eq_true rfl) (fun vq wq hq => ?_)
      obtain ⟨rfl, qS40, rfl, ql40⟩ := hq
      have qF40 : s_F qS40 1 (A 151) := s_F_L (by assumption) ql40
      show q_Go Γ mX8_worth 7 0 0 43 [(6, q_i (s_wGrant (A 151) a b h u)), (0, q_r Γ 0), (1, q_i a), (2, q_i b), (3, q_i h), (4, q_i u), (5, q_i w)] [q_i (s_gm (A 151) a b w)] (KC, qS40) (fun v9 w9 => v9 = some (q_i (s_worth (A 151) a b h u w)) ∧ ∃ S2, w9 = (KC, S2) ∧ s_Jc S2 (A) ∧ s_offM S S2)
      refine q_istore (pc' := 45) (L' := [(7, q_i (s_gm (A 151) a b w)), (6, q_i (s_wGrant (A 151) a b h u)), (0, q_r Γ 0), (1, q_i a), (2, q_i b), (3, q_i h), (4, q_i u), (5, q_i w)]) dX8_worth_43 rfl (by decide) rfl ?_
      refine q_aloadn (pc' := 46) 2 dX8_worth_45 rfl rfl ?_
      refine p_getR (pc' := 49) (f := 1) dX8_worth_46 rfl fX8_10 kc0 rfl ?_
      refine q_iloadn (pc' := 50) 3 dX8_worth_49 rfl rfl ?_
      refine q_iloadn (pc' := 51) 4 dX8_worth_50 rfl rfl ?_
      refine q_iloadn (pc' := 52) 5 dX8_worth_51 rfl rfl ?_
      refine q_iload (pc' := 54) 6 dX8_worth_52 rfl rfl ?_
      refine q_callVQ (pc' := 57) dX8_worth_54 rfl lX8_93 iX0_changeRight kc1 rfl (c_X0_changeRight qF40 ok ha hb hh hu) rfl rfl (Nat.le_of_ble_eq_true rfl) (Nat.le_of_ble_eq_true rfl) (Nat.le_of_ble_eq_true rfl) (fun vq wq hq => ?_)
      obtain ⟨rfl, qS54, rfl, qG54, qo54⟩ := hq
      show q_Go Γ mX8_worth 7 0 0 57 [(7, q_i (s_gm (A 151) a b w)), (6, q_i (s_wGrant (A 151) a b h u)), (0, q_r Γ 0), (1, q_i a), (2, q_i b), (3, q_i h), (4, q_i u), (5, q_i w)] [q_i (s_grantV (A 151) a b h u)] (KC, qS54) (fun v9 w9 => v9 = some (q_i (s_worth (A 151) a b h u w)) ∧ ∃ S2, w9 = (KC, S2) ∧ s_Jc S2 (A) ∧ s_offM S S2)
      refine q_istore (pc' := 59) (L' := [(8, q_i (s_grantV (A 151) a b h u)), (7, q_i (s_gm (A 151) a b w)), (6, q_i (s_wGrant (A 151) a b h u)), (0, q_r Γ 0), (1, q_i a), (2, q_i b), (3, q_i h), (4, q_i u), (5, q_i w)]) dX8_worth_57 rfl (by decide) rfl ?_
      have ok2 := ((s_k_grant ok pz a b h u).2 (by have q := s_rt_b ok (a := a) (b := b) (h := h) (by omega) (by omega) (by omega) (by omega) (by unfold s_wGrant at hg; omega) (by unfold s_wGrant at hg; omega); unfold s_grantV; rw [if_neg hg]; exact q.1)).1
      have e20 : s_grantP (A 151) a b h u 0 = (A 151) 0 := by unfold s_grantP; rw [if_neg hg]; exact s_set_ne (by unfold s_wGrant at hg; omega)
      refine q_aloadn (pc' := 60) 3 dX8_worth_59 rfl rfl ?_
      refine q_iloadn (pc' := 61) 4 dX8_worth_60 rfl rfl ?_
      refine q_iloadn (pc' := 62) 5 dX8_worth_61 rfl rfl ?_
      refine q_iload (pc' := 64) 8 dX8_worth_62 rfl rfl ?_
      refine q_callVQ (pc' := 67) dX8_worth_64 rfl lX8_223 iX8_gainMeasure kc0 rfl (c_X8_gainMeasure qG54 ok2 (by omega) (by omega) (by omega) (by omega) hw) rfl rfl (Nat.le_of_ble_eq_true rfl) (Nat.le_of_ble_eq_true rfl) (Nat.le_of_ble_eq_true rfl) (fun vq wq hq => ?_)
      obtain ⟨rfl, qS64, rfl, ql64⟩ := hq
      have qH64 := s_F_L qG54 ql64
      show q_Go Γ mX8_worth 7 0 0 67 [(8, q_i (s_grantV (A 151) a b h u)), (7, q_i (s_gm (A 151) a b w)), (6, q_i (s_wGrant (A 151) a b h u)), (0, q_r Γ 0), (1, q_i a), (2, q_i b), (3, q_i h), (4, q_i u), (5, q_i w)] [q_i (s_gm (s_grantP (A 151) a b h u) a b w)] (KC, qS64) (fun v9 w9 => v9 = some (q_i (s_worth (A 151) a b h u w)) ∧ ∃ S2, w9 = (KC, S2) ∧ s_Jc S2 (A) ∧ s_offM S S2)
      refine q_istore (pc' := 69) (L' := [(9, q_i (s_gm (s_grantP (A 151) a b h u) a b w)), (8, q_i (s_grantV (A 151) a b h u)), (7, q_i (s_gm (A 151) a b w)), (6, q_i (s_wGrant (A 151) a b h u)), (0, q_r Γ 0), (1, q_i a), (2, q_i b), (3, q_i h), (4, q_i u), (5, q_i w)]) dX8_worth_67 rfl (by decide) rfl ?_
      refine q_aloadn (pc' := 70) 4 dX8_worth_69 rfl rfl ?_
      refine p_getR (pc' := 73) (f := 1) dX8_worth_70 rfl fX8_10 kc0 rfl ?_
      refine q_iloadn (pc' := 74) 5 dX8_worth_73 rfl rfl ?_
      refine q_iloadn (pc' := 75) 6 dX8_worth_74 rfl rfl ?_
      refine q_iloadn (pc' := 76) 7 dX8_worth_75 rfl rfl ?_
      refine q_iload (pc' := 78) 1 dX8_worth_76 rfl rfl ?_
      refine q_callVQ (pc' := 81) dX8_worth_78 rfl lX8_93 iX0_changeRight kc1 rfl (c_X0_changeRight qH64 ok2 ha hb hh (s_rg_grant ok a b h u)) rfl rfl (Nat.le_of_ble_eq_true rfl) (Nat.le_of_ble_eq_true rfl) (Nat.le_of_ble_eq_true rfl) (fun vq wq hq => ?_)
      obtain ⟨rfl, qS78, rfl, qI78, qo78⟩ := hq
      rw [s_grant_back ok hg] at qI78
      show q_Go Γ mX8_worth 7 0 0 81 [(9, q_i (s_gm (s_grantP (A 151) a b h u) a b w)), (8, q_i (s_grantV (A 151) a b h u)), (7, q_i (s_gm (A 151) a b w)), (6, q_i (s_wGrant (A 151) a b h u)), (0, q_r Γ 0), (1, q_i a), (2, q_i b), (3, q_i h), (4, q_i u), (5, q_i w)] [q_i (s_grantV (s_grantP (A 151) a b h u) a b h (s_grantV (A 151) a b h u))] (KC, qS78) (fun v9 w9 => v9 = some (q_i (s_worth (A 151) a b h u w)) ∧ ∃ S2, w9 = (KC, S2) ∧ s_Jc S2 (A) ∧ s_offM S S2)
      refine q_pop (pc' := 82) dX8_worth_81 rfl rfl ?_
      have qX : s_offX S qS78 := s_offX_t (s_offX_t (s_offX_t (s_offX_L ql40) (s_offX_F qo54)) (s_offX_L ql64)) (s_offX_F qo78)
      refine q_iload (pc' := 84) 0 dX8_worth_82 rfl rfl ?_
      refine q_iload (pc' := 86) 2 dX8_worth_84 rfl rfl ?_
      refine q_isub (pc' := 87) dX8_worth_86 rfl ?_
      refine q_ldc (pc' := 89) dX8_worth_87 rfl wX8_226 ?_
      refine q_iadd (pc' := 90) dX8_worth_89 rfl ?_
      exact q_iret dX8_worth_90 rfl rfl ⟨congrArg (fun z => some (q_i z)) (by exact s_worth_e hg (by omega)), _, rfl, J.o qI78 qX, s_offM_X qX⟩
    · refine q_bipush (pc' := 34) dX8_worth_32 rfl rfl ?_
      exact q_iret dX8_worth_34 rfl rfl ⟨congrArg (fun z => some (q_i z)) (by unfold s_worth; rw [if_neg (by omega), if_pos (by omega)]), _, rfl, J, fun _ _ => rfl⟩
  · refine q_iload (pc' := 21) 0 dX8_worth_19 rfl rfl ?_
    exact q_iret dX8_worth_21 rfl rfl ⟨congrArg (fun z => some (q_i z)) (by unfold s_worth; rw [if_pos (by omega)]), _, rfl, J, fun _ _ => rfl⟩
set_option maxRecDepth 20000 in
set_option maxHeartbeats 4000000 in
theorem c_X8_bestTilt {Γ : q_G} {S A : q_S} {r w : Int} (J : s_Jc S A) (hr : q_rg r) (hw : q_rg w) : q_Sp Γ mX8_bestTilt 6 0 0 [q_r Γ 0, q_i r, q_i w] (KC, S) (fun v9 w9 => v9 = some (q_i (s_best1 (A 151) r w)) ∧ ∃ S2, w9 = (KC, S2) ∧ s_Jc S2 (A) ∧ s_offM S S2) := by
  show q_Go Γ mX8_bestTilt 6 0 0 0 [(0, q_r Γ 0), (1, q_i r), (2, q_i w)] [] (KC, S) (fun v9 w9 => v9 = some (q_i (s_best1 (A 151) r w)) ∧ ∃ S2, w9 = (KC, S2) ∧ s_Jc S2 (A) ∧ s_offM S S2)
  have ok := J.F.2.1
  have pz := J.F.2.2
  have rw0 := s_rows_b ok
  have c3 := ok.2.2.1
  have c4 := ok.2.2.2.1
  have FF := J.F.1
  refine q_aloadn (pc' := 1) 0 dX8_bestTilt_0 rfl rfl ?_
  refine p_getR (pc' := 4) (f := 1) dX8_bestTilt_1 rfl fX8_10 kc0 rfl ?_
  refine q_iloadn (pc' := 5) 1 dX8_bestTilt_4 rfl rfl ?_
  refine q_callVI (pc' := 8) dX8_bestTilt_5 rfl lX8_121 iX0_hasRow kc1 rfl (c_X0_hasRow FF ok hr) rfl rfl (Nat.le_of_ble_eq_true rfl) (Nat.le_of_ble_eq_true rfl) (Nat.le_of_ble_eq_true rfl) ?_
  refine q_if_ne_B (tgt := 13) (pc' := 11) dX8_bestTilt_8 rfl rfl (fun qc_8 => ?_) (fun qc_8 => ?_)
  · refine q_iloadn (pc' := 14) 2 dX8_bestTilt_13 rfl rfl ?_
    refine q_iconst (pc' := 15) dX8_bestTilt_14 rfl ?_
    refine q_iconst (pc' := 16) dX8_bestTilt_15 rfl ?_
    refine q_callSI (pc' := 19) dX8_bestTilt_16 rfl lX8_104 iX8_outside (c_X8_outside (by first | assumption | omega) (by first | assumption | omega) (by first | assumption | omega)) rfl rfl (Nat.le_of_ble_eq_true rfl) (Nat.le_of_ble_eq_true rfl) (Nat.le_of_ble_eq_true rfl) ?_
    refine q_if_eq_B (tgt := 25) (pc' := 22) dX8_bestTilt_19 rfl rfl (fun qc_19 => ?_) (fun qc_19 => ?_)
    · refine q_aloadn (pc' := 26) 0 dX8_bestTilt_25 rfl rfl ?_
      refine p_getR (pc' := 29) (f := 1) dX8_bestTilt_26 rfl fX8_10 kc0 rfl ?_
      refine p_getR (pc' := 32) (f := 4) dX8_bestTilt_29 rfl fX8_132 kc1 rfl ?_
      refine q_iloadn (pc' := 33) 1 dX8_bestTilt_32 rfl rfl ?_
      refine p_iald (pc' := 34) dX8_bestTilt_33 rfl kc4 (by first | assumption | omega) (by first | assumption | omega) (by decide) (fun qy_33 eqy_33 rqy_33 => ?_)
      have vqy_33 : qy_33 = s_pt (A 151) (r) 2 := eqy_33.trans (s_F_4 FF (by first | assumption | omega) (by first | assumption | omega))
      rw [vqy_33]
      refine q_istoren (pc' := 35) (L' := [(3, q_i (s_pt (A 151) (r) 2)), (0, q_r Γ 0), (1, q_i r), (2, q_i w)]) dX8_bestTilt_34 rfl rfl (by decide) rfl ?_
      have pr := s_pt_b ok (r := r) (by omega) (by omega)
      refine q_iconst (pc' := 36) dX8_bestTilt_35 rfl ?_
      refine q_istore (pc' := 38) (L' := [(4, q_i 0), (3, q_i (s_pt (A 151) (r) 2)), (0, q_r Γ 0), (1, q_i r), (2, q_i w)]) dX8_bestTilt_36 rfl (by decide) rfl ?_
      refine q_iconst (pc' := 39) dX8_bestTilt_38 rfl ?_
      refine q_istore (pc' := 41) (L' := [(5, q_i (-1)), (4, q_i 0), (3, q_i (s_pt (A 151) (r) 2)), (0, q_r Γ 0), (1, q_i r), (2, q_i w)]) dX8_bestTilt_39 rfl (by decide) rfl ?_
      refine q_iconst (pc' := 42) dX8_bestTilt_41 rfl ?_
      refine q_istore (pc' := 44) (L' := [(6, q_i 0), (5, q_i (-1)), (4, q_i 0), (3, q_i (s_pt (A 151) (r) 2)), (0, q_r Γ 0), (1, q_i r), (2, q_i w)]) dX8_bestTilt_42 rfl (by decide) rfl ?_
      have qlp_44 : ∀ (qn_44 : Nat) (S2 : q_S) (u t best most : Int), (0 ≤ t) → (t ≤ 5) → (s_F S2 1 (s_set (A 151) (15 + 4 * r + 2) u)) → (s_offX S S2) → (best = (s_btN (A 151) r t.toNat).1) → (most = (s_btN (A 151) r t.toNat).2) → (-1 ≤ most ∧ most ≤ 25200) → ((5 - t).toNat) = qn_44 → q_Go Γ mX8_bestTilt 6 0 0 44 [(0, q_r Γ 0), (1, q_i r), (2, q_i w), (3, q_i (s_pt (A 151) r 2)), (4, q_i best), (5, q_i most), (6, q_i t)] [] (KC, S2) (fun v9 w9 => v9 = some (q_i (s_best1 (A 151) r w)) ∧ ∃ S2, w9 = (KC, S2) ∧ s_Jc S2 (A) ∧ s_offM S S2) := by
        intro qn_44
        induction qn_44 using Nat.strongRecOn with
        | ind qn_44 qih_44 =>
          intro S2 u t best most qa_44_0 qa_44_1 qa_44_2 qa_44_3 qa_44_4 qa_44_5 qa_44_6 qhn_44
          subst qhn_44
          refine q_iload (pc' := 46) 6 dX8_bestTilt_44 rfl rfl ?_
          refine q_iconst (pc' := 47) dX8_bestTilt_46 rfl ?_
          refine q_icmp_gt (tgt := 91) (pc' := 50) dX8_bestTilt_47 rfl rfl (by first | assumption | omega) (by decide) (fun qc_47 => ?_) (fun qc_47 => ?_)
          · refine q_aloadn (pc' := 92) 0 dX8_bestTilt_91 rfl rfl ?_
            refine p_getR (pc' := 95) (f := 1) dX8_bestTilt_92 rfl fX8_10 kc0 rfl ?_
            refine p_getR (pc' := 98) (f := 4) dX8_bestTilt_95 rfl fX8_132 kc1 rfl ?_
            refine q_iloadn (pc' := 99) 1 dX8_bestTilt_98 rfl rfl ?_
            refine q_iloadn (pc' := 100) 3 dX8_bestTilt_99 rfl rfl ?_
            refine p_iast (pc' := 101) dX8_bestTilt_100 rfl kc4 (by first | assumption | omega) (by first | assumption | omega) (by decide) (by first | assumption | omega) ?_
            have F100 : s_F ((q_up S2 4 r (s_pt (A 151) r 2))) 1 (A 151) := by have q := s_F_ti (r := r) (u := s_pt (A 151) r 2) qa_44_2 (by omega) (by omega) (by rw [s_set_ne (by omega)]; omega) (by rw [s_set_ne (by omega)]; omega); rw [s_set_set, show s_pt (A 151) r 2 = (A 151) (15 + 4 * r + 2) from rfl, s_set_self] at q; exact q
            have ht5 : t = 5 := by omega
            refine q_iloadn (pc' := 102) 2 dX8_bestTilt_101 rfl rfl ?_
            refine q_if_ne (tgt := 110) (pc' := 105) dX8_bestTilt_102 rfl rfl (by first | assumption | omega) (fun qc_102 => ?_) (fun qc_102 => ?_)
            · refine q_iload (pc' := 112) 5 dX8_bestTilt_110 rfl rfl ?_
              exact q_iret dX8_bestTilt_112 rfl rfl ⟨congrArg (fun z => some (q_i z)) (by unfold s_best1; rw [if_neg (by omega), if_neg (by omega)]; first | (rw [if_pos (by omega), qa_44_4, ht5]; rfl) | (rw [if_neg (by omega), qa_44_5, ht5]; rfl)), _, rfl, J.o F100 (s_offX_u qa_44_3 (by decide) (by decide) (by decide)), s_offM_X (s_offX_u qa_44_3 (by decide) (by decide) (by decide))⟩
            · refine q_iload (pc' := 107) 4 dX8_bestTilt_105 rfl rfl ?_
              refine q_goto (pc' := 112) dX8_bestTilt_107 rfl ?_
              exact q_iret dX8_bestTilt_112 rfl rfl ⟨congrArg (fun z => some (q_i z)) (by unfold s_best1; rw [if_neg (by omega), if_neg (by omega)]; first | (rw [if_pos (by omega), qa_44_4, ht5]; rfl) | (rw [if_neg (by omega), qa_44_5, ht5]; rfl)), _, rfl, J.o F100 (s_offX_u qa_44_3 (by decide) (by decide) (by decide)), s_offM_X (s_offX_u qa_44_3 (by decide) (by decide) (by decide))⟩
          · refine q_aloadn (pc' := 51) 0 dX8_bestTilt_50 rfl rfl ?_
            refine p_getR (pc' := 54) (f := 1) dX8_bestTilt_51 rfl fX8_10 kc0 rfl ?_
            refine p_getR (pc' := 57) (f := 4) dX8_bestTilt_54 rfl fX8_132 kc1 rfl ?_
            refine q_iloadn (pc' := 58) 1 dX8_bestTilt_57 rfl rfl ?_
            refine q_iload (pc' := 60) 6 dX8_bestTilt_58 rfl rfl ?_
            refine p_iast (pc' := 61) dX8_bestTilt_60 rfl kc4 (by first | assumption | omega) (by first | assumption | omega) (by decide) (by first | assumption | omega) ?_
            have F60 : s_F ((q_up S2 4 r t)) 1 (s_set (A 151) (15 + 4 * r + 2) t) := by have q := s_F_ti (r := r) (u := t) qa_44_2 (by omega) (by omega) (by rw [s_set_ne (by omega)]; omega) (by rw [s_set_ne (by omega)]; omega); rw [s_set_set] at q; exact q
            have okt : s_ok (s_set (A 151) (15 + 4 * r + 2) t) := s_ok_tilt ok (by omega) (by omega) (by omega) (by omega)
            have ab := s_all_b okt
            refine q_aloadn (pc' := 62) 0 dX8_bestTilt_61 rfl rfl ?_
            refine p_getR (pc' := 65) (f := 14) dX8_bestTilt_62 rfl fX8_21 kc0 rfl ?_
            refine q_callVQ (pc' := 68) dX8_bestTilt_65 rfl lX8_205 iX2_yieldOfAll kc14 rfl (c_X2_yieldOfAll F60 okt) rfl rfl (Nat.le_of_ble_eq_true rfl) (Nat.le_of_ble_eq_true rfl) (Nat.le_of_ble_eq_true rfl) (fun vq wq hq => ?_)
            obtain ⟨rfl, qS65, rfl, ql65⟩ := hq
            have qH65 := s_F_L F60 ql65
            show q_Go Γ mX8_bestTilt 6 0 0 68 [(0, q_r Γ 0), (1, q_i r), (2, q_i w), (3, q_i (s_pt (A 151) r 2)), (4, q_i best), (5, q_i most), (6, q_i t)] [q_i (s_all (s_set (A 151) (15 + 4 * r + 2) t))] (KC, qS65) (fun v9 w9 => v9 = some (q_i (s_best1 (A 151) r w)) ∧ ∃ S2, w9 = (KC, S2) ∧ s_Jc S2 (A) ∧ s_offM S S2)
            refine q_istore (pc' := 70) (L' := [(7, q_i (s_all (s_set (A 151) (15 + 4 * r + 2) t))), (0, q_r Γ 0), (1, q_i r), (2, q_i w), (3, q_i (s_pt (A 151) r 2)), (4, q_i best), (5, q_i most), (6, q_i t)]) dX8_bestTilt_68 rfl (by decide) rfl ?_
            refine q_iload (pc' := 72) 0 dX8_bestTilt_70 rfl rfl ?_
            refine q_iload (pc' := 74) 6 dX8_bestTilt_72 rfl rfl ?_
            refine q_icmp_le (tgt := 85) (pc' := 77) dX8_bestTilt_74 rfl rfl (by first | assumption | omega) (by first | assumption | omega) (fun qc_74 => ?_) (fun qc_74 => ?_)
            · refine q_iinc (pc' := 88) 7 (L' := [(6, q_i (t + 1)), (7, q_i (s_all (s_set (A 151) (15 + 4 * r + 2) t))), (0, q_r Γ 0), (1, q_i r), (2, q_i w), (3, q_i (s_pt (A 151) r 2)), (4, q_i best), (5, q_i most)]) dX8_bestTilt_85 rfl rfl (by decide) rfl ?_
              refine q_goto (pc' := 44) dX8_bestTilt_88 rfl ?_
              refine p_sub [2, 3, 4, 5, 6, 7, 0] rfl ?_
              exact qih_44 _ (by omega) _ t _ _ _ (by first | assumption | omega) (by first | assumption | omega) (by exact qH65) (by exact s_offX_t (s_offX_u qa_44_3 (by decide) (by decide) (by decide)) (s_offX_L ql65)) (by rw [s_btN_s (by omega), ← qa_44_4, ← qa_44_5]; first | exact (q_if_t (by omega)).symm | exact (q_if_f (by omega)).symm) (by rw [s_btN_s (by omega), ← qa_44_5]; first | exact (q_if_t (by omega)).symm | exact (q_if_f (by omega)).symm) (by omega) rfl
            · refine q_iload (pc' := 79) 0 dX8_bestTilt_77 rfl rfl ?_
              refine q_istore (pc' := 81) (L' := [(5, q_i (s_all (s_set (A 151) (15 + 4 * r + 2) t))), (7, q_i (s_all (s_set (A 151) (15 + 4 * r + 2) t))), (0, q_r Γ 0), (1, q_i r), (2, q_i w), (3, q_i (s_pt (A 151) r 2)), (4, q_i best), (6, q_i t)]) dX8_bestTilt_79 rfl (by decide) rfl ?_
              refine q_iload (pc' := 83) 7 dX8_bestTilt_81 rfl rfl ?_
              refine q_istore (pc' := 85) (L' := [(4, q_i t), (5, q_i (s_all (s_set (A 151) (15 + 4 * r + 2) t))), (7, q_i (s_all (s_set (A 151) (15 + 4 * r + 2) t))), (0, q_r Γ 0), (1, q_i r), (2, q_i w), (3, q_i (s_pt (A 151) r 2)), (6, q_i t)]) dX8_bestTilt_83 rfl (by decide) rfl ?_
              refine q_iinc (pc' := 88) 7 (L' := [(6, q_i (t + 1)), (4, q_i t), (5, q_i (s_all (s_set (A 151) (15 + 4 * r + 2) t))), (7, q_i (s_all (s_set (A 151) (15 + 4 * r + 2) t))), (0, q_r Γ 0), (1, q_i r), (2, q_i w), (3, q_i (s_pt (A 151) r 2))]) dX8_bestTilt_85 rfl rfl (by decide) rfl ?_
              refine q_goto (pc' := 44) dX8_bestTilt_88 rfl ?_
              refine p_sub [4, 5, 6, 7, 1, 2, 0] rfl ?_
              exact qih_44 _ (by omega) _ t _ _ _ (by first | assumption | omega) (by first | assumption | omega) (by exact qH65) (by exact s_offX_t (s_offX_u qa_44_3 (by decide) (by decide) (by decide)) (s_offX_L ql65)) (by rw [s_btN_s (by omega), ← qa_44_4, ← qa_44_5]; first | exact (q_if_t (by omega)).symm | exact (q_if_f (by omega)).symm) (by rw [s_btN_s (by omega), ← qa_44_5]; first | exact (q_if_t (by omega)).symm | exact (q_if_f (by omega)).symm) (by omega) rfl
      refine p_sub [4, 5, 6, 3, 2, 1, 0] rfl ?_
      exact qlp_44 _ _ (s_pt (A 151) r 2) _ _ _ (by first | assumption | omega) (by first | assumption | omega) (by rw [show s_pt (A 151) r 2 = (A 151) (15 + 4 * r + 2) from rfl, s_set_self]; exact FF) (by exact s_offX_r) (by rfl) (by rfl) (by decide) rfl
    · refine q_bipush (pc' := 24) dX8_bestTilt_22 rfl rfl ?_
      exact q_iret dX8_bestTilt_24 rfl rfl ⟨congrArg (fun z => some (q_i z)) (by unfold s_best1; rw [if_neg (by omega), if_pos (by omega)]), _, rfl, J, fun _ _ => rfl⟩
  · refine q_iconst (pc' := 12) dX8_bestTilt_11 rfl ?_
    exact q_iret dX8_bestTilt_12 rfl rfl ⟨congrArg (fun z => some (q_i z)) (by unfold s_best1; rw [if_pos (by omega)]), _, rfl, J, fun _ _ => rfl⟩
set_option maxRecDepth 20000 in
set_option maxHeartbeats 4000000 in
theorem c_X8_undo {Γ : q_G} {S A : q_S}  (J : s_Jc S A) : q_Sp Γ mX8_undo 4 0 0 [q_r Γ 0] (KC, S) (fun v9 w9 => v9 = some (q_i (s_undoV A)) ∧ ∃ S2, w9 = (KC, S2) ∧ s_Jc S2 (s_undoS A) ∧ s_offM S S2) := by
  show q_Go Γ mX8_undo 4 0 0 0 [(0, q_r Γ 0)] [] (KC, S) (fun v9 w9 => v9 = some (q_i (s_undoV A)) ∧ ∃ S2, w9 = (KC, S2) ∧ s_Jc S2 (s_undoS A) ∧ s_offM S S2)
  have ok := J.F.2.1
  have pz := J.F.2.2
  have rw0 := s_rows_b ok
  have c3 := ok.2.2.1
  have c4 := ok.2.2.2.1
  have FF := J.F.1
  refine q_aloadn (pc' := 1) 0 dX8_undo_0 rfl rfl ?_
  refine p_getR (pc' := 4) (f := 29) dX8_undo_1 rfl fX8_60 kc0 rfl ?_
  refine q_aloadn (pc' := 5) 0 dX8_undo_4 rfl rfl ?_
  refine p_getR (pc' := 8) (f := 1) dX8_undo_5 rfl fX8_10 kc0 rfl ?_
  refine q_callVI (pc' := 11) dX8_undo_8 rfl lX8_270 iX1_goBack kc29 rfl (c_X1_goBack (by rw [J.n]; exact J.nb.1) (by rw [J.n]; exact J.nb.2) J.hs) rfl rfl (Nat.le_of_ble_eq_true rfl) (Nat.le_of_ble_eq_true rfl) (Nat.le_of_ble_eq_true rfl) ?_
  exact q_iret dX8_undo_11 rfl rfl ⟨congrArg (fun z => some (q_i z)) (s_J_undo J).2.2, _, rfl, (s_J_undo J).1, (s_J_undo J).2.1⟩
