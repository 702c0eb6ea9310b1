set_option maxRecDepth 20000 in
set_option maxHeartbeats 4000000 in
theorem c_L_match_17 {Γ : q_G} {S : q_S} {φ : Int → Int} {P : Int → Prop} {su D rd : Int} {Q : Option Value → q_W → Prop} (H : w_R S φ) (ok : s_ok φ) (hD : w_mk D P) (back : ∀ b : Int, w_sel (fun k => -s_bd φ k 3) P (φ 4) b → q_Go Γ mL_match 0 0 0 77 [(0, q_r Γ 150), (1, q_r Γ 151), (2, q_r Γ 152), (3, q_r Γ 154), (4, q_r Γ 155), (5, q_i su), (6, q_i D), (7, q_i rd), (8, q_i b)] [] (KC, S) Q) : q_Go Γ mL_match 0 0 0 17 [(0, q_r Γ 150), (1, q_r Γ 151), (2, q_r Γ 152), (3, q_r Γ 154), (4, q_r Γ 155), (5, q_i su), (6, q_i D), (7, q_i rd)] [] (KC, S) (Q) := by
  have c3 := ok.2.2.1
  have c4 := ok.2.2.2.1
  refine q_iconst (pc' := 18) dL_match_17 rfl ?_
  refine q_istore (pc' := 20) (L' := [(8, q_i (-1)), (0, q_r Γ 150), (1, q_r Γ 151), (2, q_r Γ 152), (3, q_r Γ 154), (4, q_r Γ 155), (5, q_i su), (6, q_i D), (7, q_i rd)]) dL_match_18 rfl (by decide) rfl ?_
  refine q_iconst (pc' := 21) dL_match_20 rfl ?_
  refine q_istore (pc' := 23) (L' := [(9, q_i 0), (8, q_i (-1)), (0, q_r Γ 150), (1, q_r Γ 151), (2, q_r Γ 152), (3, q_r Γ 154), (4, q_r Γ 155), (5, q_i su), (6, q_i D), (7, q_i rd)]) dL_match_21 rfl (by decide) rfl ?_
  have qlp_23 : ∀ (qn_23 : Nat) (b k : Int), (0 ≤ k) → (k ≤ φ 4) → (w_sel (fun k => -s_bd φ k 3) P k b) → ((10 - k).toNat) = qn_23 → q_Go Γ mL_match 0 0 0 23 [(0, q_r Γ 150), (1, q_r Γ 151), (2, q_r Γ 152), (3, q_r Γ 154), (4, q_r Γ 155), (5, q_i su), (6, q_i D), (7, q_i rd), (8, q_i b), (9, q_i k)] [] (KC, S) (Q) := by
    intro qn_23
    induction qn_23 using Nat.strongRecOn with
    | ind qn_23 qih_23 =>
      intro b k qa_23_0 qa_23_1 qa_23_2 qhn_23
      subst qhn_23
      refine q_iload (pc' := 25) 9 dL_match_23 rfl rfl ?_
      refine q_aloadn (pc' := 26) 0 dL_match_25 rfl rfl ?_
      refine q_iconst (pc' := 27) dL_match_26 rfl ?_
      refine p_iald (pc' := 28) dL_match_27 rfl kc150 (by first | assumption | omega) (by first | assumption | omega) (by decide) (fun qy_27 eqy_27 rqy_27 => ?_)
      have vqy_27 : qy_27 = φ 4 := eqy_27.trans (w_q1 H)
      rw [vqy_27]
      refine q_icmp_ge (tgt := 77) (pc' := 31) dL_match_28 rfl rfl (by first | assumption | omega) (by first | assumption | omega) (fun qc_28 => ?_) (fun qc_28 => ?_)
      · have hE : w_sel (fun k => -s_bd φ k 3) P (φ 4) b := by rw [show φ 4 = k by omega]; exact qa_23_2
        refine p_sub [0, 1, 2, 3, 4, 5, 6, 7, 8] rfl ?_
        exact back _ hE
      · refine q_iload (pc' := 33) 6 dL_match_31 rfl rfl ?_
        refine q_iload (pc' := 35) 9 dL_match_33 rfl rfl ?_
        refine q_ishr (pc' := 36) (z := D / 2 ^ k.toNat) dL_match_35 rfl (w_shr hD.1.1 hD.1.2 (by omega) (by omega)) ?_
        refine q_iconst (pc' := 37) dL_match_36 rfl ?_
        refine q_iand (pc' := 38) (z := w_bt D k) dL_match_37 rfl (w_and1 hD.1.1 hD.1.2) ?_
        have hbb := w_bt_b D k
        have hbt := hD.2 k (by omega) (by omega)
        refine q_if_ne (tgt := 71) (pc' := 41) dL_match_38 rfl rfl (by first | assumption | omega) (fun qc_38 => ?_) (fun qc_38 => ?_)
        · refine q_iinc (pc' := 74) 9 (L' := [(9, q_i (k + 1)), (0, q_r Γ 150), (1, q_r Γ 151), (2, q_r Γ 152), (3, q_r Γ 154), (4, q_r Γ 155), (5, q_i su), (6, q_i D), (7, q_i rd), (8, q_i b)]) dL_match_71 rfl rfl (by decide) rfl ?_
          refine q_goto (pc' := 23) dL_match_74 rfl ?_
          refine p_sub [1, 2, 3, 4, 5, 6, 7, 8, 9, 0] rfl ?_
          exact qih_23 _ (by omega) _ _ (by first | assumption | omega) (by first | assumption | omega) (by first | exact w_sel_p qa_23_2 (by rcases hbt with q | q; exact q.2; omega) | exact w_sel_0 qa_23_2 (by omega) (by rcases hbt with q | q; omega; exact q.2) (Or.inl (by omega)) | exact w_sel_0 qa_23_2 (by omega) (by rcases hbt with q | q; omega; exact q.2) (Or.inr (by show -s_bd φ k 3 < -s_bd φ b 3; omega)) | exact w_sel_n qa_23_2 (by omega) (by show -s_bd φ b 3 ≤ -s_bd φ k 3; omega)) rfl
        · have hsb := w_sel_b qa_23_2
          refine q_iload (pc' := 43) 8 dL_match_41 rfl rfl ?_
          refine q_if_lt (tgt := 67) (pc' := 46) dL_match_43 rfl rfl (by first | assumption | omega) (fun qc_43 => ?_) (fun qc_43 => ?_)
          · refine q_iload (pc' := 69) 9 dL_match_67 rfl rfl ?_
            refine q_istore (pc' := 71) (L' := [(8, q_i k), (0, q_r Γ 150), (1, q_r Γ 151), (2, q_r Γ 152), (3, q_r Γ 154), (4, q_r Γ 155), (5, q_i su), (6, q_i D), (7, q_i rd), (9, q_i k)]) dL_match_69 rfl (by decide) rfl ?_
            refine q_iinc (pc' := 74) 9 (L' := [(9, q_i (k + 1)), (8, q_i k), (0, q_r Γ 150), (1, q_r Γ 151), (2, q_r Γ 152), (3, q_r Γ 154), (4, q_r Γ 155), (5, q_i su), (6, q_i D), (7, q_i rd)]) dL_match_71 rfl rfl (by decide) rfl ?_
            refine q_goto (pc' := 23) dL_match_74 rfl ?_
            refine p_sub [2, 3, 4, 5, 6, 7, 8, 9, 1, 0] rfl ?_
            exact qih_23 _ (by omega) _ _ (by first | assumption | omega) (by first | assumption | omega) (by first | exact w_sel_p qa_23_2 (by rcases hbt with q | q; exact q.2; omega) | exact w_sel_0 qa_23_2 (by omega) (by rcases hbt with q | q; omega; exact q.2) (Or.inl (by omega)) | exact w_sel_0 qa_23_2 (by omega) (by rcases hbt with q | q; omega; exact q.2) (Or.inr (by show -s_bd φ k 3 < -s_bd φ b 3; omega)) | exact w_sel_n qa_23_2 (by omega) (by show -s_bd φ b 3 ≤ -s_bd φ k 3; omega)) rfl
          · refine q_aload (pc' := 48) 4 dL_match_46 rfl rfl ?_
            refine q_iconst (pc' := 49) dL_match_48 rfl ?_
            refine q_iload (pc' := 51) 9 dL_match_49 rfl rfl ?_
            refine q_imul (pc' := 52) dL_match_51 rfl ?_
            refine q_iconst (pc' := 53) dL_match_52 rfl ?_
            refine q_iadd (pc' := 54) dL_match_53 rfl ?_
            refine p_iald (pc' := 55) dL_match_54 rfl kc155 (by first | assumption | omega) (by first | assumption | omega) (by decide) (fun qy_54 eqy_54 rqy_54 => ?_)
            have vqy_54 : qy_54 = s_bd φ k 3 := eqy_54.trans (w_bd3 H (by first | assumption | omega) (by first | assumption | omega))
            rw [vqy_54]
            refine q_aload (pc' := 57) 4 dL_match_55 rfl rfl ?_
            refine q_iconst (pc' := 58) dL_match_57 rfl ?_
            refine q_iload (pc' := 60) 8 dL_match_58 rfl rfl ?_
            refine q_imul (pc' := 61) dL_match_60 rfl ?_
            refine q_iconst (pc' := 62) dL_match_61 rfl ?_
            refine q_iadd (pc' := 63) dL_match_62 rfl ?_
            refine p_iald (pc' := 64) dL_match_63 rfl kc155 (by first | assumption | omega) (by first | assumption | omega) (by decide) (fun qy_63 eqy_63 rqy_63 => ?_)
            have vqy_63 : qy_63 = s_bd φ b 3 := eqy_63.trans (w_bd3 H (by first | assumption | omega) (by first | assumption | omega))
            rw [vqy_63]
            have pk := s_bd_b ok (i := k) (by omega) (by omega)
            have pb := s_bd_b ok (i := b) (by omega) (by omega)
            refine q_icmp_le (tgt := 71) (pc' := 67) dL_match_64 rfl rfl (by first | assumption | omega) (by first | assumption | omega) (fun qc_64 => ?_) (fun qc_64 => ?_)
            · refine q_iinc (pc' := 74) 9 (L' := [(9, q_i (k + 1)), (0, q_r Γ 150), (1, q_r Γ 151), (2, q_r Γ 152), (3, q_r Γ 154), (4, q_r Γ 155), (5, q_i su), (6, q_i D), (7, q_i rd), (8, q_i b)]) dL_match_71 rfl rfl (by decide) rfl ?_
              refine q_goto (pc' := 23) dL_match_74 rfl ?_
              refine p_sub [1, 2, 3, 4, 5, 6, 7, 8, 9, 0] rfl ?_
              exact qih_23 _ (by omega) _ _ (by first | assumption | omega) (by first | assumption | omega) (by first | exact w_sel_p qa_23_2 (by rcases hbt with q | q; exact q.2; omega) | exact w_sel_0 qa_23_2 (by omega) (by rcases hbt with q | q; omega; exact q.2) (Or.inl (by omega)) | exact w_sel_0 qa_23_2 (by omega) (by rcases hbt with q | q; omega; exact q.2) (Or.inr (by show -s_bd φ k 3 < -s_bd φ b 3; omega)) | exact w_sel_n qa_23_2 (by omega) (by show -s_bd φ b 3 ≤ -s_bd φ k 3; omega)) rfl
            · refine q_iload (pc' := 69) 9 dL_match_67 rfl rfl ?_
              refine q_istore (pc' := 71) (L' := [(8, q_i k), (0, q_r Γ 150), (1, q_r Γ 151), (2, q_r Γ 152), (3, q_r Γ 154), (4, q_r Γ 155), (5, q_i su), (6, q_i D), (7, q_i rd), (9, q_i k)]) dL_match_69 rfl (by decide) rfl ?_
              refine q_iinc (pc' := 74) 9 (L' := [(9, q_i (k + 1)), (8, q_i k), (0, q_r Γ 150), (1, q_r Γ 151), (2, q_r Γ 152), (3, q_r Γ 154), (4, q_r Γ 155), (5, q_i su), (6, q_i D), (7, q_i rd)]) dL_match_71 rfl rfl (by decide) rfl ?_
              refine q_goto (pc' := 23) dL_match_74 rfl ?_
              refine p_sub [2, 3, 4, 5, 6, 7, 8, 9, 1, 0] rfl ?_
              exact qih_23 _ (by omega) _ _ (by first | assumption | omega) (by first | assumption | omega) (by first | exact w_sel_p qa_23_2 (by rcases hbt with q | q; exact q.2; omega) | exact w_sel_0 qa_23_2 (by omega) (by rcases hbt with q | q; omega; exact q.2) (Or.inl (by omega)) | exact w_sel_0 qa_23_2 (by omega) (by rcases hbt with q | q; omega; exact q.2) (Or.inr (by show -s_bd φ k 3 < -s_bd φ b 3; omega)) | exact w_sel_n qa_23_2 (by omega) (by show -s_bd φ b 3 ≤ -s_bd φ k 3; omega)) rfl
  refine p_sub [2, 3, 4, 5, 6, 7, 8, 9, 1, 0] rfl ?_
  exact qlp_23 _ _ _ (by first | assumption | omega) (by first | assumption | omega) (by exact w_sel_i) rfl
set_option maxRecDepth 20000 in
set_option maxHeartbeats 4000000 in
theorem c_L_match_100 {Γ : q_G} {S : q_S} {φ : Int → Int} {P : Int → Prop} {su D rd b1 U tn : Int} {Q : Option Value → q_W → Prop} (H : w_R S φ) (ok : s_ok φ) (hD : w_mk U P) (back : ∀ b : Int, w_sel (fun k => s_as φ k 3) P (φ 3) b → q_Go Γ mL_match 0 0 0 158 [(0, q_r Γ 150), (1, q_r Γ 151), (2, q_r Γ 152), (3, q_r Γ 154), (4, q_r Γ 155), (5, q_i su), (6, q_i D), (7, q_i rd), (8, q_i b1), (9, q_i U), (10, q_i tn), (11, q_i b)] [] (KC, S) Q) : q_Go Γ mL_match 0 0 0 100 [(0, q_r Γ 150), (1, q_r Γ 151), (2, q_r Γ 152), (3, q_r Γ 154), (4, q_r Γ 155), (5, q_i su), (6, q_i D), (7, q_i rd), (8, q_i b1), (9, q_i U), (10, q_i tn)] [] (KC, S) (Q) := by
  have c3 := ok.2.2.1
  have c4 := ok.2.2.2.1
  refine q_iconst (pc' := 101) dL_match_100 rfl ?_
  refine q_istore (pc' := 103) (L' := [(11, q_i (-1)), (0, q_r Γ 150), (1, q_r Γ 151), (2, q_r Γ 152), (3, q_r Γ 154), (4, q_r Γ 155), (5, q_i su), (6, q_i D), (7, q_i rd), (8, q_i b1), (9, q_i U), (10, q_i tn)]) dL_match_101 rfl (by decide) rfl ?_
  refine q_iconst (pc' := 104) dL_match_103 rfl ?_
  refine q_istore (pc' := 106) (L' := [(12, q_i 0), (11, q_i (-1)), (0, q_r Γ 150), (1, q_r Γ 151), (2, q_r Γ 152), (3, q_r Γ 154), (4, q_r Γ 155), (5, q_i su), (6, q_i D), (7, q_i rd), (8, q_i b1), (9, q_i U), (10, q_i tn)]) dL_match_104 rfl (by decide) rfl ?_
  have qlp_106 : ∀ (qn_106 : Nat) (b k : Int), (0 ≤ k) → (k ≤ φ 3) → (w_sel (fun k => s_as φ k 3) P k b) → ((10 - k).toNat) = qn_106 → q_Go Γ mL_match 0 0 0 106 [(0, q_r Γ 150), (1, q_r Γ 151), (2, q_r Γ 152), (3, q_r Γ 154), (4, q_r Γ 155), (5, q_i su), (6, q_i D), (7, q_i rd), (8, q_i b1), (9, q_i U), (10, q_i tn), (11, q_i b), (12, q_i k)] [] (KC, S) (Q) := by
    intro qn_106
    induction qn_106 using Nat.strongRecOn with
    | ind qn_106 qih_106 =>
      intro b k qa_106_0 qa_106_1 qa_106_2 qhn_106
      subst qhn_106
      refine q_iload (pc' := 108) 12 dL_match_106 rfl rfl ?_
      refine q_aloadn (pc' := 109) 0 dL_match_108 rfl rfl ?_
      refine q_iconst (pc' := 110) dL_match_109 rfl ?_
      refine p_iald (pc' := 111) dL_match_110 rfl kc150 (by first | assumption | omega) (by first | assumption | omega) (by decide) (fun qy_110 eqy_110 rqy_110 => ?_)
      have vqy_110 : qy_110 = φ 3 := eqy_110.trans (w_q0 H)
      rw [vqy_110]
      refine q_icmp_ge (tgt := 158) (pc' := 114) dL_match_111 rfl rfl (by first | assumption | omega) (by first | assumption | omega) (fun qc_111 => ?_) (fun qc_111 => ?_)
      · have hE : w_sel (fun k => s_as φ k 3) P (φ 3) b := by rw [show φ 3 = k by omega]; exact qa_106_2
        refine p_sub [0, 1, 2, 3, 4, 5, 6, 7, 8, 9, 10, 11] rfl ?_
        exact back _ hE
      · refine q_iload (pc' := 116) 9 dL_match_114 rfl rfl ?_
        refine q_iload (pc' := 118) 12 dL_match_116 rfl rfl ?_
        refine q_ishr (pc' := 119) (z := U / 2 ^ k.toNat) dL_match_118 rfl (w_shr hD.1.1 hD.1.2 (by omega) (by omega)) ?_
        refine q_iconst (pc' := 120) dL_match_119 rfl ?_
        refine q_iand (pc' := 121) (z := w_bt U k) dL_match_120 rfl (w_and1 hD.1.1 hD.1.2) ?_
        have hbb := w_bt_b U k
        have hbt := hD.2 k (by omega) (by omega)
        refine q_if_ne (tgt := 152) (pc' := 124) dL_match_121 rfl rfl (by first | assumption | omega) (fun qc_121 => ?_) (fun qc_121 => ?_)
        · refine q_iinc (pc' := 155) 12 (L' := [(12, q_i (k + 1)), (0, q_r Γ 150), (1, q_r Γ 151), (2, q_r Γ 152), (3, q_r Γ 154), (4, q_r Γ 155), (5, q_i su), (6, q_i D), (7, q_i rd), (8, q_i b1), (9, q_i U), (10, q_i tn), (11, q_i b)]) dL_match_152 rfl rfl (by decide) rfl ?_
          refine q_goto (pc' := 106) dL_match_155 rfl ?_
          refine p_sub [1, 2, 3, 4, 5, 6, 7, 8, 9, 10, 11, 12, 0] rfl ?_
          exact qih_106 _ (by omega) _ _ (by first | assumption | omega) (by first | assumption | omega) (by first | exact w_sel_p qa_106_2 (by rcases hbt with q | q; exact q.2; omega) | exact w_sel_0 qa_106_2 (by omega) (by rcases hbt with q | q; omega; exact q.2) (Or.inl (by omega)) | exact w_sel_0 qa_106_2 (by omega) (by rcases hbt with q | q; omega; exact q.2) (Or.inr (by show s_as φ k 3 < s_as φ b 3; omega)) | exact w_sel_n qa_106_2 (by omega) (by show s_as φ b 3 ≤ s_as φ k 3; omega)) rfl
        · have hsb := w_sel_b qa_106_2
          refine q_iload (pc' := 126) 11 dL_match_124 rfl rfl ?_
          refine q_if_lt (tgt := 148) (pc' := 129) dL_match_126 rfl rfl (by first | assumption | omega) (fun qc_126 => ?_) (fun qc_126 => ?_)
          · refine q_iload (pc' := 150) 12 dL_match_148 rfl rfl ?_
            refine q_istore (pc' := 152) (L' := [(11, q_i k), (0, q_r Γ 150), (1, q_r Γ 151), (2, q_r Γ 152), (3, q_r Γ 154), (4, q_r Γ 155), (5, q_i su), (6, q_i D), (7, q_i rd), (8, q_i b1), (9, q_i U), (10, q_i tn), (12, q_i k)]) dL_match_150 rfl (by decide) rfl ?_
            refine q_iinc (pc' := 155) 12 (L' := [(12, q_i (k + 1)), (11, q_i k), (0, q_r Γ 150), (1, q_r Γ 151), (2, q_r Γ 152), (3, q_r Γ 154), (4, q_r Γ 155), (5, q_i su), (6, q_i D), (7, q_i rd), (8, q_i b1), (9, q_i U), (10, q_i tn)]) dL_match_152 rfl rfl (by decide) rfl ?_
            refine q_goto (pc' := 106) dL_match_155 rfl ?_
            refine p_sub [2, 3, 4, 5, 6, 7, 8, 9, 10, 11, 12, 1, 0] rfl ?_
            exact qih_106 _ (by omega) _ _ (by first | assumption | omega) (by first | assumption | omega) (by first | exact w_sel_p qa_106_2 (by rcases hbt with q | q; exact q.2; omega) | exact w_sel_0 qa_106_2 (by omega) (by rcases hbt with q | q; omega; exact q.2) (Or.inl (by omega)) | exact w_sel_0 qa_106_2 (by omega) (by rcases hbt with q | q; omega; exact q.2) (Or.inr (by show s_as φ k 3 < s_as φ b 3; omega)) | exact w_sel_n qa_106_2 (by omega) (by show s_as φ b 3 ≤ s_as φ k 3; omega)) rfl
          · refine q_aloadn (pc' := 130) 3 dL_match_129 rfl rfl ?_
            refine q_iconst (pc' := 131) dL_match_130 rfl ?_
            refine q_iload (pc' := 133) 12 dL_match_131 rfl rfl ?_
            refine q_imul (pc' := 134) dL_match_133 rfl ?_
            refine q_iconst (pc' := 135) dL_match_134 rfl ?_
            refine q_iadd (pc' := 136) dL_match_135 rfl ?_
            refine p_iald (pc' := 137) dL_match_136 rfl kc154 (by first | assumption | omega) (by first | assumption | omega) (by decide) (fun qy_136 eqy_136 rqy_136 => ?_)
            have vqy_136 : qy_136 = s_as φ k 3 := eqy_136.trans (w_as3 H (by first | assumption | omega) (by first | assumption | omega))
            rw [vqy_136]
            refine q_aloadn (pc' := 138) 3 dL_match_137 rfl rfl ?_
            refine q_iconst (pc' := 139) dL_match_138 rfl ?_
            refine q_iload (pc' := 141) 11 dL_match_139 rfl rfl ?_
            refine q_imul (pc' := 142) dL_match_141 rfl ?_
            refine q_iconst (pc' := 143) dL_match_142 rfl ?_
            refine q_iadd (pc' := 144) dL_match_143 rfl ?_
            refine p_iald (pc' := 145) dL_match_144 rfl kc154 (by first | assumption | omega) (by first | assumption | omega) (by decide) (fun qy_144 eqy_144 rqy_144 => ?_)
            have vqy_144 : qy_144 = s_as φ b 3 := eqy_144.trans (w_as3 H (by first | assumption | omega) (by first | assumption | omega))
            rw [vqy_144]
            have pk := s_as_b ok (i := k) (by omega) (by omega)
            have pb := s_as_b ok (i := b) (by omega) (by omega)
            refine q_icmp_ge (tgt := 152) (pc' := 148) dL_match_145 rfl rfl (by first | assumption | omega) (by first | assumption | omega) (fun qc_145 => ?_) (fun qc_145 => ?_)
            · refine q_iinc (pc' := 155) 12 (L' := [(12, q_i (k + 1)), (0, q_r Γ 150), (1, q_r Γ 151), (2, q_r Γ 152), (3, q_r Γ 154), (4, q_r Γ 155), (5, q_i su), (6, q_i D), (7, q_i rd), (8, q_i b1), (9, q_i U), (10, q_i tn), (11, q_i b)]) dL_match_152 rfl rfl (by decide) rfl ?_
              refine q_goto (pc' := 106) dL_match_155 rfl ?_
              refine p_sub [1, 2, 3, 4, 5, 6, 7, 8, 9, 10, 11, 12, 0] rfl ?_
              exact qih_106 _ (by omega) _ _ (by first | assumption | omega) (by first | assumption | omega) (by first | exact w_sel_p qa_106_2 (by rcases hbt with q | q; exact q.2; omega) | exact w_sel_0 qa_106_2 (by omega) (by rcases hbt with q | q; omega; exact q.2) (Or.inl (by omega)) | exact w_sel_0 qa_106_2 (by omega) (by rcases hbt with q | q; omega; exact q.2) (Or.inr (by show s_as φ k 3 < s_as φ b 3; omega)) | exact w_sel_n qa_106_2 (by omega) (by show s_as φ b 3 ≤ s_as φ k 3; omega)) rfl
            · refine q_iload (pc' := 150) 12 dL_match_148 rfl rfl ?_
              refine q_istore (pc' := 152) (L' := [(11, q_i k), (0, q_r Γ 150), (1, q_r Γ 151), (2, q_r Γ 152), (3, q_r Γ 154), (4, q_r Γ 155), (5, q_i su), (6, q_i D), (7, q_i rd), (8, q_i b1), (9, q_i U), (10, q_i tn), (12, q_i k)]) dL_match_150 rfl (by decide) rfl ?_
              refine q_iinc (pc' := 155) 12 (L' := [(12, q_i (k + 1)), (11, q_i k), (0, q_r Γ 150), (1, q_r Γ 151), (2, q_r Γ 152), (3, q_r Γ 154), (4, q_r Γ 155), (5, q_i su), (6, q_i D), (7, q_i rd), (8, q_i b1), (9, q_i U), (10, q_i tn)]) dL_match_152 rfl rfl (by decide) rfl ?_
              refine q_goto (pc' := 106) dL_match_155 rfl ?_
              refine p_sub [2, 3, 4, 5, 6, 7, 8, 9, 10, 11, 12, 1, 0] rfl ?_
              exact qih_106 _ (by omega) _ _ (by first | assumption | omega) (by first | assumption | omega) (by first | exact w_sel_p qa_106_2 (by rcases hbt with q | q; exact q.2; omega) | exact w_sel_0 qa_106_2 (by omega) (by rcases hbt with q | q; omega; exact q.2) (Or.inl (by omega)) | exact w_sel_0 qa_106_2 (by omega) (by rcases hbt with q | q; omega; exact q.2) (Or.inr (by show s_as φ k 3 < s_as φ b 3; omega)) | exact w_sel_n qa_106_2 (by omega) (by show s_as φ b 3 ≤ s_as φ k 3; omega)) rfl
  refine p_sub [2, 3, 4, 5, 6, 7, 8, 9, 10, 11, 12, 1, 0] rfl ?_
  exact qlp_106 _ _ _ (by first | assumption | omega) (by first | assumption | omega) (by exact w_sel_i) rfl
set_option maxRecDepth 20000 in
set_option maxHeartbeats 4000000 in
theorem c_L_match_260 {Γ : q_G} {S : q_S} {φ : Int → Int} {su D rd b U tn a i : Int} {Q : Option Value → q_W → Prop} (H : w_R S φ) (ok : s_ok φ) (hp : ∀ r, 0 ≤ r → r < 6 → q_rg (s_pt φ r 3)) (b0 : 0 ≤ b) (b4 : b < φ 4) (a0 : 0 ≤ a) (a3 : a < φ 3) (i0 : 0 ≤ i) (i1 : i < 3) (hi : w_h i = s_bd φ b 1) (back : ∀ S2 : q_S, w_R S2 (s_tr1 φ b a) → w_offT S S2 → q_Go Γ mL_match 0 0 0 382 [(0, q_r Γ 150), (1, q_r Γ 151), (2, q_r Γ 152), (3, q_r Γ 154), (4, q_r Γ 155), (5, q_i (su + s_tu1 φ b a)), (6, q_i D), (7, q_i rd), (8, q_i b), (9, q_i U), (10, q_i tn), (11, q_i a)] [] (KC, S2) Q) : q_Go Γ mL_match 0 0 0 260 [(0, q_r Γ 150), (1, q_r Γ 151), (2, q_r Γ 152), (3, q_r Γ 154), (4, q_r Γ 155), (5, q_i su), (6, q_i D), (7, q_i rd), (8, q_i b), (9, q_i U), (10, q_i tn), (11, q_i a), (12, q_i (16 * i + 4 * s_bd φ b 4 + s_bd φ b 0))] [] (KC, S) (Q) := by
  have c3 := ok.2.2.1
  have c4 := ok.2.2.2.1
  have b1 : b < 10 := by omega
  have a1 : a < 10 := by omega
  have hbd := s_bd_b ok b0 b1
  have has := s_as_b ok a0 a1
  have hb7 := (w_bd H b0 b4).2.2.2.2.2
  have hri := s_ri_b ok b0 b1
  have hrv := s_ri_v ok b0 b1
  have eri : 39 + 10 * (6 * s_bd φ b 4 + s_bd φ b 0) + w_h i = s_ri φ b := by unfold s_ri; rw [hi]
  have ert : ∀ χ : Int → Int, s_rt χ (s_bd φ b 4) (s_bd φ b 0) (w_h i) = χ (s_ri φ b) := fun χ => congrArg χ eri
  have hu : 0 ≤ s_tu1 φ b a ∧ s_tu1 φ b a ≤ s_bd φ b 2 ∧ s_tu1 φ b a ≤ s_as φ a 2 ∧ s_tu1 φ b a ≤ 999 - φ (s_ri φ b) := by unfold s_tu1; omega
  have qlp_260 : ∀ (qn_260 : Nat) (S2 : q_S) (n s2 : Int), (0 ≤ n) → (n ≤ s_tu1 φ b a) → (w_R S2 (w_tr φ b a n)) → (w_offT S S2) → (s2 = su + n) → ((s_tu1 φ b a - n).toNat) = qn_260 → q_Go Γ mL_match 0 0 0 260 [(0, q_r Γ 150), (1, q_r Γ 151), (2, q_r Γ 152), (3, q_r Γ 154), (4, q_r Γ 155), (5, q_i s2), (6, q_i D), (7, q_i rd), (8, q_i b), (9, q_i U), (10, q_i tn), (11, q_i a), (12, q_i (16 * i + 4 * s_bd φ b 4 + s_bd φ b 0))] [] (KC, S2) (Q) := by
    intro qn_260
    induction qn_260 using Nat.strongRecOn with
    | ind qn_260 qih_260 =>
      intro S2 n s2 qa_260_0 qa_260_1 qa_260_2 qa_260_3 qa_260_4 qhn_260
      subst qhn_260
      have hv := w_tr_v ok (n := n) b0 b1 a0 a1 (by omega) (by omega) (by omega)
      have ha3 : a < w_tr φ b a n 3 := by rw [hv.1]; exact a3
      have hb4 : b < w_tr φ b a n 4 := by rw [hv.2.1]; exact b4
      refine q_aloadn (pc' := 261) 3 dL_match_260 rfl rfl ?_
      refine q_iconst (pc' := 262) dL_match_261 rfl ?_
      refine q_iload (pc' := 264) 11 dL_match_262 rfl rfl ?_
      refine q_imul (pc' := 265) dL_match_264 rfl ?_
      refine q_iconst (pc' := 266) dL_match_265 rfl ?_
      refine q_iadd (pc' := 267) dL_match_266 rfl ?_
      refine p_iald (pc' := 268) dL_match_267 rfl kc154 (by first | assumption | omega) (by first | assumption | omega) (by decide) (fun qy_267 eqy_267 rqy_267 => ?_)
      rw [show qy_267 = s_as φ a 2 - n by rw [eqy_267]; exact (w_as2 qa_260_2 a0 ha3).trans hv.2.2.1]
      refine q_if_le (tgt := 382) (pc' := 271) dL_match_268 rfl rfl (by first | assumption | omega) (fun qc_268 => ?_) (fun qc_268 => ?_)
      · have hnt : n = s_tu1 φ b a := by omega
        rw [qa_260_4, hnt]
        refine p_sub [0, 1, 2, 3, 4, 5, 6, 7, 8, 9, 10, 11] rfl ?_
        exact back S2 (by rw [← w_tr_e, ← hnt]; exact qa_260_2) qa_260_3
      · refine q_aload (pc' := 273) 4 dL_match_271 rfl rfl ?_
        refine q_iconst (pc' := 274) dL_match_273 rfl ?_
        refine q_iload (pc' := 276) 8 dL_match_274 rfl rfl ?_
        refine q_imul (pc' := 277) dL_match_276 rfl ?_
        refine q_iconst (pc' := 278) dL_match_277 rfl ?_
        refine q_iadd (pc' := 279) dL_match_278 rfl ?_
        refine p_iald (pc' := 280) dL_match_279 rfl kc155 (by first | assumption | omega) (by first | assumption | omega) (by decide) (fun qy_279 eqy_279 rqy_279 => ?_)
        rw [show qy_279 = s_bd φ b 2 - n by rw [eqy_279]; exact (w_bd2 qa_260_2 b0 hb4).trans hv.2.2.2.1]
        refine q_if_le (tgt := 382) (pc' := 283) dL_match_280 rfl rfl (by first | assumption | omega) (fun qc_280 => ?_) (fun qc_280 => ?_)
        · have hnt : n = s_tu1 φ b a := by omega
          rw [qa_260_4, hnt]
          refine p_sub [0, 1, 2, 3, 4, 5, 6, 7, 8, 9, 10, 11] rfl ?_
          exact back S2 (by rw [← w_tr_e, ← hnt]; exact qa_260_2) qa_260_3
        · refine q_aloadn (pc' := 284) 2 dL_match_283 rfl rfl ?_
          refine q_iload (pc' := 286) 12 dL_match_284 rfl rfl ?_
          refine p_iald (pc' := 287) dL_match_286 rfl kc152 (by first | assumption | omega) (by first | assumption | omega) (by decide) (fun qy_286 eqy_286 rqy_286 => ?_)
          rw [show qy_286 = φ (s_ri φ b) + n by rw [eqy_286]; exact ((w_rt qa_260_2 i0 i1 (by omega) (by omega) (by omega) (by omega)).trans (ert _)).trans hv.2.2.2.2.1]
          refine q_sipush (pc' := 290) dL_match_287 rfl rfl ?_
          refine q_icmp_ge (tgt := 382) (pc' := 293) dL_match_290 rfl rfl (by first | assumption | omega) (by decide) (fun qc_290 => ?_) (fun qc_290 => ?_)
          · have hnt : n = s_tu1 φ b a := by omega
            rw [qa_260_4, hnt]
            refine p_sub [0, 1, 2, 3, 4, 5, 6, 7, 8, 9, 10, 11] rfl ?_
            exact back S2 (by rw [← w_tr_e, ← hnt]; exact qa_260_2) qa_260_3
          · have hlt : n < s_tu1 φ b a := by unfold s_tu1; omega
            refine q_aloadn (pc' := 294) 3 dL_match_293 rfl rfl ?_
            refine q_iconst (pc' := 295) dL_match_294 rfl ?_
            refine q_iload (pc' := 297) 11 dL_match_295 rfl rfl ?_
            refine q_imul (pc' := 298) dL_match_297 rfl ?_
            refine q_iconst (pc' := 299) dL_match_298 rfl ?_
            refine q_iadd (pc' := 300) dL_match_299 rfl ?_
            refine q_dup2 (pc' := 301) dL_match_300 rfl rfl rfl ?_
            refine p_iald (pc' := 302) dL_match_301 rfl kc154 (by first | assumption | omega) (by first | assumption | omega) (by decide) (fun qy_301 eqy_301 rqy_301 => ?_)
            rw [show qy_301 = w_tr φ b a n (399 + 4 * a + 2) by rw [eqy_301]; exact w_as2 qa_260_2 a0 ha3]
            refine q_iconst (pc' := 303) dL_match_302 rfl ?_
            refine q_isub (pc' := 304) dL_match_303 rfl ?_
            refine p_iast (pc' := 305) dL_match_304 rfl kc154 (by first | assumption | omega) (by first | assumption | omega) (by decide) (by first | assumption | omega) ?_
            have F1 := w_R_as2 qa_260_2 (q := a) (v := w_tr φ b a n (399 + 4 * a + 2) - 1) a0 a1
            refine q_aload (pc' := 307) 4 dL_match_305 rfl rfl ?_
            refine q_iconst (pc' := 308) dL_match_307 rfl ?_
            refine q_iload (pc' := 310) 8 dL_match_308 rfl rfl ?_
            refine q_imul (pc' := 311) dL_match_310 rfl ?_
            refine q_iconst (pc' := 312) dL_match_311 rfl ?_
            refine q_iadd (pc' := 313) dL_match_312 rfl ?_
            refine q_dup2 (pc' := 314) dL_match_313 rfl rfl rfl ?_
            refine p_iald (pc' := 315) dL_match_314 rfl kc155 (by first | assumption | omega) (by first | assumption | omega) (by decide) (fun qy_314 eqy_314 rqy_314 => ?_)
            rw [show qy_314 = w_tr φ b a n (439 + 5 * b + 2) by rw [eqy_314]; rw [q_up_ne (by decide)]; exact w_bd2 qa_260_2 b0 hb4]
            refine q_iconst (pc' := 316) dL_match_315 rfl ?_
            refine q_isub (pc' := 317) dL_match_316 rfl ?_
            refine p_iast (pc' := 318) dL_match_317 rfl kc155 (by first | assumption | omega) (by first | assumption | omega) (by decide) (by first | assumption | omega) ?_
            have F2 := w_R_bd2 F1 (q := b) (v := w_tr φ b a n (439 + 5 * b + 2) - 1) b0 b1 (by rw [s_set_ne (by omega), hv.1]; exact c3.2)
            refine q_aloadn (pc' := 319) 2 dL_match_318 rfl rfl ?_
            refine q_iload (pc' := 321) 12 dL_match_319 rfl rfl ?_
            refine q_dup2 (pc' := 322) dL_match_321 rfl rfl rfl ?_
            refine p_iald (pc' := 323) dL_match_322 rfl kc152 (by first | assumption | omega) (by first | assumption | omega) (by decide) (fun qy_322 eqy_322 rqy_322 => ?_)
            rw [show qy_322 = w_tr φ b a n (s_ri φ b) by rw [eqy_322]; rw [q_up_ne (by decide), q_up_ne (by decide)]; exact (w_rt qa_260_2 i0 i1 (by omega) (by omega) (by omega) (by omega)).trans (ert _)]
            refine q_iconst (pc' := 324) dL_match_323 rfl ?_
            refine q_iadd (pc' := 325) dL_match_324 rfl ?_
            refine p_iast (pc' := 326) dL_match_325 rfl kc152 (by first | assumption | omega) (by first | assumption | omega) (by decide) (by first | assumption | omega) ?_
            have F3 := w_R_rt F2 (i := i) (a := s_bd φ b 4) (b := s_bd φ b 0) (v := w_tr φ b a n (s_ri φ b) + 1) i0 i1 (by omega) (by omega) (by omega) (by omega)
            rw [eri] at F3
            obtain ⟨X3, hX3⟩ : ∃ X3 : Int → Int, X3 = s_set (s_set (s_set (w_tr φ b a n) (399 + 4 * a + 2) (w_tr φ b a n (399 + 4 * a + 2) - 1)) (439 + 5 * b + 2) (w_tr φ b a n (439 + 5 * b + 2) - 1)) (s_ri φ b) (w_tr φ b a n (s_ri φ b) + 1) := ⟨_, rfl⟩
            rw [← hX3] at F3
            have hX3l : a < X3 3 := by rw [hX3, s_set_ne (by omega), s_set_ne (by omega), s_set_ne (by omega), hv.1]; exact a3
            have hX4 : b < X3 4 := by rw [hX3, s_set_ne (by omega), s_set_ne (by omega), s_set_ne (by omega), hv.2.1]; exact b4
            have xB4 : s_bd X3 b 4 = s_bd φ b 4 := by unfold s_bd; rw [hX3, s_set_ne (by omega), s_set_ne (by omega), s_set_ne (by omega)]; exact hv.2.2.2.2.2.2.2
            have xB0 : s_bd X3 b 0 = s_bd φ b 0 := by unfold s_bd; rw [hX3, s_set_ne (by omega), s_set_ne (by omega), s_set_ne (by omega)]; exact hv.2.2.2.2.2.2.1
            have xA3 : s_as X3 a 3 = s_as φ a 3 := by unfold s_as; rw [hX3, s_set_ne (by omega), s_set_ne (by omega), s_set_ne (by omega)]; exact hv.2.2.2.2.2.1
            refine q_aloadn (pc' := 327) 1 dL_match_326 rfl rfl ?_
            refine q_iconst (pc' := 328) dL_match_327 rfl ?_
            refine q_aload (pc' := 330) 4 dL_match_328 rfl rfl ?_
            refine q_iconst (pc' := 331) dL_match_330 rfl ?_
            refine q_iload (pc' := 333) 8 dL_match_331 rfl rfl ?_
            refine q_imul (pc' := 334) dL_match_333 rfl ?_
            refine q_iconst (pc' := 335) dL_match_334 rfl ?_
            refine q_iadd (pc' := 336) dL_match_335 rfl ?_
            refine p_iald (pc' := 337) dL_match_336 rfl kc155 (by first | assumption | omega) (by first | assumption | omega) (by decide) (fun qy_336 eqy_336 rqy_336 => ?_)
            rw [show qy_336 = s_bd φ b 4 by rw [eqy_336]; exact (w_bd4 F3 b0 hX4).trans xB4]
            refine q_imul (pc' := 338) dL_match_337 rfl ?_
            refine q_iconst (pc' := 339) dL_match_338 rfl ?_
            refine q_iadd (pc' := 340) dL_match_339 rfl ?_
            refine q_dup2 (pc' := 341) dL_match_340 rfl rfl rfl ?_
            refine p_iald (pc' := 342) dL_match_341 rfl kc151 (by first | assumption | omega) (by first | assumption | omega) (by decide) (fun qy_341 eqy_341 rqy_341 => ?_)
            rw [show qy_341 = s_pt X3 (s_bd φ b 4) 3 by rw [eqy_341]; exact w_pt F3 (by omega) (by omega) (by decide) (by decide)]
            refine q_aloadn (pc' := 343) 3 dL_match_342 rfl rfl ?_
            refine q_iconst (pc' := 344) dL_match_343 rfl ?_
            refine q_iload (pc' := 346) 11 dL_match_344 rfl rfl ?_
            refine q_imul (pc' := 347) dL_match_346 rfl ?_
            refine q_iconst (pc' := 348) dL_match_347 rfl ?_
            refine q_iadd (pc' := 349) dL_match_348 rfl ?_
            refine p_iald (pc' := 350) dL_match_349 rfl kc154 (by first | assumption | omega) (by first | assumption | omega) (by decide) (fun qy_349 eqy_349 rqy_349 => ?_)
            rw [show qy_349 = s_as φ a 3 by rw [eqy_349]; exact (w_as3 F3 a0 hX3l).trans xA3]
            refine q_isub (pc' := 351) dL_match_350 rfl ?_
            refine p_eq (Int.sub_eq_add_neg (a := s_pt X3 (s_bd φ b 4) 3) (b := s_as φ a 3)) ?_
            refine p_wr (fun r351 => ?_)
            refine p_iast (pc' := 352) dL_match_351 rfl kc151 (by first | assumption | omega) (by first | assumption | omega) (by decide) (by first | assumption | omega) ?_
            have F4 := w_R_pt F3 (r := s_bd φ b 4) (p := 3) (v := s_wr (s_pt X3 (s_bd φ b 4) 3 + -s_as φ a 3)) (by omega) (by omega) (by decide) (by decide)
            obtain ⟨X4, hX4e⟩ : ∃ X4 : Int → Int, X4 = s_set X3 (15 + 4 * s_bd φ b 4 + 3) (s_wr (s_pt X3 (s_bd φ b 4) 3 + -s_as φ a 3)) := ⟨_, rfl⟩
            rw [← hX4e] at F4
            have hY3 : a < X4 3 := by rw [hX4e, s_set_ne (by omega)]; exact hX3l
            have hY4 : b < X4 4 := by rw [hX4e, s_set_ne (by omega)]; exact hX4
            have yB0 : s_bd X4 b 0 = s_bd φ b 0 := by unfold s_bd; rw [hX4e, s_set_ne (by omega)]; exact xB0
            have yA3 : s_as X4 a 3 = s_as φ a 3 := by unfold s_as; rw [hX4e, s_set_ne (by omega)]; exact xA3
            refine q_aloadn (pc' := 353) 1 dL_match_352 rfl rfl ?_
            refine q_iconst (pc' := 354) dL_match_353 rfl ?_
            refine q_aload (pc' := 356) 4 dL_match_354 rfl rfl ?_
            refine q_iconst (pc' := 357) dL_match_356 rfl ?_
            refine q_iload (pc' := 359) 8 dL_match_357 rfl rfl ?_
            refine q_imul (pc' := 360) dL_match_359 rfl ?_
            refine p_iald (pc' := 361) dL_match_360 rfl kc155 (by first | assumption | omega) (by first | assumption | omega) (by decide) (fun qy_360 eqy_360 rqy_360 => ?_)
            rw [show qy_360 = s_bd φ b 0 by rw [eqy_360]; exact (w_bd0 F4 b0 hY4).trans yB0]
            refine q_imul (pc' := 362) dL_match_361 rfl ?_
            refine q_iconst (pc' := 363) dL_match_362 rfl ?_
            refine q_iadd (pc' := 364) dL_match_363 rfl ?_
            refine q_dup2 (pc' := 365) dL_match_364 rfl rfl rfl ?_
            refine p_iald (pc' := 366) dL_match_365 rfl kc151 (by first | assumption | omega) (by first | assumption | omega) (by decide) (fun qy_365 eqy_365 rqy_365 => ?_)
            rw [show qy_365 = s_pt X4 (s_bd φ b 0) 3 by rw [eqy_365]; exact w_pt F4 (by omega) (by omega) (by decide) (by decide)]
            refine q_aloadn (pc' := 367) 3 dL_match_366 rfl rfl ?_
            refine q_iconst (pc' := 368) dL_match_367 rfl ?_
            refine q_iload (pc' := 370) 11 dL_match_368 rfl rfl ?_
            refine q_imul (pc' := 371) dL_match_370 rfl ?_
            refine q_iconst (pc' := 372) dL_match_371 rfl ?_
            refine q_iadd (pc' := 373) dL_match_372 rfl ?_
            refine p_iald (pc' := 374) dL_match_373 rfl kc154 (by first | assumption | omega) (by first | assumption | omega) (by decide) (fun qy_373 eqy_373 rqy_373 => ?_)
            rw [show qy_373 = s_as φ a 3 by rw [eqy_373]; exact (w_as3 F4 a0 hY3).trans yA3]
            refine q_iadd (pc' := 375) dL_match_374 rfl ?_
            refine p_wr (fun r375 => ?_)
            refine p_iast (pc' := 376) dL_match_375 rfl kc151 (by first | assumption | omega) (by first | assumption | omega) (by decide) (by first | assumption | omega) ?_
            have F5 := w_R_pt F4 (r := s_bd φ b 0) (p := 3) (v := s_wr (s_pt X4 (s_bd φ b 0) 3 + s_as φ a 3)) (by omega) (by omega) (by decide) (by decide)
            have F6 : w_R ((q_up (q_up (q_up (q_up (q_up S2 154 ((4 * a) + 2) ((w_tr φ b a n (399 + 4 * a + 2)) - 1)) 155 ((5 * b) + 2) ((w_tr φ b a n (439 + 5 * b + 2)) - 1)) 152 (16 * i + 4 * s_bd φ b 4 + s_bd φ b 0) ((w_tr φ b a n (s_ri φ b)) + 1)) 151 ((4 * (s_bd φ b 4)) + 3) (s_wr (s_pt X3 (s_bd φ b 4) 3 + -s_as φ a 3))) 151 ((4 * (s_bd φ b 0)) + 3) (s_wr (s_pt X4 (s_bd φ b 0) 3 + s_as φ a 3)))) (w_tr φ b a (n + 1)) := by rw [← w_tr_s ok b0 b1 a0 a1 (by omega) (by omega) (by omega)]; unfold w_t5; rw [← hX3]; show w_R _ (s_set (s_aw X3 (15 + 4 * s_bd φ b 4 + 3) (-s_as φ a 3)) _ _); rw [show s_aw X3 (15 + 4 * s_bd φ b 4 + 3) (-s_as φ a 3) = X4 from hX4e.symm]; exact F5
            refine q_iinc (pc' := 379) 5 (L' := [(5, q_i (s2 + 1)), (0, q_r Γ 150), (1, q_r Γ 151), (2, q_r Γ 152), (3, q_r Γ 154), (4, q_r Γ 155), (6, q_i D), (7, q_i rd), (8, q_i b), (9, q_i U), (10, q_i tn), (11, q_i a), (12, q_i (16 * i + 4 * s_bd φ b 4 + s_bd φ b 0))]) dL_match_376 rfl rfl (by decide) rfl ?_
            refine q_goto (pc' := 260) dL_match_379 rfl ?_
            refine p_sub [1, 2, 3, 4, 5, 0, 6, 7, 8, 9, 10, 11, 12] rfl ?_
            exact qih_260 _ (by omega) _ (n + 1) _ (by first | assumption | omega) (by first | assumption | omega) (by exact F6) (by exact w_offT_u (w_offT_u (w_offT_u (w_offT_u (w_offT_u qa_260_3 (by decide)) (by decide)) (by decide)) (by decide)) (by decide)) (by first | assumption | omega) rfl
  refine p_sub [0, 1, 2, 3, 4, 5, 6, 7, 8, 9, 10, 11, 12] rfl ?_
  exact qlp_260 _ _ 0 _ (by first | assumption | omega) (by first | assumption | omega) (by rw [w_tr_0 ok hp b0 b1 a0 a1]; exact H) (by exact w_offT_r) (by first | assumption | omega) rfl
