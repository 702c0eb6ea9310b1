set_option maxRecDepth 20000 in
set_option maxHeartbeats 4000000 in
theorem c_X9_put {Γ : q_G} {S : q_S} {N0 : Nat} (hN : N0 < 18446744073709551616) (p0 : 0 ≤ S 150 6) (p1 : S 150 6 ≤ 80) : q_Sp Γ mX9_put 1 0 0 [q_r Γ 150, .long (s_lo N0)] (KC, S) (q_ev (some (q_i (s_putV (S 150 6) N0))) (KC, s_putS S N0)) := by
  show q_Go Γ mX9_put 1 0 0 0 [(0, q_r Γ 150), (1, .long (s_lo N0))] [] (KC, S) (q_ev (some (q_i (s_putV (S 150 6) N0))) (KC, s_putS S N0))
  refine q_iconst (pc' := 1) dX9_put_0 rfl ?_
  refine q_istoren (pc' := 2) (L' := [(3, q_i 0), (0, q_r Γ 150), (1, .long (s_lo N0))]) dX9_put_1 rfl rfl (by decide) rfl ?_
  refine q_lloadn (pc' := 3) 2 dX9_put_2 rfl rfl ?_
  refine q_lstore (pc' := 5) (L' := [(4, .long (s_lo N0)), (3, q_i 0), (0, q_r Γ 150), (1, .long (s_lo N0))]) dX9_put_3 rfl (by decide) rfl ?_
  refine q_iconst (pc' := 6) dX9_put_5 rfl ?_
  refine q_istore (pc' := 8) (L' := [(6, q_i 1), (4, .long (s_lo N0)), (3, q_i 0), (0, q_r Γ 150), (1, .long (s_lo N0))]) dX9_put_6 rfl (by decide) rfl ?_
  have qlp_8 : ∀ (qn_8 : Nat) (n z : Int) (m : Nat), (0 ≤ n) → (n ≤ 8) → (m = N0 / 256 ^ n.toNat) → (((s_sc (8 - n).toNat m : Nat) : Int) + n = (s_sc 8 N0 : Nat)) → (z = q_B (s_fine N0 n)) → (m < 18446744073709551616) → ((8 - n).toNat) = qn_8 → q_Go Γ mX9_put 1 0 0 8 [(0, q_r Γ 150), (1, .long (s_lo N0)), (3, q_i n), (4, .long (s_lo m)), (6, q_i z)] [] (KC, S) (q_ev (some (q_i (s_putV (S 150 6) N0))) (KC, s_putS S N0)) := by
    intro qn_8
    induction qn_8 using Nat.strongRecOn with
    | ind qn_8 qih_8 =>
      intro n z m qa_8_0 qa_8_1 qa_8_2 qa_8_3 qa_8_4 qa_8_5 qhn_8
      subst qhn_8
      have zr : (s_fine N0 n ∧ z = 1) ∨ (¬ s_fine N0 n ∧ z = 0) := by rw [qa_8_4]; exact q_B_or _
      have by0 : s_by N0 n = ((m % 256 : Nat) : Int) := by unfold s_by; rw [← qa_8_2]
      refine q_iloadn (pc' := 9) 2 dX9_put_8 rfl rfl ?_
      refine q_bipush (pc' := 11) dX9_put_9 rfl rfl ?_
      refine q_icmp_ge (tgt := 67) (pc' := 14) dX9_put_11 rfl rfl (by first | assumption | omega) (by decide) (fun qc_11 => ?_) (fun qc_11 => ?_)
      · have hn : ((s_sc 8 N0 : Nat) : Int) = n := by have q := qa_8_3; rw [s_sc_0 (by omega)] at q; omega
        refine q_iloadn (pc' := 68) 2 dX9_put_67 rfl rfl ?_
        refine q_if_eq (tgt := 83) (pc' := 71) dX9_put_68 rfl rfl (by first | assumption | omega) (fun qc_68 => ?_) (fun qc_68 => ?_)
        · have sv : ¬ s_svn N0 n := fun q => by have q3 := q.2.2; rw [← qa_8_2] at q3; (rcases zr with ⟨q1, q2⟩ | ⟨q1, q2⟩); (have := q.1; omega); (exact q1 q.2.1)
          refine q_bipush (pc' := 85) dX9_put_83 rfl rfl ?_
          refine p_iret dX9_put_85 rfl ?_ ?_
          · first | exact (s_put_1 hn sv).1.symm | exact (s_put_2 hn sv (by omega)).1.symm | (rw [(s_put_3 hn sv (by omega)).1]; omega)
          · first | (rw [(s_put_1 hn sv).2]; done) | (rw [(s_put_2 hn sv (by omega)).2]; done) | (rw [(s_put_3 hn sv (by omega)).2, qa_8_2, show n - 1 - k = n by omega])
        · refine q_iload (pc' := 73) 4 dX9_put_71 rfl rfl ?_
          refine q_if_eq (tgt := 83) (pc' := 76) dX9_put_73 rfl rfl (by first | assumption | omega) (fun qc_73 => ?_) (fun qc_73 => ?_)
          · have sv : ¬ s_svn N0 n := fun q => by have q3 := q.2.2; rw [← qa_8_2] at q3; (rcases zr with ⟨q1, q2⟩ | ⟨q1, q2⟩); (have := q.1; omega); (exact q1 q.2.1)
            refine q_bipush (pc' := 85) dX9_put_83 rfl rfl ?_
            refine p_iret dX9_put_85 rfl ?_ ?_
            · first | exact (s_put_1 hn sv).1.symm | exact (s_put_2 hn sv (by omega)).1.symm | (rw [(s_put_3 hn sv (by omega)).1]; omega)
            · first | (rw [(s_put_1 hn sv).2]; done) | (rw [(s_put_2 hn sv (by omega)).2]; done) | (rw [(s_put_3 hn sv (by omega)).2, qa_8_2, show n - 1 - k = n by omega])
          · refine q_lload (pc' := 78) 3 dX9_put_76 rfl rfl ?_
            refine q_lconst (pc' := 79) (x := 0) dX9_put_78 rfl rfl ?_
            refine q_lcmp (pc' := 80) (z := s_lz (s_lo m)) dX9_put_79 rfl (s_lz_e) ?_
            have lz2 := s_lz_b (m := m) (by omega)
            refine q_if_eq (tgt := 86) (pc' := 83) dX9_put_80 rfl rfl (by first | assumption | omega) (fun qc_80 => ?_) (fun qc_80 => ?_)
            · have sv : s_svn N0 n := ⟨by omega, (zr.resolve_right (fun q => by omega)).1, by rw [← qa_8_2]; omega⟩
              refine q_aloadn (pc' := 87) 0 dX9_put_86 rfl rfl ?_
              refine p_getJ (pc' := 90) (kz := 6) dX9_put_87 rfl fX9_183 kc150 rfl rfl (fun qy_87 eqy_87 rqy_87 => ?_)
              refine q_iloadn (pc' := 91) 2 dX9_put_90 rfl rfl ?_
              refine q_iadd (pc' := 92) dX9_put_91 rfl ?_
              refine q_bipush (pc' := 94) dX9_put_92 rfl rfl ?_
              refine q_icmp_le (tgt := 100) (pc' := 97) dX9_put_94 rfl rfl (by first | assumption | omega) (by decide) (fun qc_94 => ?_) (fun qc_94 => ?_)
              · refine q_iloadn (pc' := 101) 2 dX9_put_100 rfl rfl ?_
                refine q_iconst (pc' := 102) dX9_put_101 rfl ?_
                refine q_isub (pc' := 103) dX9_put_102 rfl ?_
                refine q_istore (pc' := 105) (L' := [(7, q_i (n - 1)), (0, q_r Γ 150), (1, .long (s_lo N0)), (3, q_i n), (4, .long (s_lo m)), (6, q_i z)]) dX9_put_103 rfl (by decide) rfl ?_
                have qlp_105 : ∀ (qn_105 : Nat) (S3 : q_S) (k : Int), (-1 ≤ k) → (k < n) → (S3 = q_up (s_app S (S 150 6) N0 n (n - 1 - k)) 150 6 (S 150 6 + (n - 1 - k))) → ((k + 1).toNat) = qn_105 → q_Go Γ mX9_put 1 0 0 105 [(0, q_r Γ 150), (1, .long (s_lo N0)), (7, q_i k)] [] (KC, S3) (q_ev (some (q_i (s_putV (S 150 6) N0))) (KC, s_putS S N0)) := by
                  intro qn_105
                  induction qn_105 using Nat.strongRecOn with
                  | ind qn_105 qih_105 =>
                    intro S3 k qa_105_0 qa_105_1 qa_105_2 qhn_105
                    subst qhn_105
                    have e6 : S3 150 6 = S 150 6 + (n - 1 - k) := by rw [qa_105_2]; exact q_up_eq
                    refine q_iload (pc' := 107) 2 dX9_put_105 rfl rfl ?_
                    refine q_if_lt (tgt := 147) (pc' := 110) dX9_put_107 rfl rfl (by first | assumption | omega) (fun qc_107 => ?_) (fun qc_107 => ?_)
                    · refine q_aloadn (pc' := 148) 0 dX9_put_147 rfl rfl ?_
                      refine p_getJ (pc' := 151) (kz := 6) dX9_put_148 rfl fX9_183 kc150 rfl rfl (fun qy_148 eqy_148 rqy_148 => ?_)
                      refine p_iret dX9_put_151 rfl ?_ ?_
                      · first | exact (s_put_1 hn sv).1.symm | exact (s_put_2 hn sv (by omega)).1.symm | (rw [(s_put_3 hn sv (by omega)).1]; omega)
                      · first | (rw [(s_put_1 hn sv).2]; done) | (rw [(s_put_2 hn sv (by omega)).2]; done) | (rw [(s_put_3 hn sv (by omega)).2, qa_105_2, show n - 1 - k = n by omega])
                    · refine q_aloadn (pc' := 111) 0 dX9_put_110 rfl rfl ?_
                      refine p_getR (pc' := 114) (f := 155) dX9_put_111 rfl fX9_22 kc150 rfl ?_
                      refine q_aloadn (pc' := 115) 0 dX9_put_114 rfl rfl ?_
                      refine p_getJ (pc' := 118) (kz := 6) dX9_put_115 rfl fX9_183 kc150 rfl rfl (fun qy_115 eqy_115 rqy_115 => ?_)
                      refine q_lloadn (pc' := 119) 1 dX9_put_118 rfl rfl ?_
                      refine q_bipush (pc' := 121) dX9_put_119 rfl rfl ?_
                      refine q_iload (pc' := 123) 2 dX9_put_121 rfl rfl ?_
                      refine q_imul (pc' := 124) dX9_put_123 rfl ?_
                      refine q_lushr (pc' := 125) (z := s_lo (N0 / 256 ^ k.toNat)) dX9_put_124 rfl (s_lo_shr (by omega) (by omega) (s_sh8 (by omega) (by omega))) ?_
                      refine q_ldc2 (pc' := 128) dX9_put_125 rfl wX9_199 ?_
                      refine q_land (pc' := 129) dX9_put_128 rfl ?_
                      rw [s_lo_and (show N0 / 256 ^ k.toNat < 18446744073709551616 from Nat.lt_of_le_of_lt (Nat.div_le_self _ _) hN)]
                      refine q_l2i (pc' := 130) (z := ((N0 / 256 ^ k.toNat % 256 : Nat) : Int)) dX9_put_129 rfl (s_lo_int (by omega)) ?_
                      refine p_iast (pc' := 131) dX9_put_130 rfl kc155 (by first | assumption | omega) (by first | assumption | omega) (by decide) (by first | assumption | omega) ?_
                      refine q_aloadn (pc' := 132) 0 dX9_put_131 rfl rfl ?_
                      refine q_dup (pc' := 133) dX9_put_132 rfl rfl ?_
                      refine p_getJ (pc' := 136) (kz := 6) dX9_put_133 rfl fX9_183 kc150 rfl rfl (fun qy_133 eqy_133 rqy_133 => ?_)
                      refine q_iconst (pc' := 137) dX9_put_136 rfl ?_
                      have e133 : qy_133 = qy_115 := by rw [eqy_133, q_up_ne (by decide)]; exact eqy_115.symm
                      refine q_iadd (pc' := 138) dX9_put_137 rfl ?_
                      refine p_putJ (pc' := 141) (kz := 6) dX9_put_138 rfl fX9_183 kc150 rfl rfl (rfl) (rfl) (by first | assumption | omega) ?_
                      refine q_iinc (pc' := 144) 2 (L' := [(7, q_i (k + (-1))), (0, q_r Γ 150), (1, .long (s_lo N0))]) dX9_put_141 rfl rfl (by decide) rfl ?_
                      refine q_goto (pc' := 105) dX9_put_144 rfl ?_
                      refine p_sub [1, 2, 0] rfl ?_
                      exact qih_105 _ (by omega) _ _ (by first | assumption | omega) (by first | assumption | omega) (by rw [e133, eqy_115, e6, qa_105_2, show (n - 1 - (k + (-1))) = n - 1 - k + 1 by omega, ← s_app_s (v := ((N0 / 256 ^ k.toNat % 256 : Nat) : Int)) (by omega) (by rw [show n - 1 - (n - 1 - k) = k by omega]; rfl)]) rfl
                refine p_sub [1, 2, 0] rfl ?_
                exact qlp_105 _ _ _ (by first | assumption | omega) (by first | assumption | omega) (by rw [show n - 1 - (n - 1) = 0 by omega]; exact s_app_0 rfl) rfl
              · refine q_bipush (pc' := 99) dX9_put_97 rfl rfl ?_
                refine p_iret dX9_put_99 rfl ?_ ?_
                · first | exact (s_put_1 hn sv).1.symm | exact (s_put_2 hn sv (by omega)).1.symm | (rw [(s_put_3 hn sv (by omega)).1]; omega)
                · first | (rw [(s_put_1 hn sv).2]; done) | (rw [(s_put_2 hn sv (by omega)).2]; done) | (rw [(s_put_3 hn sv (by omega)).2, qa_8_2, show n - 1 - k = n by omega])
            · have sv : ¬ s_svn N0 n := fun q => by have q3 := q.2.2; rw [← qa_8_2] at q3; (rcases zr with ⟨q1, q2⟩ | ⟨q1, q2⟩); (have := q.1; omega); (exact q1 q.2.1)
              refine q_bipush (pc' := 85) dX9_put_83 rfl rfl ?_
              refine p_iret dX9_put_85 rfl ?_ ?_
              · first | exact (s_put_1 hn sv).1.symm | exact (s_put_2 hn sv (by omega)).1.symm | (rw [(s_put_3 hn sv (by omega)).1]; omega)
              · first | (rw [(s_put_1 hn sv).2]; done) | (rw [(s_put_2 hn sv (by omega)).2]; done) | (rw [(s_put_3 hn sv (by omega)).2, qa_8_2, show n - 1 - k = n by omega])
      · refine q_lload (pc' := 16) 3 dX9_put_14 rfl rfl ?_
        refine q_ldc2 (pc' := 19) dX9_put_16 rfl wX9_199 ?_
        refine q_land (pc' := 20) dX9_put_19 rfl ?_
        rw [s_lo_and (by omega)]
        refine q_lconst (pc' := 21) (x := 0) dX9_put_20 rfl rfl ?_
        refine q_lcmp (pc' := 22) (z := s_lz (s_lo (m % 256))) dX9_put_21 rfl (s_lz_e) ?_
        have lz := s_lz_b (m := m % 256) (by omega)
        refine q_if_eq (tgt := 67) (pc' := 25) dX9_put_22 rfl rfl (by first | assumption | omega) (fun qc_22 => ?_) (fun qc_22 => ?_)
        · have hn : ((s_sc 8 N0 : Nat) : Int) = n := by have q := qa_8_3; rw [s_sc_0 (by omega)] at q; omega
          refine q_iloadn (pc' := 68) 2 dX9_put_67 rfl rfl ?_
          refine q_if_eq (tgt := 83) (pc' := 71) dX9_put_68 rfl rfl (by first | assumption | omega) (fun qc_68_1 => ?_) (fun qc_68_1 => ?_)
          · have sv : ¬ s_svn N0 n := fun q => by have q3 := q.2.2; rw [← qa_8_2] at q3; (rcases zr with ⟨q1, q2⟩ | ⟨q1, q2⟩); (have := q.1; omega); (exact q1 q.2.1)
            refine q_bipush (pc' := 85) dX9_put_83 rfl rfl ?_
            refine p_iret dX9_put_85 rfl ?_ ?_
            · first | exact (s_put_1 hn sv).1.symm | exact (s_put_2 hn sv (by omega)).1.symm | (rw [(s_put_3 hn sv (by omega)).1]; omega)
            · first | (rw [(s_put_1 hn sv).2]; done) | (rw [(s_put_2 hn sv (by omega)).2]; done) | (rw [(s_put_3 hn sv (by omega)).2, qa_8_2, show n - 1 - k = n by omega])
          · refine q_iload (pc' := 73) 4 dX9_put_71 rfl rfl ?_
            refine q_if_eq (tgt := 83) (pc' := 76) dX9_put_73 rfl rfl (by first | assumption | omega) (fun qc_73_1 => ?_) (fun qc_73_1 => ?_)
            · have sv : ¬ s_svn N0 n := fun q => by have q3 := q.2.2; rw [← qa_8_2] at q3; (rcases zr with ⟨q1, q2⟩ | ⟨q1, q2⟩); (have := q.1; omega); (exact q1 q.2.1)
              refine q_bipush (pc' := 85) dX9_put_83 rfl rfl ?_
              refine p_iret dX9_put_85 rfl ?_ ?_
              · first | exact (s_put_1 hn sv).1.symm | exact (s_put_2 hn sv (by omega)).1.symm | (rw [(s_put_3 hn sv (by omega)).1]; omega)
              · first | (rw [(s_put_1 hn sv).2]; done) | (rw [(s_put_2 hn sv (by omega)).2]; done) | (rw [(s_put_3 hn sv (by omega)).2, qa_8_2, show n - 1 - k = n by omega])
            · refine q_lload (pc' := 78) 3 dX9_put_76 rfl rfl ?_
              refine q_lconst (pc' := 79) (x := 0) dX9_put_78 rfl rfl ?_
              refine q_lcmp (pc' := 80) (z := s_lz (s_lo m)) dX9_put_79 rfl (s_lz_e) ?_
              have lz2 := s_lz_b (m := m) (by omega)
              refine q_if_eq (tgt := 86) (pc' := 83) dX9_put_80 rfl rfl (by first | assumption | omega) (fun qc_80_1 => ?_) (fun qc_80_1 => ?_)
              · have sv : s_svn N0 n := ⟨by omega, (zr.resolve_right (fun q => by omega)).1, by rw [← qa_8_2]; omega⟩
                refine q_aloadn (pc' := 87) 0 dX9_put_86 rfl rfl ?_
                refine p_getJ (pc' := 90) (kz := 6) dX9_put_87 rfl fX9_183 kc150 rfl rfl (fun qy_87_1 eqy_87_1 rqy_87_1 => ?_)
                refine q_iloadn (pc' := 91) 2 dX9_put_90 rfl rfl ?_
                refine q_iadd (pc' := 92) dX9_put_91 rfl ?_
                refine q_bipush (pc' := 94) dX9_put_92 rfl rfl ?_
                refine q_icmp_le (tgt := 100) (pc' := 97) dX9_put_94 rfl rfl (by first | assumption | omega) (by decide) (fun qc_94_1 => ?_) (fun qc_94_1 => ?_)
                · refine q_iloadn (pc' := 101) 2 dX9_put_100 rfl rfl ?_
                  refine q_iconst (pc' := 102) dX9_put_101 rfl ?_
                  refine q_isub (pc' := 103) dX9_put_102 rfl ?_
                  refine q_istore (pc' := 105) (L' := [(7, q_i (n - 1)), (0, q_r Γ 150), (1, .long (s_lo N0)), (3, q_i n), (4, .long (s_lo m)), (6, q_i z)]) dX9_put_103 rfl (by decide) rfl ?_
                  have qlp_105_1 : ∀ (qn_105_1 : Nat) (S3 : q_S) (k : Int), (-1 ≤ k) → (k < n) → (S3 = q_up (s_app S (S 150 6) N0 n (n - 1 - k)) 150 6 (S 150 6 + (n - 1 - k))) → ((k + 1).toNat) = qn_105_1 → q_Go Γ mX9_put 1 0 0 105 [(0, q_r Γ 150), (1, .long (s_lo N0)), (7, q_i k)] [] (KC, S3) (q_ev (some (q_i (s_putV (S 150 6) N0))) (KC, s_putS S N0)) := by
                    intro qn_105_1
                    induction qn_105_1 using Nat.strongRecOn with
                    | ind qn_105_1 qih_105_1 =>
                      intro S3 k qa_105_1_0 qa_105_1_1 qa_105_1_2 qhn_105_1
                      subst qhn_105_1
                      have e6 : S3 150 6 = S 150 6 + (n - 1 - k) := by rw [qa_105_1_2]; exact q_up_eq
                      refine q_iload (pc' := 107) 2 dX9_put_105 rfl rfl ?_
                      refine q_if_lt (tgt := 147) (pc' := 110) dX9_put_107 rfl rfl (by first | assumption | omega) (fun qc_107_1 => ?_) (fun qc_107_1 => ?_)
                      · refine q_aloadn (pc' := 148) 0 dX9_put_147 rfl rfl ?_
                        refine p_getJ (pc' := 151) (kz := 6) dX9_put_148 rfl fX9_183 kc150 rfl rfl (fun qy_148_1 eqy_148_1 rqy_148_1 => ?_)
                        refine p_iret dX9_put_151 rfl ?_ ?_
                        · first | exact (s_put_1 hn sv).1.symm | exact (s_put_2 hn sv (by omega)).1.symm | (rw [(s_put_3 hn sv (by omega)).1]; omega)
                        · first | (rw [(s_put_1 hn sv).2]; done) | (rw [(s_put_2 hn sv (by omega)).2]; done) | (rw [(s_put_3 hn sv (by omega)).2, qa_105_1_2, show n - 1 - k = n by omega])
                      · refine q_aloadn (pc' := 111) 0 dX9_put_110 rfl rfl ?_
                        refine p_getR (pc' := 114) (f := 155) dX9_put_111 rfl fX9_22 kc150 rfl ?_
                        refine q_aloadn (pc' := 115) 0 dX9_put_114 rfl rfl ?_
                        refine p_getJ (pc' := 118) (kz := 6) dX9_put_115 rfl fX9_183 kc150 rfl rfl (fun qy_115_1 eqy_115_1 rqy_115_1 => ?_)
                        refine q_lloadn (pc' := 119) 1 dX9_put_118 rfl rfl ?_
                        refine q_bipush (pc' := 121) dX9_put_119 rfl rfl ?_
                        refine q_iload (pc' := 123) 2 dX9_put_121 rfl rfl ?_
                        refine q_imul (pc' := 124) dX9_put_123 rfl ?_
                        refine q_lushr (pc' := 125) (z := s_lo (N0 / 256 ^ k.toNat)) dX9_put_124 rfl (s_lo_shr (by omega) (by omega) (s_sh8 (by omega) (by omega))) ?_
                        refine q_ldc2 (pc' := 128) dX9_put_125 rfl wX9_199 ?_
                        refine q_land (pc' := 129) dX9_put_128 rfl ?_
                        rw [s_lo_and (show N0 / 256 ^ k.toNat < 18446744073709551616 from Nat.lt_of_le_of_lt (Nat.div_le_self _ _) hN)]
                        refine q_l2i (pc' := 130) (z := ((N0 / 256 ^ k.toNat % 256 : Nat) : Int)) dX9_put_129 rfl (s_lo_int (by omega)) ?_
                        refine p_iast (pc' := 131) dX9_put_130 rfl kc155 (by first | assumption | omega) (by first | assumption | omega) (by decide) (by first | assumption | omega) ?_
                        refine q_aloadn (pc' := 132) 0 dX9_put_131 rfl rfl ?_
                        refine q_dup (pc' := 133) dX9_put_132 rfl rfl ?_
                        refine p_getJ (pc' := 136) (kz := 6) dX9_put_133 rfl fX9_183 kc150 rfl rfl (fun qy_133_1 eqy_133_1 rqy_133_1 => ?_)
                        refine q_iconst (pc' := 137) dX9_put_136 rfl ?_
                        have e133 : qy_133_1 = qy_115_1 := by rw [eqy_133_1, q_up_ne (by decide)]; exact eqy_115_1.symm
                        refine q_iadd (pc' := 138) dX9_put_137 rfl ?_
                        refine p_putJ (pc' := 141) (kz := 6) dX9_put_138 rfl fX9_183 kc150 rfl rfl (rfl) (rfl) (by first | assumption | omega) ?_
                        refine q_iinc (pc' := 144) 2 (L' := [(7, q_i (k + (-1))), (0, q_r Γ 150), (1, .long (s_lo N0))]) dX9_put_141 rfl rfl (by decide) rfl ?_
                        refine q_goto (pc' := 105) dX9_put_144 rfl ?_
                        refine p_sub [1, 2, 0] rfl ?_
                        exact qih_105_1 _ (by omega) _ _ (by first | assumption | omega) (by first | assumption | omega) (by rw [e133, eqy_115_1, e6, qa_105_1_2, show (n - 1 - (k + (-1))) = n - 1 - k + 1 by omega, ← s_app_s (v := ((N0 / 256 ^ k.toNat % 256 : Nat) : Int)) (by omega) (by rw [show n - 1 - (n - 1 - k) = k by omega]; rfl)]) rfl
                  refine p_sub [1, 2, 0] rfl ?_
                  exact qlp_105_1 _ _ _ (by first | assumption | omega) (by first | assumption | omega) (by rw [show n - 1 - (n - 1) = 0 by omega]; exact s_app_0 rfl) rfl
                · refine q_bipush (pc' := 99) dX9_put_97 rfl rfl ?_
                  refine p_iret dX9_put_99 rfl ?_ ?_
                  · first | exact (s_put_1 hn sv).1.symm | exact (s_put_2 hn sv (by omega)).1.symm | (rw [(s_put_3 hn sv (by omega)).1]; omega)
                  · first | (rw [(s_put_1 hn sv).2]; done) | (rw [(s_put_2 hn sv (by omega)).2]; done) | (rw [(s_put_3 hn sv (by omega)).2, qa_8_2, show n - 1 - k = n by omega])
              · have sv : ¬ s_svn N0 n := fun q => by have q3 := q.2.2; rw [← qa_8_2] at q3; (rcases zr with ⟨q1, q2⟩ | ⟨q1, q2⟩); (have := q.1; omega); (exact q1 q.2.1)
                refine q_bipush (pc' := 85) dX9_put_83 rfl rfl ?_
                refine p_iret dX9_put_85 rfl ?_ ?_
                · first | exact (s_put_1 hn sv).1.symm | exact (s_put_2 hn sv (by omega)).1.symm | (rw [(s_put_3 hn sv (by omega)).1]; omega)
                · first | (rw [(s_put_1 hn sv).2]; done) | (rw [(s_put_2 hn sv (by omega)).2]; done) | (rw [(s_put_3 hn sv (by omega)).2, qa_8_2, show n - 1 - k = n by omega])
        · refine q_iload (pc' := 27) 4 dX9_put_25 rfl rfl ?_
          refine q_if_eq (tgt := 51) (pc' := 30) dX9_put_27 rfl rfl (by first | assumption | omega) (fun qc_27 => ?_) (fun qc_27 => ?_)
          · refine q_iconst (pc' := 52) dX9_put_51 rfl ?_
            refine q_istore (pc' := 54) (L' := [(6, q_i 0), (0, q_r Γ 150), (1, .long (s_lo N0)), (3, q_i n), (4, .long (s_lo m))]) dX9_put_52 rfl (by decide) rfl ?_
            refine q_lload (pc' := 56) 4 dX9_put_54 rfl rfl ?_
            refine q_bipush (pc' := 58) dX9_put_56 rfl rfl ?_
            refine q_lushr (pc' := 59) (z := s_lo (m / 256)) dX9_put_58 rfl (by have q := s_lo_shr (m := m) (k := 1) (y := Int32.ofInt 8) (by omega) (by decide) (by decide); rw [Nat.pow_one] at q; exact q) ?_
            refine q_lstore (pc' := 61) (L' := [(4, .long (s_lo (m / 256))), (6, q_i 0), (0, q_r Γ 150), (1, .long (s_lo N0)), (3, q_i n)]) dX9_put_59 rfl (by decide) rfl ?_
            refine q_iinc (pc' := 64) 4 (L' := [(3, q_i (n + 1)), (4, .long (s_lo (m / 256))), (6, q_i 0), (0, q_r Γ 150), (1, .long (s_lo N0))]) dX9_put_61 rfl rfl (by decide) rfl ?_
            refine q_goto (pc' := 8) dX9_put_64 rfl ?_
            refine p_sub [3, 4, 0, 1, 2] rfl ?_
            exact qih_8 _ (by omega) _ _ (m / 256) (by first | assumption | omega) (by first | assumption | omega) (by exact s_dv qa_8_2 (by omega)) (by have q := qa_8_3; rw [s_sc_s (by omega) (by omega) (by omega)] at q; omega) (by first | exact q_B_1 ((s_fine_s (by omega)).mpr ⟨(by rcases zr with q | q; exact q.1; omega), by omega, by omega⟩) | exact q_B_0 (fun q => by have q1 := (s_fine_s (by omega)).mp q; rcases zr with q2 | q2; omega; exact q2.1 q1.1)) (by omega) rfl
          · refine q_lload (pc' := 32) 3 dX9_put_30 rfl rfl ?_
            refine q_ldc2 (pc' := 35) dX9_put_32 rfl wX9_199 ?_
            refine q_land (pc' := 36) dX9_put_35 rfl ?_
            rw [s_lo_and (by omega)]
            refine q_l2i (pc' := 37) (z := ((m % 256 : Nat) : Int)) dX9_put_36 rfl (s_lo_int (by omega)) ?_
            refine q_bipush (pc' := 39) dX9_put_37 rfl rfl ?_
            refine q_bipush (pc' := 41) dX9_put_39 rfl rfl ?_
            refine q_callSI (pc' := 44) dX9_put_41 rfl lX9_42 iX9_within (c_X9_within (by first | assumption | omega) (by first | assumption | omega) (by first | assumption | omega)) rfl rfl (Nat.le_of_ble_eq_true rfl) (Nat.le_of_ble_eq_true rfl) (Nat.le_of_ble_eq_true rfl) ?_
            refine q_if_eq_B (tgt := 51) (pc' := 47) dX9_put_44 rfl rfl (fun qc_44 => ?_) (fun qc_44 => ?_)
            · refine q_iconst (pc' := 52) dX9_put_51 rfl ?_
              refine q_istore (pc' := 54) (L' := [(6, q_i 0), (0, q_r Γ 150), (1, .long (s_lo N0)), (3, q_i n), (4, .long (s_lo m))]) dX9_put_52 rfl (by decide) rfl ?_
              refine q_lload (pc' := 56) 4 dX9_put_54 rfl rfl ?_
              refine q_bipush (pc' := 58) dX9_put_56 rfl rfl ?_
              refine q_lushr (pc' := 59) (z := s_lo (m / 256)) dX9_put_58 rfl (by have q := s_lo_shr (m := m) (k := 1) (y := Int32.ofInt 8) (by omega) (by decide) (by decide); rw [Nat.pow_one] at q; exact q) ?_
              refine q_lstore (pc' := 61) (L' := [(4, .long (s_lo (m / 256))), (6, q_i 0), (0, q_r Γ 150), (1, .long (s_lo N0)), (3, q_i n)]) dX9_put_59 rfl (by decide) rfl ?_
              refine q_iinc (pc' := 64) 4 (L' := [(3, q_i (n + 1)), (4, .long (s_lo (m / 256))), (6, q_i 0), (0, q_r Γ 150), (1, .long (s_lo N0))]) dX9_put_61 rfl rfl (by decide) rfl ?_
              refine q_goto (pc' := 8) dX9_put_64 rfl ?_
              refine p_sub [3, 4, 0, 1, 2] rfl ?_
              exact qih_8 _ (by omega) _ _ (m / 256) (by first | assumption | omega) (by first | assumption | omega) (by exact s_dv qa_8_2 (by omega)) (by have q := qa_8_3; rw [s_sc_s (by omega) (by omega) (by omega)] at q; omega) (by first | exact q_B_1 ((s_fine_s (by omega)).mpr ⟨(by rcases zr with q | q; exact q.1; omega), by omega, by omega⟩) | exact q_B_0 (fun q => by have q1 := (s_fine_s (by omega)).mp q; rcases zr with q2 | q2; omega; exact q2.1 q1.1)) (by omega) rfl
            · refine q_iconst (pc' := 48) dX9_put_47 rfl ?_
              refine q_goto (pc' := 52) dX9_put_48 rfl ?_
              refine q_istore (pc' := 54) (L' := [(6, q_i 1), (0, q_r Γ 150), (1, .long (s_lo N0)), (3, q_i n), (4, .long (s_lo m))]) dX9_put_52 rfl (by decide) rfl ?_
              refine q_lload (pc' := 56) 4 dX9_put_54 rfl rfl ?_
              refine q_bipush (pc' := 58) dX9_put_56 rfl rfl ?_
              refine q_lushr (pc' := 59) (z := s_lo (m / 256)) dX9_put_58 rfl (by have q := s_lo_shr (m := m) (k := 1) (y := Int32.ofInt 8) (by omega) (by decide) (by decide); rw [Nat.pow_one] at q; exact q) ?_
              refine q_lstore (pc' := 61) (L' := [(4, .long (s_lo (m / 256))), (6, q_i 1), (0, q_r Γ 150), (1, .long (s_lo N0)), (3, q_i n)]) dX9_put_59 rfl (by decide) rfl ?_
              refine q_iinc (pc' := 64) 4 (L' := [(3, q_i (n + 1)), (4, .long (s_lo (m / 256))), (6, q_i 1), (0, q_r Γ 150), (1, .long (s_lo N0))]) dX9_put_61 rfl rfl (by decide) rfl ?_
              refine q_goto (pc' := 8) dX9_put_64 rfl ?_
              refine p_sub [3, 4, 0, 1, 2] rfl ?_
              exact qih_8 _ (by omega) _ _ (m / 256) (by first | assumption | omega) (by first | assumption | omega) (by exact s_dv qa_8_2 (by omega)) (by have q := qa_8_3; rw [s_sc_s (by omega) (by omega) (by omega)] at q; omega) (by first | exact q_B_1 ((s_fine_s (by omega)).mpr ⟨(by rcases zr with q | q; exact q.1; omega), by omega, by omega⟩) | exact q_B_0 (fun q => by have q1 := (s_fine_s (by omega)).mp q; rcases zr with q2 | q2; omega; exact q2.1 q1.1)) (by omega) rfl
  refine p_sub [3, 4, 2, 1, 0] rfl ?_
  exact qlp_8 _ _ _ N0 (by first | assumption | omega) (by first | assumption | omega) (by rw [show (0 : Int).toNat = 0 from rfl, Nat.pow_zero, Nat.div_one]) (by exact Int.add_zero _) (by exact q_B_1 (fun k k0 k1 => by omega)) (by exact hN) rfl
