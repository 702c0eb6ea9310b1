set_option maxRecDepth 20000 in
set_option maxHeartbeats 4000000 in
theorem c_X9_does {Γ : q_G} {S : q_S} {l a b c e f : Int} (ok : s_ok (S 151)) (h11 : S 150 11 = l) (h12 : S 150 12 = a) (h13 : S 150 13 = b) (hc : l = 97 ∨ l = 98 → S 150 14 = c ∧ S 150 15 = e ∧ S 150 16 = f) (hw9 : l = 119 → 0 ≤ a ∧ a ≤ 9) : q_Sp Γ mX9_does 4 0 0 [q_r Γ 150] (KC, S) (q_ev (some (q_i (s_doV (S 151) l a b c e f))) (KC, q_w1 S (s_doP (S 151) l a b c e f))) := by
  show q_Go Γ mX9_does 4 0 0 0 [(0, q_r Γ 150)] [] (KC, S) (q_ev (some (q_i (s_doV (S 151) l a b c e f))) (KC, q_w1 S (s_doP (S 151) l a b c e f)))
  have rw0 := s_rows_b ok
  have c3 := ok.2.2.1
  have c4 := ok.2.2.2.1
  have wt : -2 ≤ s_wTilt (S 151) a b ∧ s_wTilt (S 151) a b ≤ 0 := by unfold s_wTilt; omega
  have wa : -4 ≤ s_wAsk (S 151) a c e f ∧ s_wAsk (S 151) a c e f ≤ 0 := by unfold s_wAsk; omega
  have wb : -4 ≤ s_wBid (S 151) a b c e f ∧ s_wBid (S 151) a b c e f ≤ 0 := by unfold s_wBid; omega
  refine q_iconst (pc' := 1) dX9_does_0 rfl ?_
  refine q_istoren (pc' := 2) (L' := [(1, q_i 1), (0, q_r Γ 150)]) dX9_does_1 rfl rfl (by decide) rfl ?_
  refine q_aloadn (pc' := 3) 1 dX9_does_2 rfl rfl ?_
  refine p_getJ (pc' := 6) (kz := 11) dX9_does_3 rfl fX9_225 kc150 rfl rfl (fun qy_3 eqy_3 rqy_3 => ?_)
  have vqy_3 : qy_3 = l := eqy_3.trans (by first | assumption | (simp [q_up]; done) | (simp [q_up]; assumption))
  rw [vqy_3]
  refine q_bipush (pc' := 8) dX9_does_6 rfl rfl ?_
  refine q_icmp_ne (tgt := 52) (pc' := 11) dX9_does_8 rfl rfl (by first | assumption | omega) (by decide) (fun qc_8 => ?_) (fun qc_8 => ?_)
  · refine q_aloadn (pc' := 53) 1 dX9_does_52 rfl rfl ?_
    refine p_getJ (pc' := 56) (kz := 11) dX9_does_53 rfl fX9_225 kc150 rfl rfl (fun qy_53 eqy_53 rqy_53 => ?_)
    have vqy_53 : qy_53 = l := eqy_53.trans (by first | assumption | (simp [q_up]; done) | (simp [q_up]; assumption))
    rw [vqy_53]
    refine q_bipush (pc' := 58) dX9_does_56 rfl rfl ?_
    refine q_icmp_ne (tgt := 79) (pc' := 61) dX9_does_58 rfl rfl (by first | assumption | omega) (by decide) (fun qc_58 => ?_) (fun qc_58 => ?_)
    · refine q_aloadn (pc' := 80) 1 dX9_does_79 rfl rfl ?_
      refine p_getJ (pc' := 83) (kz := 11) dX9_does_80 rfl fX9_225 kc150 rfl rfl (fun qy_80 eqy_80 rqy_80 => ?_)
      have vqy_80 : qy_80 = l := eqy_80.trans (by first | assumption | (simp [q_up]; done) | (simp [q_up]; assumption))
      rw [vqy_80]
      refine q_bipush (pc' := 85) dX9_does_83 rfl rfl ?_
      refine q_icmp_ne (tgt := 145) (pc' := 88) dX9_does_85 rfl rfl (by first | assumption | omega) (by decide) (fun qc_85 => ?_) (fun qc_85 => ?_)
      · refine q_aloadn (pc' := 146) 1 dX9_does_145 rfl rfl ?_
        refine p_getJ (pc' := 149) (kz := 11) dX9_does_146 rfl fX9_225 kc150 rfl rfl (fun qy_146 eqy_146 rqy_146 => ?_)
        have vqy_146 : qy_146 = l := eqy_146.trans (by first | assumption | (simp [q_up]; done) | (simp [q_up]; assumption))
        rw [vqy_146]
        refine q_bipush (pc' := 151) dX9_does_149 rfl rfl ?_
        refine q_icmp_ne (tgt := 219) (pc' := 154) dX9_does_151 rfl rfl (by first | assumption | omega) (by decide) (fun qc_151 => ?_) (fun qc_151 => ?_)
        · refine q_aloadn (pc' := 220) 1 dX9_does_219 rfl rfl ?_
          refine q_callVI (pc' := 223) dX9_does_220 rfl lX9_160 iX9_matched kc150 rfl (c_X9_matched (by first | assumption | omega)) rfl rfl (Nat.le_of_ble_eq_true rfl) (Nat.le_of_ble_eq_true rfl) (Nat.le_of_ble_eq_true rfl) ?_
          refine q_pop (pc' := 224) dX9_does_223 rfl rfl ?_
          refine q_iloadn (pc' := 225) 0 dX9_does_224 rfl rfl ?_
          exact q_iret dX9_does_225 rfl rfl ⟨congrArg (fun v => some (q_i v)) (by unfold s_doV; omega), by ((try rw [q_up_w]); (try rw [s_asked_w]); (try rw [s_bought_w]); unfold s_doP; (repeat (first | rw [if_pos (by omega)] | rw [if_neg (by omega)])); first | done | rfl | exact congrArg (Prod.mk KC) q_w1_self.symm)⟩
        · have h14 := hc (by omega)
          have h15 := h14.2.1
          have h16 := h14.2.2
          have h14 := h14.1
          refine q_aloadn (pc' := 155) 1 dX9_does_154 rfl rfl ?_
          refine q_aloadn (pc' := 156) 1 dX9_does_155 rfl rfl ?_
          refine p_getJ (pc' := 159) (kz := 12) dX9_does_156 rfl fX9_228 kc150 rfl rfl (fun qy_156 eqy_156 rqy_156 => ?_)
          have vqy_156 : qy_156 = a := eqy_156.trans (by first | assumption | (simp [q_up]; done) | (simp [q_up]; assumption))
          rw [vqy_156]
          refine q_aloadn (pc' := 160) 1 dX9_does_159 rfl rfl ?_
          refine p_getJ (pc' := 163) (kz := 13) dX9_does_160 rfl fX9_231 kc150 rfl rfl (fun qy_160 eqy_160 rqy_160 => ?_)
          have vqy_160 : qy_160 = b := eqy_160.trans (by first | assumption | (simp [q_up]; done) | (simp [q_up]; assumption))
          rw [vqy_160]
          refine q_aloadn (pc' := 164) 1 dX9_does_163 rfl rfl ?_
          refine p_getJ (pc' := 167) (kz := 14) dX9_does_164 rfl fX9_213 kc150 rfl rfl (fun qy_164 eqy_164 rqy_164 => ?_)
          have vqy_164 : qy_164 = c := eqy_164.trans (by first | assumption | (simp [q_up]; done) | (simp [q_up]; assumption))
          rw [vqy_164]
          refine q_aloadn (pc' := 168) 1 dX9_does_167 rfl rfl ?_
          refine p_getJ (pc' := 171) (kz := 15) dX9_does_168 rfl fX9_219 kc150 rfl rfl (fun qy_168 eqy_168 rqy_168 => ?_)
          have vqy_168 : qy_168 = e := eqy_168.trans (by first | assumption | (simp [q_up]; done) | (simp [q_up]; assumption))
          rw [vqy_168]
          refine q_aloadn (pc' := 172) 1 dX9_does_171 rfl rfl ?_
          refine p_getJ (pc' := 175) (kz := 16) dX9_does_172 rfl fX9_222 kc150 rfl rfl (fun qy_172 eqy_172 rqy_172 => ?_)
          have vqy_172 : qy_172 = f := eqy_172.trans (by first | assumption | (simp [q_up]; done) | (simp [q_up]; assumption))
          rw [vqy_172]
          refine q_callVI (pc' := 178) dX9_does_175 rfl lX9_131 iX9_whyNotBid kc150 rfl (c_X9_whyNotBid (by first | assumption | omega) (by first | assumption | omega) (by first | assumption | omega) (by first | assumption | omega) (by first | assumption | omega) (by first | assumption | omega)) rfl rfl (Nat.le_of_ble_eq_true rfl) (Nat.le_of_ble_eq_true rfl) (Nat.le_of_ble_eq_true rfl) ?_
          refine q_if_ne (tgt := 185) (pc' := 181) dX9_does_178 rfl rfl (by first | assumption | omega) (fun qc_178 => ?_) (fun qc_178 => ?_)
          · refine q_iconst (pc' := 186) dX9_does_185 rfl ?_
            refine q_istoren (pc' := 187) (L' := [(1, q_i 0), (0, q_r Γ 150)]) dX9_does_186 rfl rfl (by decide) rfl ?_
            refine q_iloadn (pc' := 188) 0 dX9_does_187 rfl rfl ?_
            refine q_if_eq (tgt := 224) (pc' := 191) dX9_does_188 rfl rfl (by decide) (fun qc_188 => ?_) (fun qc_188 => absurd qc_188 (by decide))
            refine q_iloadn (pc' := 225) 0 dX9_does_224 rfl rfl ?_
            exact q_iret dX9_does_225 rfl rfl ⟨congrArg (fun v => some (q_i v)) (by unfold s_doV; omega), by ((try rw [q_up_w]); (try rw [s_asked_w]); (try rw [s_bought_w]); unfold s_doP; (repeat (first | rw [if_pos (by omega)] | rw [if_neg (by omega)])); first | done | rfl | exact congrArg (Prod.mk KC) q_w1_self.symm)⟩
          · refine q_iconst (pc' := 182) dX9_does_181 rfl ?_
            refine q_goto (pc' := 186) dX9_does_182 rfl ?_
            refine q_istoren (pc' := 187) (L' := [(1, q_i 1), (0, q_r Γ 150)]) dX9_does_186 rfl rfl (by decide) rfl ?_
            refine q_iloadn (pc' := 188) 0 dX9_does_187 rfl rfl ?_
            refine q_if_eq (tgt := 224) (pc' := 191) dX9_does_188 rfl rfl (by decide) (fun qc_188_1 => absurd qc_188_1 (by decide)) (fun qc_188_1 => ?_)
            have hw := s_wBid_0 (show s_wBid (S 151) a b c e f = 0 by omega)
            refine q_aloadn (pc' := 192) 1 dX9_does_191 rfl rfl ?_
            refine q_aloadn (pc' := 193) 1 dX9_does_192 rfl rfl ?_
            refine p_getJ (pc' := 196) (kz := 12) dX9_does_193 rfl fX9_228 kc150 rfl rfl (fun qy_193 eqy_193 rqy_193 => ?_)
            have vqy_193 : qy_193 = a := eqy_193.trans (by first | assumption | (simp [q_up]; done) | (simp [q_up]; assumption))
            rw [vqy_193]
            refine q_aloadn (pc' := 197) 1 dX9_does_196 rfl rfl ?_
            refine p_getJ (pc' := 200) (kz := 13) dX9_does_197 rfl fX9_231 kc150 rfl rfl (fun qy_197 eqy_197 rqy_197 => ?_)
            have vqy_197 : qy_197 = b := eqy_197.trans (by first | assumption | (simp [q_up]; done) | (simp [q_up]; assumption))
            rw [vqy_197]
            refine q_aloadn (pc' := 201) 1 dX9_does_200 rfl rfl ?_
            refine p_getJ (pc' := 204) (kz := 14) dX9_does_201 rfl fX9_213 kc150 rfl rfl (fun qy_201 eqy_201 rqy_201 => ?_)
            have vqy_201 : qy_201 = c := eqy_201.trans (by first | assumption | (simp [q_up]; done) | (simp [q_up]; assumption))
            rw [vqy_201]
            refine q_aloadn (pc' := 205) 1 dX9_does_204 rfl rfl ?_
            refine p_getJ (pc' := 208) (kz := 15) dX9_does_205 rfl fX9_219 kc150 rfl rfl (fun qy_205 eqy_205 rqy_205 => ?_)
            have vqy_205 : qy_205 = e := eqy_205.trans (by first | assumption | (simp [q_up]; done) | (simp [q_up]; assumption))
            rw [vqy_205]
            refine q_aloadn (pc' := 209) 1 dX9_does_208 rfl rfl ?_
            refine p_getJ (pc' := 212) (kz := 16) dX9_does_209 rfl fX9_222 kc150 rfl rfl (fun qy_209 eqy_209 rqy_209 => ?_)
            have vqy_209 : qy_209 = f := eqy_209.trans (by first | assumption | (simp [q_up]; done) | (simp [q_up]; assumption))
            rw [vqy_209]
            refine q_callVI (pc' := 215) dX9_does_212 rfl lX9_135 iX9_bought kc150 rfl (c_X9_bought (by first | assumption | omega) (by first | assumption | omega) (by first | assumption | omega) (by first | assumption | omega) (by first | assumption | omega) (by first | assumption | omega) (by first | assumption | omega)) rfl rfl (Nat.le_of_ble_eq_true rfl) (Nat.le_of_ble_eq_true rfl) (Nat.le_of_ble_eq_true rfl) ?_
            refine q_pop (pc' := 216) dX9_does_215 rfl rfl ?_
            refine q_goto (pc' := 224) dX9_does_216 rfl ?_
            refine q_iloadn (pc' := 225) 0 dX9_does_224 rfl rfl ?_
            exact q_iret dX9_does_225 rfl rfl ⟨congrArg (fun v => some (q_i v)) (by unfold s_doV; omega), by ((try rw [q_up_w]); (try rw [s_asked_w]); (try rw [s_bought_w]); unfold s_doP; (repeat (first | rw [if_pos (by omega)] | rw [if_neg (by omega)])); first | done | rfl | exact congrArg (Prod.mk KC) q_w1_self.symm)⟩
      · have h14 := hc (by omega)
        have h15 := h14.2.1
        have h16 := h14.2.2
        have h14 := h14.1
        refine q_aloadn (pc' := 89) 1 dX9_does_88 rfl rfl ?_
        refine q_aloadn (pc' := 90) 1 dX9_does_89 rfl rfl ?_
        refine p_getJ (pc' := 93) (kz := 12) dX9_does_90 rfl fX9_228 kc150 rfl rfl (fun qy_90 eqy_90 rqy_90 => ?_)
        have vqy_90 : qy_90 = a := eqy_90.trans (by first | assumption | (simp [q_up]; done) | (simp [q_up]; assumption))
        rw [vqy_90]
        refine q_aloadn (pc' := 94) 1 dX9_does_93 rfl rfl ?_
        refine p_getJ (pc' := 97) (kz := 14) dX9_does_94 rfl fX9_213 kc150 rfl rfl (fun qy_94 eqy_94 rqy_94 => ?_)
        have vqy_94 : qy_94 = c := eqy_94.trans (by first | assumption | (simp [q_up]; done) | (simp [q_up]; assumption))
        rw [vqy_94]
        refine q_aloadn (pc' := 98) 1 dX9_does_97 rfl rfl ?_
        refine p_getJ (pc' := 101) (kz := 15) dX9_does_98 rfl fX9_219 kc150 rfl rfl (fun qy_98 eqy_98 rqy_98 => ?_)
        have vqy_98 : qy_98 = e := eqy_98.trans (by first | assumption | (simp [q_up]; done) | (simp [q_up]; assumption))
        rw [vqy_98]
        refine q_aloadn (pc' := 102) 1 dX9_does_101 rfl rfl ?_
        refine p_getJ (pc' := 105) (kz := 16) dX9_does_102 rfl fX9_222 kc150 rfl rfl (fun qy_102 eqy_102 rqy_102 => ?_)
        have vqy_102 : qy_102 = f := eqy_102.trans (by first | assumption | (simp [q_up]; done) | (simp [q_up]; assumption))
        rw [vqy_102]
        refine q_callVI (pc' := 108) dX9_does_105 rfl lX9_125 iX9_whyNotAsked kc150 rfl (c_X9_whyNotAsked (by first | assumption | omega) (by first | assumption | omega) (by first | assumption | omega) (by first | assumption | omega) (by first | assumption | omega)) rfl rfl (Nat.le_of_ble_eq_true rfl) (Nat.le_of_ble_eq_true rfl) (Nat.le_of_ble_eq_true rfl) ?_
        refine q_if_ne (tgt := 115) (pc' := 111) dX9_does_108 rfl rfl (by first | assumption | omega) (fun qc_108 => ?_) (fun qc_108 => ?_)
        · refine q_iconst (pc' := 116) dX9_does_115 rfl ?_
          refine q_istoren (pc' := 117) (L' := [(1, q_i 0), (0, q_r Γ 150)]) dX9_does_116 rfl rfl (by decide) rfl ?_
          refine q_iloadn (pc' := 118) 0 dX9_does_117 rfl rfl ?_
          refine q_if_eq (tgt := 224) (pc' := 121) dX9_does_118 rfl rfl (by decide) (fun qc_118 => ?_) (fun qc_118 => absurd qc_118 (by decide))
          refine q_iloadn (pc' := 225) 0 dX9_does_224 rfl rfl ?_
          exact q_iret dX9_does_225 rfl rfl ⟨congrArg (fun v => some (q_i v)) (by unfold s_doV; omega), by ((try rw [q_up_w]); (try rw [s_asked_w]); (try rw [s_bought_w]); unfold s_doP; (repeat (first | rw [if_pos (by omega)] | rw [if_neg (by omega)])); first | done | rfl | exact congrArg (Prod.mk KC) q_w1_self.symm)⟩
        · refine q_iconst (pc' := 112) dX9_does_111 rfl ?_
          refine q_goto (pc' := 116) dX9_does_112 rfl ?_
          refine q_istoren (pc' := 117) (L' := [(1, q_i 1), (0, q_r Γ 150)]) dX9_does_116 rfl rfl (by decide) rfl ?_
          refine q_iloadn (pc' := 118) 0 dX9_does_117 rfl rfl ?_
          refine q_if_eq (tgt := 224) (pc' := 121) dX9_does_118 rfl rfl (by decide) (fun qc_118_1 => absurd qc_118_1 (by decide)) (fun qc_118_1 => ?_)
          have hw := s_wAsk_0 (show s_wAsk (S 151) a c e f = 0 by omega)
          refine q_aloadn (pc' := 122) 1 dX9_does_121 rfl rfl ?_
          refine q_aloadn (pc' := 123) 1 dX9_does_122 rfl rfl ?_
          refine p_getJ (pc' := 126) (kz := 12) dX9_does_123 rfl fX9_228 kc150 rfl rfl (fun qy_123 eqy_123 rqy_123 => ?_)
          have vqy_123 : qy_123 = a := eqy_123.trans (by first | assumption | (simp [q_up]; done) | (simp [q_up]; assumption))
          rw [vqy_123]
          refine q_aloadn (pc' := 127) 1 dX9_does_126 rfl rfl ?_
          refine p_getJ (pc' := 130) (kz := 14) dX9_does_127 rfl fX9_213 kc150 rfl rfl (fun qy_127 eqy_127 rqy_127 => ?_)
          have vqy_127 : qy_127 = c := eqy_127.trans (by first | assumption | (simp [q_up]; done) | (simp [q_up]; assumption))
          rw [vqy_127]
          refine q_aloadn (pc' := 131) 1 dX9_does_130 rfl rfl ?_
          refine p_getJ (pc' := 134) (kz := 15) dX9_does_131 rfl fX9_219 kc150 rfl rfl (fun qy_131 eqy_131 rqy_131 => ?_)
          have vqy_131 : qy_131 = e := eqy_131.trans (by first | assumption | (simp [q_up]; done) | (simp [q_up]; assumption))
          rw [vqy_131]
          refine q_aloadn (pc' := 135) 1 dX9_does_134 rfl rfl ?_
          refine p_getJ (pc' := 138) (kz := 16) dX9_does_135 rfl fX9_222 kc150 rfl rfl (fun qy_135 eqy_135 rqy_135 => ?_)
          have vqy_135 : qy_135 = f := eqy_135.trans (by first | assumption | (simp [q_up]; done) | (simp [q_up]; assumption))
          rw [vqy_135]
          refine q_callVI (pc' := 141) dX9_does_138 rfl lX9_128 iX9_asked kc150 rfl (c_X9_asked (by first | assumption | omega) (by first | assumption | omega) (by first | assumption | omega) (by first | assumption | omega) (by first | assumption | omega) (by first | assumption | omega)) rfl rfl (Nat.le_of_ble_eq_true rfl) (Nat.le_of_ble_eq_true rfl) (Nat.le_of_ble_eq_true rfl) ?_
          refine q_pop (pc' := 142) dX9_does_141 rfl rfl ?_
          refine q_goto (pc' := 224) dX9_does_142 rfl ?_
          refine q_iloadn (pc' := 225) 0 dX9_does_224 rfl rfl ?_
          exact q_iret dX9_does_225 rfl rfl ⟨congrArg (fun v => some (q_i v)) (by unfold s_doV; omega), by ((try rw [q_up_w]); (try rw [s_asked_w]); (try rw [s_bought_w]); unfold s_doP; (repeat (first | rw [if_pos (by omega)] | rw [if_neg (by omega)])); first | done | rfl | exact congrArg (Prod.mk KC) q_w1_self.symm)⟩
    · have hw := hw9 (by omega)
      refine q_aloadn (pc' := 62) 1 dX9_does_61 rfl rfl ?_
      refine p_getR (pc' := 65) (f := 151) dX9_does_62 rfl fX9_7 kc150 rfl ?_
      refine q_iconst (pc' := 66) dX9_does_65 rfl ?_
      refine q_aloadn (pc' := 67) 1 dX9_does_66 rfl rfl ?_
      refine p_getJ (pc' := 70) (kz := 12) dX9_does_67 rfl fX9_228 kc150 rfl rfl (fun qy_67 eqy_67 rqy_67 => ?_)
      have vqy_67 : qy_67 = a := eqy_67.trans (by first | assumption | (simp [q_up]; done) | (simp [q_up]; assumption))
      rw [vqy_67]
      refine q_iadd (pc' := 71) dX9_does_70 rfl ?_
      refine q_aloadn (pc' := 72) 1 dX9_does_71 rfl rfl ?_
      refine p_getJ (pc' := 75) (kz := 13) dX9_does_72 rfl fX9_231 kc150 rfl rfl (fun qy_72 eqy_72 rqy_72 => ?_)
      have vqy_72 : qy_72 = b := eqy_72.trans (by first | assumption | (simp [q_up]; done) | (simp [q_up]; assumption))
      rw [vqy_72]
      refine p_iast (pc' := 76) dX9_does_75 rfl kc151 (by first | assumption | omega) (by first | assumption | omega) (by decide) (by first | assumption | omega) ?_
      refine q_goto (pc' := 224) dX9_does_76 rfl ?_
      refine q_iloadn (pc' := 225) 0 dX9_does_224 rfl rfl ?_
      exact q_iret dX9_does_225 rfl rfl ⟨congrArg (fun v => some (q_i v)) (by unfold s_doV; omega), by ((try rw [q_up_w]); (try rw [s_asked_w]); (try rw [s_bought_w]); unfold s_doP; (repeat (first | rw [if_pos (by omega)] | rw [if_neg (by omega)])); first | done | rfl | exact congrArg (Prod.mk KC) q_w1_self.symm)⟩
  · refine q_aloadn (pc' := 12) 1 dX9_does_11 rfl rfl ?_
    refine q_aloadn (pc' := 13) 1 dX9_does_12 rfl rfl ?_
    refine p_getJ (pc' := 16) (kz := 12) dX9_does_13 rfl fX9_228 kc150 rfl rfl (fun qy_13 eqy_13 rqy_13 => ?_)
    have vqy_13 : qy_13 = a := eqy_13.trans (by first | assumption | (simp [q_up]; done) | (simp [q_up]; assumption))
    rw [vqy_13]
    refine q_aloadn (pc' := 17) 1 dX9_does_16 rfl rfl ?_
    refine p_getJ (pc' := 20) (kz := 13) dX9_does_17 rfl fX9_231 kc150 rfl rfl (fun qy_17 eqy_17 rqy_17 => ?_)
    have vqy_17 : qy_17 = b := eqy_17.trans (by first | assumption | (simp [q_up]; done) | (simp [q_up]; assumption))
    rw [vqy_17]
    refine q_callVI (pc' := 23) dX9_does_20 rfl lX9_105 iX9_whyNotTilted kc150 rfl (c_X9_whyNotTilted (by first | assumption | omega) (by first | assumption | omega) (by first | assumption | omega)) rfl rfl (Nat.le_of_ble_eq_true rfl) (Nat.le_of_ble_eq_true rfl) (Nat.le_of_ble_eq_true rfl) ?_
    refine q_if_ne (tgt := 30) (pc' := 26) dX9_does_23 rfl rfl (by first | assumption | omega) (fun qc_23 => ?_) (fun qc_23 => ?_)
    · refine q_iconst (pc' := 31) dX9_does_30 rfl ?_
      refine q_istoren (pc' := 32) (L' := [(1, q_i 0), (0, q_r Γ 150)]) dX9_does_31 rfl rfl (by decide) rfl ?_
      refine q_iloadn (pc' := 33) 0 dX9_does_32 rfl rfl ?_
      refine q_if_eq (tgt := 224) (pc' := 36) dX9_does_33 rfl rfl (by decide) (fun qc_33 => ?_) (fun qc_33 => absurd qc_33 (by decide))
      refine q_iloadn (pc' := 225) 0 dX9_does_224 rfl rfl ?_
      exact q_iret dX9_does_225 rfl rfl ⟨congrArg (fun v => some (q_i v)) (by unfold s_doV; omega), by ((try rw [q_up_w]); (try rw [s_asked_w]); (try rw [s_bought_w]); unfold s_doP; (repeat (first | rw [if_pos (by omega)] | rw [if_neg (by omega)])); first | done | rfl | exact congrArg (Prod.mk KC) q_w1_self.symm)⟩
    · refine q_iconst (pc' := 27) dX9_does_26 rfl ?_
      refine q_goto (pc' := 31) dX9_does_27 rfl ?_
      refine q_istoren (pc' := 32) (L' := [(1, q_i 1), (0, q_r Γ 150)]) dX9_does_31 rfl rfl (by decide) rfl ?_
      refine q_iloadn (pc' := 33) 0 dX9_does_32 rfl rfl ?_
      refine q_if_eq (tgt := 224) (pc' := 36) dX9_does_33 rfl rfl (by decide) (fun qc_33_1 => absurd qc_33_1 (by decide)) (fun qc_33_1 => ?_)
      have hw := s_wTilt_0 (show s_wTilt (S 151) a b = 0 by omega)
      refine q_aloadn (pc' := 37) 1 dX9_does_36 rfl rfl ?_
      refine q_aloadn (pc' := 38) 1 dX9_does_37 rfl rfl ?_
      refine p_getJ (pc' := 41) (kz := 12) dX9_does_38 rfl fX9_228 kc150 rfl rfl (fun qy_38 eqy_38 rqy_38 => ?_)
      have vqy_38 : qy_38 = a := eqy_38.trans (by first | assumption | (simp [q_up]; done) | (simp [q_up]; assumption))
      rw [vqy_38]
      refine q_aloadn (pc' := 42) 1 dX9_does_41 rfl rfl ?_
      refine p_getJ (pc' := 45) (kz := 13) dX9_does_42 rfl fX9_231 kc150 rfl rfl (fun qy_42 eqy_42 rqy_42 => ?_)
      have vqy_42 : qy_42 = b := eqy_42.trans (by first | assumption | (simp [q_up]; done) | (simp [q_up]; assumption))
      rw [vqy_42]
      refine q_callVI (pc' := 48) dX9_does_45 rfl lX9_108 iX9_tilted kc150 rfl (c_X9_tilted (by first | assumption | omega) (by first | assumption | omega) (by first | assumption | omega)) rfl rfl (Nat.le_of_ble_eq_true rfl) (Nat.le_of_ble_eq_true rfl) (Nat.le_of_ble_eq_true rfl) ?_
      refine q_pop (pc' := 49) dX9_does_48 rfl rfl ?_
      refine q_goto (pc' := 224) dX9_does_49 rfl ?_
      refine q_iloadn (pc' := 225) 0 dX9_does_224 rfl rfl ?_
      exact q_iret dX9_does_225 rfl rfl ⟨congrArg (fun v => some (q_i v)) (by unfold s_doV; omega), by ((try rw [q_up_w]); (try rw [s_asked_w]); (try rw [s_bought_w]); unfold s_doP; (repeat (first | rw [if_pos (by omega)] | rw [if_neg (by omega)])); first | done | rfl | exact congrArg (Prod.mk KC) q_w1_self.symm)⟩
