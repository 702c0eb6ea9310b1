/-- the law under any name -/
abbrev mLn (nm : String) : q_M := (⟨RL, nm, ""⟩, cL_law, 4, some .boolean)
set_option maxHeartbeats 2000000 in
theorem c_law_144 {nm : String} {Γ : q_G} {S : q_S} {i : Int} (J : s_Jc S S) (hx : ∀ j, q_rg (q_xs Γ j)) (i0 : 0 ≤ i) (i1 : i + 6 ≤ (q_n Γ : Int)) (iN : (q_n Γ : Int) ≤ 3072) {Q : Option Value → q_W → Prop} (back : ∀ S2, s_Jc S2 S2 → q_Go Γ (mLn nm) 12 0 0 18 [(3, q_i (i + 6)), (2, q_r Γ 150), (1, q_r Γ 0), (0, .ref (q_ad Γ 3))] [] (KC, S2) Q) : q_Go Γ (mLn nm) 12 0 0 144 [(3, q_i i), (2, q_r Γ 150), (1, q_r Γ 0), (0, .ref (q_ad Γ 3))] [] (KC, S) Q := by
  have ok : s_ok (S 151) := J.F.2.1
  have h0 : 0 ≤ S 150 2 := J.nb.1
  have h6 : S 150 2 ≤ 6 := J.nb.2
  have hi : q_rg i := ⟨by omega, by omega⟩
  refine q_aloadn (pc' := 145) 2 dL_law_144 rfl rfl ?_
  refine q_aloadn (pc' := 146) 3 dL_law_145 rfl rfl ?_
  refine q_iloadn (pc' := 147) 0 dL_law_146 rfl rfl ?_
  refine q_iconst (pc' := 148) dL_law_147 rfl ?_
  refine q_iadd (pc' := 149) dL_law_148 rfl ?_
  refine q_tald (i := 3) (pc' := 150) dL_law_149 rfl (by decide) (by omega) (show _ < ((q_n Γ : Nat) : Int) by omega) (by omega) ?_
  refine q_aloadn (pc' := 151) 3 dL_law_150 rfl rfl ?_
  refine q_iloadn (pc' := 152) 0 dL_law_151 rfl rfl ?_
  refine q_iconst (pc' := 153) dL_law_152 rfl ?_
  refine q_iadd (pc' := 154) dL_law_153 rfl ?_
  refine q_tald (i := 3) (pc' := 155) dL_law_154 rfl (by decide) (by omega) (show _ < ((q_n Γ : Nat) : Int) by omega) (by omega) ?_
  refine q_aloadn (pc' := 156) 3 dL_law_155 rfl rfl ?_
  refine q_iloadn (pc' := 157) 0 dL_law_156 rfl rfl ?_
  refine q_iconst (pc' := 158) dL_law_157 rfl ?_
  refine q_iadd (pc' := 159) dL_law_158 rfl ?_
  refine q_tald (i := 3) (pc' := 160) dL_law_159 rfl (by decide) (by omega) (show _ < ((q_n Γ : Nat) : Int) by omega) (by omega) ?_
  refine q_callVQ (pc' := 163) dL_law_160 rfl lL_13 iX8_row kc0 rfl (c_X8_row J (hx _) (hx _) (hx _)) rfl rfl (Nat.le_of_ble_eq_true rfl) (Nat.le_of_ble_eq_true rfl) (Nat.le_of_ble_eq_true rfl) (fun v9 w9 h9 => ?_)
  obtain ⟨rfl, S1, rfl, J1, O1⟩ := h9
  show q_Go Γ (mLn nm) 12 0 0 163 [(3, q_i i), (2, q_r Γ 150), (1, q_r Γ 0), (0, .ref (q_ad Γ 3))] [q_i (s_rowV (S 151) (q_xs Γ (i + 1).toNat) (q_xs Γ (i + 2).toNat) (q_xs Γ (i + 3).toNat))] (KC, S1) Q
  have e51 : S1 151 = S 151 := O1 151 (by decide)
  have e50 : S1 150 = S 150 := O1 150 (by decide)
  have e54 : S1 154 = S 154 := O1 154 (by decide)
  have e53 : S1 153 = S 153 := O1 153 (by decide)
  have ok1 : s_ok (S1 151) := by rw [e51]; exact ok
  have g0 : 0 ≤ S1 150 2 := by rw [e50]; exact h0
  have g6 : S1 150 2 ≤ 6 := by rw [e50]; exact h6
  refine q_aloadn (pc' := 164) 1 dL_law_163 rfl rfl ?_
  refine q_aloadn (pc' := 165) 3 dL_law_164 rfl rfl ?_
  refine q_iloadn (pc' := 166) 0 dL_law_165 rfl rfl ?_
  refine q_iconst (pc' := 167) dL_law_166 rfl ?_
  refine q_iadd (pc' := 168) dL_law_167 rfl ?_
  refine q_tald (i := 3) (pc' := 169) dL_law_168 rfl (by decide) (by omega) (show _ < ((q_n Γ : Nat) : Int) by omega) (by omega) ?_
  refine q_aloadn (pc' := 170) 3 dL_law_169 rfl rfl ?_
  refine q_iloadn (pc' := 171) 0 dL_law_170 rfl rfl ?_
  refine q_iconst (pc' := 172) dL_law_171 rfl ?_
  refine q_iadd (pc' := 173) dL_law_172 rfl ?_
  refine q_tald (i := 3) (pc' := 174) dL_law_173 rfl (by decide) (by omega) (show _ < ((q_n Γ : Nat) : Int) by omega) (by omega) ?_
  refine q_aloadn (pc' := 175) 3 dL_law_174 rfl rfl ?_
  refine q_iloadn (pc' := 176) 0 dL_law_175 rfl rfl ?_
  refine q_iconst (pc' := 177) dL_law_176 rfl ?_
  refine q_iadd (pc' := 178) dL_law_177 rfl ?_
  refine q_tald (i := 3) (pc' := 179) dL_law_178 rfl (by decide) (by omega) (show _ < ((q_n Γ : Nat) : Int) by omega) (by omega) ?_
  refine q_callVI (pc' := 182) dL_law_179 rfl lL_17 iX9_row kc150 rfl (c_X9_row (S := S1) ok1 g0 g6 (hx _) (hx _) (hx _)) rfl rfl (Nat.le_of_ble_eq_true rfl) (Nat.le_of_ble_eq_true rfl) (Nat.le_of_ble_eq_true rfl) ?_
  show q_Go Γ (mLn nm) 12 0 0 182 [(3, q_i i), (2, q_r Γ 150), (1, q_r Γ 0), (0, .ref (q_ad Γ 3))] [q_i (s_rowV (S1 151) (q_xs Γ (i + 1).toNat) (q_xs Γ (i + 2).toNat) (q_xs Γ (i + 3).toNat)), q_i (s_rowV (S 151) (q_xs Γ (i + 1).toNat) (q_xs Γ (i + 2).toNat) (q_xs Γ (i + 3).toNat))] (KC, s_rowS S1 (q_xs Γ (i + 1).toNat) (q_xs Γ (i + 2).toNat) (q_xs Γ (i + 3).toNat)) Q
  have eV : s_rowV (S1 151) (q_xs Γ (i + 1).toNat) (q_xs Γ (i + 2).toNat) (q_xs Γ (i + 3).toNat) = s_rowV (S 151) (q_xs Γ (i + 1).toNat) (q_xs Γ (i + 2).toNat) (q_xs Γ (i + 3).toNat) := by rw [e51]
  rw [eV]
  refine q_icmp_s (tgt := 956) dL_law_182 rfl ?_
  refine q_iinc (pc' := 959) 0 (L' := [(3, q_i (i + 6)), (2, q_r Γ 150), (1, q_r Γ 0), (0, .ref (q_ad Γ 3))]) dL_law_956 rfl rfl (show _ < 4 by decide) rfl ?_
  refine q_goto (pc' := 18) dL_law_959 rfl ?_
  refine back _ ?_
  rw [s_mg_off O1, s_m_row ok]
  exact s_Jc_mg J1
set_option maxHeartbeats 2000000 in
theorem c_law_187 {nm : String} {Γ : q_G} {S : q_S} {i : Int} (J : s_Jc S S) (hx : ∀ j, q_rg (q_xs Γ j)) (i0 : 0 ≤ i) (i1 : i + 6 ≤ (q_n Γ : Int)) (iN : (q_n Γ : Int) ≤ 3072) {Q : Option Value → q_W → Prop} (back : ∀ S2, s_Jc S2 S2 → q_Go Γ (mLn nm) 12 0 0 18 [(3, q_i (i + 6)), (2, q_r Γ 150), (1, q_r Γ 0), (0, .ref (q_ad Γ 3))] [] (KC, S2) Q) : q_Go Γ (mLn nm) 12 0 0 187 [(3, q_i i), (2, q_r Γ 150), (1, q_r Γ 0), (0, .ref (q_ad Γ 3))] [] (KC, S) Q := by
  have ok : s_ok (S 151) := J.F.2.1
  have h0 : 0 ≤ S 150 2 := J.nb.1
  have h6 : S 150 2 ≤ 6 := J.nb.2
  have hi : q_rg i := ⟨by omega, by omega⟩
  refine q_aloadn (pc' := 188) 2 dL_law_187 rfl rfl ?_
  refine q_aloadn (pc' := 189) 3 dL_law_188 rfl rfl ?_
  refine q_iloadn (pc' := 190) 0 dL_law_189 rfl rfl ?_
  refine q_iconst (pc' := 191) dL_law_190 rfl ?_
  refine q_iadd (pc' := 192) dL_law_191 rfl ?_
  refine q_tald (i := 3) (pc' := 193) dL_law_192 rfl (by decide) (by omega) (show _ < ((q_n Γ : Nat) : Int) by omega) (by omega) ?_
  refine q_aloadn (pc' := 194) 3 dL_law_193 rfl rfl ?_
  refine q_iloadn (pc' := 195) 0 dL_law_194 rfl rfl ?_
  refine q_iconst (pc' := 196) dL_law_195 rfl ?_
  refine q_iadd (pc' := 197) dL_law_196 rfl ?_
  refine q_tald (i := 3) (pc' := 198) dL_law_197 rfl (by decide) (by omega) (show _ < ((q_n Γ : Nat) : Int) by omega) (by omega) ?_
  refine q_callVQ (pc' := 201) dL_law_198 rfl lL_18 iX8_tilt kc0 rfl (c_X8_tilt J (hx _) (hx _)) rfl rfl (Nat.le_of_ble_eq_true rfl) (Nat.le_of_ble_eq_true rfl) (Nat.le_of_ble_eq_true rfl) (fun v9 w9 h9 => ?_)
  obtain ⟨rfl, S1, rfl, J1, O1⟩ := h9
  show q_Go Γ (mLn nm) 12 0 0 201 [(3, q_i i), (2, q_r Γ 150), (1, q_r Γ 0), (0, .ref (q_ad Γ 3))] [q_i (s_tiltV (S 151) (q_xs Γ (i + 1).toNat) (q_xs Γ (i + 2).toNat))] (KC, S1) Q
  have e51 : S1 151 = S 151 := O1 151 (by decide)
  have e50 : S1 150 = S 150 := O1 150 (by decide)
  have e54 : S1 154 = S 154 := O1 154 (by decide)
  have e53 : S1 153 = S 153 := O1 153 (by decide)
  have ok1 : s_ok (S1 151) := by rw [e51]; exact ok
  have g0 : 0 ≤ S1 150 2 := by rw [e50]; exact h0
  have g6 : S1 150 2 ≤ 6 := by rw [e50]; exact h6
  refine q_aloadn (pc' := 202) 1 dL_law_201 rfl rfl ?_
  refine q_aloadn (pc' := 203) 3 dL_law_202 rfl rfl ?_
  refine q_iloadn (pc' := 204) 0 dL_law_203 rfl rfl ?_
  refine q_iconst (pc' := 205) dL_law_204 rfl ?_
  refine q_iadd (pc' := 206) dL_law_205 rfl ?_
  refine q_tald (i := 3) (pc' := 207) dL_law_206 rfl (by decide) (by omega) (show _ < ((q_n Γ : Nat) : Int) by omega) (by omega) ?_
  refine q_aloadn (pc' := 208) 3 dL_law_207 rfl rfl ?_
  refine q_iloadn (pc' := 209) 0 dL_law_208 rfl rfl ?_
  refine q_iconst (pc' := 210) dL_law_209 rfl ?_
  refine q_iadd (pc' := 211) dL_law_210 rfl ?_
  refine q_tald (i := 3) (pc' := 212) dL_law_211 rfl (by decide) (by omega) (show _ < ((q_n Γ : Nat) : Int) by omega) (by omega) ?_
  refine q_callVI (pc' := 215) dL_law_212 rfl lL_22 iX9_tilt kc150 rfl (c_X9_tilt (S := S1) ok1 g0 g6 (hx _) (hx _)) rfl rfl (Nat.le_of_ble_eq_true rfl) (Nat.le_of_ble_eq_true rfl) (Nat.le_of_ble_eq_true rfl) ?_
  show q_Go Γ (mLn nm) 12 0 0 215 [(3, q_i i), (2, q_r Γ 150), (1, q_r Γ 0), (0, .ref (q_ad Γ 3))] [q_i (s_tiltV (S1 151) (q_xs Γ (i + 1).toNat) (q_xs Γ (i + 2).toNat)), q_i (s_tiltV (S 151) (q_xs Γ (i + 1).toNat) (q_xs Γ (i + 2).toNat))] (KC, s_tiltS S1 (q_xs Γ (i + 1).toNat) (q_xs Γ (i + 2).toNat)) Q
  have eV : s_tiltV (S1 151) (q_xs Γ (i + 1).toNat) (q_xs Γ (i + 2).toNat) = s_tiltV (S 151) (q_xs Γ (i + 1).toNat) (q_xs Γ (i + 2).toNat) := by rw [e51]
  rw [eV]
  refine q_icmp_s (tgt := 956) dL_law_215 rfl ?_
  refine q_iinc (pc' := 959) 0 (L' := [(3, q_i (i + 6)), (2, q_r Γ 150), (1, q_r Γ 0), (0, .ref (q_ad Γ 3))]) dL_law_956 rfl rfl (show _ < 4 by decide) rfl ?_
  refine q_goto (pc' := 18) dL_law_959 rfl ?_
  refine back _ ?_
  rw [s_mg_off O1, s_m_tilt ok]
  exact s_Jc_mg J1
set_option maxHeartbeats 2000000 in
theorem c_law_220 {nm : String} {Γ : q_G} {S : q_S} {i : Int} (J : s_Jc S S) (hx : ∀ j, q_rg (q_xs Γ j)) (i0 : 0 ≤ i) (i1 : i + 6 ≤ (q_n Γ : Int)) (iN : (q_n Γ : Int) ≤ 3072) {Q : Option Value → q_W → Prop} (back : ∀ S2, s_Jc S2 S2 → q_Go Γ (mLn nm) 12 0 0 18 [(3, q_i (i + 6)), (2, q_r Γ 150), (1, q_r Γ 0), (0, .ref (q_ad Γ 3))] [] (KC, S2) Q) : q_Go Γ (mLn nm) 12 0 0 220 [(3, q_i i), (2, q_r Γ 150), (1, q_r Γ 0), (0, .ref (q_ad Γ 3))] [] (KC, S) Q := by
  have ok : s_ok (S 151) := J.F.2.1
  have h0 : 0 ≤ S 150 2 := J.nb.1
  have h6 : S 150 2 ≤ 6 := J.nb.2
  have hi : q_rg i := ⟨by omega, by omega⟩
  refine q_aloadn (pc' := 221) 2 dL_law_220 rfl rfl ?_
  refine q_aloadn (pc' := 222) 3 dL_law_221 rfl rfl ?_
  refine q_iloadn (pc' := 223) 0 dL_law_222 rfl rfl ?_
  refine q_iconst (pc' := 224) dL_law_223 rfl ?_
  refine q_iadd (pc' := 225) dL_law_224 rfl ?_
  refine q_tald (i := 3) (pc' := 226) dL_law_225 rfl (by decide) (by omega) (show _ < ((q_n Γ : Nat) : Int) by omega) (by omega) ?_
  refine q_aloadn (pc' := 227) 3 dL_law_226 rfl rfl ?_
  refine q_iloadn (pc' := 228) 0 dL_law_227 rfl rfl ?_
  refine q_iconst (pc' := 229) dL_law_228 rfl ?_
  refine q_iadd (pc' := 230) dL_law_229 rfl ?_
  refine q_tald (i := 3) (pc' := 231) dL_law_230 rfl (by decide) (by omega) (show _ < ((q_n Γ : Nat) : Int) by omega) (by omega) ?_
  refine q_callVQ (pc' := 234) dL_law_231 rfl lL_23 iX8_wind kc0 rfl (c_X8_wind J (hx _) (hx _)) rfl rfl (Nat.le_of_ble_eq_true rfl) (Nat.le_of_ble_eq_true rfl) (Nat.le_of_ble_eq_true rfl) (fun v9 w9 h9 => ?_)
  obtain ⟨rfl, S1, rfl, J1, O1⟩ := h9
  show q_Go Γ (mLn nm) 12 0 0 234 [(3, q_i i), (2, q_r Γ 150), (1, q_r Γ 0), (0, .ref (q_ad Γ 3))] [q_i (s_windV (S 151) (q_xs Γ (i + 1).toNat) (q_xs Γ (i + 2).toNat))] (KC, S1) Q
  have e51 : S1 151 = S 151 := O1 151 (by decide)
  have e50 : S1 150 = S 150 := O1 150 (by decide)
  have e54 : S1 154 = S 154 := O1 154 (by decide)
  have e53 : S1 153 = S 153 := O1 153 (by decide)
  have ok1 : s_ok (S1 151) := by rw [e51]; exact ok
  have g0 : 0 ≤ S1 150 2 := by rw [e50]; exact h0
  have g6 : S1 150 2 ≤ 6 := by rw [e50]; exact h6
  refine q_aloadn (pc' := 235) 1 dL_law_234 rfl rfl ?_
  refine q_aloadn (pc' := 236) 3 dL_law_235 rfl rfl ?_
  refine q_iloadn (pc' := 237) 0 dL_law_236 rfl rfl ?_
  refine q_iconst (pc' := 238) dL_law_237 rfl ?_
  refine q_iadd (pc' := 239) dL_law_238 rfl ?_
  refine q_tald (i := 3) (pc' := 240) dL_law_239 rfl (by decide) (by omega) (show _ < ((q_n Γ : Nat) : Int) by omega) (by omega) ?_
  refine q_aloadn (pc' := 241) 3 dL_law_240 rfl rfl ?_
  refine q_iloadn (pc' := 242) 0 dL_law_241 rfl rfl ?_
  refine q_iconst (pc' := 243) dL_law_242 rfl ?_
  refine q_iadd (pc' := 244) dL_law_243 rfl ?_
  refine q_tald (i := 3) (pc' := 245) dL_law_244 rfl (by decide) (by omega) (show _ < ((q_n Γ : Nat) : Int) by omega) (by omega) ?_
  refine q_callVI (pc' := 248) dL_law_245 rfl lL_26 iX9_wind kc150 rfl (c_X9_wind (S := S1) ok1 g0 g6 (hx _) (hx _)) rfl rfl (Nat.le_of_ble_eq_true rfl) (Nat.le_of_ble_eq_true rfl) (Nat.le_of_ble_eq_true rfl) ?_
  show q_Go Γ (mLn nm) 12 0 0 248 [(3, q_i i), (2, q_r Γ 150), (1, q_r Γ 0), (0, .ref (q_ad Γ 3))] [q_i (s_windV (S1 151) (q_xs Γ (i + 1).toNat) (q_xs Γ (i + 2).toNat)), q_i (s_windV (S 151) (q_xs Γ (i + 1).toNat) (q_xs Γ (i + 2).toNat))] (KC, s_windS S1 (q_xs Γ (i + 1).toNat) (q_xs Γ (i + 2).toNat)) Q
  have eV : s_windV (S1 151) (q_xs Γ (i + 1).toNat) (q_xs Γ (i + 2).toNat) = s_windV (S 151) (q_xs Γ (i + 1).toNat) (q_xs Γ (i + 2).toNat) := by rw [e51]
  rw [eV]
  refine q_icmp_s (tgt := 956) dL_law_248 rfl ?_
  refine q_iinc (pc' := 959) 0 (L' := [(3, q_i (i + 6)), (2, q_r Γ 150), (1, q_r Γ 0), (0, .ref (q_ad Γ 3))]) dL_law_956 rfl rfl (show _ < 4 by decide) rfl ?_
  refine q_goto (pc' := 18) dL_law_959 rfl ?_
  refine back _ ?_
  rw [s_mg_off O1, s_m_wind ok]
  exact s_Jc_mg J1
set_option maxHeartbeats 2000000 in
theorem c_law_253 {nm : String} {Γ : q_G} {S : q_S} {i : Int} (J : s_Jc S S) (hx : ∀ j, q_rg (q_xs Γ j)) (i0 : 0 ≤ i) (i1 : i + 6 ≤ (q_n Γ : Int)) (iN : (q_n Γ : Int) ≤ 3072) {Q : Option Value → q_W → Prop} (back : ∀ S2, s_Jc S2 S2 → q_Go Γ (mLn nm) 12 0 0 18 [(3, q_i (i + 6)), (2, q_r Γ 150), (1, q_r Γ 0), (0, .ref (q_ad Γ 3))] [] (KC, S2) Q) : q_Go Γ (mLn nm) 12 0 0 253 [(3, q_i i), (2, q_r Γ 150), (1, q_r Γ 0), (0, .ref (q_ad Γ 3))] [] (KC, S) Q := by
  have ok : s_ok (S 151) := J.F.2.1
  have h0 : 0 ≤ S 150 2 := J.nb.1
  have h6 : S 150 2 ≤ 6 := J.nb.2
  have hi : q_rg i := ⟨by omega, by omega⟩
  refine q_aloadn (pc' := 254) 2 dL_law_253 rfl rfl ?_
  refine q_aloadn (pc' := 255) 3 dL_law_254 rfl rfl ?_
  refine q_iloadn (pc' := 256) 0 dL_law_255 rfl rfl ?_
  refine q_iconst (pc' := 257) dL_law_256 rfl ?_
  refine q_iadd (pc' := 258) dL_law_257 rfl ?_
  refine q_tald (i := 3) (pc' := 259) dL_law_258 rfl (by decide) (by omega) (show _ < ((q_n Γ : Nat) : Int) by omega) (by omega) ?_
  refine q_callVQ (pc' := 262) dL_law_259 rfl lL_27 iX8_stow kc0 rfl (c_X8_stow J (hx _)) rfl rfl (Nat.le_of_ble_eq_true rfl) (Nat.le_of_ble_eq_true rfl) (Nat.le_of_ble_eq_true rfl) (fun v9 w9 h9 => ?_)
  obtain ⟨rfl, S1, rfl, J1, O1⟩ := h9
  show q_Go Γ (mLn nm) 12 0 0 262 [(3, q_i i), (2, q_r Γ 150), (1, q_r Γ 0), (0, .ref (q_ad Γ 3))] [q_i (s_stowV (S 151) (q_xs Γ (i + 1).toNat))] (KC, S1) Q
  have e51 : S1 151 = S 151 := O1 151 (by decide)
  have e50 : S1 150 = S 150 := O1 150 (by decide)
  have e54 : S1 154 = S 154 := O1 154 (by decide)
  have e53 : S1 153 = S 153 := O1 153 (by decide)
  have ok1 : s_ok (S1 151) := by rw [e51]; exact ok
  have g0 : 0 ≤ S1 150 2 := by rw [e50]; exact h0
  have g6 : S1 150 2 ≤ 6 := by rw [e50]; exact h6
  refine q_aloadn (pc' := 263) 1 dL_law_262 rfl rfl ?_
  refine q_aloadn (pc' := 264) 3 dL_law_263 rfl rfl ?_
  refine q_iloadn (pc' := 265) 0 dL_law_264 rfl rfl ?_
  refine q_iconst (pc' := 266) dL_law_265 rfl ?_
  refine q_iadd (pc' := 267) dL_law_266 rfl ?_
  refine q_tald (i := 3) (pc' := 268) dL_law_267 rfl (by decide) (by omega) (show _ < ((q_n Γ : Nat) : Int) by omega) (by omega) ?_
  refine q_callVI (pc' := 271) dL_law_268 rfl lL_31 iX9_stow kc150 rfl (c_X9_stow (S := S1) ok1 g0 g6 (hx _)) rfl rfl (Nat.le_of_ble_eq_true rfl) (Nat.le_of_ble_eq_true rfl) (Nat.le_of_ble_eq_true rfl) ?_
  show q_Go Γ (mLn nm) 12 0 0 271 [(3, q_i i), (2, q_r Γ 150), (1, q_r Γ 0), (0, .ref (q_ad Γ 3))] [q_i (s_stowV (S1 151) (q_xs Γ (i + 1).toNat)), q_i (s_stowV (S 151) (q_xs Γ (i + 1).toNat))] (KC, s_stowS S1 (q_xs Γ (i + 1).toNat)) Q
  have eV : s_stowV (S1 151) (q_xs Γ (i + 1).toNat) = s_stowV (S 151) (q_xs Γ (i + 1).toNat) := by rw [e51]
  rw [eV]
  refine q_icmp_s (tgt := 956) dL_law_271 rfl ?_
  refine q_iinc (pc' := 959) 0 (L' := [(3, q_i (i + 6)), (2, q_r Γ 150), (1, q_r Γ 0), (0, .ref (q_ad Γ 3))]) dL_law_956 rfl rfl (show _ < 4 by decide) rfl ?_
  refine q_goto (pc' := 18) dL_law_959 rfl ?_
  refine back _ ?_
  rw [s_mg_off O1, s_m_stow ok]
  exact s_Jc_mg J1
set_option maxHeartbeats 2000000 in
theorem c_law_276 {nm : String} {Γ : q_G} {S : q_S} {i : Int} (J : s_Jc S S) (hx : ∀ j, q_rg (q_xs Γ j)) (i0 : 0 ≤ i) (i1 : i + 6 ≤ (q_n Γ : Int)) (iN : (q_n Γ : Int) ≤ 3072) {Q : Option Value → q_W → Prop} (back : ∀ S2, s_Jc S2 S2 → q_Go Γ (mLn nm) 12 0 0 18 [(3, q_i (i + 6)), (2, q_r Γ 150), (1, q_r Γ 0), (0, .ref (q_ad Γ 3))] [] (KC, S2) Q) : q_Go Γ (mLn nm) 12 0 0 276 [(3, q_i i), (2, q_r Γ 150), (1, q_r Γ 0), (0, .ref (q_ad Γ 3))] [] (KC, S) Q := by
  have ok : s_ok (S 151) := J.F.2.1
  have h0 : 0 ≤ S 150 2 := J.nb.1
  have h6 : S 150 2 ≤ 6 := J.nb.2
  have hi : q_rg i := ⟨by omega, by omega⟩
  refine q_aloadn (pc' := 277) 2 dL_law_276 rfl rfl ?_
  refine q_aloadn (pc' := 278) 3 dL_law_277 rfl rfl ?_
  refine q_iloadn (pc' := 279) 0 dL_law_278 rfl rfl ?_
  refine q_iconst (pc' := 280) dL_law_279 rfl ?_
  refine q_iadd (pc' := 281) dL_law_280 rfl ?_
  refine q_tald (i := 3) (pc' := 282) dL_law_281 rfl (by decide) (by omega) (show _ < ((q_n Γ : Nat) : Int) by omega) (by omega) ?_
  refine q_aloadn (pc' := 283) 3 dL_law_282 rfl rfl ?_
  refine q_iloadn (pc' := 284) 0 dL_law_283 rfl rfl ?_
  refine q_iconst (pc' := 285) dL_law_284 rfl ?_
  refine q_iadd (pc' := 286) dL_law_285 rfl ?_
  refine q_tald (i := 3) (pc' := 287) dL_law_286 rfl (by decide) (by omega) (show _ < ((q_n Γ : Nat) : Int) by omega) (by omega) ?_
  refine q_aloadn (pc' := 288) 3 dL_law_287 rfl rfl ?_
  refine q_iloadn (pc' := 289) 0 dL_law_288 rfl rfl ?_
  refine q_iconst (pc' := 290) dL_law_289 rfl ?_
  refine q_iadd (pc' := 291) dL_law_290 rfl ?_
  refine q_tald (i := 3) (pc' := 292) dL_law_291 rfl (by decide) (by omega) (show _ < ((q_n Γ : Nat) : Int) by omega) (by omega) ?_
  refine q_aloadn (pc' := 293) 3 dL_law_292 rfl rfl ?_
  refine q_iloadn (pc' := 294) 0 dL_law_293 rfl rfl ?_
  refine q_iconst (pc' := 295) dL_law_294 rfl ?_
  refine q_iadd (pc' := 296) dL_law_295 rfl ?_
  refine q_tald (i := 3) (pc' := 297) dL_law_296 rfl (by decide) (by omega) (show _ < ((q_n Γ : Nat) : Int) by omega) (by omega) ?_
  refine q_callVQ (pc' := 300) dL_law_297 rfl lL_32 iX8_grant kc0 rfl (c_X8_grant J (hx _) (hx _) (hx _) (hx _)) rfl rfl (Nat.le_of_ble_eq_true rfl) (Nat.le_of_ble_eq_true rfl) (Nat.le_of_ble_eq_true rfl) (fun v9 w9 h9 => ?_)
  obtain ⟨rfl, S1, rfl, J1, O1⟩ := h9
  show q_Go Γ (mLn nm) 12 0 0 300 [(3, q_i i), (2, q_r Γ 150), (1, q_r Γ 0), (0, .ref (q_ad Γ 3))] [q_i (s_grantV (S 151) (q_xs Γ (i + 1).toNat) (q_xs Γ (i + 2).toNat) (q_xs Γ (i + 3).toNat) (q_xs Γ (i + 4).toNat))] (KC, S1) Q
  have e51 : S1 151 = S 151 := O1 151 (by decide)
  have e50 : S1 150 = S 150 := O1 150 (by decide)
  have e54 : S1 154 = S 154 := O1 154 (by decide)
  have e53 : S1 153 = S 153 := O1 153 (by decide)
  have ok1 : s_ok (S1 151) := by rw [e51]; exact ok
  have g0 : 0 ≤ S1 150 2 := by rw [e50]; exact h0
  have g6 : S1 150 2 ≤ 6 := by rw [e50]; exact h6
  refine q_aloadn (pc' := 301) 1 dL_law_300 rfl rfl ?_
  refine q_aloadn (pc' := 302) 3 dL_law_301 rfl rfl ?_
  refine q_iloadn (pc' := 303) 0 dL_law_302 rfl rfl ?_
  refine q_iconst (pc' := 304) dL_law_303 rfl ?_
  refine q_iadd (pc' := 305) dL_law_304 rfl ?_
  refine q_tald (i := 3) (pc' := 306) dL_law_305 rfl (by decide) (by omega) (show _ < ((q_n Γ : Nat) : Int) by omega) (by omega) ?_
  refine q_aloadn (pc' := 307) 3 dL_law_306 rfl rfl ?_
  refine q_iloadn (pc' := 308) 0 dL_law_307 rfl rfl ?_
  refine q_iconst (pc' := 309) dL_law_308 rfl ?_
  refine q_iadd (pc' := 310) dL_law_309 rfl ?_
  refine q_tald (i := 3) (pc' := 311) dL_law_310 rfl (by decide) (by omega) (show _ < ((q_n Γ : Nat) : Int) by omega) (by omega) ?_
  refine q_aloadn (pc' := 312) 3 dL_law_311 rfl rfl ?_
  refine q_iloadn (pc' := 313) 0 dL_law_312 rfl rfl ?_
  refine q_iconst (pc' := 314) dL_law_313 rfl ?_
  refine q_iadd (pc' := 315) dL_law_314 rfl ?_
  refine q_tald (i := 3) (pc' := 316) dL_law_315 rfl (by decide) (by omega) (show _ < ((q_n Γ : Nat) : Int) by omega) (by omega) ?_
  refine q_aloadn (pc' := 317) 3 dL_law_316 rfl rfl ?_
  refine q_iloadn (pc' := 318) 0 dL_law_317 rfl rfl ?_
  refine q_iconst (pc' := 319) dL_law_318 rfl ?_
  refine q_iadd (pc' := 320) dL_law_319 rfl ?_
  refine q_tald (i := 3) (pc' := 321) dL_law_320 rfl (by decide) (by omega) (show _ < ((q_n Γ : Nat) : Int) by omega) (by omega) ?_
  refine q_callVI (pc' := 324) dL_law_321 rfl lL_36 iX9_grant kc150 rfl (c_X9_grant (S := S1) ok1 g0 g6 (hx _) (hx _) (hx _) (hx _)) rfl rfl (Nat.le_of_ble_eq_true rfl) (Nat.le_of_ble_eq_true rfl) (Nat.le_of_ble_eq_true rfl) ?_
  show q_Go Γ (mLn nm) 12 0 0 324 [(3, q_i i), (2, q_r Γ 150), (1, q_r Γ 0), (0, .ref (q_ad Γ 3))] [q_i (s_grantV (S1 151) (q_xs Γ (i + 1).toNat) (q_xs Γ (i + 2).toNat) (q_xs Γ (i + 3).toNat) (q_xs Γ (i + 4).toNat)), q_i (s_grantV (S 151) (q_xs Γ (i + 1).toNat) (q_xs Γ (i + 2).toNat) (q_xs Γ (i + 3).toNat) (q_xs Γ (i + 4).toNat))] (KC, s_grantS S1 (q_xs Γ (i + 1).toNat) (q_xs Γ (i + 2).toNat) (q_xs Γ (i + 3).toNat) (q_xs Γ (i + 4).toNat)) Q
  have eV : s_grantV (S1 151) (q_xs Γ (i + 1).toNat) (q_xs Γ (i + 2).toNat) (q_xs Γ (i + 3).toNat) (q_xs Γ (i + 4).toNat) = s_grantV (S 151) (q_xs Γ (i + 1).toNat) (q_xs Γ (i + 2).toNat) (q_xs Γ (i + 3).toNat) (q_xs Γ (i + 4).toNat) := by rw [e51]
  rw [eV]
  refine q_icmp_s (tgt := 956) dL_law_324 rfl ?_
  refine q_iinc (pc' := 959) 0 (L' := [(3, q_i (i + 6)), (2, q_r Γ 150), (1, q_r Γ 0), (0, .ref (q_ad Γ 3))]) dL_law_956 rfl rfl (show _ < 4 by decide) rfl ?_
  refine q_goto (pc' := 18) dL_law_959 rfl ?_
  refine back _ ?_
  rw [s_mg_off O1, s_m_grant ok]
  exact s_Jc_mg J1
set_option maxHeartbeats 2000000 in
theorem c_law_329 {nm : String} {Γ : q_G} {S : q_S} {i : Int} (J : s_Jc S S) (hx : ∀ j, q_rg (q_xs Γ j)) (i0 : 0 ≤ i) (i1 : i + 6 ≤ (q_n Γ : Int)) (iN : (q_n Γ : Int) ≤ 3072) {Q : Option Value → q_W → Prop} (back : ∀ S2, s_Jc S2 S2 → q_Go Γ (mLn nm) 12 0 0 18 [(3, q_i (i + 6)), (2, q_r Γ 150), (1, q_r Γ 0), (0, .ref (q_ad Γ 3))] [] (KC, S2) Q) : q_Go Γ (mLn nm) 12 0 0 329 [(3, q_i i), (2, q_r Γ 150), (1, q_r Γ 0), (0, .ref (q_ad Γ 3))] [] (KC, S) Q := by
  have ok : s_ok (S 151) := J.F.2.1
  have h0 : 0 ≤ S 150 2 := J.nb.1
  have h6 : S 150 2 ≤ 6 := J.nb.2
  have hi : q_rg i := ⟨by omega, by omega⟩
  refine q_aloadn (pc' := 330) 2 dL_law_329 rfl rfl ?_
  refine q_aloadn (pc' := 331) 3 dL_law_330 rfl rfl ?_
  refine q_iloadn (pc' := 332) 0 dL_law_331 rfl rfl ?_
  refine q_iconst (pc' := 333) dL_law_332 rfl ?_
  refine q_iadd (pc' := 334) dL_law_333 rfl ?_
  refine q_tald (i := 3) (pc' := 335) dL_law_334 rfl (by decide) (by omega) (show _ < ((q_n Γ : Nat) : Int) by omega) (by omega) ?_
  refine q_aloadn (pc' := 336) 3 dL_law_335 rfl rfl ?_
  refine q_iloadn (pc' := 337) 0 dL_law_336 rfl rfl ?_
  refine q_iconst (pc' := 338) dL_law_337 rfl ?_
  refine q_iadd (pc' := 339) dL_law_338 rfl ?_
  refine q_tald (i := 3) (pc' := 340) dL_law_339 rfl (by decide) (by omega) (show _ < ((q_n Γ : Nat) : Int) by omega) (by omega) ?_
  refine q_aloadn (pc' := 341) 3 dL_law_340 rfl rfl ?_
  refine q_iloadn (pc' := 342) 0 dL_law_341 rfl rfl ?_
  refine q_iconst (pc' := 343) dL_law_342 rfl ?_
  refine q_iadd (pc' := 344) dL_law_343 rfl ?_
  refine q_tald (i := 3) (pc' := 345) dL_law_344 rfl (by decide) (by omega) (show _ < ((q_n Γ : Nat) : Int) by omega) (by omega) ?_
  refine q_aloadn (pc' := 346) 3 dL_law_345 rfl rfl ?_
  refine q_iloadn (pc' := 347) 0 dL_law_346 rfl rfl ?_
  refine q_iconst (pc' := 348) dL_law_347 rfl ?_
  refine q_iadd (pc' := 349) dL_law_348 rfl ?_
  refine q_tald (i := 3) (pc' := 350) dL_law_349 rfl (by decide) (by omega) (show _ < ((q_n Γ : Nat) : Int) by omega) (by omega) ?_
  refine q_callVQ (pc' := 353) dL_law_350 rfl lL_37 iX8_ask kc0 rfl (c_X8_ask J (hx _) (hx _) (hx _) (hx _)) rfl rfl (Nat.le_of_ble_eq_true rfl) (Nat.le_of_ble_eq_true rfl) (Nat.le_of_ble_eq_true rfl) (fun v9 w9 h9 => ?_)
  obtain ⟨rfl, S1, rfl, J1, O1⟩ := h9
  show q_Go Γ (mLn nm) 12 0 0 353 [(3, q_i i), (2, q_r Γ 150), (1, q_r Γ 0), (0, .ref (q_ad Γ 3))] [q_i (s_askV (S 151) (q_xs Γ (i + 1).toNat) (q_xs Γ (i + 2).toNat) (q_xs Γ (i + 3).toNat) (q_xs Γ (i + 4).toNat))] (KC, S1) Q
  have e51 : S1 151 = S 151 := O1 151 (by decide)
  have e50 : S1 150 = S 150 := O1 150 (by decide)
  have e54 : S1 154 = S 154 := O1 154 (by decide)
  have e53 : S1 153 = S 153 := O1 153 (by decide)
  have ok1 : s_ok (S1 151) := by rw [e51]; exact ok
  have g0 : 0 ≤ S1 150 2 := by rw [e50]; exact h0
  have g6 : S1 150 2 ≤ 6 := by rw [e50]; exact h6
  refine q_aloadn (pc' := 354) 1 dL_law_353 rfl rfl ?_
  refine q_aloadn (pc' := 355) 3 dL_law_354 rfl rfl ?_
  refine q_iloadn (pc' := 356) 0 dL_law_355 rfl rfl ?_
  refine q_iconst (pc' := 357) dL_law_356 rfl ?_
  refine q_iadd (pc' := 358) dL_law_357 rfl ?_
  refine q_tald (i := 3) (pc' := 359) dL_law_358 rfl (by decide) (by omega) (show _ < ((q_n Γ : Nat) : Int) by omega) (by omega) ?_
  refine q_aloadn (pc' := 360) 3 dL_law_359 rfl rfl ?_
  refine q_iloadn (pc' := 361) 0 dL_law_360 rfl rfl ?_
  refine q_iconst (pc' := 362) dL_law_361 rfl ?_
  refine q_iadd (pc' := 363) dL_law_362 rfl ?_
  refine q_tald (i := 3) (pc' := 364) dL_law_363 rfl (by decide) (by omega) (show _ < ((q_n Γ : Nat) : Int) by omega) (by omega) ?_
  refine q_aloadn (pc' := 365) 3 dL_law_364 rfl rfl ?_
  refine q_iloadn (pc' := 366) 0 dL_law_365 rfl rfl ?_
  refine q_iconst (pc' := 367) dL_law_366 rfl ?_
  refine q_iadd (pc' := 368) dL_law_367 rfl ?_
  refine q_tald (i := 3) (pc' := 369) dL_law_368 rfl (by decide) (by omega) (show _ < ((q_n Γ : Nat) : Int) by omega) (by omega) ?_
  refine q_aloadn (pc' := 370) 3 dL_law_369 rfl rfl ?_
  refine q_iloadn (pc' := 371) 0 dL_law_370 rfl rfl ?_
  refine q_iconst (pc' := 372) dL_law_371 rfl ?_
  refine q_iadd (pc' := 373) dL_law_372 rfl ?_
  refine q_tald (i := 3) (pc' := 374) dL_law_373 rfl (by decide) (by omega) (show _ < ((q_n Γ : Nat) : Int) by omega) (by omega) ?_
  refine q_callVI (pc' := 377) dL_law_374 rfl lL_40 iX9_ask kc150 rfl (c_X9_ask (S := S1) ok1 g0 g6 (hx _) (hx _) (hx _) (hx _)) rfl rfl (Nat.le_of_ble_eq_true rfl) (Nat.le_of_ble_eq_true rfl) (Nat.le_of_ble_eq_true rfl) ?_
  show q_Go Γ (mLn nm) 12 0 0 377 [(3, q_i i), (2, q_r Γ 150), (1, q_r Γ 0), (0, .ref (q_ad Γ 3))] [q_i (s_askV (S1 151) (q_xs Γ (i + 1).toNat) (q_xs Γ (i + 2).toNat) (q_xs Γ (i + 3).toNat) (q_xs Γ (i + 4).toNat)), q_i (s_askV (S 151) (q_xs Γ (i + 1).toNat) (q_xs Γ (i + 2).toNat) (q_xs Γ (i + 3).toNat) (q_xs Γ (i + 4).toNat))] (KC, s_askS S1 (q_xs Γ (i + 1).toNat) (q_xs Γ (i + 2).toNat) (q_xs Γ (i + 3).toNat) (q_xs Γ (i + 4).toNat)) Q
  have eV : s_askV (S1 151) (q_xs Γ (i + 1).toNat) (q_xs Γ (i + 2).toNat) (q_xs Γ (i + 3).toNat) (q_xs Γ (i + 4).toNat) = s_askV (S 151) (q_xs Γ (i + 1).toNat) (q_xs Γ (i + 2).toNat) (q_xs Γ (i + 3).toNat) (q_xs Γ (i + 4).toNat) := by rw [e51]
  rw [eV]
  refine q_icmp_s (tgt := 956) dL_law_377 rfl ?_
  refine q_iinc (pc' := 959) 0 (L' := [(3, q_i (i + 6)), (2, q_r Γ 150), (1, q_r Γ 0), (0, .ref (q_ad Γ 3))]) dL_law_956 rfl rfl (show _ < 4 by decide) rfl ?_
  refine q_goto (pc' := 18) dL_law_959 rfl ?_
  refine back _ ?_
  rw [s_mg_off O1, s_m_ask ok]
  exact s_Jc_mg J1
set_option maxHeartbeats 2000000 in
theorem c_law_382 {nm : String} {Γ : q_G} {S : q_S} {i : Int} (J : s_Jc S S) (hx : ∀ j, q_rg (q_xs Γ j)) (i0 : 0 ≤ i) (i1 : i + 6 ≤ (q_n Γ : Int)) (iN : (q_n Γ : Int) ≤ 3072) {Q : Option Value → q_W → Prop} (back : ∀ S2, s_Jc S2 S2 → q_Go Γ (mLn nm) 12 0 0 18 [(3, q_i (i + 6)), (2, q_r Γ 150), (1, q_r Γ 0), (0, .ref (q_ad Γ 3))] [] (KC, S2) Q) : q_Go Γ (mLn nm) 12 0 0 382 [(3, q_i i), (2, q_r Γ 150), (1, q_r Γ 0), (0, .ref (q_ad Γ 3))] [] (KC, S) Q := by
  have ok : s_ok (S 151) := J.F.2.1
  have h0 : 0 ≤ S 150 2 := J.nb.1
  have h6 : S 150 2 ≤ 6 := J.nb.2
  have hi : q_rg i := ⟨by omega, by omega⟩
  refine q_aloadn (pc' := 383) 2 dL_law_382 rfl rfl ?_
  refine q_aloadn (pc' := 384) 3 dL_law_383 rfl rfl ?_
  refine q_iloadn (pc' := 385) 0 dL_law_384 rfl rfl ?_
  refine q_iconst (pc' := 386) dL_law_385 rfl ?_
  refine q_iadd (pc' := 387) dL_law_386 rfl ?_
  refine q_tald (i := 3) (pc' := 388) dL_law_387 rfl (by decide) (by omega) (show _ < ((q_n Γ : Nat) : Int) by omega) (by omega) ?_
  refine q_aloadn (pc' := 389) 3 dL_law_388 rfl rfl ?_
  refine q_iloadn (pc' := 390) 0 dL_law_389 rfl rfl ?_
  refine q_iconst (pc' := 391) dL_law_390 rfl ?_
  refine q_iadd (pc' := 392) dL_law_391 rfl ?_
  refine q_tald (i := 3) (pc' := 393) dL_law_392 rfl (by decide) (by omega) (show _ < ((q_n Γ : Nat) : Int) by omega) (by omega) ?_
  refine q_aloadn (pc' := 394) 3 dL_law_393 rfl rfl ?_
  refine q_iloadn (pc' := 395) 0 dL_law_394 rfl rfl ?_
  refine q_iconst (pc' := 396) dL_law_395 rfl ?_
  refine q_iadd (pc' := 397) dL_law_396 rfl ?_
  refine q_tald (i := 3) (pc' := 398) dL_law_397 rfl (by decide) (by omega) (show _ < ((q_n Γ : Nat) : Int) by omega) (by omega) ?_
  refine q_aloadn (pc' := 399) 3 dL_law_398 rfl rfl ?_
  refine q_iloadn (pc' := 400) 0 dL_law_399 rfl rfl ?_
  refine q_iconst (pc' := 401) dL_law_400 rfl ?_
  refine q_iadd (pc' := 402) dL_law_401 rfl ?_
  refine q_tald (i := 3) (pc' := 403) dL_law_402 rfl (by decide) (by omega) (show _ < ((q_n Γ : Nat) : Int) by omega) (by omega) ?_
  refine q_aloadn (pc' := 404) 3 dL_law_403 rfl rfl ?_
  refine q_iloadn (pc' := 405) 0 dL_law_404 rfl rfl ?_
  refine q_iconst (pc' := 406) dL_law_405 rfl ?_
  refine q_iadd (pc' := 407) dL_law_406 rfl ?_
  refine q_tald (i := 3) (pc' := 408) dL_law_407 rfl (by decide) (by omega) (show _ < ((q_n Γ : Nat) : Int) by omega) (by omega) ?_
  refine q_callVQ (pc' := 411) dL_law_408 rfl lL_41 iX8_bid kc0 rfl (c_X8_bid J (hx _) (hx _) (hx _) (hx _) (hx _)) rfl rfl (Nat.le_of_ble_eq_true rfl) (Nat.le_of_ble_eq_true rfl) (Nat.le_of_ble_eq_true rfl) (fun v9 w9 h9 => ?_)
  obtain ⟨rfl, S1, rfl, J1, O1⟩ := h9
  show q_Go Γ (mLn nm) 12 0 0 411 [(3, q_i i), (2, q_r Γ 150), (1, q_r Γ 0), (0, .ref (q_ad Γ 3))] [q_i (s_bidV (S 151) (q_xs Γ (i + 1).toNat) (q_xs Γ (i + 2).toNat) (q_xs Γ (i + 3).toNat) (q_xs Γ (i + 4).toNat) (q_xs Γ (i + 5).toNat))] (KC, S1) Q
  have e51 : S1 151 = S 151 := O1 151 (by decide)
  have e50 : S1 150 = S 150 := O1 150 (by decide)
  have e54 : S1 154 = S 154 := O1 154 (by decide)
  have e53 : S1 153 = S 153 := O1 153 (by decide)
  have ok1 : s_ok (S1 151) := by rw [e51]; exact ok
  have g0 : 0 ≤ S1 150 2 := by rw [e50]; exact h0
  have g6 : S1 150 2 ≤ 6 := by rw [e50]; exact h6
  refine q_aloadn (pc' := 412) 1 dL_law_411 rfl rfl ?_
  refine q_aloadn (pc' := 413) 3 dL_law_412 rfl rfl ?_
  refine q_iloadn (pc' := 414) 0 dL_law_413 rfl rfl ?_
  refine q_iconst (pc' := 415) dL_law_414 rfl ?_
  refine q_iadd (pc' := 416) dL_law_415 rfl ?_
  refine q_tald (i := 3) (pc' := 417) dL_law_416 rfl (by decide) (by omega) (show _ < ((q_n Γ : Nat) : Int) by omega) (by omega) ?_
  refine q_aloadn (pc' := 418) 3 dL_law_417 rfl rfl ?_
  refine q_iloadn (pc' := 419) 0 dL_law_418 rfl rfl ?_
  refine q_iconst (pc' := 420) dL_law_419 rfl ?_
  refine q_iadd (pc' := 421) dL_law_420 rfl ?_
  refine q_tald (i := 3) (pc' := 422) dL_law_421 rfl (by decide) (by omega) (show _ < ((q_n Γ : Nat) : Int) by omega) (by omega) ?_
  refine q_aloadn (pc' := 423) 3 dL_law_422 rfl rfl ?_
  refine q_iloadn (pc' := 424) 0 dL_law_423 rfl rfl ?_
  refine q_iconst (pc' := 425) dL_law_424 rfl ?_
  refine q_iadd (pc' := 426) dL_law_425 rfl ?_
  refine q_tald (i := 3) (pc' := 427) dL_law_426 rfl (by decide) (by omega) (show _ < ((q_n Γ : Nat) : Int) by omega) (by omega) ?_
  refine q_aloadn (pc' := 428) 3 dL_law_427 rfl rfl ?_
  refine q_iloadn (pc' := 429) 0 dL_law_428 rfl rfl ?_
  refine q_iconst (pc' := 430) dL_law_429 rfl ?_
  refine q_iadd (pc' := 431) dL_law_430 rfl ?_
  refine q_tald (i := 3) (pc' := 432) dL_law_431 rfl (by decide) (by omega) (show _ < ((q_n Γ : Nat) : Int) by omega) (by omega) ?_
  refine q_aloadn (pc' := 433) 3 dL_law_432 rfl rfl ?_
  refine q_iloadn (pc' := 434) 0 dL_law_433 rfl rfl ?_
  refine q_iconst (pc' := 435) dL_law_434 rfl ?_
  refine q_iadd (pc' := 436) dL_law_435 rfl ?_
  refine q_tald (i := 3) (pc' := 437) dL_law_436 rfl (by decide) (by omega) (show _ < ((q_n Γ : Nat) : Int) by omega) (by omega) ?_
  refine q_callVI (pc' := 440) dL_law_437 rfl lL_45 iX9_bid kc150 rfl (c_X9_bid (S := S1) ok1 g0 g6 (hx _) (hx _) (hx _) (hx _) (hx _)) rfl rfl (Nat.le_of_ble_eq_true rfl) (Nat.le_of_ble_eq_true rfl) (Nat.le_of_ble_eq_true rfl) ?_
  show q_Go Γ (mLn nm) 12 0 0 440 [(3, q_i i), (2, q_r Γ 150), (1, q_r Γ 0), (0, .ref (q_ad Γ 3))] [q_i (s_bidV (S1 151) (q_xs Γ (i + 1).toNat) (q_xs Γ (i + 2).toNat) (q_xs Γ (i + 3).toNat) (q_xs Γ (i + 4).toNat) (q_xs Γ (i + 5).toNat)), q_i (s_bidV (S 151) (q_xs Γ (i + 1).toNat) (q_xs Γ (i + 2).toNat) (q_xs Γ (i + 3).toNat) (q_xs Γ (i + 4).toNat) (q_xs Γ (i + 5).toNat))] (KC, s_bidS S1 (q_xs Γ (i + 1).toNat) (q_xs Γ (i + 2).toNat) (q_xs Γ (i + 3).toNat) (q_xs Γ (i + 4).toNat) (q_xs Γ (i + 5).toNat)) Q
  have eV : s_bidV (S1 151) (q_xs Γ (i + 1).toNat) (q_xs Γ (i + 2).toNat) (q_xs Γ (i + 3).toNat) (q_xs Γ (i + 4).toNat) (q_xs Γ (i + 5).toNat) = s_bidV (S 151) (q_xs Γ (i + 1).toNat) (q_xs Γ (i + 2).toNat) (q_xs Γ (i + 3).toNat) (q_xs Γ (i + 4).toNat) (q_xs Γ (i + 5).toNat) := by rw [e51]
  rw [eV]
  refine q_icmp_s (tgt := 956) dL_law_440 rfl ?_
  refine q_iinc (pc' := 959) 0 (L' := [(3, q_i (i + 6)), (2, q_r Γ 150), (1, q_r Γ 0), (0, .ref (q_ad Γ 3))]) dL_law_956 rfl rfl (show _ < 4 by decide) rfl ?_
  refine q_goto (pc' := 18) dL_law_959 rfl ?_
  refine back _ ?_
  rw [s_mg_off O1, s_m_bid ok]
  exact s_Jc_mg J1
set_option maxHeartbeats 2000000 in
theorem c_law_445 {nm : String} {Γ : q_G} {S : q_S} {i : Int} (J : s_Jc S S) (hx : ∀ j, q_rg (q_xs Γ j)) (i0 : 0 ≤ i) (i1 : i + 6 ≤ (q_n Γ : Int)) (iN : (q_n Γ : Int) ≤ 3072) {Q : Option Value → q_W → Prop} (back : ∀ S2, s_Jc S2 S2 → q_Go Γ (mLn nm) 12 0 0 18 [(3, q_i (i + 6)), (2, q_r Γ 150), (1, q_r Γ 0), (0, .ref (q_ad Γ 3))] [] (KC, S2) Q) : q_Go Γ (mLn nm) 12 0 0 445 [(3, q_i i), (2, q_r Γ 150), (1, q_r Γ 0), (0, .ref (q_ad Γ 3))] [] (KC, S) Q := by
  have ok : s_ok (S 151) := J.F.2.1
  have h0 : 0 ≤ S 150 2 := J.nb.1
  have h6 : S 150 2 ≤ 6 := J.nb.2
  have hi : q_rg i := ⟨by omega, by omega⟩
  refine q_aloadn (pc' := 446) 2 dL_law_445 rfl rfl ?_
  refine q_aloadn (pc' := 447) 3 dL_law_446 rfl rfl ?_
  refine q_iloadn (pc' := 448) 0 dL_law_447 rfl rfl ?_
  refine q_iconst (pc' := 449) dL_law_448 rfl ?_
  refine q_iadd (pc' := 450) dL_law_449 rfl ?_
  refine q_tald (i := 3) (pc' := 451) dL_law_450 rfl (by decide) (by omega) (show _ < ((q_n Γ : Nat) : Int) by omega) (by omega) ?_
  refine q_aloadn (pc' := 452) 3 dL_law_451 rfl rfl ?_
  refine q_iloadn (pc' := 453) 0 dL_law_452 rfl rfl ?_
  refine q_iconst (pc' := 454) dL_law_453 rfl ?_
  refine q_iadd (pc' := 455) dL_law_454 rfl ?_
  refine q_tald (i := 3) (pc' := 456) dL_law_455 rfl (by decide) (by omega) (show _ < ((q_n Γ : Nat) : Int) by omega) (by omega) ?_
  refine q_callVQ (pc' := 459) dL_law_456 rfl lL_46 iX8_takeBack kc0 rfl (c_X8_takeBack J (hx _) (hx _)) rfl rfl (Nat.le_of_ble_eq_true rfl) (Nat.le_of_ble_eq_true rfl) (Nat.le_of_ble_eq_true rfl) (fun v9 w9 h9 => ?_)
  obtain ⟨rfl, S1, rfl, J1, O1⟩ := h9
  show q_Go Γ (mLn nm) 12 0 0 459 [(3, q_i i), (2, q_r Γ 150), (1, q_r Γ 0), (0, .ref (q_ad Γ 3))] [q_i (s_backV (S 151) (q_xs Γ (i + 1).toNat) (q_xs Γ (i + 2).toNat))] (KC, S1) Q
  have e51 : S1 151 = S 151 := O1 151 (by decide)
  have e50 : S1 150 = S 150 := O1 150 (by decide)
  have e54 : S1 154 = S 154 := O1 154 (by decide)
  have e53 : S1 153 = S 153 := O1 153 (by decide)
  have ok1 : s_ok (S1 151) := by rw [e51]; exact ok
  have g0 : 0 ≤ S1 150 2 := by rw [e50]; exact h0
  have g6 : S1 150 2 ≤ 6 := by rw [e50]; exact h6
  refine q_aloadn (pc' := 460) 1 dL_law_459 rfl rfl ?_
  refine q_aloadn (pc' := 461) 3 dL_law_460 rfl rfl ?_
  refine q_iloadn (pc' := 462) 0 dL_law_461 rfl rfl ?_
  refine q_iconst (pc' := 463) dL_law_462 rfl ?_
  refine q_iadd (pc' := 464) dL_law_463 rfl ?_
  refine q_tald (i := 3) (pc' := 465) dL_law_464 rfl (by decide) (by omega) (show _ < ((q_n Γ : Nat) : Int) by omega) (by omega) ?_
  refine q_aloadn (pc' := 466) 3 dL_law_465 rfl rfl ?_
  refine q_iloadn (pc' := 467) 0 dL_law_466 rfl rfl ?_
  refine q_iconst (pc' := 468) dL_law_467 rfl ?_
  refine q_iadd (pc' := 469) dL_law_468 rfl ?_
  refine q_tald (i := 3) (pc' := 470) dL_law_469 rfl (by decide) (by omega) (show _ < ((q_n Γ : Nat) : Int) by omega) (by omega) ?_
  refine q_callVI (pc' := 473) dL_law_470 rfl lL_49 iX9_takeBack kc150 rfl (c_X9_takeBack (S := S1) ok1 g0 g6 (hx _) (hx _)) rfl rfl (Nat.le_of_ble_eq_true rfl) (Nat.le_of_ble_eq_true rfl) (Nat.le_of_ble_eq_true rfl) ?_
  show q_Go Γ (mLn nm) 12 0 0 473 [(3, q_i i), (2, q_r Γ 150), (1, q_r Γ 0), (0, .ref (q_ad Γ 3))] [q_i (s_backV (S1 151) (q_xs Γ (i + 1).toNat) (q_xs Γ (i + 2).toNat)), q_i (s_backV (S 151) (q_xs Γ (i + 1).toNat) (q_xs Γ (i + 2).toNat))] (KC, s_backS S1 (q_xs Γ (i + 1).toNat) (q_xs Γ (i + 2).toNat)) Q
  have eV : s_backV (S1 151) (q_xs Γ (i + 1).toNat) (q_xs Γ (i + 2).toNat) = s_backV (S 151) (q_xs Γ (i + 1).toNat) (q_xs Γ (i + 2).toNat) := by rw [e51]
  rw [eV]
  refine q_icmp_s (tgt := 956) dL_law_473 rfl ?_
  refine q_iinc (pc' := 959) 0 (L' := [(3, q_i (i + 6)), (2, q_r Γ 150), (1, q_r Γ 0), (0, .ref (q_ad Γ 3))]) dL_law_956 rfl rfl (show _ < 4 by decide) rfl ?_
  refine q_goto (pc' := 18) dL_law_959 rfl ?_
  refine back _ ?_
  rw [s_mg_off O1, s_m_back]
  exact s_Jc_mg J1
set_option maxHeartbeats 2000000 in
theorem c_law_478 {nm : String} {Γ : q_G} {S : q_S} {i : Int} (J : s_Jc S S) (hx : ∀ j, q_rg (q_xs Γ j)) (i0 : 0 ≤ i) (i1 : i + 6 ≤ (q_n Γ : Int)) (iN : (q_n Γ : Int) ≤ 3072) {Q : Option Value → q_W → Prop} (back : ∀ S2, s_Jc S2 S2 → q_Go Γ (mLn nm) 12 0 0 18 [(3, q_i (i + 6)), (2, q_r Γ 150), (1, q_r Γ 0), (0, .ref (q_ad Γ 3))] [] (KC, S2) Q) : q_Go Γ (mLn nm) 12 0 0 478 [(3, q_i i), (2, q_r Γ 150), (1, q_r Γ 0), (0, .ref (q_ad Γ 3))] [] (KC, S) Q := by
  have ok : s_ok (S 151) := J.F.2.1
  have h0 : 0 ≤ S 150 2 := J.nb.1
  have h6 : S 150 2 ≤ 6 := J.nb.2
  have hi : q_rg i := ⟨by omega, by omega⟩
  refine q_aloadn (pc' := 479) 2 dL_law_478 rfl rfl ?_
  refine q_callVQ (pc' := 482) dL_law_479 rfl lL_50 iX8_match kc0 rfl (c_X8_match J) rfl rfl (Nat.le_of_ble_eq_true rfl) (Nat.le_of_ble_eq_true rfl) (Nat.le_of_ble_eq_true rfl) (fun v9 w9 h9 => ?_)
  obtain ⟨rfl, S1, rfl, J1, O1⟩ := h9
  show q_Go Γ (mLn nm) 12 0 0 482 [(3, q_i i), (2, q_r Γ 150), (1, q_r Γ 0), (0, .ref (q_ad Γ 3))] [q_i (s_matV (S 151))] (KC, S1) Q
  have e51 : S1 151 = S 151 := O1 151 (by decide)
  have e50 : S1 150 = S 150 := O1 150 (by decide)
  have e54 : S1 154 = S 154 := O1 154 (by decide)
  have e53 : S1 153 = S 153 := O1 153 (by decide)
  have ok1 : s_ok (S1 151) := by rw [e51]; exact ok
  have g0 : 0 ≤ S1 150 2 := by rw [e50]; exact h0
  have g6 : S1 150 2 ≤ 6 := by rw [e50]; exact h6
  refine q_aloadn (pc' := 483) 1 dL_law_482 rfl rfl ?_
  refine q_callVI (pc' := 486) dL_law_483 rfl lL_54 iX9_match kc150 rfl (c_X9_match (S := S1) ok1 g0 g6) rfl rfl (Nat.le_of_ble_eq_true rfl) (Nat.le_of_ble_eq_true rfl) (Nat.le_of_ble_eq_true rfl) ?_
  show q_Go Γ (mLn nm) 12 0 0 486 [(3, q_i i), (2, q_r Γ 150), (1, q_r Γ 0), (0, .ref (q_ad Γ 3))] [q_i (s_matV (S1 151)), q_i (s_matV (S 151))] (KC, q_w1 (s_rec S1) (s_matP (S1 151))) Q
  have eV : s_matV (S1 151) = s_matV (S 151) := by rw [e51]
  rw [eV]
  refine q_icmp_s (tgt := 956) dL_law_486 rfl ?_
  refine q_iinc (pc' := 959) 0 (L' := [(3, q_i (i + 6)), (2, q_r Γ 150), (1, q_r Γ 0), (0, .ref (q_ad Γ 3))]) dL_law_956 rfl rfl (show _ < 4 by decide) rfl ?_
  refine q_goto (pc' := 18) dL_law_959 rfl ?_
  refine back _ ?_
  rw [s_mg_off O1, s_m_mat]
  exact s_Jc_mg J1
set_option maxHeartbeats 2000000 in
theorem c_law_491 {nm : String} {Γ : q_G} {S : q_S} {i : Int} (J : s_Jc S S) (hx : ∀ j, q_rg (q_xs Γ j)) (i0 : 0 ≤ i) (i1 : i + 6 ≤ (q_n Γ : Int)) (iN : (q_n Γ : Int) ≤ 3072) {Q : Option Value → q_W → Prop} (back : ∀ S2, s_Jc S2 S2 → q_Go Γ (mLn nm) 12 0 0 18 [(3, q_i (i + 6)), (2, q_r Γ 150), (1, q_r Γ 0), (0, .ref (q_ad Γ 3))] [] (KC, S2) Q) : q_Go Γ (mLn nm) 12 0 0 491 [(3, q_i i), (2, q_r Γ 150), (1, q_r Γ 0), (0, .ref (q_ad Γ 3))] [] (KC, S) Q := by
  have ok : s_ok (S 151) := J.F.2.1
  have h0 : 0 ≤ S 150 2 := J.nb.1
  have h6 : S 150 2 ≤ 6 := J.nb.2
  have hi : q_rg i := ⟨by omega, by omega⟩
  refine q_aloadn (pc' := 492) 2 dL_law_491 rfl rfl ?_
  refine q_aloadn (pc' := 493) 3 dL_law_492 rfl rfl ?_
  refine q_iloadn (pc' := 494) 0 dL_law_493 rfl rfl ?_
  refine q_iconst (pc' := 495) dL_law_494 rfl ?_
  refine q_iadd (pc' := 496) dL_law_495 rfl ?_
  refine q_tald (i := 3) (pc' := 497) dL_law_496 rfl (by decide) (by omega) (show _ < ((q_n Γ : Nat) : Int) by omega) (by omega) ?_
  refine q_aloadn (pc' := 498) 3 dL_law_497 rfl rfl ?_
  refine q_iloadn (pc' := 499) 0 dL_law_498 rfl rfl ?_
  refine q_iconst (pc' := 500) dL_law_499 rfl ?_
  refine q_iadd (pc' := 501) dL_law_500 rfl ?_
  refine q_tald (i := 3) (pc' := 502) dL_law_501 rfl (by decide) (by omega) (show _ < ((q_n Γ : Nat) : Int) by omega) (by omega) ?_
  refine q_callVQ (pc' := 505) dL_law_502 rfl lL_55 iX8_ofRow kc0 rfl (c_X8_ofRow J (hx _) (hx _)) rfl rfl (Nat.le_of_ble_eq_true rfl) (Nat.le_of_ble_eq_true rfl) (Nat.le_of_ble_eq_true rfl) (fun v9 w9 h9 => ?_)
  obtain ⟨rfl, S1, rfl, J1, O1⟩ := h9
  show q_Go Γ (mLn nm) 12 0 0 505 [(3, q_i i), (2, q_r Γ 150), (1, q_r Γ 0), (0, .ref (q_ad Γ 3))] [q_i (s_ofRow (S 151) (q_xs Γ (i + 1).toNat) (q_xs Γ (i + 2).toNat))] (KC, S1) Q
  have e51 : S1 151 = S 151 := O1 151 (by decide)
  have e50 : S1 150 = S 150 := O1 150 (by decide)
  have e54 : S1 154 = S 154 := O1 154 (by decide)
  have e53 : S1 153 = S 153 := O1 153 (by decide)
  have ok1 : s_ok (S1 151) := by rw [e51]; exact ok
  have g0 : 0 ≤ S1 150 2 := by rw [e50]; exact h0
  have g6 : S1 150 2 ≤ 6 := by rw [e50]; exact h6
  refine q_aloadn (pc' := 506) 1 dL_law_505 rfl rfl ?_
  refine q_aloadn (pc' := 507) 3 dL_law_506 rfl rfl ?_
  refine q_iloadn (pc' := 508) 0 dL_law_507 rfl rfl ?_
  refine q_iconst (pc' := 509) dL_law_508 rfl ?_
  refine q_iadd (pc' := 510) dL_law_509 rfl ?_
  refine q_tald (i := 3) (pc' := 511) dL_law_510 rfl (by decide) (by omega) (show _ < ((q_n Γ : Nat) : Int) by omega) (by omega) ?_
  refine q_aloadn (pc' := 512) 3 dL_law_511 rfl rfl ?_
  refine q_iloadn (pc' := 513) 0 dL_law_512 rfl rfl ?_
  refine q_iconst (pc' := 514) dL_law_513 rfl ?_
  refine q_iadd (pc' := 515) dL_law_514 rfl ?_
  refine q_tald (i := 3) (pc' := 516) dL_law_515 rfl (by decide) (by omega) (show _ < ((q_n Γ : Nat) : Int) by omega) (by omega) ?_
  refine q_callVI (pc' := 519) dL_law_516 rfl lL_58 iX9_ofRow kc150 rfl (c_X9_ofRow (S := S1) ok1 (hx _) (hx _)) rfl rfl (Nat.le_of_ble_eq_true rfl) (Nat.le_of_ble_eq_true rfl) (Nat.le_of_ble_eq_true rfl) ?_
  show q_Go Γ (mLn nm) 12 0 0 519 [(3, q_i i), (2, q_r Γ 150), (1, q_r Γ 0), (0, .ref (q_ad Γ 3))] [q_i (s_ofRow (S1 151) (q_xs Γ (i + 1).toNat) (q_xs Γ (i + 2).toNat)), q_i (s_ofRow (S 151) (q_xs Γ (i + 1).toNat) (q_xs Γ (i + 2).toNat))] (KC, S1) Q
  have eV : s_ofRow (S1 151) (q_xs Γ (i + 1).toNat) (q_xs Γ (i + 2).toNat) = s_ofRow (S 151) (q_xs Γ (i + 1).toNat) (q_xs Γ (i + 2).toNat) := by rw [e51]
  rw [eV]
  refine q_icmp_s (tgt := 956) dL_law_519 rfl ?_
  refine q_iinc (pc' := 959) 0 (L' := [(3, q_i (i + 6)), (2, q_r Γ 150), (1, q_r Γ 0), (0, .ref (q_ad Γ 3))]) dL_law_956 rfl rfl (show _ < 4 by decide) rfl ?_
  refine q_goto (pc' := 18) dL_law_959 rfl ?_
  exact back _ (s_Jc_1 J1 O1)
set_option maxHeartbeats 2000000 in
theorem c_law_524 {nm : String} {Γ : q_G} {S : q_S} {i : Int} (J : s_Jc S S) (hx : ∀ j, q_rg (q_xs Γ j)) (i0 : 0 ≤ i) (i1 : i + 6 ≤ (q_n Γ : Int)) (iN : (q_n Γ : Int) ≤ 3072) {Q : Option Value → q_W → Prop} (back : ∀ S2, s_Jc S2 S2 → q_Go Γ (mLn nm) 12 0 0 18 [(3, q_i (i + 6)), (2, q_r Γ 150), (1, q_r Γ 0), (0, .ref (q_ad Γ 3))] [] (KC, S2) Q) : q_Go Γ (mLn nm) 12 0 0 524 [(3, q_i i), (2, q_r Γ 150), (1, q_r Γ 0), (0, .ref (q_ad Γ 3))] [] (KC, S) Q := by
  have ok : s_ok (S 151) := J.F.2.1
  have h0 : 0 ≤ S 150 2 := J.nb.1
  have h6 : S 150 2 ≤ 6 := J.nb.2
  have hi : q_rg i := ⟨by omega, by omega⟩
  refine q_aloadn (pc' := 525) 2 dL_law_524 rfl rfl ?_
  refine q_aloadn (pc' := 526) 3 dL_law_525 rfl rfl ?_
  refine q_iloadn (pc' := 527) 0 dL_law_526 rfl rfl ?_
  refine q_iconst (pc' := 528) dL_law_527 rfl ?_
  refine q_iadd (pc' := 529) dL_law_528 rfl ?_
  refine q_tald (i := 3) (pc' := 530) dL_law_529 rfl (by decide) (by omega) (show _ < ((q_n Γ : Nat) : Int) by omega) (by omega) ?_
  refine q_aloadn (pc' := 531) 3 dL_law_530 rfl rfl ?_
  refine q_iloadn (pc' := 532) 0 dL_law_531 rfl rfl ?_
  refine q_iconst (pc' := 533) dL_law_532 rfl ?_
  refine q_iadd (pc' := 534) dL_law_533 rfl ?_
  refine q_tald (i := 3) (pc' := 535) dL_law_534 rfl (by decide) (by omega) (show _ < ((q_n Γ : Nat) : Int) by omega) (by omega) ?_
  refine q_aloadn (pc' := 536) 3 dL_law_535 rfl rfl ?_
  refine q_iloadn (pc' := 537) 0 dL_law_536 rfl rfl ?_
  refine q_iconst (pc' := 538) dL_law_537 rfl ?_
  refine q_iadd (pc' := 539) dL_law_538 rfl ?_
  refine q_tald (i := 3) (pc' := 540) dL_law_539 rfl (by decide) (by omega) (show _ < ((q_n Γ : Nat) : Int) by omega) (by omega) ?_
  refine q_callVQ (pc' := 543) dL_law_540 rfl lL_59 iX8_inHour kc0 rfl (c_X8_inHour J (hx _) (hx _) (hx _)) rfl rfl (Nat.le_of_ble_eq_true rfl) (Nat.le_of_ble_eq_true rfl) (Nat.le_of_ble_eq_true rfl) (fun v9 w9 h9 => ?_)
  obtain ⟨rfl, S1, rfl, J1, O1⟩ := h9
  show q_Go Γ (mLn nm) 12 0 0 543 [(3, q_i i), (2, q_r Γ 150), (1, q_r Γ 0), (0, .ref (q_ad Γ 3))] [q_i (s_inHour (S 151) (q_xs Γ (i + 1).toNat) (q_xs Γ (i + 2).toNat) (q_xs Γ (i + 3).toNat))] (KC, S1) Q
  have e51 : S1 151 = S 151 := O1 151 (by decide)
  have e50 : S1 150 = S 150 := O1 150 (by decide)
  have e54 : S1 154 = S 154 := O1 154 (by decide)
  have e53 : S1 153 = S 153 := O1 153 (by decide)
  have ok1 : s_ok (S1 151) := by rw [e51]; exact ok
  have g0 : 0 ≤ S1 150 2 := by rw [e50]; exact h0
  have g6 : S1 150 2 ≤ 6 := by rw [e50]; exact h6
  refine q_aloadn (pc' := 544) 1 dL_law_543 rfl rfl ?_
  refine q_aloadn (pc' := 545) 3 dL_law_544 rfl rfl ?_
  refine q_iloadn (pc' := 546) 0 dL_law_545 rfl rfl ?_
  refine q_iconst (pc' := 547) dL_law_546 rfl ?_
  refine q_iadd (pc' := 548) dL_law_547 rfl ?_
  refine q_tald (i := 3) (pc' := 549) dL_law_548 rfl (by decide) (by omega) (show _ < ((q_n Γ : Nat) : Int) by omega) (by omega) ?_
  refine q_aloadn (pc' := 550) 3 dL_law_549 rfl rfl ?_
  refine q_iloadn (pc' := 551) 0 dL_law_550 rfl rfl ?_
  refine q_iconst (pc' := 552) dL_law_551 rfl ?_
  refine q_iadd (pc' := 553) dL_law_552 rfl ?_
  refine q_tald (i := 3) (pc' := 554) dL_law_553 rfl (by decide) (by omega) (show _ < ((q_n Γ : Nat) : Int) by omega) (by omega) ?_
  refine q_aloadn (pc' := 555) 3 dL_law_554 rfl rfl ?_
  refine q_iloadn (pc' := 556) 0 dL_law_555 rfl rfl ?_
  refine q_iconst (pc' := 557) dL_law_556 rfl ?_
  refine q_iadd (pc' := 558) dL_law_557 rfl ?_
  refine q_tald (i := 3) (pc' := 559) dL_law_558 rfl (by decide) (by omega) (show _ < ((q_n Γ : Nat) : Int) by omega) (by omega) ?_
  refine q_callVI (pc' := 562) dL_law_559 rfl lL_62 iX9_inHour kc150 rfl (c_X9_inHour (S := S1) ok1 (hx _) (hx _) (hx _)) rfl rfl (Nat.le_of_ble_eq_true rfl) (Nat.le_of_ble_eq_true rfl) (Nat.le_of_ble_eq_true rfl) ?_
  show q_Go Γ (mLn nm) 12 0 0 562 [(3, q_i i), (2, q_r Γ 150), (1, q_r Γ 0), (0, .ref (q_ad Γ 3))] [q_i (s_inHour (S1 151) (q_xs Γ (i + 1).toNat) (q_xs Γ (i + 2).toNat) (q_xs Γ (i + 3).toNat)), q_i (s_inHour (S 151) (q_xs Γ (i + 1).toNat) (q_xs Γ (i + 2).toNat) (q_xs Γ (i + 3).toNat))] (KC, S1) Q
  have eV : s_inHour (S1 151) (q_xs Γ (i + 1).toNat) (q_xs Γ (i + 2).toNat) (q_xs Γ (i + 3).toNat) = s_inHour (S 151) (q_xs Γ (i + 1).toNat) (q_xs Γ (i + 2).toNat) (q_xs Γ (i + 3).toNat) := by rw [e51]
  rw [eV]
  refine q_icmp_s (tgt := 956) dL_law_562 rfl ?_
  refine q_iinc (pc' := 959) 0 (L' := [(3, q_i (i + 6)), (2, q_r Γ 150), (1, q_r Γ 0), (0, .ref (q_ad Γ 3))]) dL_law_956 rfl rfl (show _ < 4 by decide) rfl ?_
  refine q_goto (pc' := 18) dL_law_959 rfl ?_
  exact back _ (s_Jc_1 J1 O1)
set_option maxHeartbeats 2000000 in
theorem c_law_567 {nm : String} {Γ : q_G} {S : q_S} {i : Int} (J : s_Jc S S) (hx : ∀ j, q_rg (q_xs Γ j)) (i0 : 0 ≤ i) (i1 : i + 6 ≤ (q_n Γ : Int)) (iN : (q_n Γ : Int) ≤ 3072) {Q : Option Value → q_W → Prop} (back : ∀ S2, s_Jc S2 S2 → q_Go Γ (mLn nm) 12 0 0 18 [(3, q_i (i + 6)), (2, q_r Γ 150), (1, q_r Γ 0), (0, .ref (q_ad Γ 3))] [] (KC, S2) Q) : q_Go Γ (mLn nm) 12 0 0 567 [(3, q_i i), (2, q_r Γ 150), (1, q_r Γ 0), (0, .ref (q_ad Γ 3))] [] (KC, S) Q := by
  have ok : s_ok (S 151) := J.F.2.1
  have h0 : 0 ≤ S 150 2 := J.nb.1
  have h6 : S 150 2 ≤ 6 := J.nb.2
  have hi : q_rg i := ⟨by omega, by omega⟩
  refine q_aloadn (pc' := 568) 2 dL_law_567 rfl rfl ?_
  refine q_aloadn (pc' := 569) 3 dL_law_568 rfl rfl ?_
  refine q_iloadn (pc' := 570) 0 dL_law_569 rfl rfl ?_
  refine q_iconst (pc' := 571) dL_law_570 rfl ?_
  refine q_iadd (pc' := 572) dL_law_571 rfl ?_
  refine q_tald (i := 3) (pc' := 573) dL_law_572 rfl (by decide) (by omega) (show _ < ((q_n Γ : Nat) : Int) by omega) (by omega) ?_
  refine q_aloadn (pc' := 574) 3 dL_law_573 rfl rfl ?_
  refine q_iloadn (pc' := 575) 0 dL_law_574 rfl rfl ?_
  refine q_iconst (pc' := 576) dL_law_575 rfl ?_
  refine q_iadd (pc' := 577) dL_law_576 rfl ?_
  refine q_tald (i := 3) (pc' := 578) dL_law_577 rfl (by decide) (by omega) (show _ < ((q_n Γ : Nat) : Int) by omega) (by omega) ?_
  refine q_aloadn (pc' := 579) 3 dL_law_578 rfl rfl ?_
  refine q_iloadn (pc' := 580) 0 dL_law_579 rfl rfl ?_
  refine q_iconst (pc' := 581) dL_law_580 rfl ?_
  refine q_iadd (pc' := 582) dL_law_581 rfl ?_
  refine q_tald (i := 3) (pc' := 583) dL_law_582 rfl (by decide) (by omega) (show _ < ((q_n Γ : Nat) : Int) by omega) (by omega) ?_
  refine q_aloadn (pc' := 584) 3 dL_law_583 rfl rfl ?_
  refine q_iloadn (pc' := 585) 0 dL_law_584 rfl rfl ?_
  refine q_iconst (pc' := 586) dL_law_585 rfl ?_
  refine q_iadd (pc' := 587) dL_law_586 rfl ?_
  refine q_tald (i := 3) (pc' := 588) dL_law_587 rfl (by decide) (by omega) (show _ < ((q_n Γ : Nat) : Int) by omega) (by omega) ?_
  refine q_callVQ (pc' := 591) dL_law_588 rfl lL_63 iX8_over kc0 rfl (c_X8_over J (hx _) (hx _) (hx _) (hx _)) rfl rfl (Nat.le_of_ble_eq_true rfl) (Nat.le_of_ble_eq_true rfl) (Nat.le_of_ble_eq_true rfl) (fun v9 w9 h9 => ?_)
  obtain ⟨rfl, S1, rfl, J1, O1⟩ := h9
  show q_Go Γ (mLn nm) 12 0 0 591 [(3, q_i i), (2, q_r Γ 150), (1, q_r Γ 0), (0, .ref (q_ad Γ 3))] [q_i (s_over (S 151) (q_xs Γ (i + 1).toNat) (q_xs Γ (i + 2).toNat) (q_xs Γ (i + 3).toNat) (q_xs Γ (i + 4).toNat))] (KC, S1) Q
  have e51 : S1 151 = S 151 := O1 151 (by decide)
  have e50 : S1 150 = S 150 := O1 150 (by decide)
  have e54 : S1 154 = S 154 := O1 154 (by decide)
  have e53 : S1 153 = S 153 := O1 153 (by decide)
  have ok1 : s_ok (S1 151) := by rw [e51]; exact ok
  have g0 : 0 ≤ S1 150 2 := by rw [e50]; exact h0
  have g6 : S1 150 2 ≤ 6 := by rw [e50]; exact h6
  refine q_aloadn (pc' := 592) 1 dL_law_591 rfl rfl ?_
  refine q_aloadn (pc' := 593) 3 dL_law_592 rfl rfl ?_
  refine q_iloadn (pc' := 594) 0 dL_law_593 rfl rfl ?_
  refine q_iconst (pc' := 595) dL_law_594 rfl ?_
  refine q_iadd (pc' := 596) dL_law_595 rfl ?_
  refine q_tald (i := 3) (pc' := 597) dL_law_596 rfl (by decide) (by omega) (show _ < ((q_n Γ : Nat) : Int) by omega) (by omega) ?_
  refine q_aloadn (pc' := 598) 3 dL_law_597 rfl rfl ?_
  refine q_iloadn (pc' := 599) 0 dL_law_598 rfl rfl ?_
  refine q_iconst (pc' := 600) dL_law_599 rfl ?_
  refine q_iadd (pc' := 601) dL_law_600 rfl ?_
  refine q_tald (i := 3) (pc' := 602) dL_law_601 rfl (by decide) (by omega) (show _ < ((q_n Γ : Nat) : Int) by omega) (by omega) ?_
  refine q_aloadn (pc' := 603) 3 dL_law_602 rfl rfl ?_
  refine q_iloadn (pc' := 604) 0 dL_law_603 rfl rfl ?_
  refine q_iconst (pc' := 605) dL_law_604 rfl ?_
  refine q_iadd (pc' := 606) dL_law_605 rfl ?_
  refine q_tald (i := 3) (pc' := 607) dL_law_606 rfl (by decide) (by omega) (show _ < ((q_n Γ : Nat) : Int) by omega) (by omega) ?_
  refine q_aloadn (pc' := 608) 3 dL_law_607 rfl rfl ?_
  refine q_iloadn (pc' := 609) 0 dL_law_608 rfl rfl ?_
  refine q_iconst (pc' := 610) dL_law_609 rfl ?_
  refine q_iadd (pc' := 611) dL_law_610 rfl ?_
  refine q_tald (i := 3) (pc' := 612) dL_law_611 rfl (by decide) (by omega) (show _ < ((q_n Γ : Nat) : Int) by omega) (by omega) ?_
  refine q_callVI (pc' := 615) dL_law_612 rfl lL_66 iX9_over kc150 rfl (c_X9_over (S := S1) ok1 (hx _) (hx _) (hx _) (hx _)) rfl rfl (Nat.le_of_ble_eq_true rfl) (Nat.le_of_ble_eq_true rfl) (Nat.le_of_ble_eq_true rfl) ?_
  show q_Go Γ (mLn nm) 12 0 0 615 [(3, q_i i), (2, q_r Γ 150), (1, q_r Γ 0), (0, .ref (q_ad Γ 3))] [q_i (s_over (S1 151) (q_xs Γ (i + 1).toNat) (q_xs Γ (i + 2).toNat) (q_xs Γ (i + 3).toNat) (q_xs Γ (i + 4).toNat)), q_i (s_over (S 151) (q_xs Γ (i + 1).toNat) (q_xs Γ (i + 2).toNat) (q_xs Γ (i + 3).toNat) (q_xs Γ (i + 4).toNat))] (KC, S1) Q
  have eV : s_over (S1 151) (q_xs Γ (i + 1).toNat) (q_xs Γ (i + 2).toNat) (q_xs Γ (i + 3).toNat) (q_xs Γ (i + 4).toNat) = s_over (S 151) (q_xs Γ (i + 1).toNat) (q_xs Γ (i + 2).toNat) (q_xs Γ (i + 3).toNat) (q_xs Γ (i + 4).toNat) := by rw [e51]
  rw [eV]
  refine q_icmp_s (tgt := 956) dL_law_615 rfl ?_
  refine q_iinc (pc' := 959) 0 (L' := [(3, q_i (i + 6)), (2, q_r Γ 150), (1, q_r Γ 0), (0, .ref (q_ad Γ 3))]) dL_law_956 rfl rfl (show _ < 4 by decide) rfl ?_
  refine q_goto (pc' := 18) dL_law_959 rfl ?_
  exact back _ (s_Jc_1 J1 O1)
